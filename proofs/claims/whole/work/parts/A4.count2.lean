theorem digit_y {S : CSt} (h : M_isDigit (K4_at 2 (S.1 8 3) S)) : K3_readDigit S = (0, K4_at 2 (S.1 8 3) S - 48, ci S 8 3 (S.1 8 3 + 1)) := by
  obtain ⟨h1, h2⟩ := h
  unfold K3_readDigit
  rw [if_neg (by omega), if_pos (by omega)]
theorem digit_n {S : CSt} (h : ¬ M_isDigit (K4_at 2 (S.1 8 3) S)) : K3_readDigit S = (1, 0, S) := by
  have h' : ¬ (48 ≤ K4_at 2 (S.1 8 3) S ∧ K4_at 2 (S.1 8 3) S ≤ 57) := h
  unfold K3_readDigit
  by_cases c : K4_at 2 (S.1 8 3) S < 48
  · rw [if_pos c]
  · rw [if_neg c, if_neg (by omega)]
theorem K4_8 {k v i : Int} {j : Nat} {S : CSt} : K4_at 2 i (ci S 8 j v) = K4_at 2 i S := rfl
/-- what stands in braces, in the class -/
theorem braces_all (S : CSt) :
    (¬ M_isDigit (K4_at 2 (S.1 8 3) S) → (K3_readBraces S).1 = 1) ∧
    (M_isDigit (K4_at 2 (S.1 8 3) S) → ¬ K4_at 2 (S.1 8 3 + 1) S = 44 → ¬ K4_at 2 (S.1 8 3 + 1) S = 125 → (K3_readBraces S).1 = 1) ∧
    (M_isDigit (K4_at 2 (S.1 8 3) S) → K4_at 2 (S.1 8 3 + 1) S = 125 → ∃ S', K3_readBraces S = (0, 0, S') ∧ upC S S' (S.1 8 3 + 2) (K4_at 2 (S.1 8 3) S - 48) (K4_at 2 (S.1 8 3) S - 48) (S.1 8 7)) ∧
    (M_isDigit (K4_at 2 (S.1 8 3) S) → K4_at 2 (S.1 8 3 + 1) S = 44 → K4_at 2 (S.1 8 3 + 2) S = 125 → ∃ S', K3_readBraces S = (0, 0, S') ∧ upC S S' (S.1 8 3 + 3) (K4_at 2 (S.1 8 3) S - 48) 1000000 (S.1 8 7)) ∧
    (M_isDigit (K4_at 2 (S.1 8 3) S) → K4_at 2 (S.1 8 3 + 1) S = 44 → ¬ K4_at 2 (S.1 8 3 + 2) S = 125 → ¬ M_isDigit (K4_at 2 (S.1 8 3 + 2) S) → (K3_readBraces S).1 = 1) ∧
    (M_isDigit (K4_at 2 (S.1 8 3) S) → K4_at 2 (S.1 8 3 + 1) S = 44 → M_isDigit (K4_at 2 (S.1 8 3 + 2) S) → ¬ (K4_at 2 (S.1 8 3 + 3) S = 125 ∧ K4_at 2 (S.1 8 3) S ≤ K4_at 2 (S.1 8 3 + 2) S) → (K3_readBraces S).1 = 1) ∧
    (M_isDigit (K4_at 2 (S.1 8 3) S) → K4_at 2 (S.1 8 3 + 1) S = 44 → M_isDigit (K4_at 2 (S.1 8 3 + 2) S) → K4_at 2 (S.1 8 3 + 3) S = 125 → K4_at 2 (S.1 8 3) S ≤ K4_at 2 (S.1 8 3 + 2) S → ∃ S', K3_readBraces S = (0, 0, S') ∧ upC S S' (S.1 8 3 + 4) (K4_at 2 (S.1 8 3) S - 48) (K4_at 2 (S.1 8 3 + 2) S - 48) (S.1 8 7)) := by
  have a1 : S.1 8 3 + 1 + 1 = S.1 8 3 + 2 := by omega
  have a2 : S.1 8 3 + 2 + 1 = S.1 8 3 + 3 := by omega
  have a3 : S.1 8 3 + 3 + 1 = S.1 8 3 + 4 := by omega
  generalize hl : K4_at 2 (S.1 8 3) S - 48 = l
  -- behind the first digit
  have st1 : M_isDigit (K4_at 2 (S.1 8 3) S) → K3_readBraces S = gLt (K3_take 44 (ci (ci (ci S 8 3 (S.1 8 3 + 1)) 8 5 l) 8 6 l)) (fun v_9 S_10 => (if v_9 = 0 then (gLt (K3_take 125 S_10) (fun v_16 S_17 => (if v_16 = 0 then (1, 0, S_17) else (if (S_17.1 8 5) ≤ (S_17.1 8 6) then (0, 0, S_17) else (1, 0, S_17))))) else (if ((K4_at 2 (S_10.1 8 3) S_10)) = 125 then (gLt (K3_take 125 (ci S_10 8 6 1000000)) (fun v_42 S_43 => (if v_42 = 0 then (1, 0, S_43) else (if (S_43.1 8 5) ≤ (S_43.1 8 6) then (0, 0, S_43) else (1, 0, S_43))))) else (gBd (K3_readDigit S_10) (fun v_28 S_29 => (gLt (K3_take 125 (ci S_29 8 6 v_28)) (fun v_34 S_35 => (if v_34 = 0 then (1, 0, S_35) else (if (S_35.1 8 5) ≤ (S_35.1 8 6) then (0, 0, S_35) else (1, 0, S_35)))))))))) := fun hd => by
    unfold K3_readBraces
    rw [digit_y hd, hl]
    exact if_pos rfl
  have noc : M_isDigit (K4_at 2 (S.1 8 3) S) → ¬ K4_at 2 (S.1 8 3 + 1) S = 44 → K3_readBraces S = gLt (K3_take 125 (ci (ci (ci S 8 3 (S.1 8 3 + 1)) 8 5 l) 8 6 l)) (fun v_16 S_17 => (if v_16 = 0 then (1, 0, S_17) else (if (S_17.1 8 5) ≤ (S_17.1 8 6) then (0, 0, S_17) else (1, 0, S_17)))) := fun hd hc => by
    rw [st1 hd, take_n (S := ci (ci (ci S 8 3 (S.1 8 3 + 1)) 8 5 l) 8 6 l) hc]
    exact if_pos rfl
  have yec : M_isDigit (K4_at 2 (S.1 8 3) S) → K4_at 2 (S.1 8 3 + 1) S = 44 → K3_readBraces S = (if K4_at 2 (S.1 8 3 + 2) S = 125 then (gLt (K3_take 125 (ci (ci (ci (ci (ci S 8 3 (S.1 8 3 + 1)) 8 5 l) 8 6 l) 8 3 (S.1 8 3 + 2)) 8 6 1000000)) (fun v_42 S_43 => (if v_42 = 0 then (1, 0, S_43) else (if (S_43.1 8 5) ≤ (S_43.1 8 6) then (0, 0, S_43) else (1, 0, S_43))))) else (gBd (K3_readDigit (ci (ci (ci (ci S 8 3 (S.1 8 3 + 1)) 8 5 l) 8 6 l) 8 3 (S.1 8 3 + 2))) (fun v_28 S_29 => (gLt (K3_take 125 (ci S_29 8 6 v_28)) (fun v_34 S_35 => (if v_34 = 0 then (1, 0, S_35) else (if (S_35.1 8 5) ≤ (S_35.1 8 6) then (0, 0, S_35) else (1, 0, S_35)))))))) := fun hd hc => by
    rw [st1 hd, take_y (S := ci (ci (ci S 8 3 (S.1 8 3 + 1)) 8 5 l) 8 6 l) hc, ← a1]
    exact if_neg (show ¬ (1 : Int) = 0 by decide)
  refine ⟨fun hd => ?_, fun hd h1 h2 => ?_, fun hd h2 => ?_, fun hd h1 h2 => ?_, fun hd h1 h2 h3 => ?_, fun hd h1 h2 h3 => ?_, fun hd h1 h2 h3 h4 => ?_⟩
  · unfold K3_readBraces
    rw [digit_n hd]
    rfl
  · rw [noc hd h1, take_n (S := ci (ci (ci S 8 3 (S.1 8 3 + 1)) 8 5 l) 8 6 l) h2]
    rfl
  · refine ⟨ci (ci (ci (ci S 8 3 (S.1 8 3 + 1)) 8 5 l) 8 6 l) 8 3 (S.1 8 3 + 1 + 1), ?_, ?_⟩
    · rw [noc hd (by omega), take_y (S := ci (ci (ci S 8 3 (S.1 8 3 + 1)) 8 5 l) 8 6 l) h2]
      refine (if_neg (show ¬ (1 : Int) = 0 by decide)).trans (if_pos ?_)
      show l ≤ l
      omega
    · refine ⟨by show S.1 8 3 + 1 + 1 = _; omega, rfl, rfl, rfl, rfl, fun n hn => ?_, rfl⟩
      rw [ci_ne hn, ci_ne hn, ci_ne hn, ci_ne hn]
  · refine ⟨ci (ci (ci (ci (ci (ci S 8 3 (S.1 8 3 + 1)) 8 5 l) 8 6 l) 8 3 (S.1 8 3 + 2)) 8 6 1000000) 8 3 (S.1 8 3 + 2 + 1), ?_, ?_⟩
    · rw [yec hd h1, if_pos h2, take_y (S := ci (ci (ci (ci (ci S 8 3 (S.1 8 3 + 1)) 8 5 l) 8 6 l) 8 3 (S.1 8 3 + 2)) 8 6 1000000) h2]
      refine (if_neg (show ¬ (1 : Int) = 0 by decide)).trans (if_pos ?_)
      show l ≤ 1000000
      have := hd.2
      omega
    · refine ⟨by show S.1 8 3 + 2 + 1 = _; omega, rfl, rfl, rfl, rfl, fun n hn => ?_, rfl⟩
      rw [ci_ne hn, ci_ne hn, ci_ne hn, ci_ne hn, ci_ne hn, ci_ne hn]
  · rw [yec hd h1, if_neg h2, digit_n (S := ci (ci (ci (ci S 8 3 (S.1 8 3 + 1)) 8 5 l) 8 6 l) 8 3 (S.1 8 3 + 2)) h3]
    rfl
  · have n125 : ¬ K4_at 2 (S.1 8 3 + 2) S = 125 := fun y => by have := h2.2; omega
    rw [yec hd h1, if_neg n125, digit_y (S := ci (ci (ci (ci S 8 3 (S.1 8 3 + 1)) 8 5 l) 8 6 l) 8 3 (S.1 8 3 + 2)) h2]
    show (gLt (K3_take 125 (ci (ci (ci (ci (ci (ci S 8 3 (S.1 8 3 + 1)) 8 5 l) 8 6 l) 8 3 (S.1 8 3 + 2)) 8 3 (S.1 8 3 + 2 + 1)) 8 6 (K4_at 2 (S.1 8 3 + 2) S - 48))) (fun v_34 S_35 => (if v_34 = 0 then (1, 0, S_35) else (if (S_35.1 8 5) ≤ (S_35.1 8 6) then (0, 0, S_35) else (1, 0, S_35))))).1 = 1
    rw [a2]
    by_cases c : K4_at 2 (S.1 8 3 + 3) S = 125
    · rw [take_y (S := ci (ci (ci (ci (ci (ci S 8 3 (S.1 8 3 + 1)) 8 5 l) 8 6 l) 8 3 (S.1 8 3 + 2)) 8 3 (S.1 8 3 + 3)) 8 6 (K4_at 2 (S.1 8 3 + 2) S - 48)) c]
      have ng : ¬ l ≤ K4_at 2 (S.1 8 3 + 2) S - 48 := fun y => h3 ⟨c, by omega⟩
      have e : (if l ≤ K4_at 2 (S.1 8 3 + 2) S - 48 then ((0, 0, ci (ci (ci (ci (ci (ci (ci S 8 3 (S.1 8 3 + 1)) 8 5 l) 8 6 l) 8 3 (S.1 8 3 + 2)) 8 3 (S.1 8 3 + 3)) 8 6 (K4_at 2 (S.1 8 3 + 2) S - 48)) 8 3 (S.1 8 3 + 3 + 1)) : CR) else (1, 0, ci (ci (ci (ci (ci (ci (ci S 8 3 (S.1 8 3 + 1)) 8 5 l) 8 6 l) 8 3 (S.1 8 3 + 2)) 8 3 (S.1 8 3 + 3)) 8 6 (K4_at 2 (S.1 8 3 + 2) S - 48)) 8 3 (S.1 8 3 + 3 + 1))).1 = 1 := by rw [if_neg ng]
      exact e
    · rw [take_n (S := ci (ci (ci (ci (ci (ci S 8 3 (S.1 8 3 + 1)) 8 5 l) 8 6 l) 8 3 (S.1 8 3 + 2)) 8 3 (S.1 8 3 + 3)) 8 6 (K4_at 2 (S.1 8 3 + 2) S - 48)) c]
      rfl
  · have n125 : ¬ K4_at 2 (S.1 8 3 + 2) S = 125 := fun y => by have := h2.2; omega
    refine ⟨ci (ci (ci (ci (ci (ci (ci S 8 3 (S.1 8 3 + 1)) 8 5 l) 8 6 l) 8 3 (S.1 8 3 + 2)) 8 3 (S.1 8 3 + 3)) 8 6 (K4_at 2 (S.1 8 3 + 2) S - 48)) 8 3 (S.1 8 3 + 3 + 1), ?_, ?_⟩
    · rw [yec hd h1, if_neg n125, digit_y (S := ci (ci (ci (ci S 8 3 (S.1 8 3 + 1)) 8 5 l) 8 6 l) 8 3 (S.1 8 3 + 2)) h2]
      show gLt (K3_take 125 (ci (ci (ci (ci (ci (ci S 8 3 (S.1 8 3 + 1)) 8 5 l) 8 6 l) 8 3 (S.1 8 3 + 2)) 8 3 (S.1 8 3 + 2 + 1)) 8 6 (K4_at 2 (S.1 8 3 + 2) S - 48))) (fun v_34 S_35 => (if v_34 = 0 then (1, 0, S_35) else (if (S_35.1 8 5) ≤ (S_35.1 8 6) then (0, 0, S_35) else (1, 0, S_35)))) = _
      rw [a2, take_y (S := ci (ci (ci (ci (ci (ci S 8 3 (S.1 8 3 + 1)) 8 5 l) 8 6 l) 8 3 (S.1 8 3 + 2)) 8 3 (S.1 8 3 + 3)) 8 6 (K4_at 2 (S.1 8 3 + 2) S - 48)) h3]
      refine (if_neg (show ¬ (1 : Int) = 0 by decide)).trans (if_pos ?_)
      show l ≤ K4_at 2 (S.1 8 3 + 2) S - 48
      omega
    · refine ⟨by show S.1 8 3 + 3 + 1 = _; omega, rfl, rfl, rfl, rfl, fun n hn => ?_, rfl⟩
      rw [ci_ne hn, ci_ne hn, ci_ne hn, ci_ne hn, ci_ne hn, ci_ne hn, ci_ne hn]
theorem lazy_2 {S : CSt} : ∃ S', gLt (K3_take 63 S) (fun v T => ((0, 1, ci T 8 7 v) : CR)) = (0, 1, S') ∧ upC S S' (S.1 8 3 + (if K4_at 2 (S.1 8 3) S = 63 then 1 else 0)) (S.1 8 5) (S.1 8 6) (if K4_at 2 (S.1 8 3) S = 63 then 1 else 0) := by
  by_cases c : K4_at 2 (S.1 8 3) S = 63
  · refine ⟨ci (ci S 8 3 (S.1 8 3 + 1)) 8 7 1, by rw [take_y c], ?_⟩
    rw [if_pos c]
    refine ⟨rfl, rfl, rfl, rfl, rfl, fun n hn => ?_, rfl⟩
    rw [ci_ne hn, ci_ne hn]
  · refine ⟨ci S 8 7 0, by rw [take_n c], ?_⟩
    rw [if_neg c]
    exact ⟨by show S.1 8 3 = S.1 8 3 + 0; omega, rfl, rfl, rfl, rfl, fun n hn => ci_ne hn, rfl⟩
/-- both stand at the same sign of the same row -/
def sgE (T : MSt) (S : CSt) : Prop := S.1 8 3 = T.1 24 ∧ 0 ≤ T.1 24 ∧ ∀ k, 0 ≤ k → K4_at 2 k S = M_sign T k
theorem br1 {T : MSt} (h : M_sign T (T.1 24) = 123) (hc : ¬ M_sign T (T.1 24 + 2) = 44) (a w : Int) : ∃ U, M_count a w T = CNTT a w (M_sign T (T.1 24 + 1) - 48) (M_sign T (T.1 24 + 1) - 48) (if M_sign T (T.1 24 + 3) = 63 then 1 else 0) U ∧ ((T.1 25 = 0 ∧ M_isDigit (M_sign T (T.1 24 + 1)) ∧ M_sign T (T.1 24 + 2) = 125) → upAB T U (T.1 24 + 3 + (if M_sign T (T.1 24 + 3) = 63 then 1 else 0)) 0) ∧ (¬ (T.1 25 = 0 ∧ M_isDigit (M_sign T (T.1 24 + 1)) ∧ M_sign T (T.1 24 + 2) = 125) → U.1 25 = 1) := by
  obtain ⟨U, v1, v2⟩ := cnt_br1 h hc a w
  refine ⟨U, v1, fun y => ?_, fun y => ?_⟩
  · rw [if_pos (c := T.1 25 = 0 ∧ M_isDigit (M_sign T (T.1 24 + 1)) ∧ M_sign T (T.1 24 + 2) = 125) y] at v2
    exact v2
  · rw [if_neg (c := T.1 25 = 0 ∧ M_isDigit (M_sign T (T.1 24 + 1)) ∧ M_sign T (T.1 24 + 2) = 125) y] at v2
    exact v2.2.1
theorem br2d {T : MSt} (h : M_sign T (T.1 24) = 123) (hc : M_sign T (T.1 24 + 2) = 44) (hd : M_isDigit (M_sign T (T.1 24 + 3))) (a w : Int) : ∃ U, M_count a w T = CNTT a w (M_sign T (T.1 24 + 1) - 48) (M_sign T (T.1 24 + 3) - 48) (if M_sign T (T.1 24 + 3 + 1 + 1) = 63 then 1 else 0) U ∧ ((T.1 25 = 0 ∧ M_isDigit (M_sign T (T.1 24 + 1)) ∧ M_sign T (T.1 24 + 3 + 1) = 125 ∧ M_sign T (T.1 24 + 1) - 48 ≤ M_sign T (T.1 24 + 3) - 48) → upAB T U (T.1 24 + 3 + 1 + 1 + (if M_sign T (T.1 24 + 3 + 1 + 1) = 63 then 1 else 0)) 0) ∧ (¬ (T.1 25 = 0 ∧ M_isDigit (M_sign T (T.1 24 + 1)) ∧ M_sign T (T.1 24 + 3 + 1) = 125 ∧ M_sign T (T.1 24 + 1) - 48 ≤ M_sign T (T.1 24 + 3) - 48) → U.1 25 = 1) := by
  obtain ⟨U, v1, v2⟩ := cnt_br2 h hc a w
  have f1 : (if M_isDigit (M_sign T (T.1 24 + 3)) then 1 else 0 : Int) = 1 := if_pos hd
  have f2 : (if M_isDigit (M_sign T (T.1 24 + 3)) then M_sign T (T.1 24 + 3) - 48 else 99 : Int) = M_sign T (T.1 24 + 3) - 48 := if_pos hd
  rw [f1, f2] at v1 v2
  refine ⟨U, v1, fun y => ?_, fun y => ?_⟩
  · rw [if_pos (c := T.1 25 = 0 ∧ M_isDigit (M_sign T (T.1 24 + 1)) ∧ M_sign T (T.1 24 + 3 + 1) = 125 ∧ M_sign T (T.1 24 + 1) - 48 ≤ M_sign T (T.1 24 + 3) - 48) y] at v2
    exact v2
  · rw [if_neg (c := T.1 25 = 0 ∧ M_isDigit (M_sign T (T.1 24 + 1)) ∧ M_sign T (T.1 24 + 3 + 1) = 125 ∧ M_sign T (T.1 24 + 1) - 48 ≤ M_sign T (T.1 24 + 3) - 48) y] at v2
    exact v2.2.1
theorem br2n {T : MSt} (h : M_sign T (T.1 24) = 123) (hc : M_sign T (T.1 24 + 2) = 44) (hd : ¬ M_isDigit (M_sign T (T.1 24 + 3))) (a w : Int) : ∃ U, M_count a w T = CNTT a w (M_sign T (T.1 24 + 1) - 48) 99 (if M_sign T (T.1 24 + 3 + 1) = 63 then 1 else 0) U ∧ ((T.1 25 = 0 ∧ M_isDigit (M_sign T (T.1 24 + 1)) ∧ M_sign T (T.1 24 + 3) = 125 ∧ M_sign T (T.1 24 + 1) - 48 ≤ 99) → upAB T U (T.1 24 + 3 + 1 + (if M_sign T (T.1 24 + 3 + 1) = 63 then 1 else 0)) 0) ∧ (¬ (T.1 25 = 0 ∧ M_isDigit (M_sign T (T.1 24 + 1)) ∧ M_sign T (T.1 24 + 3) = 125 ∧ M_sign T (T.1 24 + 1) - 48 ≤ 99) → U.1 25 = 1) := by
  obtain ⟨U, v1, v2⟩ := cnt_br2 h hc a w
  have f1 : (if M_isDigit (M_sign T (T.1 24 + 3)) then 1 else 0 : Int) = 0 := if_neg hd
  have f2 : (if M_isDigit (M_sign T (T.1 24 + 3)) then M_sign T (T.1 24 + 3) - 48 else 99 : Int) = 99 := if_neg hd
  rw [f1, f2, show T.1 24 + 3 + 0 = T.1 24 + 3 by omega] at v2
  rw [f1, f2, show T.1 24 + 3 + 0 = T.1 24 + 3 by omega] at v1
  refine ⟨U, v1, fun y => ?_, fun y => ?_⟩
  · rw [if_pos (c := T.1 25 = 0 ∧ M_isDigit (M_sign T (T.1 24 + 1)) ∧ M_sign T (T.1 24 + 3) = 125 ∧ M_sign T (T.1 24 + 1) - 48 ≤ 99) y] at v2
    exact v2
  · rw [if_neg (c := T.1 25 = 0 ∧ M_isDigit (M_sign T (T.1 24 + 1)) ∧ M_sign T (T.1 24 + 3) = 125 ∧ M_sign T (T.1 24 + 1) - 48 ≤ 99) y] at v2
    exact v2.2.1
/-- COUNTS of both -/
theorem COUNT_all {T : MSt} {S : CSt} (h : sgE T S) (hb : T.1 25 = 0) :
    ((K3_readCount S).1 = 1 ∧ ∀ a w, (M_count a w T).1 25 = 1) ∨
    (K3_readCount S = (0, 0, S) ∧ ∀ a w, M_count a w T = M_weigh w T) ∨
    (∃ l m z at' S', K3_readCount S = (0, 1, S') ∧ upC S S' at' l (if m = 99 then 1000000 else m) z ∧ 0 ≤ l ∧ l ≤ 9 ∧ (m = 99 ∨ (l ≤ m ∧ m ≤ 9)) ∧ (z = 0 ∨ z = 1) ∧ T.1 24 < at' ∧ ∀ a w, ∃ U, M_count a w T = CNTT a w l m z U ∧ upAB T U at' 0) := by
  obtain ⟨e1, e2, e3⟩ := h
  have g0 : K4_at 2 (S.1 8 3) S = M_sign T (T.1 24) := by rw [e1]; exact e3 _ e2
  have g1 : K4_at 2 (S.1 8 3 + 1) S = M_sign T (T.1 24 + 1) := by rw [e1]; exact e3 _ (by omega)
  have g2 : K4_at 2 (S.1 8 3 + 2) S = M_sign T (T.1 24 + 2) := by rw [e1]; exact e3 _ (by omega)
  have g3 : K4_at 2 (S.1 8 3 + 3) S = M_sign T (T.1 24 + 3) := by rw [e1]; exact e3 _ (by omega)
  have g4 : K4_at 2 (S.1 8 3 + 3 + 1) S = M_sign T (T.1 24 + 3 + 1) := by rw [e1]; exact e3 _ (by omega)
  have zz : ∀ (x : Int), ((if x = 63 then 1 else 0 : Int) = 0 ∨ (if x = 63 then 1 else 0 : Int) = 1) := fun x => by split <;> omega
  -- a count of one sign
  have one : ∀ (l m : Int) (mc : Int), mc = (if m = 99 then 1000000 else m) → 0 ≤ l → l ≤ 9 → (m = 99 ∨ (l ≤ m ∧ m ≤ 9)) → K3_readCount S = gLt (K3_take 63 (ci (ci (ci S 8 3 (S.1 8 3 + 1)) 8 5 l) 8 6 mc)) (fun v T => (0, 1, ci T 8 7 v)) → (∀ a w, M_count a w T = CNTT a w l m (if M_sign T (T.1 24 + 1) = 63 then 1 else 0) (mi (mi T 24 (T.1 24 + 1)) 24 (T.1 24 + 1 + (if M_sign T (T.1 24 + 1) = 63 then 1 else 0)))) → (∃ l m z at' S', K3_readCount S = (0, 1, S') ∧ upC S S' at' l (if m = 99 then 1000000 else m) z ∧ 0 ≤ l ∧ l ≤ 9 ∧ (m = 99 ∨ (l ≤ m ∧ m ≤ 9)) ∧ (z = 0 ∨ z = 1) ∧ T.1 24 < at' ∧ ∀ a w, ∃ U, M_count a w T = CNTT a w l m z U ∧ upAB T U at' 0) := by
    intro l m mc hmc l0 l9 hm hK hM
    obtain ⟨S', s1, s2⟩ := lazy_all (S := ci S 8 3 (S.1 8 3 + 1)) (l := l) (m := mc)
    have s2' := upC_at (S := S) (fun n hn => ci_ne hn) rfl rfl s2
    have eA : K4_at 2 ((ci S 8 3 (S.1 8 3 + 1)).1 8 3) (ci S 8 3 (S.1 8 3 + 1)) = M_sign T (T.1 24 + 1) := by rw [← g1]; rfl
    have eB : (ci S 8 3 (S.1 8 3 + 1)).1 8 3 = T.1 24 + 1 := by show S.1 8 3 + 1 = _; omega
    rw [eA, eB, hmc] at s2'
    refine ⟨l, m, _, _, S', hK.trans s1, s2', l0, l9, hm, zz _, ?_, fun a w => ⟨_, hM a w, ?_⟩⟩
    · have := zz (M_sign T (T.1 24 + 1)); omega
    · have u := upAB_24 (T := T) (u := T.1 24 + 1) (v := T.1 24 + 1 + (if M_sign T (T.1 24 + 1) = 63 then 1 else 0))
      rw [hb] at u
      exact u
  by_cases c42 : M_sign T (T.1 24) = 42
  · right; right
    refine one 0 99 1000000 (by rw [if_pos rfl]) (by omega) (by omega) (Or.inl rfl) ?_ (cnt_42 c42)
    unfold K3_readCount
    rw [take_y (x := 42) (by rw [g0]; exact c42)]
    exact if_neg (show ¬ (1 : Int) = 0 by decide)
  have t42 : K3_take 42 S = (0, S) := take_n (by rw [g0]; exact c42)
  by_cases c43 : M_sign T (T.1 24) = 43
  · right; right
    refine one 1 99 1000000 (by rw [if_pos rfl]) (by omega) (by omega) (Or.inl rfl) ?_ (cnt_43 c43)
    unfold K3_readCount
    rw [t42]
    refine (if_pos rfl).trans ?_
    rw [take_y (x := 43) (by rw [g0]; exact c43)]
    exact if_neg (show ¬ (1 : Int) = 0 by decide)
  have t43 : K3_take 43 S = (0, S) := take_n (by rw [g0]; exact c43)
  by_cases c63 : M_sign T (T.1 24) = 63
  · right; right
    refine one 0 1 1 (by rw [if_neg (by decide)]) (by omega) (by omega) (Or.inr ⟨by omega, by omega⟩) ?_ (cnt_63 c63)
    unfold K3_readCount
    rw [t42]
    refine (if_pos rfl).trans ?_
    rw [t43]
    refine (if_pos rfl).trans ?_
    rw [take_y (x := 63) (by rw [g0]; exact c63)]
    exact if_neg (show ¬ (1 : Int) = 0 by decide)
  have t63 : K3_take 63 S = (0, S) := take_n (by rw [g0]; exact c63)
  by_cases c123 : M_sign T (T.1 24) = 123
  · have hK : K3_readCount S = gBd (K3_readBraces (ci S 8 3 (S.1 8 3 + 1))) (fun _ S_31 => gLt (K3_take 63 S_31) (fun v_36 S_37 => (0, 1, ci S_37 8 7 v_36))) := by
      unfold K3_readCount
      rw [t42]
      refine (if_pos rfl).trans ?_
      rw [t43]
      refine (if_pos rfl).trans ?_
      rw [t63]
      refine (if_pos rfl).trans ?_
      rw [take_y (x := 123) (by rw [g0]; exact c123)]
      exact if_neg (show ¬ (1 : Int) = 0 by decide)
    have thr : (K3_readBraces (ci S 8 3 (S.1 8 3 + 1))).1 = 1 → (K3_readCount S).1 = 1 := fun y => by
      rw [hK]
      show (if (K3_readBraces (ci S 8 3 (S.1 8 3 + 1))).1 = 0 then _ else ((1, 0, (K3_readBraces (ci S 8 3 (S.1 8 3 + 1))).2.2) : CR)).1 = 1
      rw [if_neg (by omega)]
    obtain ⟨b1, b2, b3, b4, b5, b6, b7⟩ := braces_all (ci S 8 3 (S.1 8 3 + 1))
    have s1 : ∀ k, K4_at 2 k (ci S 8 3 (S.1 8 3 + 1)) = K4_at 2 k S := fun k => rfl
    have s3 : (ci S 8 3 (S.1 8 3 + 1)).1 8 3 = S.1 8 3 + 1 := rfl
    simp only [s1, s3] at b1 b2 b3 b4 b5 b6 b7
    have f1 : S.1 8 3 + 1 + 1 = S.1 8 3 + 2 := by omega
    have f2 : S.1 8 3 + 1 + 2 = S.1 8 3 + 3 := by omega
    have f3 : K4_at 2 (S.1 8 3 + 1 + 3) S = M_sign T (T.1 24 + 3 + 1) := by rw [show S.1 8 3 + 1 + 3 = S.1 8 3 + 3 + 1 by omega]; exact g4
    rw [g1] at b1
    rw [f1, g1, g2] at b2
    rw [f1, g1, g2] at b3
    rw [f1, f2, g1, g2, g3] at b4
    rw [f1, f2, g1, g2, g3] at b5
    rw [f1, f2, f3, g1, g2, g3] at b6
    rw [f1, f2, f3, g1, g2, g3] at b7
    -- a good count in braces
    have fin : ∀ (S2 : CSt) (at2 l m : Int), K3_readBraces (ci S 8 3 (S.1 8 3 + 1)) = (0, 0, S2) → upC (ci S 8 3 (S.1 8 3 + 1)) S2 at2 l (if m = 99 then 1000000 else m) (S.1 8 7) → 0 ≤ l → l ≤ 9 → (m = 99 ∨ (l ≤ m ∧ m ≤ 9)) → T.1 24 < at2 → 0 ≤ at2 → (∀ a w, ∃ U, M_count a w T = CNTT a w l m (if M_sign T at2 = 63 then 1 else 0) U ∧ upAB T U (at2 + (if M_sign T at2 = 63 then 1 else 0)) 0) → (∃ l m z at' S', K3_readCount S = (0, 1, S') ∧ upC S S' at' l (if m = 99 then 1000000 else m) z ∧ 0 ≤ l ∧ l ≤ 9 ∧ (m = 99 ∨ (l ≤ m ∧ m ≤ 9)) ∧ (z = 0 ∨ z = 1) ∧ T.1 24 < at' ∧ ∀ a w, ∃ U, M_count a w T = CNTT a w l m z U ∧ upAB T U at' 0) := by
      intro S2 at2 l m hk hu l0 l9 hm hat hat0 hM
      have hu' := upC_at (S := S) (fun n hn => ci_ne hn) rfl rfl hu
      obtain ⟨S', r1, r2⟩ := lazy_2 (S := S2)
      obtain ⟨u1, u2, u3, u4, u5, u6, u7⟩ := hu'
      have eK : K4_at 2 (S2.1 8 3) S2 = M_sign T at2 := by
        rw [u1, ← e3 at2 hat0]
        unfold K4_at
        rw [u6 2 (by decide), u6 (11 + 2) (by decide)]
      rw [eK, u1, u2, u3] at r2
      have r2' := upC_at (S := S) u6 u5 u7 r2
      refine ⟨l, m, _, _, S', ?_, r2', l0, l9, hm, zz _, ?_, hM⟩
      · rw [hK, hk]
        exact (if_pos rfl).trans r1
      · have := zz (M_sign T at2); omega
    have c25 : ∀ (a w l m z : Int) (U : MSt), M_count a w T = CNTT a w l m z U → U.1 25 = 1 → (M_count a w T).1 25 = 1 := fun a w l m z U v1 v2 => by rw [v1]; exact v2
    by_cases hd : M_isDigit (M_sign T (T.1 24 + 1))
    · have d1 := hd.1
      have d2 := hd.2
      by_cases hc : M_sign T (T.1 24 + 2) = 44
      · by_cases h2 : M_isDigit (M_sign T (T.1 24 + 3))
        · have d3 := h2.1
          have d4 := h2.2
          by_cases h3 : M_sign T (T.1 24 + 3 + 1) = 125 ∧ M_sign T (T.1 24 + 1) ≤ M_sign T (T.1 24 + 3)
          · right; right
            obtain ⟨S2, k1, k2⟩ := b7 hd hc h2 h3.1 h3.2
            clear b1 b2 b3 b4 b5 b6 b7
            refine fin S2 (S.1 8 3 + 1 + 4) (M_sign T (T.1 24 + 1) - 48) (M_sign T (T.1 24 + 3) - 48) k1 ?_ (by omega) (by omega) (Or.inr ⟨by omega, by omega⟩) (by omega) (by omega) (fun a w => ?_)
            · rw [if_neg (show ¬ M_sign T (T.1 24 + 3) - 48 = 99 by omega)]; exact k2
            · obtain ⟨U, v1, v2, -⟩ := br2d c123 hc h2 a w
              rw [show S.1 8 3 + 1 + 4 = T.1 24 + 3 + 1 + 1 by omega]
              exact ⟨U, v1, v2 ⟨hb, hd, h3.1, by omega⟩⟩
          · left
            refine ⟨thr (b6 hd hc h2 h3), fun a w => ?_⟩
            clear b1 b2 b3 b4 b5 b6 b7
            obtain ⟨U, v1, -, v2⟩ := br2d c123 hc h2 a w
            exact c25 a w _ _ _ U v1 (v2 (fun y => h3 ⟨y.2.2.1, by have := y.2.2.2; omega⟩))
        · by_cases h3 : M_sign T (T.1 24 + 3) = 125
          · right; right
            obtain ⟨S2, k1, k2⟩ := b4 hd hc h3
            clear b1 b2 b3 b4 b5 b6 b7
            refine fin S2 (S.1 8 3 + 1 + 3) (M_sign T (T.1 24 + 1) - 48) 99 k1 (by rw [if_pos rfl]; exact k2) (by omega) (by omega) (Or.inl rfl) (by omega) (by omega) (fun a w => ?_)
            obtain ⟨U, v1, v2, -⟩ := br2n c123 hc h2 a w
            rw [show S.1 8 3 + 1 + 3 = T.1 24 + 3 + 1 by omega]
            exact ⟨U, v1, v2 ⟨hb, hd, h3, by omega⟩⟩
          · left
            refine ⟨thr (b5 hd hc h3 h2), fun a w => ?_⟩
            obtain ⟨U, v1, -, v2⟩ := br2n c123 hc h2 a w
            exact c25 a w _ _ _ U v1 (v2 (fun y => h3 y.2.2.1))
      · by_cases h3 : M_sign T (T.1 24 + 2) = 125
        · right; right
          obtain ⟨S2, k1, k2⟩ := b3 hd h3
          clear b1 b2 b3 b4 b5 b6 b7
          rw [f2] at k2
          refine fin S2 (S.1 8 3 + 3) (M_sign T (T.1 24 + 1) - 48) (M_sign T (T.1 24 + 1) - 48) k1 (by rw [if_neg (show ¬ M_sign T (T.1 24 + 1) - 48 = 99 by omega)]; exact k2) (by omega) (by omega) (Or.inr ⟨by omega, by omega⟩) (by omega) (by omega) (fun a w => ?_)
          obtain ⟨U, v1, v2, -⟩ := br1 c123 hc a w
          rw [show S.1 8 3 + 3 = T.1 24 + 3 by omega]
          exact ⟨U, v1, v2 ⟨hb, hd, h3⟩⟩
        · left
          refine ⟨thr (b2 hd hc h3), fun a w => ?_⟩
          obtain ⟨U, v1, -, v2⟩ := br1 c123 hc a w
          exact c25 a w _ _ _ U v1 (v2 (fun y => h3 y.2.2))
    · left
      refine ⟨thr (b1 hd), fun a w => ?_⟩
      by_cases hc : M_sign T (T.1 24 + 2) = 44
      · by_cases h2 : M_isDigit (M_sign T (T.1 24 + 3))
        · obtain ⟨U, v1, -, v2⟩ := br2d c123 hc h2 a w
          exact c25 a w _ _ _ U v1 (v2 (fun y => hd y.2.1))
        · obtain ⟨U, v1, -, v2⟩ := br2n c123 hc h2 a w
          exact c25 a w _ _ _ U v1 (v2 (fun y => hd y.2.1))
      · obtain ⟨U, v1, -, v2⟩ := br1 c123 hc a w
        exact c25 a w _ _ _ U v1 (v2 (fun y => hd y.2.1))
  · right; left
    refine ⟨?_, cnt_no c123 c42 c43 c63⟩
    unfold K3_readCount
    rw [t42]
    refine (if_pos rfl).trans ?_
    rw [t43]
    refine (if_pos rfl).trans ?_
    rw [t63]
    refine (if_pos rfl).trans ?_
    rw [take_n (x := 123) (by rw [g0]; exact c123)]
    exact if_pos rfl
