/-- a count's trace in the reference: the part at ahead is a loop now -/
def CNTT (ahead weight l m z : Int) (U : MSt) : MSt := mi (M_emit 15 ahead 0 0 (ma (ma (ma (ma (M_weigh (weight * (if 1 ≤ (if m = 99 then l + 1 else m : Int) then (if m = 99 then l + 1 else m : Int) else 1 : Int) + 2) U) 15 ahead.toNat 14) 16 ahead.toNat (l + 128 * m + 65536 * z)) 18 ahead.toNat (U.1 21)) 17 ahead.toNat (16 * (U.2 17 ahead.toNat) + U.1 20 + 4096 * U.1 19))) 21 (U.1 21 + 1)
/-- only at and bad have changed -/
def upAB (T U : MSt) (at' bad' : Int) : Prop := U.1 24 = at' ∧ U.1 25 = bad' ∧ (∀ k, k ≠ 24 → k ≠ 25 → U.1 k = T.1 k) ∧ U.2 = T.2
/-- only at, least, most, lazy have changed -/
def upC (S S' : CSt) (at' l m z : Int) : Prop := S'.1 8 3 = at' ∧ S'.1 8 5 = l ∧ S'.1 8 6 = m ∧ S'.1 8 7 = z ∧ S'.1 8 4 = S.1 8 4 ∧ (∀ n, n ≠ 8 → S'.1 n = S.1 n) ∧ S'.2 = S.2
theorem take_y {x : Int} {S : CSt} (h : K4_at 2 (S.1 8 3) S = x) : K3_take x S = (1, ci S 8 3 (S.1 8 3 + 1)) := if_pos h
theorem take_n {x : Int} {S : CSt} (h : ¬ K4_at 2 (S.1 8 3) S = x) : K3_take x S = (0, S) := if_neg h
/-- '?' behind a count -/
theorem lazy_all {S : CSt} {l m : Int} : ∃ S', gLt (K3_take 63 (ci (ci S 8 5 l) 8 6 m)) (fun v T => ((0, 1, ci T 8 7 v) : CR)) = (0, 1, S') ∧ upC S S' (S.1 8 3 + (if K4_at 2 (S.1 8 3) S = 63 then 1 else 0)) l m (if K4_at 2 (S.1 8 3) S = 63 then 1 else 0) := by
  by_cases c : K4_at 2 (S.1 8 3) S = 63
  · have e : K3_take 63 (ci (ci S 8 5 l) 8 6 m) = (1, ci (ci (ci S 8 5 l) 8 6 m) 8 3 (S.1 8 3 + 1)) := if_pos c
    refine ⟨ci (ci (ci (ci S 8 5 l) 8 6 m) 8 3 (S.1 8 3 + 1)) 8 7 1, by rw [e], ?_⟩
    rw [if_pos c]
    refine ⟨rfl, rfl, rfl, rfl, rfl, fun n hn => ?_, rfl⟩
    rw [ci_ne hn, ci_ne hn, ci_ne hn, ci_ne hn]
  · have e : K3_take 63 (ci (ci S 8 5 l) 8 6 m) = (0, ci (ci S 8 5 l) 8 6 m) := if_neg c
    refine ⟨ci (ci (ci S 8 5 l) 8 6 m) 8 7 0, by rw [e], ?_⟩
    rw [if_neg c]
    refine ⟨by show S.1 8 3 = S.1 8 3 + 0; omega, rfl, rfl, rfl, rfl, fun n hn => ?_, rfl⟩
    rw [ci_ne hn, ci_ne hn, ci_ne hn]
theorem upC_at {S S0 S' : CSt} {at' l m z : Int} (h3 : ∀ n, n ≠ 8 → S0.1 n = S.1 n) (h4 : S0.1 8 4 = S.1 8 4) (h2 : S0.2 = S.2) (h : upC S0 S' at' l m z) : upC S S' at' l m z := by
  obtain ⟨a1, a2, a3, a4, a5, a6, a7⟩ := h
  exact ⟨a1, a2, a3, a4, a5.trans h4, fun n hn => (a6 n hn).trans (h3 n hn), a7.trans h2⟩
theorem cnt_no {T : MSt} (h1 : ¬ M_sign T (T.1 24) = 123) (h2 : ¬ M_sign T (T.1 24) = 42) (h3 : ¬ M_sign T (T.1 24) = 43) (h4 : ¬ M_sign T (T.1 24) = 63) (a w : Int) : M_count a w T = M_weigh w T := by
  unfold M_count
  rw [if_neg h1, if_neg h2, if_neg h3, if_neg h4]
theorem cnt_42 {T : MSt} (h : M_sign T (T.1 24) = 42) (a w : Int) : M_count a w T = CNTT a w 0 99 (if M_sign T (T.1 24 + 1) = 63 then 1 else 0) (mi (mi T 24 (T.1 24 + 1)) 24 (T.1 24 + 1 + (if M_sign T (T.1 24 + 1) = 63 then 1 else 0))) := by
  unfold M_count CNTT
  rw [h]
  rfl
theorem cnt_43 {T : MSt} (h : M_sign T (T.1 24) = 43) (a w : Int) : M_count a w T = CNTT a w 1 99 (if M_sign T (T.1 24 + 1) = 63 then 1 else 0) (mi (mi T 24 (T.1 24 + 1)) 24 (T.1 24 + 1 + (if M_sign T (T.1 24 + 1) = 63 then 1 else 0))) := by
  unfold M_count CNTT
  rw [h]
  rfl
theorem cnt_63 {T : MSt} (h : M_sign T (T.1 24) = 63) (a w : Int) : M_count a w T = CNTT a w 0 1 (if M_sign T (T.1 24 + 1) = 63 then 1 else 0) (mi (mi T 24 (T.1 24 + 1)) 24 (T.1 24 + 1 + (if M_sign T (T.1 24 + 1) = 63 then 1 else 0))) := by
  unfold M_count CNTT
  rw [h]
  rfl
theorem upAB_24 {T : MSt} {u v : Int} : upAB T (mi (mi T 24 u) 24 v) v (T.1 25) := by
  refine ⟨rfl, rfl, fun k h1 h2 => ?_, rfl⟩
  show (if k = 24 then _ else if k = 24 then _ else T.1 k) = T.1 k
  rw [if_neg h1, if_neg h1]
/-- a count without ',' -/
theorem cnt_br1 {T : MSt} (h : M_sign T (T.1 24) = 123) (hc : ¬ M_sign T (T.1 24 + 2) = 44) (a w : Int) : ∃ U, M_count a w T = CNTT a w (M_sign T (T.1 24 + 1) - 48) (M_sign T (T.1 24 + 1) - 48) (if M_sign T (T.1 24 + 3) = 63 then 1 else 0) U ∧ upAB T U (T.1 24 + 3 + (if M_sign T (T.1 24 + 3) = 63 then 1 else 0)) (if T.1 25 = 0 ∧ M_isDigit (M_sign T (T.1 24 + 1)) ∧ M_sign T (T.1 24 + 2) = 125 then 0 else 1) := by
  have e3 : T.1 24 + 2 + 1 = T.1 24 + 3 := by omega
  refine ⟨mi (mi (mi (mi (mi T 25 ((if (T.1 25) = 0 then (if (zb (M_isDigit (M_sign T ((T.1 24) + 1)))) = 0 then 1 else 0 : Int) else 1 : Int))) 24 ((T.1 24) + 2)) 25 ((if ((if (T.1 25) = 0 then (if (zb (M_isDigit (M_sign T ((T.1 24) + 1)))) = 0 then 1 else 0 : Int) else 1 : Int)) = 0 then (if (M_sign T ((T.1 24) + 2)) = 125 then (if ((M_sign T ((T.1 24) + 1)) - 48) ≤ ((M_sign T ((T.1 24) + 1)) - 48) then 0 else 1 : Int) else 1 : Int) else 1 : Int))) 24 (((T.1 24) + 2) + 1)) 24 ((((T.1 24) + 2) + 1) + ((if (M_sign T (((T.1 24) + 2) + 1)) = 63 then 1 else 0 : Int))), ?_, ?_⟩
  · unfold M_count
    rw [if_pos h, if_neg hc, ← e3]
    rfl
  · refine ⟨by rw [← e3]; rfl, ?_, fun k h1 h2 => ?_, rfl⟩
    · show (if ((if (T.1 25) = 0 then (if (zb (M_isDigit (M_sign T ((T.1 24) + 1)))) = 0 then 1 else 0 : Int) else 1 : Int)) = 0 then (if (M_sign T ((T.1 24) + 2)) = 125 then (if ((M_sign T ((T.1 24) + 1)) - 48) ≤ ((M_sign T ((T.1 24) + 1)) - 48) then 0 else 1 : Int) else 1 : Int) else 1 : Int) = _
      unfold zb
      (repeat' split) <;> omega
    · show (if k = 24 then _ else if k = 24 then _ else if k = 25 then _ else if k = 24 then _ else if k = 25 then _ else T.1 k) = T.1 k
      rw [if_neg h1, if_neg h1, if_neg h2, if_neg h1, if_neg h2]
/-- a count with ',' -/
theorem cnt_br2 {T : MSt} (h : M_sign T (T.1 24) = 123) (hc : M_sign T (T.1 24 + 2) = 44) (a w : Int) : ∃ U, M_count a w T = CNTT a w (M_sign T (T.1 24 + 1) - 48) (if M_isDigit (M_sign T (T.1 24 + 3)) then M_sign T (T.1 24 + 3) - 48 else 99) (if M_sign T (T.1 24 + 3 + (if M_isDigit (M_sign T (T.1 24 + 3)) then 1 else 0) + 1) = 63 then 1 else 0) U ∧ upAB T U (T.1 24 + 3 + (if M_isDigit (M_sign T (T.1 24 + 3)) then 1 else 0) + 1 + (if M_sign T (T.1 24 + 3 + (if M_isDigit (M_sign T (T.1 24 + 3)) then 1 else 0) + 1) = 63 then 1 else 0)) (if T.1 25 = 0 ∧ M_isDigit (M_sign T (T.1 24 + 1)) ∧ M_sign T (T.1 24 + 3 + (if M_isDigit (M_sign T (T.1 24 + 3)) then 1 else 0)) = 125 ∧ M_sign T (T.1 24 + 1) - 48 ≤ (if M_isDigit (M_sign T (T.1 24 + 3)) then M_sign T (T.1 24 + 3) - 48 else 99) then 0 else 1) := by
  have e3 : T.1 24 + 2 + 1 = T.1 24 + 3 := by omega
  have f1 : (if (zb (M_isDigit (M_sign T (T.1 24 + 3)))) = 0 then 0 else 1 : Int) = (if M_isDigit (M_sign T (T.1 24 + 3)) then 1 else 0) := by unfold zb; (repeat' split) <;> omega
  have f2 : (if (zb (M_isDigit (M_sign T (T.1 24 + 3)))) = 0 then 99 else (M_sign T (T.1 24 + 3)) - 48 : Int) = (if M_isDigit (M_sign T (T.1 24 + 3)) then M_sign T (T.1 24 + 3) - 48 else 99) := by unfold zb; (repeat' split) <;> omega
  have key : M_count a w T = CNTT a w (M_sign T (T.1 24 + 1) - 48) (if (zb (M_isDigit (M_sign T (((T.1 24) + 2) + 1)))) = 0 then 99 else (M_sign T (((T.1 24) + 2) + 1)) - 48 : Int) (if (M_sign T (((((T.1 24) + 2) + 1) + ((if (zb (M_isDigit (M_sign T (((T.1 24) + 2) + 1)))) = 0 then 0 else 1 : Int))) + 1)) = 63 then 1 else 0 : Int) (mi (mi (mi (mi (mi (mi (mi T 25 ((if (T.1 25) = 0 then (if (zb (M_isDigit (M_sign T ((T.1 24) + 1)))) = 0 then 1 else 0 : Int) else 1 : Int))) 24 ((T.1 24) + 2)) 24 (((T.1 24) + 2) + 1)) 24 ((((T.1 24) + 2) + 1) + ((if (zb (M_isDigit (M_sign T (((T.1 24) + 2) + 1)))) = 0 then 0 else 1 : Int)))) 25 ((if ((if (T.1 25) = 0 then (if (zb (M_isDigit (M_sign T ((T.1 24) + 1)))) = 0 then 1 else 0 : Int) else 1 : Int)) = 0 then (if (M_sign T ((((T.1 24) + 2) + 1) + ((if (zb (M_isDigit (M_sign T (((T.1 24) + 2) + 1)))) = 0 then 0 else 1 : Int)))) = 125 then (if ((M_sign T ((T.1 24) + 1)) - 48) ≤ ((if (zb (M_isDigit (M_sign T (((T.1 24) + 2) + 1)))) = 0 then 99 else (M_sign T (((T.1 24) + 2) + 1)) - 48 : Int)) then 0 else 1 : Int) else 1 : Int) else 1 : Int))) 24 (((((T.1 24) + 2) + 1) + ((if (zb (M_isDigit (M_sign T (((T.1 24) + 2) + 1)))) = 0 then 0 else 1 : Int))) + 1)) 24 ((((((T.1 24) + 2) + 1) + ((if (zb (M_isDigit (M_sign T (((T.1 24) + 2) + 1)))) = 0 then 0 else 1 : Int))) + 1) + ((if (M_sign T (((((T.1 24) + 2) + 1) + ((if (zb (M_isDigit (M_sign T (((T.1 24) + 2) + 1)))) = 0 then 0 else 1 : Int))) + 1)) = 63 then 1 else 0 : Int)))) := by
    unfold M_count
    rw [if_pos h, if_pos hc]
    rfl
  rw [e3, f1, f2] at key
  refine ⟨_, key, rfl, ?_, fun k h1 h2 => ?_, rfl⟩
  · show (if ((if (T.1 25) = 0 then (if (zb (M_isDigit (M_sign T ((T.1 24) + 1)))) = 0 then 1 else 0 : Int) else 1 : Int)) = 0 then (if M_sign T (T.1 24 + 3 + (if M_isDigit (M_sign T (T.1 24 + 3)) then 1 else 0)) = 125 then (if M_sign T (T.1 24 + 1) - 48 ≤ (if M_isDigit (M_sign T (T.1 24 + 3)) then M_sign T (T.1 24 + 3) - 48 else 99) then 0 else 1 : Int) else 1 : Int) else 1 : Int) = _
    generalize M_sign T (T.1 24 + 3 + (if M_isDigit (M_sign T (T.1 24 + 3)) then 1 else 0)) = q1
    generalize (if M_isDigit (M_sign T (T.1 24 + 3)) then M_sign T (T.1 24 + 3) - 48 else 99 : Int) = q2
    unfold zb
    (repeat' split) <;> omega
  · show (if k = 24 then _ else if k = 24 then _ else if k = 25 then _ else if k = 24 then _ else if k = 24 then _ else if k = 24 then _ else if k = 25 then _ else T.1 k) = T.1 k
    rw [if_neg h1, if_neg h1, if_neg h2, if_neg h1, if_neg h1, if_neg h1, if_neg h2]
