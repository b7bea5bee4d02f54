theorem runL_CfT {p : Nat → Nat → Int} {R : Nat → Int} {N : Nat} {pp : Int} (hp : prR p R N) : ∀ (n : Nat) (T : MSt), VR p R N n T → CfT p (M_runL pp n T).2
  | 0, T, h => by
    have hc := h.1.1
    rw [M_runL]
    (repeat' split) <;> exact hc
  | n + 1, T, h => by
    have hc := h.1.1
    have ro := VR_run hp (n + 1) T h
    rw [M_runL]
    by_cases c1 : T.2 8 (T.1 39).toNat = 16
    · rw [if_pos c1]; exact hc
    · rw [if_neg c1]
      by_cases c2 : T.1 41 = 0
      · rw [if_pos c2]
        obtain ⟨n', e, -, -, r1, r2⟩ := ro.2.2.2.2.2.2 c1 c2
        have en : n' = n := by omega
        subst en
        by_cases c3 : (M_order T).1 = 0
        · rw [if_pos c3]
          have oc := OC_order hp h.1 c2 (by rw [hc.1] at c1; exact c1)
          have s6 := (oc.2.2 c3).1
          have q37 : 0 ≤ (M_order T).2.1 37 := s6.1.2.2.2.2.2.2.2.2.2.2.2.1
          have gb := GB_all hp ((M_order T).2.1 37).toNat (M_order T).2 s6 (by omega)
          by_cases c4 : (M_goBack (M_order T).2).1 = 0
          · rw [if_pos c4]; exact gb.2.2
          · rw [if_neg c4]; exact runL_CfT hp n' _ ((r2 c3).2.2 c4)
        · rw [if_neg c3]; exact runL_CfT hp n' _ (r1 c3)
      · rw [if_neg c2]; exact hc
theorem tries_CfT {p : Nat → Nat → Int} {R : Nat → Int} {N : Nat} {T : MSt} {pp : Int} (hp : prR p R N) (h : CfT p T) (h0 : 0 ≤ pp) (h1 : pp ≤ T.1 4) : CfT p (M_tries pp T).2 := by
  obtain ⟨r1, r2, -⟩ := RI_start hp h h0 h1
  exact runL_CfT hp 1000000 _ ⟨r1, fun _ => by omega⟩
theorem runL_01 (pp : Int) : ∀ (n : Nat) (T : MSt), (M_runL pp n T).1 = 0 ∨ (M_runL pp n T).1 = 1
  | 0, T => by
    rw [M_runL]
    by_cases c : T.2 8 (T.1 39).toNat = 16
    · rw [if_pos c]
      show (if T.1 41 = 0 then (1 : Int) else 0) = 0 ∨ (if T.1 41 = 0 then (1 : Int) else 0) = 1
      split <;> omega
    · rw [if_neg c]
      split <;> exact Or.inl rfl
  | n + 1, T => by
    rw [M_runL]
    by_cases c : T.2 8 (T.1 39).toNat = 16
    · rw [if_pos c]
      show (if T.1 41 = 0 then (1 : Int) else 0) = 0 ∨ (if T.1 41 = 0 then (1 : Int) else 0) = 1
      split <;> omega
    · rw [if_neg c]
      by_cases c2 : T.1 41 = 0
      · rw [if_pos c2]
        by_cases c3 : (M_order T).1 = 0
        · rw [if_pos c3]
          by_cases c4 : (M_goBack (M_order T).2).1 = 0
          · rw [if_pos c4]; exact Or.inl rfl
          · rw [if_neg c4]; exact runL_01 pp n _
        · rw [if_neg c3]; exact runL_01 pp n _
      · rw [if_neg c2]; exact Or.inl rfl
/-- THE REFERENCE SEARCHES -/
theorem search_OK {p : Nat → Nat → Int} {R : Nat → Int} {N : Nat} {T : MSt} {fr : Int} (hp : prR p R N) (h : CfT p T) (h4 : 0 ≤ T.1 4) (h0 : 0 ≤ fr) (h1 : fr ≤ 1000) : M_searchOK fr T := by
  refine ⟨h0, fun pl T => CfT p T ∧ 0 ≤ T.1 4 ∧ 0 ≤ pl ∧ pl ≤ 1000, fun pl T hu => ?_, ?_⟩
  · obtain ⟨c, c4, p0, p1⟩ := hu
    have c' := c
    obtain ⟨q8, q9, q10, q11, q4, q6, q6', q3, q7, q34, q35, q37, q40, q41, q41', q33⟩ := c'
    have v41 : 0 ≤ T.1 41 ∧ T.1 41 ≤ 1 := by rw [q41']; split <;> omega
    refine ⟨p0, p1, by omega, q4, v41.1, v41.2, fun hl _ => ⟨tries_OK hp c p0 hl, runL_01 pl 1000000 _, fun _ => ?_⟩⟩
    have ct := tries_CfT hp c p0 hl
    refine ⟨ct.2.2.2.2.2.1, ct.2.2.2.2.2.2.1, fun _ => ⟨ct, ?_, by omega, by omega⟩⟩
    rw [(frM_tries pl T).1 4 (by omega)]
    exact c4
  · refine ⟨?_, h4, h0, h1⟩
    obtain ⟨q8, q9, q10, q11, q4, q6, q6', q3, q7, q34, q35, q37, q40, q41, q41', q33⟩ := h
    exact ⟨q8, q9, q10, q11, q4, q6, q6', q3, q7, q34, q35, q37, by show (0 : Int) ≤ 0; omega, by show (0 : Int) ≤ 501; omega, rfl, q33⟩
/-- what a search of both comes to -/
def RSs (a : Nat) (p : Nat → Nat → Int) (fr : Int) (r : Int × MSt) (c : CR) : Prop := CfT p r.2 ∧ CBd a c.2.2 ∧
  ((fr ≤ r.1 ∧ 0 ≤ r.1 ∧ r.1 ≤ r.2.1 4 ∧ r.2.1 41 = 0 ∧ c.1 = 0 ∧ c.2.1 = r.1 ∧ FNd r.1 r.2 c.2.2) ∨ (r.1 = -1 ∧ r.2.1 41 = 0 ∧ c.1 = 0 ∧ c.2.1 = -1 ∧ c.2.2.1 10 4 = r.2.1 40) ∨ (r.1 = -1 ∧ r.2.1 41 = 1 ∧ c.1 = 1))
theorem searchL_over (fr : Int) (n : Nat) (pl : Int) (T : MSt) (h : T.1 41 = 1) : M_searchL fr n pl T = (-1, T) := by
  cases n with
  | zero => rfl
  | succ n =>
    rw [M_searchL, h]
    split
    · rfl
    · rw [if_neg (show ¬ (1 : Int) = 0 by decide)]
theorem SL_all {a : Nat} {p : Nat → Nat → Int} {R : Nat → Int} {N : Nat} {F : Nat → Int} {fit : Nat → Int → Int} {fr f0 : Int} (hp : prR p R N) (hF0 : F 0 = 0) : ∀ (n2 n1 : Nat) (pl : Int) (T : MSt) (S : CSt), CfT p T → T.1 41 = 0 → SK p F fit N T S → CBd a S → S.1 10 4 = T.1 40 → 0 ≤ pl → f0 ≤ pl → 25 - pl ≤ n1 → (T.1 4 + 1 - pl).toNat = n2 → M_has 1 T = 0 → RSs a p f0 (M_searchL fr n1 pl T) (K0_searchL (T.1 4) n2 pl S)
  | 0, n1, pl, T, S, h, h41, hS, hB, h4, p0, pf, hn1, hn2, hs => by
    have e1 : M_searchL fr n1 pl T = (-1, T) := by
      cases n1 with
      | zero => rfl
      | succ n => rw [M_searchL, if_pos (by omega)]
    rw [e1, K0_searchL]
    exact ⟨h, hB, Or.inr (Or.inl ⟨rfl, h41, rfl, rfl, h4⟩)⟩
  | n2 + 1, n1, pl, T, S, h, h41, hS, hB, h4, p0, pf, hn1, hn2, hs => by
    have q4 := h.2.2.2.2.1
    obtain ⟨n, en⟩ : ∃ n, n1 = n + 1 := ⟨n1 - 1, by omega⟩
    subst en
    have t := TRY_all (pp := pl) hp h h41 p0 (by omega) hF0 hB hS h4
    have fr1 := frM_tries pl T
    have e4 := fr1.1 4 (by omega)
    have e6 := fr1.1 6 (by omega)
    have hs' : M_has 1 (M_tries pl T).2 = 0 := by unfold M_has at hs ⊢; rw [e6]; exact hs
    rw [M_searchL, if_neg (show ¬ T.1 4 < pl by omega), if_pos h41, K0_searchL, if_neg (show ¬ T.1 4 < pl by omega)]
    obtain ⟨t1, t2, t3⟩ := t
    rcases t3 with ⟨x1, x2, x3, x4, x5⟩ | ⟨x1, x2, x3, x4, x5⟩ | ⟨x1, x2, x3⟩
    · rw [if_neg (show ¬ (M_tries pl T).1 = 0 by omega), if_pos x3, if_neg (show ¬ (K0_isFoundAt pl S).2.1 = 0 by omega)]
      exact ⟨t1, t2, Or.inl ⟨pf, p0, by show pl ≤ (M_tries pl T).2.1 4; omega, x2, rfl, rfl, x5⟩⟩
    · rw [if_pos x1, if_pos hs', if_pos x3, if_pos x4]
      have r := SL_all (fr := fr) (f0 := f0) hp hF0 n2 n (pl + 1) (M_tries pl T).2 (K0_isFoundAt pl S).2.2 t1 x2 (SK_cong fr1 mK.found hS) t2 x5 (by omega) (by omega) (by omega) (by omega) hs'
      rw [e4] at r
      exact r
    · rw [if_pos x1, if_pos hs', searchL_over fr n _ _ x2, if_neg (show ¬ (K0_isFoundAt pl S).1 = 0 by omega)]
      exact ⟨t1, t2, Or.inr (Or.inr ⟨rfl, x2, rfl⟩)⟩
theorem CfT_S {p : Nat → Nat → Int} {T : MSt} (h : CfT p T) : CfT p (M_searchS T) := by
  obtain ⟨q8, q9, q10, q11, q4, q6, q6', q3, q7, q34, q35, q37, q40, q41, q41', q33⟩ := h
  exact ⟨q8, q9, q10, q11, q4, q6, q6', q3, q7, q34, q35, q37, by show (0 : Int) ≤ 0; omega, by show (0 : Int) ≤ 501; omega, rfl, q33⟩
theorem SEARCH_all {a : Nat} {p : Nat → Nat → Int} {R : Nat → Int} {N : Nat} {F : Nat → Int} {fit : Nat → Int → Int} {T : MSt} {S : CSt} {fr : Int} (hp : prR p R N) (hF0 : F 0 = 0) (h : CfT p T) (hS : SK p F fit N T S) (hB : CBd a (ci (cr S 10 2 6) 10 4 0)) (h0 : 0 ≤ fr) : RSs a p fr (M_search fr T) (K0_search fr S) := by
  have cS := CfT_S h
  have mk : mK S (ci (cr S 10 2 6) 10 4 0) := ⟨fun n h _ _ _ _ => ci_ne h, rfl⟩
  have frS : frM T (M_searchS T) := frM_trans (frM_mi T 40 0 (by omega)) (frM_mi _ 41 0 (by omega))
  have sk := SK_cong frS mk hS
  have hl := hS.2.2.1
  have q4 := h.2.2.2.2.1
  have hh : K2_has 6 1 (ci (cr S 10 2 6) 10 4 0) = M_has 1 (M_searchS T) := has_eq sk 1
  have e1 : M_search fr T = M_searchL fr 25 fr (M_searchS T) := rfl
  have e2 : K0_search fr S = K0_searchL ((if M_has 1 (M_searchS T) = 0 then S.1 3 1 else (if S.1 3 1 < fr then S.1 3 1 else fr : Int) : Int)) ((if M_has 1 (M_searchS T) = 0 then S.1 3 1 else (if S.1 3 1 < fr then S.1 3 1 else fr : Int) : Int) + 1 - fr).toNat fr (ci (cr S 10 2 6) 10 4 0) := by
    unfold K0_search
    rw [hh]
  have e4 : (M_searchS T).1 4 = T.1 4 := rfl
  have e41 : (M_searchS T).1 41 = 0 := rfl
  have e40 : (M_searchS T).1 40 = 0 := rfl
  have s4 : (ci (cr S 10 2 6) 10 4 0).1 10 4 = 0 := by rw [ci_eq, zu_eq]
  rw [e1, e2, hl]
  generalize M_searchS T = T0 at *
  generalize ci (cr S 10 2 6) 10 4 0 = S0 at *
  by_cases hs : M_has 1 T0 = 0
  · rw [if_pos hs]
    have r := SL_all (fr := fr) (f0 := fr) hp hF0 (T.1 4 + 1 - fr).toNat 25 fr T0 S0 cS e41 sk hB (by omega) h0 (Int.le_refl _) (by omega) (by omega) hs
    rw [e4] at r
    exact r
  · rw [if_neg hs]
    by_cases hf : T.1 4 < fr
    · rw [if_pos hf, show (T.1 4 + 1 - fr).toNat = 0 by omega, M_searchL, if_pos (by omega), K0_searchL]
      exact ⟨cS, hB, Or.inr (Or.inl ⟨rfl, e41, rfl, rfl, by show S0.1 10 4 = T0.1 40; omega⟩)⟩
    · rw [if_neg hf, show (fr + 1 - fr).toNat = 0 + 1 by omega]
      obtain ⟨t1, t2, t3⟩ := TRY_all (pp := fr) hp cS e41 h0 (by omega) hF0 hB sk (by omega)
      have fr1 := frM_tries fr T0
      have hs' : ¬ M_has 1 (M_tries fr T0).2 = 0 := by unfold M_has at hs ⊢; rw [fr1.1 6 (by omega)]; exact hs
      have e4' := fr1.1 4 (by omega)
      rw [M_searchL, if_neg (show ¬ T0.1 4 < fr by omega), if_pos e41, K0_searchL, if_neg (show ¬ fr < fr by omega), K0_searchL]
      rcases t3 with ⟨x1, x2, x3, x4, x5⟩ | ⟨x1, x2, x3, x4, x5⟩ | ⟨x1, x2, x3⟩
      · rw [if_neg (show ¬ (M_tries fr T0).1 = 0 by omega), if_pos x3, if_neg (show ¬ (K0_isFoundAt fr S0).2.1 = 0 by omega)]
        exact ⟨t1, t2, Or.inl ⟨Int.le_refl _, h0, by show fr ≤ (M_tries fr T0).2.1 4; omega, x2, rfl, rfl, x5⟩⟩
      · rw [if_pos x1, if_neg hs', if_pos x3, if_pos x4]
        exact ⟨t1, t2, Or.inr (Or.inl ⟨rfl, x2, rfl, rfl, x5⟩)⟩
      · rw [if_pos x1, if_neg hs', if_neg (show ¬ (K0_isFoundAt fr S0).1 = 0 by omega)]
        exact ⟨t1, t2, Or.inr (Or.inr ⟨rfl, x2, rfl⟩)⟩
/-- THE CLASS SEARCHES: what its loop needs -/
theorem csearch_OK {a : Nat} {p : Nat → Nat → Int} {R : Nat → Int} {N : Nat} {F : Nat → Int} {fit : Nat → Int → Int} {T : MSt} {S : CSt} {fr : Int} (hp : prR p R N) (hF0 : F 0 = 0) (h : CfT p T) (hS : SK p F fit N T S) (hB : CBd a (ci (cr S 10 2 6) 10 4 0)) (h0 : 0 ≤ fr) : K0_searchOK (K0_last fr S) fr (ci (cr S 10 2 6) 10 4 0) := by
  have cS := CfT_S h
  have mk : mK S (ci (cr S 10 2 6) 10 4 0) := ⟨fun n h _ _ _ _ => ci_ne h, rfl⟩
  have frS : frM T (M_searchS T) := frM_trans (frM_mi T 40 0 (by omega)) (frM_mi _ 41 0 (by omega))
  have sk := SK_cong frS mk hS
  have q4 := h.2.2.2.2.1
  have hl : K0_last fr S ≤ T.1 4 := by
    have e := hS.2.2.1
    unfold K0_last
    (repeat' split) <;> omega
  refine ⟨fun pl S' => ∃ T', CfT p T' ∧ T'.1 41 = 0 ∧ SK p F fit N T' S' ∧ CBd a S' ∧ S'.1 10 4 = T'.1 40 ∧ T'.1 4 = T.1 4 ∧ 0 ≤ pl, fun pl S' hv hle => ?_, ⟨M_searchS T, cS, rfl, sk, hB, ?_, rfl, h0⟩⟩
  · obtain ⟨T', c1, c2, c3, c4, c5, c6, c7⟩ := hv
    refine ⟨c4.2.1, c7, by omega, found_OK hp c1 c2 c7 (by omega) hF0 c4 c3 c5, fun g1 g2 => ?_⟩
    obtain ⟨t1, t2, t3⟩ := TRY_all (pp := pl) hp c1 c2 c7 (by omega) hF0 c4 c3 c5
    have fr1 := frM_tries pl T'
    rcases t3 with ⟨x1, x2, x3, x4, x5⟩ | ⟨x1, x2, x3, x4, x5⟩ | ⟨x1, x2, x3⟩
    · omega
    · exact ⟨(M_tries pl T').2, t1, x2, SK_cong fr1 mK.found c3, t2, x5, by rw [fr1.1 4 (by omega)]; exact c6, by omega⟩
    · omega
  · show (ci (cr S 10 2 6) 10 4 0).1 10 4 = 0
    rw [ci_eq, zu_eq]
