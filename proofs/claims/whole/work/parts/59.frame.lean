/-! WHAT MATCHER LEAVES ALONE -/
def mK (S S' : CSt) : Prop := (∀ n, n ≠ 10 → n ≠ 11 → n ≠ 35 → n ≠ 36 → n ≠ 37 → S'.1 n = S.1 n) ∧ S'.2.1 = S.2.1
theorem mK.rf {S : CSt} : mK S S := ⟨fun _ _ _ _ _ _ => rfl, rfl⟩
theorem mK.tr {S T U : CSt} (h : mK S T) (h' : mK T U) : mK S U := ⟨fun n a b c d e => (h'.1 n a b c d e).trans (h.1 n a b c d e), h'.2.trans h.2⟩
theorem mK.set {i v : Int} {S : CSt} : mK S (K1_set i v S).2.2 := ⟨fun n _ h1 h2 _ h4 => K1_set_1 h4 h1 h2, K1_set_21⟩
theorem mK.choose {i v : Int} {S : CSt} : mK S (K1_choose i v S).2.2 := ⟨fun n _ h1 _ h3 _ => K1_choose_1 h3 h1, K1_choose_21⟩
theorem mK.c10 {k : Nat} {v : Int} {S : CSt} : mK S (ci S 10 k v) := ⟨fun n h _ _ _ _ => ci_ne h, rfl⟩
theorem mK.cut {x : Int} {S : CSt} : mK S (K1_cut x S) := ⟨fun n _ h _ _ _ => K1_cut_1 h, congrArg Prod.fst K1_cut_2⟩
theorem mK.back {S : CSt} : mK S (K1_goBack S).2 := ⟨fun n _ h h' _ _ => K1_goBack_1 h h', congrArg Prod.fst K1_goBack_2⟩
theorem mK.clear {S : CSt} : mK S (K1_clear S) := ⟨fun n _ h h' _ _ => K1_clear_1 h' h, congrArg Prod.fst K1_clear_2⟩
theorem mK.cs {S : CSt} : mK S (K0_countStep S).2.2 := by
  unfold K0_countStep
  split
  · exact mK.c10
  · exact mK.rf
theorem mK.pass {i : Int} {S : CSt} : mK S (K0_choosePass i S).2.2 := by
  rw [K0_choosePass_eq]
  (repeat' split) <;> first | exact mK.rf | exact mK.choose
theorem mK.prL {i bg en : Int} : ∀ (n : Nat) (k : Int) (T : CSt), mK T (K0_prL i bg en n k T).2.2
  | 0, k, T => by rw [K0_prL]; exact mK.c10
  | n + 1, k, T => by
    rw [K0_prL]
    (repeat' split) <;> first | exact mK.c10 | exact mK.rf | exact mK.prL n _ _
theorem mK.bpL {i l9 : Int} : ∀ (n : Nat) (g : Int) (T : CSt), mK T (K0_bpL i l9 n g T).2.2
  | 0, g, T => by rw [K0_bpL]; exact mK.rf
  | n + 1, g, T => by
    rw [K0_bpL_eq]
    split
    · exact mK.rf
    · exact mK.set.tr (mK.set.tr (mK.bpL n _ _))
theorem mK.w {S : CSt} {r : CR} (h : mK S r.2.2) : mK S (if r.1 = 0 then ((0, r.2.1, r.2.2) : CR) else (1, 0, r.2.2)).2.2 := by
  split <;> exact h
theorem mK.carryOut {i : Int} {S : CSt} : mK S (K0_carryOut i S).2.2 := by
  have h1 : mK S (K0_passSign i S).2.2 := by
    unfold K0_passSign
    (repeat' split) <;> first | exact mK.c10 | exact mK.c10.tr mK.c10 | exact mK.cs
  have h4 : mK S (K0_passReference i S).2.2 := by
    unfold K0_passReference
    (repeat' split) <;> first | exact mK.c10 | exact mK.c10.tr (mK.prL _ _ _) | exact mK.cs
  have h5 : mK S (K0_beginAlternative i S).2.2 := by
    unfold K0_beginAlternative
    (repeat' split) <;> first | exact mK.c10 | exact mK.c10.tr mK.choose | exact mK.cs
  have h7 : mK S (K0_beginGroup i S).2.2 := by rw [K0_beginGroup_eq]; exact mK.set
  have h8 : mK S (K0_endGroup i S).2.2 := by rw [K0_endGroup_eq]; exact mK.set.tr mK.set
  have h9 : mK S (K0_enterLoop i S).2.2 := by
    rw [K0_enterLoop_eq]
    split
    · exact mK.rf
    · exact mK.set.tr mK.pass
  have h10 : mK S (K0_endPass i S).2.2 := by
    rw [K0_endPass_eq]
    split
    · exact mK.rf
    · exact mK.set.tr mK.pass
  have h12 : mK S (K0_beginPass i S).2.2 := by rw [K0_beginPass_eq]; exact mK.set.tr (mK.bpL _ _ _)
  have h13 : mK S (K0_beginLook i S).2.2 := by rw [K0_beginLook_eq]; exact mK.set.tr mK.set
  have h14 : mK S (K0_endLook i S).2.2 := by unfold K0_endLook; exact mK.cut.tr mK.c10
  have h15 : mK S (K0_beginLookNot i S).2.2 := by rw [K0_beginLookNot_eq]; exact mK.set.tr mK.choose
  have h16 : mK S (K0_endLookNot i S).2.2 := by unfold K0_endLookNot; exact mK.cut
  unfold K0_carryOut
  by_cases c0 : K2_kind 6 i S = 0
  · rw [if_pos c0]; exact mK.rf
  · rw [if_neg c0]

    by_cases c1 : K2_kind 6 i S = 1
    · rw [if_pos c1]; exact mK.w h1
    · rw [if_neg c1]
      by_cases c2 : K2_kind 6 i S = 2
      · rw [if_pos c2]; exact mK.rf
      · rw [if_neg c2]
        by_cases c3 : K2_kind 6 i S = 3
        · rw [if_pos c3]; exact mK.rf
        · rw [if_neg c3]
          by_cases c4 : K2_kind 6 i S = 4
          · rw [if_pos c4]; exact mK.w h4
          · rw [if_neg c4]
            by_cases c5 : K2_kind 6 i S = 5
            · rw [if_pos c5]; exact mK.w h5
            · rw [if_neg c5]
              by_cases c6 : K2_kind 6 i S = 6
              · rw [if_pos c6]; exact mK.rf
              · rw [if_neg c6]
                by_cases c7 : K2_kind 6 i S = 7
                · rw [if_pos c7]; exact mK.w h7
                · rw [if_neg c7]
                  by_cases c8 : K2_kind 6 i S = 8
                  · rw [if_pos c8]; exact mK.w h8
                  · rw [if_neg c8]
                    by_cases c9 : K2_kind 6 i S = 9
                    · rw [if_pos c9]; exact mK.w h9
                    · rw [if_neg c9]
                      by_cases c10 : K2_kind 6 i S = 10
                      · rw [if_pos c10]; exact mK.w h10
                      · rw [if_neg c10]
                        by_cases c11 : K2_kind 6 i S = 11
                        · rw [if_pos c11]; exact mK.w h10
                        · rw [if_neg c11]
                          by_cases c12 : K2_kind 6 i S = 12
                          · rw [if_pos c12]; exact mK.w h12
                          · rw [if_neg c12]
                            by_cases c13 : K2_kind 6 i S = 13
                            · rw [if_pos c13]; exact mK.w h13
                            · rw [if_neg c13]
                              by_cases c14 : K2_kind 6 i S = 14
                              · rw [if_pos c14]; exact mK.w h14
                              · rw [if_neg c14]
                                by_cases c15 : K2_kind 6 i S = 15
                                · rw [if_pos c15]; exact mK.w h15
                                · rw [if_neg c15]
                                  by_cases c16 : K2_kind 6 i S = 16
                                  · rw [if_pos c16]; exact mK.w h16
                                  · rw [if_neg c16]
                                    exact mK.rf
theorem mK.foundL {bg : Int} : ∀ (n : Nat) (k tr : Int) (T : CSt), mK T (K0_foundL bg n k tr T).2.2
  | 0, k, tr, T => by rw [K0_foundL]; exact mK.rf
  | n + 1, k, tr, T => by
    rw [K0_foundL]
    by_cases c1 : (K0_carryOut k T).1 = 0
    · rw [if_pos c1]
      by_cases c2 : (K0_carryOut k T).2.1 = -2
      · rw [if_pos c2, if_pos K1_set_0, if_pos K1_set_0]
        exact mK.carryOut.tr (mK.set.tr mK.set)
      · rw [if_neg c2]
        by_cases c3 : (K0_carryOut k T).2.1 = -1
        · rw [if_pos c3]
          by_cases c4 : (K1_goBack (K0_carryOut k T).2.2).1 = -1
          · rw [if_pos c4]; exact mK.carryOut.tr mK.back
          · rw [if_neg c4]; exact mK.carryOut.tr (mK.back.tr (mK.c10.tr (mK.foundL n _ _ _)))
        · rw [if_neg c3]; exact mK.carryOut.tr (mK.foundL n _ _ _)
    · rw [if_neg c1]; exact mK.carryOut
theorem mK.found {bg : Int} {S : CSt} : mK S (K0_isFoundAt bg S).2.2 := by
  have eq : K0_isFoundAt bg S = K0_foundL bg zM 0 0 (ci (K1_clear S) 10 3 bg) := rfl
  rw [eq]
  exact mK.clear.tr (mK.c10.tr (mK.foundL _ _ _ _))
theorem mK.searchL {last : Int} : ∀ (n : Nat) (p9 : Int) (T : CSt), mK T (K0_searchL last n p9 T).2.2
  | 0, p9, T => by rw [K0_searchL]; exact mK.rf
  | n + 1, p9, T => by
    rw [K0_searchL]
    (repeat' split) <;> first | exact mK.rf | exact mK.found | exact mK.found.tr (mK.searchL n _ _)
theorem mK.search {bg : Int} {S : CSt} : mK S (K0_search bg S).2.2 := by
  unfold K0_search
  exact (show mK S (ci (cr S 10 2 6) 10 4 0) from ⟨fun n h _ _ _ _ => ci_ne h, rfl⟩).tr (mK.searchL _ _ _)
theorem sV_foundL {bg : Int} {a : Nat} {Vv : Nat → Int → CSt → Prop} (hVs : ∀ n k T, Vv (n + 1) k T → K0_turnOK Vv n k T) (hb0 : 0 ≤ bg) (hb1 : bg ≤ 1000) : ∀ (n : Nat) (k tr : Int) (T : CSt), Vv n k T → cFx a 6 T → sV T → sV (K0_foundL bg n k tr T).2.2
  | 0, k, tr, T, _, hF, hV => by rw [K0_foundL]; exact hV
  | n + 1, k, tr, T, hW, hF, _ => by
    obtain ⟨hX, hc4, hc3, hk0, hk1, hcA, hcB, hcC⟩ := hVs n k T hW
    obtain ⟨ho, hg, hqa, hqb, -⟩ := K0_carryOut_ok (a := a) ⟨hF, hX.1, hX.2.1, hc4, hc3⟩ hX hk0 hk1
    rw [K0_foundL]
    by_cases c1 : (K0_carryOut k T).1 = 0
    · rw [if_pos c1]
      by_cases c2 : (K0_carryOut k T).2.1 = -2
      · have h9 := hcC c1 c2
        rw [if_pos c2, if_pos K1_set_0, if_pos K1_set_0]
        exact (oK_set (oK_set ho (by omega) (by omega) (by omega)) (by omega) (by omega) (by omega)).2.1
      · rw [if_neg c2]
        by_cases c3 : (K0_carryOut k T).2.1 = -1
        · rw [if_pos c3]
          have hFb : cFx a 6 (K1_goBack (K0_carryOut k T).2.2).2 := cFx_of (congrArg Prod.snd K1_goBack_2) ho.1
          by_cases c4 : (K1_goBack (K0_carryOut k T).2.2).1 = -1
          · rw [if_pos c4]
            exact sV_goBack ho.2.1
          · rw [if_neg c4]
            exact sV_foundL (bg := bg) (a := a) hVs hb0 hb1 n (K1_goBack (K0_carryOut k T).2.2).1 (tr + 1) (ci (K1_goBack (K0_carryOut k T).2.2).2 10 3 ((K1_goBack (K0_carryOut k T).2.2).2.1 11 5)) (hcB c1 c3 c4) hFb (sV_ci (sV_goBack ho.2.1) (by decide))
        · rw [if_neg c3]
          exact sV_foundL (bg := bg) (a := a) hVs hb0 hb1 n (K0_carryOut k T).2.1 (tr + 1) (K0_carryOut k T).2.2 (hcA c1 c2 c3) ho.1 ho.2.1
    · rw [if_neg c1]
      exact ho.2.1
theorem sV_found {bg : Int} {a : Nat} {S : CSt} (hOK : K0_foundOK bg S) (hb0 : 0 ≤ bg) (hb1 : bg ≤ 1000) (hF : cFx a 6 S) (hV : sV S) : sV (K0_isFoundAt bg S).2.2 := by
  obtain ⟨Vv, hVs, hW0⟩ := hOK
  have e : (ci (K1_clear S) 10 3 bg).2.2 = S.2.2 := by rw [ci_2, K1_clear_2]
  have hF1 := cFx_of e hF
  have hV1 : sV (ci (K1_clear S) 10 3 bg) := sV_ci (sV_clear hV) (by decide)
  have eq : K0_isFoundAt bg S = K0_foundL bg zM 0 0 (ci (K1_clear S) 10 3 bg) := rfl
  rw [eq]
  generalize ci (K1_clear S) 10 3 bg = T at hW0 hF1 hV1 ⊢
  exact sV_foundL (bg := bg) (a := a) hVs hb0 hb1 zM 0 0 T hW0 hF1 hV1
/-- what a search leaves -/
theorem K0_searchL_F {last : Int} {a : Nat} {Vs : Int → CSt → Prop} (hVs : ∀ p T, Vs p T → p ≤ last → xV T ∧ 0 ≤ p ∧ p ≤ 1000 ∧ K0_foundOK p T ∧ ((K0_isFoundAt p T).1 = 0 → (K0_isFoundAt p T).2.1 = 0 → Vs (p + 1) (K0_isFoundAt p T).2.2)) : ∀ (n : Nat) (p9 : Int) (T : CSt), Vs p9 T → cFx a 6 T → sV T → -1000 ≤ p9 → cFx a 6 (K0_searchL last n p9 T).2.2 ∧ sV (K0_searchL last n p9 T).2.2 ∧ gl T ≤ gl (K0_searchL last n p9 T).2.2 ∧ -1 ≤ (K0_searchL last n p9 T).2.1 ∧ ((K0_searchL last n p9 T).2.1 ≤ last ∨ (K0_searchL last n p9 T).2.1 ≤ 0)
  | 0, p9, T, _, hF, hV, hp => by rw [K0_searchL]; exact ⟨hF, hV, Nat.le_refl _, Int.le_refl _, Or.inr (by show (-1 : Int) ≤ 0; decide)⟩
  | n + 1, p9, T, hW, hF, hV, hp => by
    rw [K0_searchL]
    by_cases c0 : last < p9
    · rw [if_pos c0]; exact ⟨hF, hV, Nat.le_refl _, Int.le_refl _, Or.inr (by show (-1 : Int) ≤ 0; decide)⟩
    · rw [if_neg c0]
      obtain ⟨hX, h0, h1, hfo, hcl⟩ := hVs p9 T hW (by omega)
      obtain ⟨r1, r2, r3⟩ := K0_isFoundAt_F (a := a) hfo h0 h1 hF
      have r4 := sV_found hfo h0 h1 hF hV
      by_cases c1 : (K0_isFoundAt p9 T).1 = 0
      · rw [if_pos c1]
        by_cases c2 : (K0_isFoundAt p9 T).2.1 = 0
        · rw [if_pos c2]
          obtain ⟨s1, s2, s3, s4, s5⟩ := K0_searchL_F (a := a) hVs n (p9 + 1) (K0_isFoundAt p9 T).2.2 (hcl c1 c2) r1 r4 (by omega)
          exact ⟨s1, s2, Nat.le_trans r2 s3, s4, s5⟩
        · rw [if_neg c2]
          exact ⟨r1, r4, r2, by show (-1 : Int) ≤ p9; omega, Or.inl (by show p9 ≤ last; omega)⟩
      · rw [if_neg c1]
        exact ⟨r1, r4, r2, by show (-1 : Int) ≤ 0; decide, Or.inr (Int.le_refl _)⟩
def K0_last (bg : Int) (S : CSt) : Int := (if K2_has 6 1 (ci (cr S 10 2 6) 10 4 0) = 0 then S.1 3 1 else (if S.1 3 1 < bg then S.1 3 1 else bg : Int) : Int)
theorem K0_search_F {bg : Int} {a b : Nat} {S : CSt} (hOK : K0_searchOK (K0_last bg S) bg (ci (cr S 10 2 6) 10 4 0)) (hF : cFx a b S) (hV : sV S) (hb0 : 0 ≤ bg) (ht0 : 0 ≤ S.1 3 1) (ht1 : S.1 3 1 ≤ 24) : cFx a 6 (K0_search bg S).2.2 ∧ sV (K0_search bg S).2.2 ∧ gl S ≤ gl (K0_search bg S).2.2 ∧ -1 ≤ (K0_search bg S).2.1 ∧ (K0_search bg S).2.1 ≤ 24 := by
  obtain ⟨Vs, hVs, hW0⟩ := hOK
  have eq : K0_search bg S = K0_searchL (K0_last bg S) (K0_last bg S + 1 - bg).toNat bg (ci (cr S 10 2 6) 10 4 0) := rfl
  have hl : K0_last bg S ≤ 24 := by
    unfold K0_last
    (repeat' split) <;> omega
  rw [eq]
  obtain ⟨s1, s2, s3, s4, s5⟩ := K0_searchL_F (a := a) hVs (K0_last bg S + 1 - bg).toNat bg (ci (cr S 10 2 6) 10 4 0) hW0 (cFx_b6 hF) (sV_ci (S := cr S 10 2 6) hV (by decide)) (by omega)
  exact ⟨s1, s2, s3, s4, by omega⟩

