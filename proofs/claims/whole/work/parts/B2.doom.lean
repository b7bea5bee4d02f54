/-- a body has been opened -/
def OEf (T T' : MSt) : Prop := T'.1 25 = 1 ∨ (T'.1 25 = 0 ∧ T'.1 14 = T.1 14 ∧ T'.2 13 = T.2 13 ∧ T.1 20 ≤ T'.1 20 ∧ T'.1 32 = T.1 32 + 1 ∧ T.1 32 ≤ 8 ∧ (T.1 24 < T'.1 24 ∧ T'.1 24 ≤ T.1 14) ∧ T'.2 30 = zu (T.2 30) (T.1 32).toNat 0 ∧ ∃ q, 1 ≤ q ∧ q ≤ 4 ∧ T'.2 26 = zu (T.2 26) (T.1 32).toNat q)
theorem openBody_eff {T U : MSt} {q a : Int} (q1 : 1 ≤ q) (q4 : q ≤ 4) (h25 : U.1 25 = 0) (h14 : U.1 14 = T.1 14) (h13 : U.2 13 = T.2 13) (h20 : T.1 20 ≤ U.1 20) (h32 : U.1 32 = T.1 32) (h24 : T.1 24 < U.1 24 ∧ U.1 24 ≤ T.1 14) (h30 : U.2 30 = T.2 30) (h26 : U.2 26 = T.2 26) : OEf T (M_openBody q a U) := by
  have e25 : (M_openBody q a U).1 25 = (if U.1 25 = 0 then (if U.1 32 ≤ 8 then 0 else 1 : Int) else 1 : Int) := rfl
  by_cases c : U.1 32 ≤ 8
  · right
    refine ⟨by rw [e25, if_pos h25, if_pos c], h14, h13, h20, by show U.1 32 + 1 = _; omega, by omega, h24, ?_, q, q1, q4, ?_⟩
    · show zu (U.2 30) (U.1 32).toNat 0 = _
      rw [h30, h32]
    · show zu (U.2 26) (U.1 32).toNat q = _
      rw [h26, h32]
  · left
    rw [e25, if_pos h25, if_neg c]
theorem open_eff {T : MSt} (hb : T.1 25 = 0) (h1 : T.1 24 < T.1 14) : OEf T (M_openParenthesis T) := by
  unfold M_openParenthesis
  by_cases c1 : M_sign T (T.1 24 + 1) = 63
  · rw [if_pos c1]
    have k1 := sgn_lt (T := T) (k := T.1 24 + 1) (by omega)
    by_cases c2 : M_sign T (T.1 24 + 1 + 1) = 58
    · rw [if_pos c2]
      have k2 := sgn_lt (T := T) (k := T.1 24 + 1 + 1) (by omega)
      exact openBody_eff (by omega) (by omega) hb rfl rfl (Int.le_refl _) rfl (by show T.1 24 < T.1 24 + 1 + 2 ∧ T.1 24 + 1 + 2 ≤ T.1 14; omega) rfl rfl
    rw [if_neg c2]
    by_cases c3 : M_sign T (T.1 24 + 1 + 1) = 61
    · rw [if_pos c3]
      have k2 := sgn_lt (T := T) (k := T.1 24 + 1 + 1) (by omega)
      exact openBody_eff (by omega) (by omega) hb rfl rfl (Int.le_refl _) rfl (by show T.1 24 < T.1 24 + 1 + 2 ∧ T.1 24 + 1 + 2 ≤ T.1 14; omega) rfl rfl
    rw [if_neg c3]
    by_cases c4 : M_sign T (T.1 24 + 1 + 1) = 33
    · rw [if_pos c4]
      have k2 := sgn_lt (T := T) (k := T.1 24 + 1 + 1) (by omega)
      exact openBody_eff (by omega) (by omega) hb rfl rfl (Int.le_refl _) rfl (by show T.1 24 < T.1 24 + 1 + 2 ∧ T.1 24 + 1 + 2 ≤ T.1 14; omega) rfl rfl
    rw [if_neg c4]
    exact Or.inl rfl
  · rw [if_neg c1]
    have o := openBody_eff (T := T) (U := M_emit 10 (T.1 20 + 1) 0 0 (mi (M_emit 17 0 (T.1 20) 0 (mi T 24 (T.1 24 + 1))) 20 (T.1 20 + 1))) (q := 1) (a := T.1 19) (by omega) (by omega) hb rfl rfl (by show T.1 20 ≤ T.1 20 + 1; omega) rfl (by show T.1 24 < T.1 24 + 1 ∧ T.1 24 + 1 ≤ T.1 14; omega) rfl rfl
    exact o
/-- a body has been closed -/
def CEf (T T' : MSt) : Prop := T'.1 25 = 1 ∨ (T'.1 25 = 0 ∧ T'.1 14 = T.1 14 ∧ T'.2 13 = T.2 13 ∧ T'.1 20 = T.1 20 ∧ T'.1 32 = T.1 32 - 1 ∧ (T.1 24 ≤ T'.1 24 ∧ T'.1 24 ≤ T.1 14) ∧ (∃ d, T.2 30 (T.1 32 - 1).toNat + 1 ≤ d ∧ T'.2 30 = zu (T.2 30) (T.1 32 - 2).toNat (T.2 30 (T.1 32 - 2).toNat + d)) ∧ T'.2 26 = T.2 26)
theorem closeB_F (T : MSt) : ∃ T2, M_closeBody T = closeF (T.1 32 - 1) T2 ∧ (∀ k, k ≠ 19 → T2.1 k = T.1 k) ∧ (∀ k, k < 15 ∨ (18 < k ∧ k ≠ 29) → T2.2 k = T.2 k) := by
  refine ⟨aimN 220 (T.1 19) (ma (M_emit 2 (T.2 29 ((T.1 32) - 1).toNat) 0 0 T) 29 ((T.1 32) - 1).toNat (T.1 19)), closeL_F _ _ _ _, fun k hk => ?_, fun k hk => ?_⟩
  · rw [(aimN_1 _ _ _).1]
    exact if_neg hk
  · rw [(aimN_1 _ _ _).2 k (by omega)]
    have f := (frC_emit (T := T) (w := 2) (x := T.2 29 ((T.1 32) - 1).toNat) (y := 0) (z := 0))
    show (if k = 29 then _ else (M_emit 2 (T.2 29 ((T.1 32) - 1).toNat) 0 0 T).2 k) = T.2 k
    rw [if_neg (by omega)]
    by_cases c : k = 30
    · subst c; rfl
    · exact f.2 k (by omega)
theorem close_eff {T : MSt} (hb : T.1 25 = 0) (hle : T.1 24 ≤ T.1 14) (h2 : 2 ≤ T.1 32) (hs : 1 ≤ T.2 26 (T.1 32 - 1).toNat) (hw : 0 ≤ T.2 30 (T.1 32 - 1).toNat) : CEf T (M_closeBody T) := by
  obtain ⟨T2, e, f1, f2⟩ := closeB_F T
  rw [e]
  have g26 := f2 26 (by omega)
  have g30 := f2 30 (by omega)
  have g32 := f1 32 (by decide)
  have g25 : T2.1 25 = 0 := by rw [f1 25 (by decide)]; exact hb
  have g24 := f1 24 (by decide)
  have g14 := f1 14 (by decide)
  have g20 := f1 20 (by decide)
  have g13 := f2 13 (by omega)
  have key : ∀ (U : MSt) (a : Int), U.1 25 = 0 → U.1 14 = T.1 14 → U.2 13 = T.2 13 → U.1 20 = T.1 20 → U.1 32 = T.1 32 - 1 → U.1 24 = T.1 24 → U.2 30 = T.2 30 → U.2 26 = T.2 26 → CEf T (M_count a (T.2 30 (T.1 32 - 1).toNat + 1) U) := by
    intro U a u25 u14 u13 u20 u32 u24 u30 u26
    obtain ⟨f, g⟩ := cnt_eff (T := U) (a := a) (w := T.2 30 (T.1 32 - 1).toNat + 1) (by omega) u25 (by omega)
    rcases g with g | ⟨g0, g1, d, g2, g3⟩
    · exact Or.inl g
    · refine Or.inr ⟨g0, (f.1 14 (by decide) (by decide) (by decide) (by decide)).trans u14, (f.2 13 (by omega)).trans u13, (f.1 20 (by decide) (by decide) (by decide) (by decide)).trans u20, (f.1 32 (by decide) (by decide) (by decide) (by decide)).trans u32, by omega, ⟨d, g2, ?_⟩, (f.2 26 (by omega)).trans u26⟩
      unfold wgT at g3
      rw [u32, u30, show T.1 32 - 1 - 1 = T.1 32 - 2 by omega] at g3
      exact g3
  unfold closeF
  rw [g26, g30, if_neg (show ¬ T.2 26 (T.1 32 - 1).toNat = 0 by omega)]
  by_cases c1 : T.2 26 (T.1 32 - 1).toNat = 1
  · rw [if_pos c1]
    exact key _ _ g25 g14 g13 g20 (by show T2.1 32 - 1 = _; omega) g24 g30 g26
  rw [if_neg c1]
  by_cases c2 : T.2 26 (T.1 32 - 1).toNat ≤ 2
  · rw [if_pos c2]
    exact key _ _ g25 g14 g13 g20 (by show T2.1 32 - 1 = _; omega) g24 g30 g26
  rw [if_neg c2]
  refine Or.inr ⟨g25, g14, g13, g20, by show T2.1 32 - 1 = _; omega, by show T.1 24 ≤ T2.1 24 ∧ T2.1 24 ≤ T.1 14; omega, ⟨T.2 30 (T.1 32 - 1).toNat + 1, Int.le_refl _, ?_⟩, g26⟩
  show zu (T2.2 30) (T2.1 32 - 1 - 1).toNat (T2.2 30 (T2.1 32 - 1 - 1).toNat + (T.2 30 (T.1 32 - 1).toNat + 1)) = _
  rw [g30, g32, show T.1 32 - 1 - 1 = T.1 32 - 2 by omega]
theorem close_end {T : MSt} (h1 : T.1 32 = 1) (hs : T.2 26 0 = 0) : (M_closeBody T).2 30 = T.2 30 ∧ (M_closeBody T).1 20 = T.1 20 ∧ (M_closeBody T).1 23 = T.1 23 := by
  obtain ⟨T2, e, f1, f2⟩ := closeB_F T
  rw [e, h1]
  unfold closeF
  have g : T2.2 26 ((1 : Int) - 1).toNat = 0 := by rw [f2 26 (by omega)]; exact hs
  rw [if_pos g]
  exact ⟨f2 30 (by omega), f1 20 (by decide), f1 23 (by decide)⟩
/-- what stands of the open bodies at every turn -/
def DMi (T : MSt) : Prop := 1 ≤ T.1 32 ∧ 0 ≤ T.1 24 ∧ T.1 24 ≤ T.1 14 ∧ T.1 14 ≤ 40 ∧ (∀ j : Nat, (j : Int) < T.1 32 → 0 ≤ T.2 30 j) ∧ (∀ j : Nat, 1 ≤ j → (j : Int) < T.1 32 → 1 ≤ T.2 26 j) ∧ T.2 26 0 = 0
/-- what can't be read any more -/
def DM (T : MSt) : Prop := 9 < T.1 20 ∨ (∃ j : Nat, (j : Int) < T.1 32 ∧ 120 < T.2 30 j) ∨ T.1 14 - T.1 24 < T.1 32 - 1
theorem DM_wg {T T' : MSt} {d : Int} (hi : DMi T) (d0 : 0 ≤ d) (h14 : T'.1 14 = T.1 14) (h20 : T.1 20 ≤ T'.1 20) (h32 : T'.1 32 = T.1 32) (h24 : T.1 24 ≤ T'.1 24 ∧ T'.1 24 ≤ T.1 14) (hw : wgT T T' d) (h26 : T'.2 26 = T.2 26) : DMi T' ∧ (DM T → DM T') := by
  obtain ⟨i1, i2, i3, i4, i5, i6, i7⟩ := hi
  unfold wgT at hw
  have up : ∀ j, T.2 30 j ≤ T'.2 30 j := fun j => by
    rw [hw]
    unfold zu
    split
    · rename_i e; rw [e]; omega
    · exact Int.le_refl _
  refine ⟨⟨by omega, by omega, by omega, by omega, fun j hj => Int.le_trans (i5 j (by omega)) (up j), fun j a b => by rw [h26]; exact i6 j a (by omega), by rw [h26]; exact i7⟩, fun h => ?_⟩
  rcases h with h | ⟨j, h, h'⟩ | h
  · exact Or.inl (by omega)
  · exact Or.inr (Or.inl ⟨j, by omega, Int.lt_of_lt_of_le h' (up j)⟩)
  · exact Or.inr (Or.inr (by omega))
theorem rd_step {T : MSt} (hi : DMi T) (hb : T.1 25 = 0) (hl : T.1 24 < T.1 14) : (rdS T).1 25 = 1 ∨ ((rdS T).1 25 = 0 ∧ T.1 24 < (rdS T).1 24 ∧ DMi (rdS T) ∧ (DM T → DM (rdS T))) := by
  have hi' := hi
  obtain ⟨i1, i2, i3, i4, i5, i6, i7⟩ := hi'
  unfold rdS
  by_cases c1 : M_sign T (T.1 24) = 124
  · rw [if_pos c1]
    right
    have e : wgT T (mi (M_endAlternative 1 T) 24 ((M_endAlternative 1 T).1 24 + 1)) 1 := rfl
    have a := DM_wg (T' := mi (M_endAlternative 1 T) 24 ((M_endAlternative 1 T).1 24 + 1)) hi (by omega : (0 : Int) ≤ 1) rfl (Int.le_refl _) rfl (by show T.1 24 ≤ T.1 24 + 1 ∧ T.1 24 + 1 ≤ T.1 14; omega) e rfl
    exact ⟨hb, by show T.1 24 < T.1 24 + 1; omega, a⟩
  rw [if_neg c1]
  by_cases c2 : M_sign T (T.1 24) = 41
  · rw [if_pos c2]
    by_cases c3 : T.1 32 = 1
    · have e : (if T.1 32 = 1 then 1 else 0 : Int) = 1 := if_pos c3
      rw [e, if_neg (by decide)]
      exact Or.inl rfl
    · have e : (if T.1 32 = 1 then 1 else 0 : Int) = 0 := if_neg c3
      rw [e, if_pos rfl]
      have c := close_eff (T := mi (mi T 24 (T.1 24 + 1)) 25 0) rfl (by show T.1 24 + 1 ≤ T.1 14; omega) (by show 2 ≤ T.1 32; omega) (by show 1 ≤ T.2 26 (T.1 32 - 1).toNat; exact i6 _ (by omega) (by omega)) (by show 0 ≤ T.2 30 (T.1 32 - 1).toNat; exact i5 _ (by omega))
      rcases c with c | ⟨a0, a1, a2, a3, a4, a5, ⟨d, a6, a7⟩, a8⟩
      · exact Or.inl c
      · right
        have a1' : (M_closeBody (mi (mi T 24 (T.1 24 + 1)) 25 0)).1 14 = T.1 14 := a1
        have a3' : (M_closeBody (mi (mi T 24 (T.1 24 + 1)) 25 0)).1 20 = T.1 20 := a3
        have a4' : (M_closeBody (mi (mi T 24 (T.1 24 + 1)) 25 0)).1 32 = T.1 32 - 1 := a4
        have a5' : T.1 24 + 1 ≤ (M_closeBody (mi (mi T 24 (T.1 24 + 1)) 25 0)).1 24 ∧ (M_closeBody (mi (mi T 24 (T.1 24 + 1)) 25 0)).1 24 ≤ T.1 14 := a5
        have a6' : T.2 30 (T.1 32 - 1).toNat + 1 ≤ d := a6
        have a7' : (M_closeBody (mi (mi T 24 (T.1 24 + 1)) 25 0)).2 30 = zu (T.2 30) (T.1 32 - 2).toNat (T.2 30 (T.1 32 - 2).toNat + d) := a7
        have a8' : (M_closeBody (mi (mi T 24 (T.1 24 + 1)) 25 0)).2 26 = T.2 26 := a8
        generalize M_closeBody (mi (mi T 24 (T.1 24 + 1)) 25 0) = T' at *
        have w1 := i5 (T.1 32 - 1).toNat (by omega)
        have w2 := i5 (T.1 32 - 2).toNat (by omega)
        have up : ∀ j, T.2 30 j ≤ T'.2 30 j := fun j => by
          rw [a7']
          unfold zu
          split
          · rename_i e; rw [e]; omega
          · exact Int.le_refl _
        refine ⟨a0, by omega, ⟨by omega, by omega, by omega, by omega, fun j hj => Int.le_trans (i5 j (by omega)) (up j), fun j x y => by rw [a8']; exact i6 j x (by omega), by rw [a8']; exact i7⟩, fun h => ?_⟩
        rcases h with h | ⟨j, h, h'⟩ | h
        · exact Or.inl (by omega)
        · by_cases cj : j = (T.1 32 - 1).toNat
          · refine Or.inr (Or.inl ⟨(T.1 32 - 2).toNat, by omega, ?_⟩)
            rw [a7', zu_eq]
            rw [cj] at h'
            omega
          · exact Or.inr (Or.inl ⟨j, by omega, Int.lt_of_lt_of_le h' (up j)⟩)
        · exact Or.inr (Or.inr (by omega))
  rw [if_neg c2]
  by_cases c3 : M_sign T (T.1 24) = 94
  · rw [if_pos c3]
    right
    have e : wgT T (mi (M_weigh 1 (M_emit 8 0 0 0 T)) 24 (T.1 24 + 1)) 1 := rfl
    have a := DM_wg (T' := mi (M_weigh 1 (M_emit 8 0 0 0 T)) 24 (T.1 24 + 1)) hi (by omega : (0 : Int) ≤ 1) rfl (Int.le_refl _) rfl (by show T.1 24 ≤ T.1 24 + 1 ∧ T.1 24 + 1 ≤ T.1 14; omega) e rfl
    exact ⟨hb, by show T.1 24 < T.1 24 + 1; omega, a⟩
  rw [if_neg c3]
  by_cases c4 : M_sign T (T.1 24) = 36
  · rw [if_pos c4]
    right
    have e : wgT T (mi (M_weigh 1 (M_emit 9 0 0 0 T)) 24 (T.1 24 + 1)) 1 := rfl
    have a := DM_wg (T' := mi (M_weigh 1 (M_emit 9 0 0 0 T)) 24 (T.1 24 + 1)) hi (by omega : (0 : Int) ≤ 1) rfl (Int.le_refl _) rfl (by show T.1 24 ≤ T.1 24 + 1 ∧ T.1 24 + 1 ≤ T.1 14; omega) e rfl
    exact ⟨hb, by show T.1 24 < T.1 24 + 1; omega, a⟩
  rw [if_neg c4]
  by_cases c5 : M_sign T (T.1 24) = 40
  · rw [if_pos c5]
    rcases open_eff hb hl with o | ⟨a0, a1, a2, a3, a4, a5, a6, a7, q, q1, q4, a8⟩
    · exact Or.inl o
    · right
      generalize M_openParenthesis T = T' at *
      have up : ∀ j : Nat, (j : Int) < T.1 32 → T'.2 30 j = T.2 30 j := fun j hj => by rw [a7]; exact zu_ne (by omega)
      refine ⟨a0, by omega, ⟨by omega, by omega, by omega, by omega, fun j hj => ?_, fun j x y => ?_, ?_⟩, fun h => ?_⟩
      · by_cases c : (j : Int) < T.1 32
        · rw [up j c]; exact i5 j c
        · have e : j = (T.1 32).toNat := by omega
          rw [a7, e, zu_eq]
          exact Int.le_refl _
      · by_cases c : (j : Int) < T.1 32
        · rw [a8, zu_ne (show j ≠ (T.1 32).toNat by omega)]; exact i6 j x c
        · have e : j = (T.1 32).toNat := by omega
          rw [a8, e, zu_eq]
          exact q1
      · rw [a8, zu_ne (show 0 ≠ (T.1 32).toNat by omega)]; exact i7
      · rcases h with h | ⟨j, h, h'⟩ | h
        · exact Or.inl (by omega)
        · exact Or.inr (Or.inl ⟨j, by omega, by rw [up j h]; exact h'⟩)
        · exact Or.inr (Or.inr (by omega))
  rw [if_neg c5]
  rcases atom_eff hb hl i4 i2 with o | ⟨a0, a1, a2, a3, a4, a5, ⟨d, a6, a7⟩, a8⟩
  · exact Or.inl o
  · right
    exact ⟨a0, a5.1, DM_wg hi a6 a1 (by omega) a4 ⟨by omega, a5.2⟩ a7 a8⟩
/-- DOOM: what can't be read any more is refused -/
theorem doom_all : ∀ (n : Nat) (T : MSt), DMi T → DM T → (M_readsL n T).1 = 0 := by
  have fin : ∀ (T : MSt), DMi T → DM T → T.1 14 ≤ T.1 24 → T.1 32 = 1 → (if 120 < ((M_closeBody T).2 30 (0 : Int).toNat) then 0 else (if 9 < ((M_closeBody T).1 20) then 0 else (if ((M_closeBody T).1 20) < ((M_closeBody T).1 23) then 0 else 1 : Int) : Int) : Int) = 0 := by
    intro T hi hd hl h1
    obtain ⟨e1, e2, e3⟩ := close_end h1 hi.2.2.2.2.2.2
    rw [e1, e2, show ((0 : Int)).toNat = 0 from rfl]
    rcases hd with h | ⟨j, h, h'⟩ | h
    · by_cases c : 120 < T.2 30 0
      · rw [if_pos c]
      · rw [if_neg c, if_pos h]
    · have : j = 0 := by omega
      subst this
      rw [if_pos h']
    · have := hi.2.2.1
      omega
  intro n
  induction n with
  | zero =>
    intro T hi hd
    rw [M_readsL]
    by_cases c0 : T.1 25 = 0
    · rw [if_pos c0]
      by_cases c1 : T.1 14 ≤ T.1 24
      · rw [if_pos c1]
        by_cases c2 : T.1 32 = 1
        · rw [if_pos c2]; exact fin T hi hd c1 c2
        · rw [if_neg c2]
      · rw [if_neg c1]
    · rw [if_neg c0]
  | succ n ih =>
    intro T hi hd
    by_cases c0 : T.1 25 = 0
    · by_cases c1 : T.1 24 < T.1 14
      · rw [readsL_S c0 c1]
        rcases rd_step hi c0 c1 with h | ⟨h0, -, h2, h3⟩
        · rw [readsL_bad (by omega)]
        · exact ih _ h2 (h3 hd)
      · have c1' : T.1 14 ≤ T.1 24 := by omega
        rw [M_readsL, if_pos c0, if_pos c1']
        by_cases c2 : T.1 32 = 1
        · rw [if_pos c2]; exact fin T hi hd c1' c2
        · rw [if_neg c2]
    · rw [readsL_bad c0]
