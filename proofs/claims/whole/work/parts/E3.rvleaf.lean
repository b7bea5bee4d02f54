/-- the leaf before its count -/
def LFx (T T1 : MSt) : Prop := (T1.1 25 = 0 ∨ T1.1 25 = 1) ∧ (T1.1 25 = 0 → RV0 T1) ∧ T1.1 19 = T.1 19 + 2 ∧ (T.1 24 ≤ T1.1 24 ∧ T1.1 24 ≤ T.1 24 + 400) ∧ T1.1 14 = T.1 14 ∧ T1.2 13 = T.2 13 ∧ T1.1 32 = T.1 32 ∧ T1.2 28 = T.2 28 ∧ T1.2 30 = T.2 30
theorem mark_mi (T : MSt) : ∃ v, (M_mark T).2 = mi T 24 v ∧ T.1 24 ≤ v ∧ v ≤ T.1 24 + 2 := by
  have k0 : ∃ v, T = mi T 24 v ∧ T.1 24 ≤ v ∧ v ≤ T.1 24 + 2 := ⟨T.1 24, (mi_same rfl).symm, by omega, by omega⟩
  have k1 : ∃ v, mi T 24 (T.1 24 + 1) = mi T 24 v ∧ T.1 24 ≤ v ∧ v ≤ T.1 24 + 2 := ⟨T.1 24 + 1, rfl, by omega, by omega⟩
  have k2 : ∃ v, mi (mi T 24 (T.1 24 + 1)) 24 (T.1 24 + 1 + 1) = mi T 24 v ∧ T.1 24 ≤ v ∧ v ≤ T.1 24 + 2 := ⟨T.1 24 + 1 + 1, mi_mi _ _ _ _, by omega, by omega⟩
  unfold M_mark
  by_cases c1 : M_sign T (T.1 24) = 0
  · rw [if_pos c1]; exact k0
  rw [if_neg c1]
  by_cases c2 : M_sign T (T.1 24) = 93
  · rw [if_pos c2]; exact k0
  rw [if_neg c2]
  by_cases c3 : M_sign T (T.1 24) = 92
  · rw [if_pos c3]
    by_cases c4 : (zb (M_isSpecial (M_sign T ((T.1 24) + 1)))) = 0
    · rw [if_pos c4]
      by_cases c5 : M_sign T (T.1 24 + 1) = 47
      · rw [if_pos c5]; exact k2
      rw [if_neg c5]
      by_cases c6 : M_sign T (T.1 24 + 1) = 45
      · rw [if_pos c6]; exact k2
      rw [if_neg c6]; exact k2
    · rw [if_neg c4]; exact k2
  · rw [if_neg c3]; exact k1
theorem mi_4 {T : MSt} {a b c d : Int} : mi (mi (mi (mi T 24 a) 25 b) 24 c) 25 d = mi (mi T 24 c) 25 d := by
  refine Prod.ext ?_ rfl
  funext k
  show (if k = 25 then d else if k = 24 then c else if k = 25 then b else if k = 24 then a else T.1 k) = (if k = 25 then d else if k = 24 then c else T.1 k)
  by_cases h1 : k = 25
  · simp only [if_pos h1]
  · by_cases h2 : k = 24
    · simp only [if_neg h1, if_pos h2]
    · simp only [if_neg h1, if_neg h2]
theorem mi_2424 {T : MSt} {a b c d : Int} : mi (mi (mi (mi (mi T 24 a) 25 b) 24 c) 24 a) 25 d = mi (mi T 24 a) 25 d := by
  rw [mi_mi, mi_4]
theorem setL_fr (nt fr : Int) : ∀ (n : Nat) (al : Int) (T : MSt), (T.1 25 = 0 ∨ T.1 25 = 1) → ∃ v b, (b = 0 ∨ b = 1) ∧ T.1 24 ≤ v ∧ v ≤ T.1 24 + 5 * n ∧ M_setL nt fr n al T = mi (M_emit 6 fr v (if nt = 0 then 0 else 1 : Int) (mi (mi T 24 v) 25 b)) 24 (v + 1) := by
  have eT : ∀ T : MSt, mi (mi T 24 (T.1 24)) 25 (T.1 25) = T := fun T => by
    have e : mi T 24 (T.1 24) = T := mi_same rfl
    rw [e]
    exact mi_same rfl
  intro n
  induction n with
  | zero =>
    intro al T h
    refine ⟨T.1 24, T.1 25, h, Int.le_refl _, by omega, ?_⟩
    rw [eT, M_setL]
  | succ n ih =>
    intro al T h
    have base : ∃ v b, (b = 0 ∨ b = 1) ∧ T.1 24 ≤ v ∧ v ≤ T.1 24 + 5 * ((n + 1 : Nat) : Int) ∧ (mi (M_emit 6 fr (T.1 24) ((if nt = 0 then 0 else 1 : Int)) T) 24 ((T.1 24) + 1)) = mi (M_emit 6 fr v (if nt = 0 then 0 else 1 : Int) (mi (mi T 24 v) 25 b)) 24 (v + 1) := ⟨T.1 24, T.1 25, h, Int.le_refl _, by omega, by rw [eT]⟩
    have rec1 : ∀ (al' b u : Int), (b = 0 ∨ b = 1) → T.1 24 ≤ u → u ≤ T.1 24 + 5 → ∃ v b', (b' = 0 ∨ b' = 1) ∧ T.1 24 ≤ v ∧ v ≤ T.1 24 + 5 * ((n + 1 : Nat) : Int) ∧ M_setL nt fr n al' (mi (mi T 24 u) 25 b) = mi (M_emit 6 fr v (if nt = 0 then 0 else 1 : Int) (mi (mi T 24 v) 25 b')) 24 (v + 1) := fun al' b u hb h1 h2 => by
      obtain ⟨v, b', q1, q2, q3, q4⟩ := ih al' (mi (mi T 24 u) 25 b) hb
      have q2' : u ≤ v := q2
      have q3' : v ≤ u + 5 * n := q3
      refine ⟨v, b', q1, by omega, by omega, ?_⟩
      rw [q4, mi_4]
    rw [M_setL]
    by_cases c0 : T.1 25 = 0
    · rw [if_pos c0]
      by_cases c1 : M_sign T (T.1 24) = 93
      · rw [if_pos c1]; exact base
      rw [if_neg c1]
      obtain ⟨v1, e1, l1, l2⟩ := mark_mi T
      have b1 : (if (M_mark T).1 = 0 then 1 else 0 : Int) = 0 ∨ (if (M_mark T).1 = 0 then 1 else 0 : Int) = 1 := by split <;> omega
      have b3 : ∀ x y : Int, (if x < 0 then 1 else (if y ≤ 0 then 1 else (if x ≤ y then 0 else 1 : Int) : Int) : Int) = 0 ∨ (if x < 0 then 1 else (if y ≤ 0 then 1 else (if x ≤ y then 0 else 1 : Int) : Int) : Int) = 1 := fun x y => by (repeat' split) <;> omega
      rw [e1]
      generalize (M_mark T).1 = mk at *
      have v24 : (mi T 24 v1).1 24 = v1 := rfl
      rw [v24]
      by_cases c2 : (if mk = 0 then 1 else 0 : Int) = 0
      · rw [if_pos c2]
        by_cases c3 : (if al = 0 then 0 else (if (M_sign T (T.1 24)) = 45 then 1 else 0 : Int) : Int) = 0
        · rw [if_pos c3]
          by_cases c4 : M_sign T v1 = 45
          · rw [if_pos c4]
            by_cases c5 : M_sign T (v1 + 1) = 93
            · rw [if_pos c5]
              exact rec1 0 _ v1 b1 l1 (by omega)
            · rw [if_neg c5]
              obtain ⟨v2, e2, l3, l4⟩ := mark_mi (mi (mi (mi T 24 v1) 25 (if mk = 0 then 1 else 0 : Int)) 24 (v1 + 1))
              have l3' : v1 + 1 ≤ v2 := l3
              have l4' : v2 ≤ v1 + 1 + 2 := l4
              rw [e2]
              have e3 : ∀ d : Int, mi (mi (mi (mi (mi T 24 v1) 25 (if mk = 0 then 1 else 0 : Int)) 24 (v1 + 1)) 24 v2) 25 d = mi (mi T 24 v2) 25 d := fun d => by rw [mi_mi, mi_4]
              rw [e3]
              exact rec1 1 _ v2 (b3 _ _) (by omega) (by omega)
          · rw [if_neg c4]
            exact rec1 0 _ v1 b1 l1 (by omega)
        · rw [if_neg c3]
          exact rec1 0 _ v1 b1 l1 (by omega)
      · rw [if_neg c2]
        exact rec1 0 _ v1 b1 l1 (by omega)
    · rw [if_neg c0]; exact base
theorem set_LFx {T : MSt} (hr : RV0 T) (hb : T.1 25 = 0) (h1 : T.1 24 < T.1 14) (cl : T.1 14 ≤ 40) (h0 : 0 ≤ T.1 24) : LFx T (M_set (M_emit 17 0 (T.1 20) 0 T)) := by
  have lf := set_LF (T := M_emit 17 0 (T.1 20) 0 T) hb h1 cl h0
  have hS := RV0_emit (w := 17) (x := 0) (y := T.1 20) (z := 0) hr (Or.inl (by decide))
  have s19 : (M_emit 17 0 (T.1 20) 0 T).1 19 = T.1 19 + 1 := rfl
  have s24 : (M_emit 17 0 (T.1 20) 0 T).1 24 = T.1 24 := rfl
  have s25 : (M_emit 17 0 (T.1 20) 0 T).1 25 = 0 := hb
  have s14 : (M_emit 17 0 (T.1 20) 0 T).1 14 = T.1 14 := rfl
  have s32 : (M_emit 17 0 (T.1 20) 0 T).1 32 = T.1 32 := rfl
  have s13 : (M_emit 17 0 (T.1 20) 0 T).2 13 = T.2 13 := rfl
  have s28 : (M_emit 17 0 (T.1 20) 0 T).2 28 = T.2 28 := rfl
  have s30 : (M_emit 17 0 (T.1 20) 0 T).2 30 = T.2 30 := rfl
  generalize M_emit 17 0 (T.1 20) 0 T = S at *
  unfold M_set at lf ⊢
  have ez : ((if ((if (M_sign S ((S.1 24) + 1)) = 94 then 1 else 0 : Int)) = 0 then 0 else 1 : Int)) = 0 ∨ ((if ((if (M_sign S ((S.1 24) + 1)) = 94 then 1 else 0 : Int)) = 0 then 0 else 1 : Int)) = 1 := by (repeat' split) <;> omega
  generalize ((if ((if (M_sign S ((S.1 24) + 1)) = 94 then 1 else 0 : Int)) = 0 then 0 else 1 : Int)) = ee at *
  generalize (if (M_sign S ((S.1 24) + 1)) = 94 then 1 else 0 : Int) = nt at *
  rw [mi_mi] at lf ⊢
  obtain ⟨v, b, q1, q2, q3, q4⟩ := setL_fr nt (S.1 24 + 1 + ee) 60 1 (mi S 24 (S.1 24 + 1 + ee)) (Or.inl s25)
  have q2' : S.1 24 + 1 + ee ≤ v := q2
  have q3' : v ≤ S.1 24 + 1 + ee + 5 * (60 : Nat) := q3
  rw [q4] at lf ⊢
  rw [mi_mi] at lf ⊢
  refine ⟨q1, fun y => ?_, ?_, ?_, s14, s13, s32, s28, s30⟩
  · have y' : b = 0 := y
    refine RV0_24 (RV0_emit (RV0_25 (RV0_24 hS (by omega))) (Or.inr ?_)) (by show v ≤ v + 1; omega)
    show v < S.1 14
    rcases lf with z | ⟨-, -, -, -, -, z, -⟩
    · have z' : b = 1 := z
      omega
    · have z' : v + 1 ≤ S.1 14 := z.2
      omega
  · show S.1 19 + 1 = _
    omega
  · show T.1 24 ≤ v + 1 ∧ v + 1 ≤ T.1 24 + 400
    omega
theorem esc_LFx {T : MSt} (hr : RV0 T) (hb : T.1 25 = 0) : LFx T (M_escaped (M_emit 17 0 (T.1 20) 0 T)) := by
  have hS := RV0_emit (w := 17) (x := 0) (y := T.1 20) (z := 0) hr (Or.inl (by decide))
  have s19 : (M_emit 17 0 (T.1 20) 0 T).1 19 = T.1 19 + 1 := rfl
  have s24 : (M_emit 17 0 (T.1 20) 0 T).1 24 = T.1 24 := rfl
  have s25 : (M_emit 17 0 (T.1 20) 0 T).1 25 = 0 := hb
  have s14 : (M_emit 17 0 (T.1 20) 0 T).1 14 = T.1 14 := rfl
  have s32 : (M_emit 17 0 (T.1 20) 0 T).1 32 = T.1 32 := rfl
  have s13 : (M_emit 17 0 (T.1 20) 0 T).2 13 = T.2 13 := rfl
  have s28 : (M_emit 17 0 (T.1 20) 0 T).2 28 = T.2 28 := rfl
  have s30 : (M_emit 17 0 (T.1 20) 0 T).2 30 = T.2 30 := rfl
  generalize M_emit 17 0 (T.1 20) 0 T = S at *
  unfold M_escaped
  have b01 : ∀ y : Int, (if (S.1 25) = 0 then (if (zb (M_isSpecial y)) = 0 then (if y = 47 then 0 else 1 : Int) else 0 : Int) else 1 : Int) = 0 ∨ (if (S.1 25) = 0 then (if (zb (M_isSpecial y)) = 0 then (if y = 47 then 0 else 1 : Int) else 0 : Int) else 1 : Int) = 1 := fun y => by (repeat' split) <;> omega
  have ok : ∀ (w x : Int) (b : Int), w ≠ 6 → (b = 0 ∨ b = 1) → LFx T (M_emit w x 0 0 (mi (mi S 24 (S.1 24 + 2)) 25 b)) := fun w x b hw hb' => ⟨hb', fun _ => RV0_emit (RV0_25 (RV0_24 hS (by omega))) (Or.inl hw), by show S.1 19 + 1 = _; omega, by show T.1 24 ≤ S.1 24 + 2 ∧ S.1 24 + 2 ≤ T.1 24 + 400; omega, s14, s13, s32, s28, s30⟩
  by_cases c1 : (zb (M_isClass (M_sign S ((S.1 24) + 1)))) = 0
  · rw [if_pos c1]
    by_cases c2 : (M_sign S ((S.1 24) + 1)) < 49
    · rw [if_pos c2]
      exact ok _ _ _ (by decide) (b01 _)
    · rw [if_neg c2]
      by_cases c3 : 57 < (M_sign S ((S.1 24) + 1))
      · rw [if_pos c3]
        exact ok _ _ _ (by decide) (b01 _)
      · rw [if_neg c3]
        have g := hS.2.2.2.1
        have gg : 0 ≤ (if ((M_sign S ((S.1 24) + 1)) - 48) ≤ (S.1 23) then S.1 23 else (M_sign S ((S.1 24) + 1)) - 48 : Int) ∧ (if ((M_sign S ((S.1 24) + 1)) - 48) ≤ (S.1 23) then S.1 23 else (M_sign S ((S.1 24) + 1)) - 48 : Int) ≤ 9 := by
          by_cases c4 : ((M_sign S ((S.1 24) + 1)) - 48) ≤ (S.1 23)
          · rw [if_pos c4]; exact g
          · rw [if_neg c4]; omega
        exact ⟨Or.inl s25, fun _ => RV0_emit (RV0_23 (RV0_24 hS (by omega)) gg.1 gg.2) (Or.inl (by decide)), by show S.1 19 + 1 = _; omega, by show T.1 24 ≤ S.1 24 + 2 ∧ S.1 24 + 2 ≤ T.1 24 + 400; omega, s14, s13, s32, s28, s30⟩
  · rw [if_neg c1]
    exact ⟨Or.inl s25, fun _ => RV0_emit (RV0_24 hS (by omega)) (Or.inl (by decide)), by show S.1 19 + 1 = _; omega, by show T.1 24 ≤ S.1 24 + 2 ∧ S.1 24 + 2 ≤ T.1 24 + 400; omega, s14, s13, s32, s28, s30⟩
/-- what is to be shown of each turn -/
def VVd (T : MSt) : Prop := (T.1 25 = 0 ∧ RV0 T ∧ T.1 19 ≤ 3 * T.1 24 + 1 ∧ WB (T.2 30) (T.1 32).toNat (T.1 24 + 1).toNat) ∨ (T.1 25 = 1 ∧ BVd T)
theorem AT_V {T T1 : MSt} (h : RV T) (hb : T.1 25 = 0) (lx : LFx T T1) (le : LFe T T1) : VVd (if T1.1 25 = 0 then M_count (T.1 19) 1 T1 else T1) := by
  obtain ⟨hD, h0, hc, hw⟩ := h
  obtain ⟨l1, l2, l3, l4, l5, l6, l7, l8, l9⟩ := lx
  obtain ⟨i1, i2, i3, i4, -⟩ := hD
  have al := CHs_al _ _ h0.2.2.2.2.2.2.1
  by_cases c : T1.1 25 = 0
  · rw [if_pos c]
    have a5 : T.1 24 < T1.1 24 ∧ T1.1 24 ≤ T.1 14 := by
      rcases le with y | ⟨-, -, -, -, -, y, -⟩
      · omega
      · exact y
    obtain ⟨k, hk⟩ : ∃ k : Nat, T.1 32 = (k + 1 : Nat) := ⟨(T.1 32 - 1).toNat, by omega⟩
    rw [show (T.1 32).toNat = k + 1 by omega] at hw al
    refine cntV (k := k) (s := (T1.1 24 + 1).toNat) (l2 c) c ⟨by omega, by omega⟩ (by omega) (by omega) (fun i hi => ?_) h0.2.1 (by omega) (fun d x hd hx => ?_) (by omega) (by omega)
    · rw [l8]
      have := al i (by omega)
      omega
    · rw [l9]
      have q := WB_top (d := d) (s := (T1.1 24 - T.1 24).toNat + x) hw (fun n hn => ?_)
      · rw [show (T.1 24 + 1).toNat + ((T1.1 24 - T.1 24).toNat + x) = (T1.1 24 + 1).toNat + x by omega] at q
        exact q
      · rcases hd with ⟨y, z⟩ | ⟨y, z⟩ | ⟨y, z⟩
        · have g1 := gN_s1 n (by omega)
          have g2 := gN_le (a := n + 1) (b := n + ((T1.1 24 - T.1 24).toNat + x)) (by omega) (by omega)
          omega
        · have g1 := gN_s2 n (by omega)
          have g2 := gN_le (a := n + 2) (b := n + ((T1.1 24 - T.1 24).toNat + x)) (by omega) (by omega)
          omega
        · have g1 := gN_s4 n (by omega)
          have g2 := gN_le (a := n + 4) (b := n + ((T1.1 24 - T.1 24).toNat + x)) (by omega) (by omega)
          omega
  · rw [if_neg c]
    right
    have := h0.2.2.1
    exact ⟨by omega, by omega, by omega, by rw [l6]; exact h0.1, by omega⟩
theorem atom_V {T : MSt} (h : RV T) (hb : T.1 25 = 0) (h1 : T.1 24 < T.1 14) : VVd (M_atom T) := by
  have h0 := h.2.1
  obtain ⟨i1, i2, i3, i4, -⟩ := h.1
  unfold M_atom
  by_cases c1 : M_sign T (T.1 24) = 91
  · rw [if_pos c1]
    exact AT_V h hb (set_LFx h0 hb h1 i4 i2) (LFe_emit (set_LF (T := M_emit 17 0 (T.1 20) 0 T) hb h1 i4 i2))
  rw [if_neg c1]
  by_cases c2 : M_sign T (T.1 24) = 92
  · rw [if_pos c2]
    exact AT_V h hb (esc_LFx h0 hb) (LFe_emit (esc_LF (T := M_emit 17 0 (T.1 20) 0 T) hb))
  rw [if_neg c2]
  have hS := RV0_emit (w := 17) (x := 0) (y := T.1 20) (z := 0) h0 (Or.inl (by decide))
  by_cases c3 : M_sign T (T.1 24) = 46
  · rw [if_pos c3]
    have l : LFe T (mi (M_emit 4 0 0 0 (M_emit 17 0 (T.1 20) 0 T)) 24 (T.1 24 + 1)) := Or.inr ⟨hb, rfl, rfl, rfl, rfl, by show T.1 24 < T.1 24 + 1 ∧ T.1 24 + 1 ≤ T.1 14; omega, rfl, rfl⟩
    have lx : LFx T (mi (M_emit 4 0 0 0 (M_emit 17 0 (T.1 20) 0 T)) 24 (T.1 24 + 1)) := ⟨Or.inl hb, fun _ => RV0_24 (RV0_emit hS (Or.inl (by decide))) (by show T.1 24 ≤ T.1 24 + 1; omega), by show T.1 19 + 1 + 1 = _; omega, by show T.1 24 ≤ T.1 24 + 1 ∧ T.1 24 + 1 ≤ T.1 24 + 400; omega, rfl, rfl, rfl, rfl, rfl⟩
    exact AT_V h hb lx l
  rw [if_neg c3]
  have b01 : (if (T.1 25) = 0 then (if (zb (M_isSpecial (M_sign T (T.1 24)))) = 0 then 0 else 1 : Int) else 1 : Int) = 0 ∨ (if (T.1 25) = 0 then (if (zb (M_isSpecial (M_sign T (T.1 24)))) = 0 then 0 else 1 : Int) else 1 : Int) = 1 := by (repeat' split) <;> omega
  generalize (if (T.1 25) = 0 then (if (zb (M_isSpecial (M_sign T (T.1 24)))) = 0 then 0 else 1 : Int) else 1 : Int) = bd at *
  have l : LFe T (mi (M_emit 3 (M_sign T (T.1 24)) 0 0 (mi (M_emit 17 0 (T.1 20) 0 T) 25 bd)) 24 (T.1 24 + 1)) := by
    rcases b01 with e | e
    · exact Or.inr ⟨e, rfl, rfl, rfl, rfl, by show T.1 24 < T.1 24 + 1 ∧ T.1 24 + 1 ≤ T.1 14; omega, rfl, rfl⟩
    · exact Or.inl e
  have lx : LFx T (mi (M_emit 3 (M_sign T (T.1 24)) 0 0 (mi (M_emit 17 0 (T.1 20) 0 T) 25 bd)) 24 (T.1 24 + 1)) := ⟨b01, fun _ => RV0_24 (RV0_emit (RV0_25 hS) (Or.inl (by decide))) (by show T.1 24 ≤ T.1 24 + 1; omega), by show T.1 19 + 1 + 1 = _; omega, by show T.1 24 ≤ T.1 24 + 1 ∧ T.1 24 + 1 ≤ T.1 24 + 400; omega, rfl, rfl, rfl, rfl, rfl⟩
  exact AT_V h hb lx l
