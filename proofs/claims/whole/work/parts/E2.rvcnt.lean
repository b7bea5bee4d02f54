/-- how often a counted part weighs -/
def tmC (l m : Int) : Int := (if 1 ≤ (if m = 99 then l + 1 else m : Int) then (if m = 99 then l + 1 else m : Int) else 1 : Int)
/-- a count, whole -/
theorem cntX {T : MSt} (a w : Int) (hb : T.1 25 = 0) (hle : T.1 24 ≤ T.1 14) : M_count a w T = M_weigh w T ∨ ∃ (l m z : Int) (U : MSt) (k bd : Int), M_count a w T = CNTT a w l m z U ∧ upAB T U (T.1 24 + k) bd ∧ (bd = 0 ∨ bd = 1) ∧ 1 ≤ k ∧ k ≤ 8 ∧ (bd = 0 → T.1 24 + k ≤ T.1 14 ∧ 1 ≤ tmC l m ∧ (tmC l m ≤ 2 ∨ (3 ≤ k ∧ tmC l m ≤ 10))) := by
  have zz : ∀ (x : Int), ((if x = 63 then 1 else 0 : Int) = 0 ∨ (if x = 63 then 1 else 0 : Int) = 1) := fun x => by split <;> omega
  have zl : ∀ (k : Int), k ≤ T.1 14 → k + (if M_sign T k = 63 then 1 else 0 : Int) ≤ T.1 14 := fun k hk => by
    by_cases c : M_sign T k = 63
    · rw [if_pos c]
      have := sgn_lt (T := T) (k := k) (by omega)
      omega
    · rw [if_neg c]; omega
  have one : ∀ (l m : Int) (s : Int), ¬ M_sign T (T.1 24) = 0 → M_count a w T = CNTT a w l m (if M_sign T (T.1 24 + 1) = 63 then 1 else 0) (mi (mi T 24 (T.1 24 + 1)) 24 (T.1 24 + 1 + (if M_sign T (T.1 24 + 1) = 63 then 1 else 0))) → 1 ≤ tmC l m → tmC l m ≤ 2 → ∃ (l m z : Int) (U : MSt) (k bd : Int), M_count a w T = CNTT a w l m z U ∧ upAB T U (T.1 24 + k) bd ∧ (bd = 0 ∨ bd = 1) ∧ 1 ≤ k ∧ k ≤ 8 ∧ (bd = 0 → T.1 24 + k ≤ T.1 14 ∧ 1 ≤ tmC l m ∧ (tmC l m ≤ 2 ∨ (3 ≤ k ∧ tmC l m ≤ 10))) := fun l m s c e t1 t2 => by
    have u := upAB_24 (T := T) (u := T.1 24 + 1) (v := T.1 24 + 1 + (if M_sign T (T.1 24 + 1) = 63 then 1 else 0))
    have z1 := zz (M_sign T (T.1 24 + 1))
    have z2 := zl (T.1 24 + 1) (by have := sgn_lt c; omega)
    rw [hb, show T.1 24 + 1 + (if M_sign T (T.1 24 + 1) = 63 then 1 else 0 : Int) = T.1 24 + (1 + (if M_sign T (T.1 24 + 1) = 63 then 1 else 0 : Int)) by omega] at u
    rw [show T.1 24 + 1 + (if M_sign T (T.1 24 + 1) = 63 then 1 else 0 : Int) = T.1 24 + (1 + (if M_sign T (T.1 24 + 1) = 63 then 1 else 0 : Int)) by omega] at e
    exact ⟨l, m, _, _, _, 0, e, u, Or.inl rfl, by omega, by omega, fun _ => ⟨by omega, t1, Or.inl t2⟩⟩
  by_cases c42 : M_sign T (T.1 24) = 42
  · exact Or.inr (one 0 99 0 (by omega) (cnt_42 c42 a w) (by decide) (by decide))
  by_cases c43 : M_sign T (T.1 24) = 43
  · exact Or.inr (one 1 99 0 (by omega) (cnt_43 c43 a w) (by decide) (by decide))
  by_cases c63 : M_sign T (T.1 24) = 63
  · exact Or.inr (one 0 1 0 (by omega) (cnt_63 c63 a w) (by decide) (by decide))
  by_cases c123 : M_sign T (T.1 24) = 123
  · right
    have t10 : ∀ l m : Int, l ≤ 9 → (m = 99 ∨ m ≤ 10) → 1 ≤ tmC l m ∧ tmC l m ≤ 10 := fun l m h1 h2 => by
      unfold tmC
      by_cases c9 : m = 99
      · rw [if_pos c9]
        by_cases c1 : 1 ≤ l + 1
        · rw [if_pos c1]; omega
        · rw [if_neg c1]; omega
      · rw [if_neg c9]
        by_cases c1 : 1 ≤ m
        · rw [if_pos c1]; omega
        · rw [if_neg c1]; omega
    by_cases hc : M_sign T (T.1 24 + 2) = 44
    · obtain ⟨U, v1, v2⟩ := cnt_br2 c123 hc a w
      have z1 := zz (M_sign T (T.1 24 + 3 + (if M_isDigit (M_sign T (T.1 24 + 3)) then 1 else 0) + 1))
      have z2 : (if M_isDigit (M_sign T (T.1 24 + 3)) then 1 else 0 : Int) = 0 ∨ (if M_isDigit (M_sign T (T.1 24 + 3)) then 1 else 0 : Int) = 1 := by split <;> omega
      have z3 : (if M_isDigit (M_sign T (T.1 24 + 3)) then M_sign T (T.1 24 + 3) - 48 else 99 : Int) = 99 ∨ (if M_isDigit (M_sign T (T.1 24 + 3)) then M_sign T (T.1 24 + 3) - 48 else 99 : Int) ≤ 10 := by
        by_cases c : M_isDigit (M_sign T (T.1 24 + 3))
        · rw [if_pos c]; right; unfold M_isDigit at c; omega
        · rw [if_neg c]; left; rfl
      generalize (if M_isDigit (M_sign T (T.1 24 + 3)) then M_sign T (T.1 24 + 3) - 48 else 99 : Int) = mm at *
      generalize (if M_isDigit (M_sign T (T.1 24 + 3)) then 1 else 0 : Int) = dd at *
      by_cases cc : T.1 25 = 0 ∧ M_isDigit (M_sign T (T.1 24 + 1)) ∧ M_sign T (T.1 24 + 3 + dd) = 125 ∧ M_sign T (T.1 24 + 1) - 48 ≤ mm
      · rw [if_pos cc] at v2
        have l1 := sgn_lt (T := T) (k := T.1 24 + 3 + dd) (by have := cc.2.2.1; omega)
        have l2 := zl (T.1 24 + 3 + dd + 1) (by omega)
        rw [show T.1 24 + 3 + dd + 1 + (if M_sign T (T.1 24 + 3 + dd + 1) = 63 then 1 else 0 : Int) = T.1 24 + (3 + dd + 1 + (if M_sign T (T.1 24 + 3 + dd + 1) = 63 then 1 else 0 : Int)) by omega] at v2 l2
        have dg := cc.2.1
        unfold M_isDigit at dg
        have t := t10 (M_sign T (T.1 24 + 1) - 48) mm (by omega) z3
        exact ⟨_, _, _, U, _, 0, v1, v2, Or.inl rfl, by omega, by omega, fun _ => ⟨l2, t.1, Or.inr ⟨by omega, t.2⟩⟩⟩
      · rw [if_neg cc] at v2
        rw [show T.1 24 + 3 + dd + 1 + (if M_sign T (T.1 24 + 3 + dd + 1) = 63 then 1 else 0 : Int) = T.1 24 + (3 + dd + 1 + (if M_sign T (T.1 24 + 3 + dd + 1) = 63 then 1 else 0 : Int)) by omega] at v2
        exact ⟨_, _, _, U, _, 1, v1, v2, Or.inr rfl, by omega, by omega, fun y => by omega⟩
    · obtain ⟨U, v1, v2⟩ := cnt_br1 c123 hc a w
      have z1 := zz (M_sign T (T.1 24 + 3))
      by_cases cc : T.1 25 = 0 ∧ M_isDigit (M_sign T (T.1 24 + 1)) ∧ M_sign T (T.1 24 + 2) = 125
      · rw [if_pos cc] at v2
        have l1 := sgn_lt (T := T) (k := T.1 24 + 2) (by have := cc.2.2; omega)
        have l2 := zl (T.1 24 + 3) (by omega)
        rw [show T.1 24 + 3 + (if M_sign T (T.1 24 + 3) = 63 then 1 else 0 : Int) = T.1 24 + (3 + (if M_sign T (T.1 24 + 3) = 63 then 1 else 0 : Int)) by omega] at v2 l2
        have dg := cc.2.1
        unfold M_isDigit at dg
        have t := t10 (M_sign T (T.1 24 + 1) - 48) (M_sign T (T.1 24 + 1) - 48) (by omega) (by omega)
        exact ⟨_, _, _, U, _, 0, v1, v2, Or.inl rfl, by omega, by omega, fun _ => ⟨l2, t.1, Or.inr ⟨by omega, t.2⟩⟩⟩
      · rw [if_neg cc] at v2
        rw [show T.1 24 + 3 + (if M_sign T (T.1 24 + 3) = 63 then 1 else 0 : Int) = T.1 24 + (3 + (if M_sign T (T.1 24 + 3) = 63 then 1 else 0 : Int)) by omega] at v2
        exact ⟨_, _, _, U, _, 1, v1, v2, Or.inr rfl, by omega, by omega, fun y => by omega⟩
  exact Or.inl (cnt_no c123 c42 c43 c63 a w)
/-- what is known of a state that is bad -/
def BVd (T : MSt) : Prop := (0 ≤ T.1 24 ∧ T.1 24 ≤ 1000) ∧ (0 ≤ T.1 14 ∧ T.1 14 ≤ 40) ∧ (∀ j, 0 ≤ T.2 13 j ∧ T.2 13 j ≤ 126) ∧ (-1000 ≤ T.1 32 ∧ T.1 32 ≤ 1000)
/-- behind a leaf or a closed body: its count. T1 = before the count, at the parent's level -/
theorem cntV {T1 : MSt} {a w : Int} {k s : Nat} (hr : RV0 T1) (hb : T1.1 25 = 0) (h24 : 0 ≤ T1.1 24 ∧ T1.1 24 ≤ T1.1 14) (h14 : T1.1 14 ≤ 40) (h32 : T1.1 32 = (k + 1 : Nat)) (ha : ∀ i : Nat, (i : Int) < T1.1 32 → T1.2 28 i ≤ a) (h0 : 0 ≤ a) (hc' : T1.1 19 ≤ 3 * T1.1 24 + 1) (w0 : ∀ (d : Int) (x : Nat), (x = 0 ∧ d = w) ∨ (1 ≤ x ∧ d ≤ w * 2 + 2) ∨ (3 ≤ x ∧ d ≤ w * 10 + 2) → s + x ≤ 41 → WB (zu (T1.2 30) k (T1.2 30 k + d)) (k + 1) (s + x)) (hs : (s : Int) = T1.1 24 + 1) (ww : 0 ≤ w) :
    ((M_count a w T1).1 25 = 0 ∧ RV0 (M_count a w T1) ∧ (M_count a w T1).1 19 ≤ 3 * (M_count a w T1).1 24 + 1 ∧ WB ((M_count a w T1).2 30) ((M_count a w T1).1 32).toNat ((M_count a w T1).1 24 + 1).toNat) ∨ ((M_count a w T1).1 25 = 1 ∧ BVd (M_count a w T1)) := by
  have kt : (T1.1 32 - 1).toNat = k := by omega
  have kk : (T1.1 32).toNat = k + 1 := by omega
  rcases cntX a w hb h24.2 with e | ⟨l, m, z, U, x, bd, e, hu, hbd, x1, x8, hx⟩
  · rw [e]
    left
    refine ⟨hb, RV0_weigh hr, hc', ?_⟩
    show WB (zu (T1.2 30) (T1.1 32 - 1).toNat (T1.2 30 (T1.1 32 - 1).toNat + w)) (T1.1 32).toNat (T1.1 24 + 1).toNat
    rw [kt, kk, show (T1.1 24 + 1).toNat = s + 0 by omega]
    exact w0 w 0 (Or.inl ⟨rfl, rfl⟩) (by omega)
  · rw [e]
    have u1 := hu.1
    have u2 := hu.2.1
    have u19 := hu.2.2.1 19 (by decide) (by decide)
    have u32 := hu.2.2.1 32 (by decide) (by decide)
    have u14 := hu.2.2.1 14 (by decide) (by decide)
    have e24 : (CNTT a w l m z U).1 24 = T1.1 24 + x := u1
    have e25 : (CNTT a w l m z U).1 25 = bd := u2
    have e32 : (CNTT a w l m z U).1 32 = T1.1 32 := u32
    have e14 : (CNTT a w l m z U).1 14 = T1.1 14 := u14
    have e19 : (CNTT a w l m z U).1 19 = T1.1 19 + 1 := by show U.1 19 + 1 = _; rw [u19]
    have e13 : (CNTT a w l m z U).2 13 = T1.2 13 := by show U.2 13 = _; rw [hu.2.2.2]
    have e30 : (CNTT a w l m z U).2 30 = zu (T1.2 30) k (T1.2 30 k + (w * tmC l m + 2)) := by
      show zu (U.2 30) (U.1 32 - 1).toNat (U.2 30 (U.1 32 - 1).toNat + (w * tmC l m + 2)) = _
      rw [hu.2.2.2, u32, kt]
    rcases hbd with h | h
    · left
      obtain ⟨y1, y2, y3⟩ := hx h
      refine ⟨by rw [e25, h], RV0_cntt hu hr (by omega) ha h0, by rw [e19, e24]; omega, ?_⟩
      rw [e30, e32, e24, kk, show (T1.1 24 + x + 1).toNat = s + x.toNat by omega]
      refine w0 _ x.toNat (Or.inr ?_) (by omega)
      rcases y3 with y | y
      · left
        have := mul_le_r ww y
        exact ⟨by omega, by omega⟩
      · right
        have := mul_le_r ww y.2
        exact ⟨by omega, by omega⟩
    · right
      refine ⟨by rw [e25, h], by rw [e24]; omega, by rw [e14]; omega, by rw [e13]; exact hr.1, by rw [e32]; have := hr.2.2.1; omega⟩
