/-- what an order of the reader leaves alone: all but codes, loops, at, bad; and all rows but the code's and the weights -/
def frC (T T' : MSt) : Prop := (∀ k, k ≠ 19 → k ≠ 21 → k ≠ 24 → k ≠ 25 → T'.1 k = T.1 k) ∧ (∀ k, k < 15 ∨ (18 < k ∧ k ≠ 30) → T'.2 k = T.2 k)
theorem frC_refl (T : MSt) : frC T T := ⟨fun _ _ _ _ _ => rfl, fun _ _ => rfl⟩
theorem frC_trans {T T1 T2 : MSt} (h : frC T T1) (h' : frC T1 T2) : frC T T2 := ⟨fun k a b c d => (h'.1 k a b c d).trans (h.1 k a b c d), fun k a => (h'.2 k a).trans (h.2 k a)⟩
theorem frC_mi {T : MSt} {k : Nat} {v : Int} (h : k = 19 ∨ k = 21 ∨ k = 24 ∨ k = 25) : frC T (mi T k v) := ⟨fun j _ _ _ _ => if_neg (by omega), fun _ _ => rfl⟩
theorem frC_ma {T : MSt} {k i : Nat} {v : Int} (h : (15 ≤ k ∧ k ≤ 18) ∨ k = 30) : frC T (ma T k i v) := ⟨fun _ _ _ _ _ => rfl, fun j hj => if_neg (by omega)⟩
theorem frC_emit {T : MSt} {w x y z : Int} : frC T (M_emit w x y z T) := frC_trans (frC_trans (frC_trans (frC_trans (frC_ma (by omega)) (frC_ma (by omega))) (frC_ma (by omega))) (frC_ma (by omega))) (frC_mi (by omega))
theorem frC_weigh {T : MSt} {w : Int} : frC T (M_weigh w T) := frC_ma (by omega)
theorem frC_cntt {a w l m z : Int} {U : MSt} : frC U (CNTT a w l m z U) := frC_trans (frC_trans (frC_trans (frC_trans (frC_trans (frC_trans frC_weigh (frC_ma (by omega))) (frC_ma (by omega))) (frC_ma (by omega))) (frC_ma (by omega))) frC_emit) (frC_mi (by omega))
theorem frC_upAB {T U : MSt} {a b : Int} (h : upAB T U a b) : frC T U := ⟨fun k _ _ c d => h.2.2.1 k c d, fun k _ => by rw [h.2.2.2]⟩
/-- the top body's weight has grown by d -/
def wgT (T T' : MSt) (d : Int) : Prop := T'.2 30 = zu (T.2 30) (T.1 32 - 1).toNat (T.2 30 (T.1 32 - 1).toNat + d)
theorem wg_0 {T T' : MSt} (h : T'.2 30 = T.2 30) : wgT T T' 0 := by
  unfold wgT
  rw [h]
  funext j
  unfold zu
  split
  · rename_i e; rw [e]; omega
  · rfl
theorem wg_weigh {T : MSt} {w : Int} : wgT T (M_weigh w T) w := rfl
theorem wg_cntt {a w l m z : Int} {U : MSt} : wgT U (CNTT a w l m z U) (w * (if 1 ≤ (if m = 99 then l + 1 else m : Int) then (if m = 99 then l + 1 else m : Int) else 1 : Int) + 2) := rfl
theorem sgn_lt {T : MSt} {k : Int} (h : ¬ M_sign T k = 0) : k < T.1 14 := Int.lt_of_not_ge (fun y => h (by unfold M_sign; rw [if_pos y]))
/-- what a count does to the reference -/
theorem cnt_eff {T : MSt} {a w : Int} (hw : 0 ≤ w) (hb : T.1 25 = 0) (hle : T.1 24 ≤ T.1 14) : frC T (M_count a w T) ∧ ((M_count a w T).1 25 = 1 ∨ ((M_count a w T).1 25 = 0 ∧ (T.1 24 ≤ (M_count a w T).1 24 ∧ (M_count a w T).1 24 ≤ T.1 14) ∧ ∃ d, w ≤ d ∧ wgT T (M_count a w T) d)) := by
  have key : ∀ (l m z at' : Int) (U : MSt), M_count a w T = CNTT a w l m z U → (T.1 24 ≤ at' ∧ at' ≤ T.1 14) → upAB T U at' 0 → frC T (M_count a w T) ∧ ((M_count a w T).1 25 = 1 ∨ ((M_count a w T).1 25 = 0 ∧ (T.1 24 ≤ (M_count a w T).1 24 ∧ (M_count a w T).1 24 ≤ T.1 14) ∧ ∃ d, w ≤ d ∧ wgT T (M_count a w T) d)) := by
    intro l m z at' U e hat hu
    rw [e]
    refine ⟨frC_trans (frC_upAB hu) frC_cntt, Or.inr ⟨hu.2.1, by rw [show (CNTT a w l m z U).1 24 = U.1 24 from rfl, hu.1]; exact hat, w * (if 1 ≤ (if m = 99 then l + 1 else m : Int) then (if m = 99 then l + 1 else m : Int) else 1 : Int) + 2, ?_, ?_⟩⟩
    · have t1 : 1 ≤ (if 1 ≤ (if m = 99 then l + 1 else m : Int) then (if m = 99 then l + 1 else m : Int) else 1 : Int) := by
        by_cases c : 1 ≤ (if m = 99 then l + 1 else m : Int)
        · rw [if_pos c]; exact c
        · rw [if_neg c]; exact Int.le_refl _
      have := mul_le_r hw t1
      omega
    · have g := wg_cntt (a := a) (w := w) (l := l) (m := m) (z := z) (U := U)
      unfold wgT at g ⊢
      rw [hu.2.2.2, hu.2.2.1 32 (by decide) (by decide)] at g
      exact g
  have zz : ∀ (x : Int), ((if x = 63 then 1 else 0 : Int) = 0 ∨ (if x = 63 then 1 else 0 : Int) = 1) := fun x => by split <;> omega
  have zl : ∀ (k : Int), k ≤ T.1 14 → k + (if M_sign T k = 63 then 1 else 0 : Int) ≤ T.1 14 := fun k hk => by
    by_cases c : M_sign T k = 63
    · rw [if_pos c]
      have := sgn_lt (T := T) (k := k) (by omega)
      omega
    · rw [if_neg c]; omega
  have bad1 : ∀ (l m z : Int) (U : MSt), M_count a w T = CNTT a w l m z U → frC T U → U.1 25 = 1 → frC T (M_count a w T) ∧ ((M_count a w T).1 25 = 1 ∨ ((M_count a w T).1 25 = 0 ∧ (T.1 24 ≤ (M_count a w T).1 24 ∧ (M_count a w T).1 24 ≤ T.1 14) ∧ ∃ d, w ≤ d ∧ wgT T (M_count a w T) d)) := fun l m z U e hf h1 => by
    rw [e]
    exact ⟨frC_trans hf frC_cntt, Or.inl h1⟩
  by_cases c42 : M_sign T (T.1 24) = 42
  · have u := upAB_24 (T := T) (u := T.1 24 + 1) (v := T.1 24 + 1 + (if M_sign T (T.1 24 + 1) = 63 then 1 else 0))
    rw [hb] at u
    exact key _ _ _ _ _ (cnt_42 c42 a w) ⟨by have := zz (M_sign T (T.1 24 + 1)); omega, zl (T.1 24 + 1) (by have := sgn_lt (T := T) (k := T.1 24) (by omega); omega)⟩ u
  by_cases c43 : M_sign T (T.1 24) = 43
  · have u := upAB_24 (T := T) (u := T.1 24 + 1) (v := T.1 24 + 1 + (if M_sign T (T.1 24 + 1) = 63 then 1 else 0))
    rw [hb] at u
    exact key _ _ _ _ _ (cnt_43 c43 a w) ⟨by have := zz (M_sign T (T.1 24 + 1)); omega, zl (T.1 24 + 1) (by have := sgn_lt (T := T) (k := T.1 24) (by omega); omega)⟩ u
  by_cases c63 : M_sign T (T.1 24) = 63
  · have u := upAB_24 (T := T) (u := T.1 24 + 1) (v := T.1 24 + 1 + (if M_sign T (T.1 24 + 1) = 63 then 1 else 0))
    rw [hb] at u
    exact key _ _ _ _ _ (cnt_63 c63 a w) ⟨by have := zz (M_sign T (T.1 24 + 1)); omega, zl (T.1 24 + 1) (by have := sgn_lt (T := T) (k := T.1 24) (by omega); omega)⟩ u
  by_cases c123 : M_sign T (T.1 24) = 123
  · by_cases hc : M_sign T (T.1 24 + 2) = 44
    · obtain ⟨U, v1, v2⟩ := cnt_br2 c123 hc a w
      have hf := frC_upAB v2
      have z1 := zz (M_sign T (T.1 24 + 3 + (if M_isDigit (M_sign T (T.1 24 + 3)) then 1 else 0) + 1))
      have z2 : (if M_isDigit (M_sign T (T.1 24 + 3)) then 1 else 0 : Int) = 0 ∨ (if M_isDigit (M_sign T (T.1 24 + 3)) then 1 else 0 : Int) = 1 := by split <;> omega
      by_cases cc : T.1 25 = 0 ∧ M_isDigit (M_sign T (T.1 24 + 1)) ∧ M_sign T (T.1 24 + 3 + (if M_isDigit (M_sign T (T.1 24 + 3)) then 1 else 0)) = 125 ∧ M_sign T (T.1 24 + 1) - 48 ≤ (if M_isDigit (M_sign T (T.1 24 + 3)) then M_sign T (T.1 24 + 3) - 48 else 99)
      · rw [if_pos (c := T.1 25 = 0 ∧ M_isDigit (M_sign T (T.1 24 + 1)) ∧ M_sign T (T.1 24 + 3 + (if M_isDigit (M_sign T (T.1 24 + 3)) then 1 else 0)) = 125 ∧ M_sign T (T.1 24 + 1) - 48 ≤ (if M_isDigit (M_sign T (T.1 24 + 3)) then M_sign T (T.1 24 + 3) - 48 else 99)) cc] at v2
        exact key _ _ _ _ _ v1 ⟨by omega, zl _ (by have := sgn_lt (T := T) (k := T.1 24 + 3 + (if M_isDigit (M_sign T (T.1 24 + 3)) then 1 else 0)) (by have := cc.2.2.1; omega); omega)⟩ v2
      · rw [if_neg (c := T.1 25 = 0 ∧ M_isDigit (M_sign T (T.1 24 + 1)) ∧ M_sign T (T.1 24 + 3 + (if M_isDigit (M_sign T (T.1 24 + 3)) then 1 else 0)) = 125 ∧ M_sign T (T.1 24 + 1) - 48 ≤ (if M_isDigit (M_sign T (T.1 24 + 3)) then M_sign T (T.1 24 + 3) - 48 else 99)) cc] at v2
        exact bad1 _ _ _ _ v1 hf v2.2.1
    · obtain ⟨U, v1, v2⟩ := cnt_br1 c123 hc a w
      have hf := frC_upAB v2
      have z1 := zz (M_sign T (T.1 24 + 3))
      by_cases cc : T.1 25 = 0 ∧ M_isDigit (M_sign T (T.1 24 + 1)) ∧ M_sign T (T.1 24 + 2) = 125
      · rw [if_pos (c := T.1 25 = 0 ∧ M_isDigit (M_sign T (T.1 24 + 1)) ∧ M_sign T (T.1 24 + 2) = 125) cc] at v2
        exact key _ _ _ _ _ v1 ⟨by omega, zl _ (by have := sgn_lt (T := T) (k := T.1 24 + 2) (by have := cc.2.2; omega); omega)⟩ v2
      · rw [if_neg (c := T.1 25 = 0 ∧ M_isDigit (M_sign T (T.1 24 + 1)) ∧ M_sign T (T.1 24 + 2) = 125) cc] at v2
        exact bad1 _ _ _ _ v1 hf v2.2.1
  rw [cnt_no c123 c42 c43 c63]
  exact ⟨frC_weigh, Or.inr ⟨hb, ⟨Int.le_refl _, hle⟩, w, Int.le_refl _, wg_weigh⟩⟩
/-- the end of a body, once its jumps are aimed -/
def closeF (t : Int) (T : MSt) : MSt := (if (T.2 26 t.toNat) = 0 then (mi T 32 ((T.1 32) - 1)) else (if (T.2 26 t.toNat) = 1 then (M_count (T.2 31 t.toNat) ((T.2 30 t.toNat) + 1) (M_emit 11 (T.2 27 t.toNat) 0 0 (mi T 32 ((T.1 32) - 1)))) else (if (T.2 26 t.toNat) ≤ 2 then (M_count (T.2 31 t.toNat) ((T.2 30 t.toNat) + 1) (mi T 32 ((T.1 32) - 1))) else (M_weigh ((T.2 30 t.toNat) + 1) (M_emit 13 (T.2 31 t.toNat) (T.2 16 (T.2 31 t.toNat).toNat) (T.2 18 (T.2 31 t.toNat).toNat) (ma (mi T 32 ((T.1 32) - 1)) 17 (T.2 31 t.toNat).toNat (T.1 19)))))))
/-- n jumps of a chain aimed at the next place -/
def aimN : Nat → Int → MSt → MSt
  | 0, _, T => T
  | n + 1, go, T => if go < 0 then T else aimN n (T.2 16 go.toNat) (ma T 16 go.toNat (T.1 19))
theorem closeL_F (t : Int) : ∀ (n : Nat) (go : Int) (T : MSt), M_closeL t n go T = closeF t (aimN n go T)
  | 0, go, T => by rw [M_closeL, aimN]; rfl
  | n + 1, go, T => by
    rw [M_closeL, aimN]
    by_cases c : go < 0
    · rw [if_pos c, if_pos c]; rfl
    · rw [if_neg c, if_neg c]
      exact closeL_F t n _ _
theorem aimN_1 : ∀ (n : Nat) (go : Int) (T : MSt), (aimN n go T).1 = T.1 ∧ ∀ k, k ≠ 16 → (aimN n go T).2 k = T.2 k
  | 0, _, _ => ⟨rfl, fun _ _ => rfl⟩
  | n + 1, go, T => by
    rw [aimN]
    split
    · exact ⟨rfl, fun _ _ => rfl⟩
    · obtain ⟨a, b⟩ := aimN_1 n (T.2 16 go.toNat) (ma T 16 go.toNat (T.1 19))
      exact ⟨a, fun k hk => (b k hk).trans (if_neg hk)⟩
