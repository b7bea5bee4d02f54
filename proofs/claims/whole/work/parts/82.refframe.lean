/-- what trying leaves alone -/
def frM (T T' : MSt) : Prop := (∀ k, (k < 35 ∨ k = 36 ∨ 41 < k) → T'.1 k = T.1 k) ∧ (∀ k, (k < 33 ∨ k = 35 ∨ 36 < k) → T'.2 k = T.2 k)
theorem frM_refl (T : MSt) : frM T T := ⟨fun _ _ => rfl, fun _ _ => rfl⟩
theorem frM_trans {T T1 T2 : MSt} (h : frM T T1) (h' : frM T1 T2) : frM T T2 := ⟨fun k a => (h'.1 k a).trans (h.1 k a), fun k a => (h'.2 k a).trans (h.2 k a)⟩
theorem frM_mi (T : MSt) (k : Nat) (v : Int) (h : 35 ≤ k ∧ k ≤ 41 ∧ k ≠ 36) : frM T (mi T k v) := ⟨fun j hj => if_neg (by omega), fun _ _ => rfl⟩
theorem frM_ma (T : MSt) (k i : Nat) (v : Int) (h : k = 33 ∨ k = 34 ∨ k = 36) : frM T (ma T k i v) := ⟨fun _ _ => rfl, fun j hj => if_neg (by omega)⟩
theorem frM_step (T : MSt) : frM T (M_step T) := frM_trans (frM_mi T 41 _ (by omega)) (frM_mi _ 40 _ (by omega))
theorem frM_put (r v : Int) (T : MSt) : frM T (M_put r v T) := by
  unfold M_put
  split
  · exact frM_refl T
  · exact frM_trans (frM_trans (frM_ma T 34 _ _ (by omega)) (frM_mi _ 35 _ (by omega))) (frM_ma _ 33 _ _ (by omega))
theorem frM_choose (r v : Int) (T : MSt) : frM T (M_choose r v T) := frM_trans (frM_ma T 36 _ _ (by omega)) (frM_mi _ 37 _ (by omega))
theorem frM_looked (k : Int) (T : MSt) : frM T (M_looked k T) := frM_trans (frM_mi T 38 _ (by omega)) (frM_mi _ 37 _ (by omega))
theorem frM_clr : ∀ (n : Nat) (g : Int) (T : MSt), frM T (M_clr n g T)
  | 0, _, T => frM_refl T
  | n + 1, g, T => frM_trans (frM_trans (frM_put g (-1) T) (frM_put (10 + g) (-1) _)) (frM_clr n (g + 1) _)
theorem frM_pass (k : Int) (T : MSt) : frM T (M_pass k T) := frM_trans (frM_trans (frM_trans (frM_put _ _ T) (frM_put _ _ _)) (frM_clr _ _ _)) (frM_mi _ 39 _ (by omega))
theorem frM_undoL : ∀ (n : Nat) (T : MSt), frM T (M_undoL n T)
  | 0, T => frM_refl T
  | n + 1, T => frM_trans (frM_trans (frM_mi T 35 _ (by omega)) (frM_ma _ 33 _ _ (by omega))) (frM_undoL n _)
theorem frM_undo (m : Int) (T : MSt) : frM T (M_undo m T) := frM_undoL _ T
theorem frM_decide (k : Int) (T : MSt) : frM T (M_decide k T) := by
  have h1 := frM_trans (frM_choose 0 (T.2 10 k.toNat / 4096 + 1) T) (frM_pass k _)
  have h2 := frM_trans (frM_choose 1 k T) (frM_mi _ 39 (T.2 10 k.toNat / 4096 + 1) (by omega))
  have h3 := frM_mi T 39 (T.2 10 k.toNat / 4096 + 1) (by omega)
  have h4 := frM_pass k T
  unfold M_decide
  (repeat' split) <;> assumption
theorem frM_same (g : Int) (T : MSt) : frM T (M_isSame g T).2 := by
  unfold M_isSame
  split
  · split
    · rcases M_isSameL_by g (T.2 33 g.toNat) (T.2 33 (10 + g).toNat - T.2 33 g.toNat) T (T.2 33 (10 + g).toNat - T.2 33 g.toNat).toNat 1 0 (Or.inr rfl) with e | e <;> rw [e]
      · exact frM_refl T
      · exact frM_mi T 38 _ (by omega)
    · exact frM_refl T
  · exact frM_refl T
theorem frM_one (k : Int) (T : MSt) : frM T (M_one k T).2 := by
  unfold M_one
  split
  · exact frM_step T
  · exact frM_trans (frM_step T) (frM_mi _ 38 _ (by omega))
theorem frM_if {c : Prop} [Decidable c] {T : MSt} {a b : Int × MSt} (h1 : frM T a.2) (h2 : frM T b.2) : frM T (if c then a else b).2 := by
  by_cases h : c
  · rw [if_pos h]; exact h1
  · rw [if_neg h]; exact h2
theorem frM_order (T : MSt) : frM T (M_order T).2 := by
  have h0 := frM_mi T 39 (T.1 39 + 1) (by omega)
  have hs := frM_trans h0 (frM_step _)
  have ho := frM_trans h0 (frM_one (T.1 39) _)
  unfold M_order
  refine frM_if (frM_if hs (frM_trans hs (frM_choose _ _ _))) ?_
  refine frM_if (frM_trans h0 (frM_mi _ 39 _ (by omega))) ?_
  refine frM_if ho (frM_if ho (frM_if ho (frM_if ho ?_)))
  refine frM_if (frM_trans hs (frM_same _ _)) ?_
  refine frM_if h0 (frM_if h0 ?_)
  refine frM_if (frM_trans h0 (frM_put _ _ _)) ?_
  refine frM_if (frM_trans (frM_trans h0 (frM_put _ _ _)) (frM_put _ _ _)) ?_
  refine frM_if (frM_trans (frM_trans h0 (frM_ma _ 33 _ _ (by omega))) (frM_choose _ _ _)) ?_
  refine frM_if (frM_trans h0 (frM_looked _ _)) ?_
  refine frM_if (frM_trans (frM_trans h0 (frM_put _ _ _)) (frM_decide _ _)) ?_
  refine frM_if (frM_if (frM_trans h0 (frM_decide _ _)) h0) ?_
  exact frM_if ho (frM_if h0 ho)
theorem frM_backL : ∀ (n : Nat) (T : MSt), frM T (M_goBackL n T).2
  | 0, T => frM_refl T
  | n + 1, T => by
    have hu : frM T (UnT T) := frM_trans (frM_trans (frM_mi T 37 _ (by omega)) (frM_mi _ 38 _ (by omega))) (frM_undo _ _)
    rw [M_goBackL]
    split
    · exact frM_refl T
    · split
      · exact frM_trans hu (frM_mi _ 39 _ (by omega))
      · split
        · exact frM_trans hu (frM_pass _ _)
        · split
          · exact frM_trans hu (frM_mi _ 39 _ (by omega))
          · exact frM_trans hu (frM_backL n _)
theorem frM_runL (pp : Int) : ∀ (n : Nat) (T : MSt), frM T (M_runL pp n T).2
  | 0, T => by
    rw [M_runL]
    (repeat' split) <;> exact frM_refl T
  | n + 1, T => by
    rw [M_runL]
    have ho := frM_order T
    have hb := frM_trans ho (frM_backL ((M_order T).2.1 37).toNat (M_order T).2)
    split
    · exact frM_refl T
    · split
      · split
        · split
          · exact hb
          · exact frM_trans hb (frM_runL pp n _)
        · exact frM_trans ho (frM_runL pp n _)
      · exact frM_refl T
theorem frM_reset (pp : Int) : ∀ (n : Nat) (r : Int) (T : MSt), frM T (M_resetL pp n r T)
  | 0, _, T => frM_refl T
  | n + 1, r, T => frM_trans (frM_ma T 33 _ _ (by omega)) (frM_reset pp n (r + 1) _)
theorem frM_triesS (pp : Int) (T : MSt) : frM T (M_triesS pp T) := frM_trans (frM_trans (frM_trans (frM_trans (frM_reset pp 180 0 T) (frM_mi _ 35 _ (by omega))) (frM_mi _ 37 _ (by omega))) (frM_mi _ 38 _ (by omega))) (frM_mi _ 39 _ (by omega))
theorem frM_tries (pp : Int) (T : MSt) : frM T (M_tries pp T).2 := frM_trans (frM_triesS pp T) (frM_runL pp 1000000 _)
theorem frM_searchL (fr : Int) : ∀ (n : Nat) (pl : Int) (T : MSt), frM T (M_searchL fr n pl T).2
  | 0, _, T => frM_refl T
  | n + 1, pl, T => by
    rw [M_searchL]
    split
    · exact frM_refl T
    · split
      · split
        · split
          · exact frM_trans (frM_tries pl T) (frM_searchL fr n (pl + 1) _)
          · exact frM_tries pl T
        · exact frM_tries pl T
      · exact frM_refl T
theorem frM_search (fr : Int) (T : MSt) : frM T (M_search fr T).2 := frM_trans (frM_trans (frM_mi T 40 0 (by omega)) (frM_mi _ 41 0 (by omega))) (frM_searchL fr 25 fr _)
