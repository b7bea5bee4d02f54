/-- the class's changes, in pairs -/
def eC (S : CSt) (i : Nat) : Nat × Int := ((S.1 37 (2 * i)).toNat, S.1 37 (2 * i + 1))
def sC (S : CSt) (j : Nat) : Nat → Int := und (eC S) j (S.1 11 4 / 2).toNat (S.1 35)
/-- c changes are kept, and each is of a mark -/
def cX (c : Nat) (S : CSt) : Prop := S.1 11 4 = 2 * (c : Nat) ∧ (2 * c ≤ S.2.2.2 37 ∧ 2 ≤ S.2.2.2 37) ∧ ∀ i, i < c → 0 ≤ S.1 37 (2 * i) ∧ S.1 37 (2 * i) < 90
theorem sC_def {c : Nat} {S : CSt} (h : cX c S) (j : Nat) : sC S j = und (eC S) j c (S.1 35) := by
  unfold sC
  rw [h.1, show ((2 * (c : Nat) : Int) / 2).toNat = c by omega]
theorem sC_top {c j : Nat} {S : CSt} (h : cX c S) (hj : c ≤ j) : sC S j = S.1 35 := by
  rw [sC_def h, und_top _ _ hj]
theorem K1_set_s {c : Nat} {i v : Int} {S : CSt} (h : cX c S) (h0 : 0 ≤ i) (h1 : i < 90) :
    (K1_set i v S).2.2.1 35 = zu (S.1 35) i.toNat v ∧ (cX (if S.1 35 i.toNat = v then c else c + 1) (K1_set i v S).2.2) ∧ (∀ j, j ≤ c → sC (K1_set i v S).2.2 j = sC S j) := by
  obtain ⟨hu, hL, hI⟩ := h
  have hX : cX c S := ⟨hu, hL, hI⟩
  by_cases hv : S.1 35 i.toNat = v
  · have e : K1_set i v S = (0, 0, S) := by
      unfold K1_set
      rw [if_neg (by omega), if_neg (by omega), if_pos hv]
    rw [e, if_pos hv]
    refine ⟨?_, hX, fun _ _ => rfl⟩
    show S.1 35 = _
    funext x
    unfold zu
    split
    · rename_i hx; rw [hx]; exact hv
    · rfl
  · rw [if_neg hv]
    have key : ∀ G : CSt, (G.1 35 = S.1 35) → (∀ x, x < 2 * c → G.1 37 x = S.1 37 x) → (2 * c + 2 ≤ G.2.2.2 37) → K1_set i v S = (0, 0, (ci (ci (ci (ci G 37 (S.1 11 4).toNat i) 37 ((S.1 11 4) + 1).toNat (S.1 35 i.toNat)) 11 4 ((S.1 11 4) + 2)) 35 i.toNat v)) → ((K1_set i v S).2.2.1 35 = zu (S.1 35) i.toNat v ∧ (cX (c + 1) (K1_set i v S).2.2) ∧ (∀ j, j ≤ c → sC (K1_set i v S).2.2 j = sC S j)) := by
      intro G g35 g37 gL e
      rw [e]
      have t1 : (S.1 11 4).toNat = 2 * c := by omega
      have t2 : (S.1 11 4 + 1).toNat = 2 * c + 1 := by omega
      rw [t1, t2]
      have w35 : (ci (ci (ci (ci G 37 (2 * c) i) 37 (2 * c + 1) (S.1 35 i.toNat)) 11 4 ((S.1 11 4) + 2)) 35 i.toNat v).1 35 = zu (S.1 35) i.toNat v := by
        rw [ci_eq, ci_ne (by decide), ci_ne (by decide), ci_ne (by decide), g35]
      have w37 : (ci (ci (ci (ci G 37 (2 * c) i) 37 (2 * c + 1) (S.1 35 i.toNat)) 11 4 ((S.1 11 4) + 2)) 35 i.toNat v).1 37 = zu (zu (G.1 37) (2 * c) i) (2 * c + 1) (S.1 35 i.toNat) := by
        rw [ci_ne (by decide), ci_ne (by decide), ci_eq, ci_eq]
      have w4 : (ci (ci (ci (ci G 37 (2 * c) i) 37 (2 * c + 1) (S.1 35 i.toNat)) 11 4 ((S.1 11 4) + 2)) 35 i.toNat v).1 11 4 = 2 * ((c + 1 : Nat) : Int) := by
        rw [ci_ne (by decide), ci_eq, zu_eq]; omega
      have wL : (ci (ci (ci (ci G 37 (2 * c) i) 37 (2 * c + 1) (S.1 35 i.toNat)) 11 4 ((S.1 11 4) + 2)) 35 i.toNat v).2 = G.2 := rfl
      generalize (ci (ci (ci (ci G 37 (2 * c) i) 37 (2 * c + 1) (S.1 35 i.toNat)) 11 4 ((S.1 11 4) + 2)) 35 i.toNat v) = S' at *
      have hX' : cX (c + 1) S' := by
        refine ⟨w4, by rw [wL]; exact ⟨by omega, by omega⟩, fun x hx => ?_⟩
        rw [w37]
        by_cases hxc : x = c
        · subst hxc
          rw [zu_ne (by omega), zu_eq]
          exact ⟨h0, h1⟩
        · rw [zu_ne (by omega), zu_ne (by omega), g37 _ (by omega)]
          exact hI x (by omega)
      refine ⟨w35, hX', fun j hj => ?_⟩
      rw [sC_def hX' j, sC_def hX j]
      show und (eC S') j (c + 1) (S'.1 35) = _
      rw [w35]
      refine und_push hj ?_ (fun x hx => ?_)
      · unfold eC
        rw [w37, zu_ne (show 2 * c ≠ 2 * c + 1 by omega), zu_eq, zu_eq]
      · unfold eC
        rw [w37, zu_ne (show 2 * x ≠ 2 * c + 1 by omega), zu_ne (show 2 * x ≠ 2 * c by omega), zu_ne (show 2 * x + 1 ≠ 2 * c + 1 by omega), zu_ne (show 2 * x + 1 ≠ 2 * c by omega), g37 _ (by omega), g37 _ (by omega)]
    by_cases hg : (S.1 11 4) + 2 ≤ ((S.2.2.2 37 : Nat) : Int)
    · refine key S rfl (fun _ _ => rfl) (by omega) ?_
      unfold K1_set
      rw [if_neg (by omega), if_neg (by omega), if_neg hv, if_pos hg]
    · refine key (cG 37 S) (by unfold cG; rfl) (fun x hx => ?_) ?_ ?_
      · show (if x < S.2.2.2 37 then S.1 37 x else 0) = _
        rw [if_pos (by omega)]
      · show 2 * c + 2 ≤ 2 * S.2.2.2 37
        omega
      · unfold K1_set
        rw [if_neg (by omega), if_neg (by omega), if_neg hv, if_neg hg]

theorem cX_of {c : Nat} {S S' : CSt} (h4 : S'.1 11 4 = S.1 11 4) (h37 : S'.1 37 = S.1 37) (hl : S'.2.2.2 37 = S.2.2.2 37) (h : cX c S) : cX c S' := by
  unfold cX
  rw [h4, h37, hl]
  exact h
theorem sC_of {S S' : CSt} (h4 : S'.1 11 4 = S.1 11 4) (h37 : S'.1 37 = S.1 37) (h35 : S'.1 35 = S.1 35) (j : Nat) : sC S' j = sC S j := by
  unfold sC eC
  rw [h4, h37, h35]
/-- choose: what is written, and that the rest stands -/
theorem K1_choose_s {n : Nat} {ow pl : Int} {S : CSt} (h3 : S.1 11 3 = 3 * (n : Nat)) (hL : 3 * n ≤ S.2.2.2 36 ∧ 3 ≤ S.2.2.2 36) :
    (K1_choose ow pl S).2.2.1 11 3 = 3 * ((n + 1 : Nat) : Int) ∧ 3 * (n + 1) ≤ (K1_choose ow pl S).2.2.2.2.2 36 ∧ (∀ x, x < 3 * n → (K1_choose ow pl S).2.2.1 36 x = S.1 36 x) ∧ (K1_choose ow pl S).2.2.1 36 (3 * n) = ow ∧ (K1_choose ow pl S).2.2.1 36 (3 * n + 1) = pl ∧ (K1_choose ow pl S).2.2.1 36 (3 * n + 2) = S.1 11 4 := by
  have key : ∀ G : CSt, (∀ x, x < 3 * n → G.1 36 x = S.1 36 x) → (3 * n + 3 ≤ G.2.2.2 36) → K1_choose ow pl S = (0, 0, (ci (ci (ci (ci G 36 (S.1 11 3).toNat ow) 36 ((S.1 11 3) + 1).toNat pl) 36 ((S.1 11 3) + 2).toNat (S.1 11 4)) 11 3 ((S.1 11 3) + 3))) → ((K1_choose ow pl S).2.2.1 11 3 = 3 * ((n + 1 : Nat) : Int) ∧ 3 * (n + 1) ≤ (K1_choose ow pl S).2.2.2.2.2 36 ∧ (∀ x, x < 3 * n → (K1_choose ow pl S).2.2.1 36 x = S.1 36 x) ∧ (K1_choose ow pl S).2.2.1 36 (3 * n) = ow ∧ (K1_choose ow pl S).2.2.1 36 (3 * n + 1) = pl ∧ (K1_choose ow pl S).2.2.1 36 (3 * n + 2) = S.1 11 4) := by
    intro G g36 gL e
    rw [e]
    have t1 : (S.1 11 3).toNat = 3 * n := by omega
    have t2 : (S.1 11 3 + 1).toNat = 3 * n + 1 := by omega
    have t3 : (S.1 11 3 + 2).toNat = 3 * n + 2 := by omega
    rw [t1, t2, t3]
    have w36 : (ci (ci (ci (ci G 36 (3 * n) ow) 36 (3 * n + 1) pl) 36 (3 * n + 2) (S.1 11 4)) 11 3 ((S.1 11 3) + 3)).1 36 = zu (zu (zu (G.1 36) (3 * n) ow) (3 * n + 1) pl) (3 * n + 2) (S.1 11 4) := by
      rw [ci_ne (by decide), ci_eq, ci_eq, ci_eq]
    refine ⟨?_, by show 3 * (n + 1) ≤ G.2.2.2 36; omega, fun x hx => ?_, ?_, ?_, ?_⟩
    · rw [ci_eq, zu_eq]; omega
    · rw [w36, zu_ne (by omega), zu_ne (by omega), zu_ne (by omega), g36 x hx]
    · rw [w36, zu_ne (by omega), zu_ne (by omega), zu_eq]
    · rw [w36, zu_ne (by omega), zu_eq]
    · rw [w36, zu_eq]
  by_cases hg : (S.1 11 3) + 3 ≤ ((S.2.2.2 36 : Nat) : Int)
  · refine key S (fun _ _ => rfl) (by omega) ?_
    unfold K1_choose
    rw [if_pos hg]
  · refine key (cG 36 S) (fun x hx => ?_) ?_ ?_
    · show (if x < S.2.2.2 36 then S.1 36 x else 0) = _
      rw [if_pos (by omega)]
    · show 3 * n + 3 ≤ 2 * S.2.2.2 36
      omega
    · unfold K1_choose
      rw [if_neg hg]
theorem K1_undoL_s : ∀ (n k j : Nat) (S : CSt), cX (k + j) S → k ≤ n → (K1_undoL (2 * (j : Nat)) n S).1 35 = und (eC S) j (k + j) (S.1 35) ∧ (K1_undoL (2 * (j : Nat)) n S).1 11 4 = 2 * (j : Nat)
  | n, 0, j, S, h, hk => by
    have h4 := h.1
    have e : K1_undoL (2 * (j : Nat)) n S = S := by
      cases n with
      | zero => rw [K1_undoL, if_pos (by omega)]
      | succ n => rw [K1_undoL, if_pos (by omega)]
    rw [e, und_top _ _ (by omega), h4]
    exact ⟨rfl, by omega⟩
  | 0, k + 1, j, S, h, hk => by omega
  | n + 1, k + 1, j, S, h, hk => by
    obtain ⟨h4, hL, hI⟩ := h
    have i0 := hI (k + j) (by omega)
    have t1 : (S.1 11 4 - 2).toNat = 2 * (k + j) := by omega
    have t2 : (S.1 11 4 - 2 + 1).toNat = 2 * (k + j) + 1 := by omega
    rw [K1_undoL, if_neg (by omega), if_neg (by omega), if_neg (by omega), t1, t2, if_neg (by omega), if_neg (by omega)]
    have ih := K1_undoL_s n k j (ci (ci S 11 4 (S.1 11 4 - 2)) 35 (S.1 37 (2 * (k + j))).toNat (S.1 37 (2 * (k + j) + 1))) (by
      refine ⟨?_, ?_, ?_⟩
      · rw [ci_ne (by decide), ci_eq, zu_eq]; omega
      · show 2 * (k + j) ≤ S.2.2.2 37 ∧ 2 ≤ S.2.2.2 37
        omega
      · intro x hx
        rw [ci_ne (by decide), ci_ne (by decide)]
        exact hI x (by omega)) (by omega)
    refine ⟨ih.1.trans ?_, ih.2⟩
    rw [show k + 1 + j = (k + j) + 1 by omega, und, if_neg (show ¬ k + j < j by omega), ci_eq, ci_ne (by decide)]
    rfl
/-- going back down to j -/
theorem K1_undo_s {c j : Nat} {S : CSt} (h : cX c S) (hj : j ≤ c) : (K1_undoDownTo (2 * (j : Nat)) S).1 35 = sC S j ∧ cX j (K1_undoDownTo (2 * (j : Nat)) S) ∧ ∀ i, i ≤ j → sC (K1_undoDownTo (2 * (j : Nat)) S) i = sC S i := by
  have h4 := h.1
  have e := K1_undoL_s (S.1 11 4).toNat (c - j) j S (by rw [show c - j + j = c by omega]; exact h) (by omega)
  rw [show c - j + j = c by omega] at e
  have e37 : (K1_undoDownTo (2 * (j : Nat)) S).1 37 = S.1 37 := K1_undoDownTo_1 (by decide) (by decide)
  have e2 : (K1_undoDownTo (2 * (j : Nat)) S).2 = S.2 := K1_undoDownTo_2
  have w35 : (K1_undoDownTo (2 * (j : Nat)) S).1 35 = und (eC S) j c (S.1 35) := e.1
  have w4 : (K1_undoDownTo (2 * (j : Nat)) S).1 11 4 = 2 * (j : Nat) := e.2
  generalize K1_undoDownTo (2 * (j : Nat)) S = S' at *
  have hl := h.2.1
  have hX : cX j S' := ⟨w4, by rw [e2]; exact ⟨by omega, h.2.1.2⟩, fun x hx => by rw [e37]; exact h.2.2 x (by omega)⟩
  refine ⟨by rw [w35, sC_def h], hX, fun i hi => ?_⟩
  rw [sC_def hX, sC_def h, w35]
  have e3 : eC S' = eC S := by unfold eC; rw [e37]
  rw [e3]
  exact und_und hi c _ hj
