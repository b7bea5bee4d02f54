theorem M_inSetL_cong {T T' : MSt} (h : T'.2 7 = T.2 7) (fr to x : Int) : ∀ n, M_inSetL fr to x T' n = M_inSetL fr to x T n
  | 0 => by funext a b c; rw [M_inSetL, M_inSetL]
  | n + 1 => by
    funext a b c
    rw [M_inSetL, M_inSetL, h, M_inSetL_cong h fr to x n]
theorem M_fits_cong {T T' : MSt} (h : frM T T') (k x : Int) : M_fits k x T' = M_fits k x T := by
  unfold M_fits M_inSet M_has
  rw [h.2 8 (by omega), h.2 9 (by omega), h.2 10 (by omega), h.1 6 (by omega), M_inSetL_cong (h.2 7 (by omega))]
/-- whether a sign may stand where the order k is: with the flags and '^' -/
def M_fitR (k z : Int) (S : MSt) : Int := (if (S.2 8 k.toNat) = 6 then (if (S.2 11 k.toNat) = 1 then (if ((if (M_fits k z S) = 0 then (if (M_has 4 S) = 0 then 0 else (if (M_fits k (M_other z) S) = 0 then 0 else 1 : Int) : Int) else 1 : Int)) = 0 then 1 else 0 : Int) else (if (M_fits k z S) = 0 then (if (M_has 4 S) = 0 then 0 else (if (M_fits k (M_other z) S) = 0 then 0 else 1 : Int) : Int) else 1 : Int) : Int) else (if (M_fits k z S) = 0 then (if (M_has 4 S) = 0 then 0 else (if (M_fits k (M_other z) S) = 0 then 0 else 1 : Int) : Int) else 1 : Int) : Int)
theorem M_passes_R (k : Int) (S : MSt) : M_passes k S = if S.1 38 = S.1 4 then 0 else M_fitR k (S.2 3 (S.1 38).toNat) S := rfl
theorem M_fitR_cong {T T' : MSt} (h : frM T T') (k x : Int) : M_fitR k x T' = M_fitR k x T := by
  unfold M_fitR
  rw [M_fits_cong h, M_fits_cong h]
  unfold M_has
  rw [h.2 8 (by omega), h.2 11 (by omega), h.1 6 (by omega)]
/-- the class's program is as it was -/
theorem mK_prog {S S' : CSt} (h : mK S S') : (∀ i, K2_kind 6 i S' = K2_kind 6 i S) ∧ (∀ i, K2_aim 6 i S' = K2_aim 6 i S) ∧ (∀ i, K2_number 6 i S' = K2_number 6 i S) ∧ (∀ i, K2_least 6 i S' = K2_least 6 i S) ∧ (∀ i, K2_most 6 i S' = K2_most 6 i S) ∧ (∀ i, K2_firstGroup 6 i S' = K2_firstGroup 6 i S) ∧ (∀ i, K2_lastGroup 6 i S' = K2_lastGroup 6 i S) ∧ (∀ i z, K2_fits 6 i z S' = K2_fits 6 i z S) ∧ (∀ f, K2_has 6 f S' = K2_has 6 f S) := by
  have h6 := h.1 6 (by decide) (by decide) (by decide) (by decide) (by decide)
  have hA : ∀ j, j < 9 → S'.1 (pA 6 j) = S.1 (pA 6 j) := fun j hj => h.1 _ (by unfold pA; omega) (by unfold pA; omega) (by unfold pA; omega) (by unfold pA; omega) (by unfold pA; omega)
  have eI : ∀ i, K2_isInstruction 6 i S' = K2_isInstruction 6 i S := fun i => by unfold K2_isInstruction; rw [h6]
  have eL : ∀ i, K2_isLoop 6 i S' = K2_isLoop 6 i S := fun i => by unfold K2_isLoop; rw [h6]
  refine ⟨fun i => ?_, fun i => ?_, fun i => ?_, fun i => ?_, fun i => ?_, fun i => ?_, fun i => ?_, fun i z => ?_, fun f => ?_⟩
  · unfold K2_kind; rw [eI, hA 0 (by omega)]
  · unfold K2_aim; rw [eI, hA 1 (by omega)]
  · unfold K2_number; rw [eI, hA 2 (by omega)]
  · unfold K2_least; rw [eL, hA 5 (by omega)]
  · unfold K2_most; rw [eL, hA 6 (by omega)]
  · unfold K2_firstGroup; rw [eL, hA 7 (by omega)]
  · unfold K2_lastGroup; rw [eL, hA 8 (by omega)]
  · unfold K2_fits; rw [eI, h.2]
  · unfold K2_has; rw [h6]
/-- the reference's place r is the class's place F r -/
def certR (p : Nat → Nat → Int) (F : Nat → Int) (fit : Nat → Int → Int) (S : CSt) (r : Nat) : Prop :=
  (0 ≤ F r ∧ F r ≤ 900) ∧
  (p 0 r = 1 → K2_kind 6 (F r) S = 5 ∧ F (r + 1) = F r + 1 ∧ K2_aim 6 (F r) S = (if p 1 r = -1 then -1 else F (p 1 r).toNat)) ∧
  (p 0 r = 2 → (K2_kind 6 (F r) S = 6 ∧ K2_aim 6 (F r) S = F (p 1 r).toNat) ∨ F (p 1 r).toNat = F r) ∧
  (3 ≤ p 0 r → p 0 r ≤ 6 → K2_kind 6 (F r) S = 1 ∧ F (r + 1) = F r + 1 ∧ ∀ z, 32 ≤ z → z ≤ 126 → K2_fits 6 (F r) z S = fit r z) ∧
  (p 0 r = 7 → K2_kind 6 (F r) S = 4 ∧ F (r + 1) = F r + 1 ∧ K2_number 6 (F r) S = p 1 r) ∧
  (p 0 r = 8 → K2_kind 6 (F r) S = 2 ∧ F (r + 1) = F r + 1) ∧
  (p 0 r = 9 → K2_kind 6 (F r) S = 3 ∧ F (r + 1) = F r + 1) ∧
  (p 0 r = 10 → K2_kind 6 (F r) S = 7 ∧ F (r + 1) = F r + 1 ∧ K2_number 6 (F r) S = p 1 r) ∧
  (p 0 r = 11 → K2_kind 6 (F r) S = 8 ∧ F (r + 1) = F r + 1 ∧ K2_number 6 (F r) S = p 1 r) ∧
  (p 0 r = 12 → F (r + 1) = F r + 1 ∧ K2_number 6 (F r) S = p 3 r ∧ (p 1 r = 1 → K2_kind 6 (F r) S = 13) ∧ (p 1 r = 0 → K2_kind 6 (F r) S = 15 ∧ K2_aim 6 (F r) S = F ((p 2 r).toNat + 1))) ∧
  (p 0 r = 13 → K2_number 6 (F r) S = p 3 r ∧ (p 2 r = 1 → K2_kind 6 (F r) S = 14 ∧ F (r + 1) = F r + 1) ∧ (p 2 r ≠ 1 → K2_kind 6 (F r) S = 16)) ∧
  (p 0 r = 14 → K2_kind 6 (F r) S = 9 ∧ K2_aim 6 (F r) S = F (enL p r) ∧ F (r + 1) = F r + 1 ∧ K2_kind 6 (F (enL p r)) S = (if p 1 r < 65536 then 10 else 11) ∧ K2_number 6 (F (enL p r)) S = p 3 r ∧ K2_kind 6 (F (enL p r) + 1) S = 12 ∧ K2_aim 6 (F (enL p r) + 1) S = F r + 1 ∧ K2_number 6 (F (enL p r) + 1) S = p 3 r ∧ F (enL p r + 1) = F (enL p r) + 2 ∧ K2_least 6 (p 3 r) S = leL p r ∧ K2_most 6 (p 3 r) S = (if moL p r = 99 then 1000000 else moL p r) ∧ K2_firstGroup 6 (p 3 r) S = p 2 r / 16 % 256 + 1 ∧ K2_lastGroup 6 (p 3 r) S = p 2 r % 16) ∧
  (p 0 r = 16 → K2_kind 6 (F r) S = 0) ∧
  (p 0 r = 17 → K2_kind 6 (F r) S = 9 ∧ K2_aim 6 (F r) S = -1 ∧ F (r + 1) = F r + 1)
theorem certR_cong {p : Nat → Nat → Int} {F : Nat → Int} {fit : Nat → Int → Int} {S S' : CSt} {r : Nat} (h : mK S S') (hc : certR p F fit S r) : certR p F fit S' r := by
  obtain ⟨e1, e2, e3, e4, e5, e6, e7, e8, e9⟩ := mK_prog h
  unfold certR
  simp only [e1, e2, e3, e4, e5, e6, e7, e8]
  exact hc
/-- what stays the same while both try -/
def SK (p : Nat → Nat → Int) (F : Nat → Int) (fit : Nat → Int → Int) (N : Nat) (T : MSt) (S : CSt) : Prop :=
  (∀ r, r < N → certR p F fit S r) ∧ (∀ (r : Nat) (z : Int), M_fitR r z T = fit r z) ∧ S.1 3 1 = T.1 4 ∧ (∀ j : Nat, (j : Int) < T.1 4 → S.1 14 j = T.2 3 j ∧ 32 ≤ T.2 3 j ∧ T.2 3 j ≤ 126) ∧ S.1 6 13 = T.1 6
theorem SK_cong {p : Nat → Nat → Int} {F : Nat → Int} {fit : Nat → Int → Int} {N : Nat} {T T' : MSt} {S S' : CSt} (h1 : frM T T') (h2 : mK S S') (h : SK p F fit N T S) : SK p F fit N T' S' := by
  obtain ⟨a, b, c, d, e⟩ := h
  unfold SK
  rw [h1.1 4 (by omega), h1.1 6 (by omega), h1.2 3 (by omega), h2.1 3 (by decide) (by decide) (by decide) (by decide) (by decide), h2.1 14 (by decide) (by decide) (by decide) (by decide) (by decide), h2.1 6 (by decide) (by decide) (by decide) (by decide) (by decide)]
  exact ⟨fun r hr => certR_cong h2 (a r hr), fun r z => by rw [M_fitR_cong h1]; exact b r z, c, d, e⟩
/-- marks and changes stay small -/
def mkB (S : CSt) : Prop := (∀ j, S.1 35 j ≤ 90000) ∧ (∀ j, S.1 37 j ≤ 90000)
theorem mkB_set {i v : Int} {S : CSt} (h : mkB S) (hv : v ≤ 90000) : mkB (K1_set i v S).2.2 := by
  have zb2 : ∀ (f : Nat → Int) (k : Nat) (w : Int), (∀ j, f j ≤ 90000) → w ≤ 90000 → ∀ j, zu f k w j ≤ 90000 := fun f k w hf hw j => by
    unfold zu
    split
    · exact hw
    · exact hf j
  have key : ∀ G : CSt, G.1 35 = S.1 35 → (∀ j, G.1 37 j ≤ 90000) → i ≤ 90000 → mkB (ci (ci (ci (ci G 37 (S.1 11 4).toNat i) 37 ((S.1 11 4) + 1).toNat (S.1 35 i.toNat)) 11 4 ((S.1 11 4) + 2)) 35 i.toNat v) := by
    intro G g35 g37 hi
    refine ⟨?_, ?_⟩
    · rw [ci_eq, ci_ne (by decide), ci_ne (by decide), ci_ne (by decide), g35]
      exact zb2 _ _ _ h.1 hv
    · rw [ci_ne (by decide), ci_ne (by decide), ci_eq, ci_eq]
      exact zb2 _ _ _ (zb2 _ _ _ g37 hi) (h.1 _)
  unfold K1_set
  by_cases c1 : i < 0
  · rw [if_pos c1]; exact h
  · rw [if_neg c1]
    by_cases c2 : 90 ≤ i
    · rw [if_pos c2]; exact h
    · rw [if_neg c2]
      by_cases c3 : S.1 35 i.toNat = v
      · rw [if_pos c3]; exact h
      · rw [if_neg c3]
        by_cases c4 : (S.1 11 4) + 2 ≤ ((S.2.2.2 37 : Nat) : Int)
        · rw [if_pos c4]; exact key S rfl h.2 (by omega)
        · rw [if_neg c4]
          refine key (cG 37 S) (by unfold cG; rfl) (fun j => ?_) (by omega)
          show (if j < S.2.2.2 37 then S.1 37 j else 0) ≤ 90000
          split
          · exact h.2 j
          · omega
theorem mkB_of {S S' : CSt} (h35 : S'.1 35 = S.1 35) (h37 : S'.1 37 = S.1 37) (h : mkB S) : mkB S' := by
  unfold mkB
  rw [h35, h37]
  exact h
/-- some marks have been set: they are mk' now, tc' changes are kept -/
def CAd (tc : Nat) (S S' : CSt) (mk' : Nat → Int) (tc' : Nat) : Prop := cX tc' S' ∧ tc ≤ tc' ∧ S'.1 35 = mk' ∧ (∀ j, j ≤ tc → sC S' j = sC S j) ∧ S'.1 36 = S.1 36 ∧ S'.1 11 3 = S.1 11 3 ∧ S'.1 10 = S.1 10 ∧ mK S S' ∧ S'.2.2.2 36 = S.2.2.2 36 ∧ (mkB S → (∀ j, mk' j ≤ 90000) → mkB S')
theorem CAd_set {tc : Nat} {i v : Int} {S : CSt} (h : cX tc S) (h0 : 0 ≤ i) (h1 : i < 90) : CAd tc S (K1_set i v S).2.2 (zu (S.1 35) i.toNat v) (if S.1 35 i.toNat = v then tc else tc + 1) := by
  obtain ⟨a1, a2, a3⟩ := K1_set_s (v := v) h h0 h1
  refine ⟨a2, by split <;> omega, a1, a3, K1_set_1 (by decide) (by decide) (by decide), K1_set_3.1, K1_set_1 (by decide) (by decide) (by decide), mK.set, K1_set_3.2, fun hb hk => mkB_set hb ?_⟩
  have := hk i.toNat
  rw [zu_eq] at this
  exact this
theorem CAd_trans {tc tc1 tc2 : Nat} {S S1 S2 : CSt} {m1 m2 : Nat → Int} (h : CAd tc S S1 m1 tc1) (h' : CAd tc1 S1 S2 m2 tc2) (hm : (∀ j, m2 j ≤ 90000) → ∀ j, m1 j ≤ 90000) : CAd tc S S2 m2 tc2 := by
  obtain ⟨a1, a2, a3, a4, a5, a6, a7, a8, a9, a10⟩ := h
  obtain ⟨b1, b2, b3, b4, b5, b6, b7, b8, b9, b10⟩ := h'
  exact ⟨b1, by omega, b3, fun j hj => (b4 j (by omega)).trans (a4 j hj), b5.trans a5, b6.trans a6, b7.trans a7, a8.tr b8, b9.trans a9, fun x y => b10 (a10 x (hm y)) y⟩
theorem CAd_refl {tc : Nat} {S : CSt} (h : cX tc S) : CAd tc S S (S.1 35) tc := ⟨h, Nat.le_refl _, rfl, fun _ _ => rfl, rfl, rfl, rfl, mK.rf, rfl, fun x _ => x⟩
