/-- the reference's registers below 130, as they are and as the trail gives them back; the looks' marks -/
def snT (T : MSt) (j y : Nat) : Int := if y < 130 then sR T j y else 0
def gT (T : MSt) (y : Nat) : Int := if y < 130 then T.2 33 y else 0
def qT (T : MSt) (c : Nat) : Int := T.2 33 (130 + c)
theorem gT_at {T : MSt} {y : Nat} (h : y < 130) : gT T y = T.2 33 y := if_pos h
theorem snT_top {T : MSt} {j : Nat} (h : T.1 35 ≤ j) : snT T j = gT T := by
  funext y
  unfold snT gT
  rw [sR_top h]
theorem gT_cong {T T' : MSt} (h : ∀ y, y < 130 → T'.2 33 y = T.2 33 y) : gT T' = gT T := by
  funext y
  unfold gT
  split
  · rename_i c; exact h y c
  · rfl
/-- the trail and what stands in the registers below 130 is all that counts -/
theorem snT_cong {T T' : MSt} (h : ∀ y, y < 130 → T'.2 33 y = T.2 33 y) (h4 : T'.2 34 = T.2 34) (h5 : T'.1 35 = T.1 35) : snT T' = snT T := by
  funext j y
  unfold snT
  split
  · rename_i c
    unfold sR
    rw [h5, show eR T' = eR T by unfold eR; rw [h4]]
    exact und_pt _ _ _ (h y c)
  · rfl
/-- all but the registers below 130, the trail and its length is as it was -/
def frT (T T' : MSt) : Prop := (∀ k, k ≠ 35 → T'.1 k = T.1 k) ∧ (∀ k, k ≠ 33 → k ≠ 34 → T'.2 k = T.2 k) ∧ (∀ y, 130 ≤ y → T'.2 33 y = T.2 33 y)
theorem frT_trans {T T1 T2 : MSt} (h : frT T T1) (h' : frT T1 T2) : frT T T2 := ⟨fun k a => (h'.1 k a).trans (h.1 k a), fun k a b => (h'.2.1 k a b).trans (h.2.1 k a b), fun y a => (h'.2.2 y a).trans (h.2.2 y a)⟩
/-- some puts have been made: the registers are rg' now, the trail's account has grown by d at most -/
def AdT (T T' : MSt) (rg' : Nat → Int) (d : Int) : Prop := frT T T' ∧ 0 ≤ T.1 35 ∧ T.1 35 ≤ T'.1 35 ∧ (∀ j : Nat, (j : Int) ≤ T.1 35 → snT T' j = snT T j) ∧ gT T' = rg' ∧ T'.1 35 + Wr rg' 130 ≤ T.1 35 + Wr (gT T) 130 + d ∧ ((∀ j, 0 ≤ T.2 34 j ∧ T.2 34 j < 8320) → ∀ j, 0 ≤ T'.2 34 j ∧ T'.2 34 j < 8320)
theorem AdT_trans {T T1 T2 : MSt} {r1 r2 : Nat → Int} {d1 d2 : Int} (h : AdT T T1 r1 d1) (h' : AdT T1 T2 r2 d2) : AdT T T2 r2 (d1 + d2) := by
  obtain ⟨a1, a2, a3, a4, a5, a6, a7⟩ := h
  obtain ⟨b1, b2, b3, b4, b5, b6, b7⟩ := h'
  rw [a5] at b6
  exact ⟨frT_trans a1 b1, a2, by omega, fun j hj => (b4 j (by omega)).trans (a4 j hj), b5, by omega, fun y => b7 (a7 y)⟩
theorem AdT_le {T T' : MSt} {r r' : Nat → Int} {d d' : Int} (h : AdT T T' r d) (hd : d ≤ d') (hr : r = r') : AdT T T' r' d' := by
  subst hr
  obtain ⟨a1, a2, a3, a4, a5, a6, a7⟩ := h
  exact ⟨a1, a2, a3, a4, a5, by omega, a7⟩
theorem AdT_put {T : MSt} {r v : Int} (h5 : 0 ≤ T.1 35) (r0 : 0 ≤ r) (r1 : r < 130) (b : ∀ y, y < 130 → -1 ≤ gT T y ∧ gT T y ≤ 34) : AdT T (M_put r v T) (zu (gT T) r.toNat v) (if gT T r.toNat = v then 0 else 1 - wgt r.toNat (gT T r.toNat) + wgt r.toNat v) := by
  have hr : r.toNat < 130 := by omega
  have br := b r.toNat hr
  have gr := gT_at (T := T) hr
  rw [gr] at br
  have fr : frT T (M_put r v T) := by
    unfold M_put
    split
    · exact ⟨fun _ _ => rfl, fun _ _ _ => rfl, fun _ _ => rfl⟩
    · refine ⟨fun k a => ?_, fun k a c => ?_, fun y a => ?_⟩
      · exact if_neg a
      · show (if k = 33 then _ else if k = 34 then _ else T.2 k) = T.2 k
        rw [if_neg a, if_neg c]
      · show zu (T.2 33) r.toNat v y = _
        exact zu_ne (by omega)
  have g2 : gT (M_put r v T) = zu (gT T) r.toNat v := by
    unfold M_put
    split
    · rename_i c
      rw [← c, ← gr]
      funext y
      by_cases e : y = r.toNat
      · rw [e, zu_eq]
      · rw [zu_ne e]
    · funext y
      by_cases e : y = r.toNat
      · rw [e, zu_eq, gT_at hr]
        show zu (T.2 33) r.toNat v r.toNat = v
        exact zu_eq
      · rw [zu_ne e]
        unfold gT
        split
        · show zu (T.2 33) r.toNat v y = _
          exact zu_ne e
        · rfl
  refine ⟨fr, h5, ?_, fun j hj => ?_, g2, ?_, fun ht => ?_⟩
  · unfold M_put
    split
    · exact Int.le_refl _
    · show T.1 35 ≤ T.1 35 + 1
      omega
  · funext y
    unfold snT
    rw [sR_put h5 hj r0 (by omega) (by omega)]
  · rw [Wr_zu 130 hr]
    by_cases c : T.2 33 r.toNat = v
    · rw [if_pos (by rw [gr]; exact c), gr, c]
      unfold M_put
      rw [if_pos c]
      omega
    · rw [if_neg (by rw [gr]; exact c)]
      unfold M_put
      rw [if_neg c]
      show T.1 35 + 1 + _ ≤ _
      omega
  · unfold M_put
    split
    · exact ht
    · intro j
      show 0 ≤ zu (T.2 34) (T.1 35).toNat (64 * r + T.2 33 r.toNat + 2) j ∧ zu (T.2 34) (T.1 35).toNat (64 * r + T.2 33 r.toNat + 2) j < 8320
      unfold zu
      split
      · omega
      · exact ht j
theorem wgt_z {i : Nat} {v : Int} (h : (20 ≤ i ∧ i < 30) ∨ 50 ≤ i) : wgt i v = 0 := by
  unfold wgt
  split
  · omega
  · split
    · omega
    · rfl
theorem zu_bd {g : Nat → Int} {r : Nat} {v : Int} (b : ∀ y, y < 130 → -1 ≤ g y ∧ g y ≤ 34) (h0 : -1 ≤ v) (h1 : v ≤ 34) : ∀ y, y < 130 → -1 ≤ zu g r v y ∧ zu g r v y ≤ 34 := by
  intro y hy
  unfold zu
  split
  · exact ⟨h0, h1⟩
  · exact b y hy
theorem AdT_clr : ∀ (n : Nat) (g : Int) (T : MSt), 0 ≤ T.1 35 → 1 ≤ g → g + n ≤ 10 → (∀ y, y < 130 → -1 ≤ gT T y ∧ gT T y ≤ 34) → AdT T (M_clr n g T) (clrG n g.toNat (gT T)) 0
  | 0, g, T, h5, _, _, _ => ⟨⟨fun _ _ => rfl, fun _ _ _ => rfl, fun _ _ => rfl⟩, h5, Int.le_refl _, fun _ _ => rfl, rfl, by rw [clrG]; show T.1 35 + _ ≤ _; omega, fun y => y⟩
  | n + 1, g, T, h5, h1, h9, b => by
    have a1 := AdT_put (T := T) (r := g) (v := -1) h5 (by omega) (by omega) b
    have b1 : ∀ y, y < 130 → -1 ≤ gT (M_put g (-1) T) y ∧ gT (M_put g (-1) T) y ≤ 34 := by rw [a1.2.2.2.2.1]; exact zu_bd b (by omega) (by omega)
    have a2 := AdT_put (T := M_put g (-1) T) (r := 10 + g) (v := -1) (by have := a1.2.2.1; omega) (by omega) (by omega) b1
    have b2 : ∀ y, y < 130 → -1 ≤ gT (M_put (10 + g) (-1) (M_put g (-1) T)) y ∧ gT (M_put (10 + g) (-1) (M_put g (-1) T)) y ≤ 34 := by rw [a2.2.2.2.2.1]; exact zu_bd b1 (by omega) (by omega)
    have a3 := AdT_clr n (g + 1) (M_put (10 + g) (-1) (M_put g (-1) T)) (by have := a1.2.2.1; have := a2.2.2.1; omega) (by omega) (by omega) b2
    refine AdT_le (AdT_trans a1 (AdT_trans a2 a3)) ?_ ?_
    · have w1 : ∀ v : Int, (if v = -1 then 0 else 1 - wgt g.toNat v + wgt g.toNat (-1)) ≤ 0 := by
        intro v
        unfold wgt
        rw [if_pos (show (1 ≤ g.toNat ∧ g.toNat ≤ 9) ∨ (11 ≤ g.toNat ∧ g.toNat ≤ 19) by omega), if_pos (show (1 ≤ g.toNat ∧ g.toNat ≤ 9) ∨ (11 ≤ g.toNat ∧ g.toNat ≤ 19) by omega), if_pos rfl]
        split <;> omega
      have w2 : ∀ v : Int, (if v = -1 then 0 else 1 - wgt (10 + g).toNat v + wgt (10 + g).toNat (-1)) ≤ 0 := by
        intro v
        unfold wgt
        rw [if_pos (show (1 ≤ (10 + g).toNat ∧ (10 + g).toNat ≤ 9) ∨ (11 ≤ (10 + g).toNat ∧ (10 + g).toNat ≤ 19) by omega), if_pos (show (1 ≤ (10 + g).toNat ∧ (10 + g).toNat ≤ 9) ∨ (11 ≤ (10 + g).toNat ∧ (10 + g).toNat ≤ 19) by omega), if_pos rfl]
        split <;> omega
      have := w1 (gT T g.toNat)
      have := w2 (gT (M_put g (-1) T) (10 + g).toNat)
      omega
    · rw [a2.2.2.2.2.1, a1.2.2.2.2.1, clrG, show (g + 1).toNat = g.toNat + 1 by omega, show (10 + g).toNat = 10 + g.toNat by omega]
/-- a pass's begin -/
def passT (k : Int) (S : MSt) : MSt := M_clr (S.2 10 k.toNat % 16 - S.2 10 k.toNat / 16 % 256).toNat (S.2 10 k.toNat / 16 % 256 + 1) (M_put (80 + S.2 11 k.toNat) (S.1 38) (M_put (30 + S.2 11 k.toNat) (S.2 33 (30 + S.2 11 k.toNat).toNat + 1) S))
theorem M_pass_T (k : Int) (S : MSt) : M_pass k S = mi (passT k S) 39 (k + 1) := rfl
theorem AdT_pass {p : Nat → Nat → Int} {k : Nat} {T : MSt} (h10 : T.2 10 = p 2) (h11 : T.2 11 = p 3) (h5 : 0 ≤ T.1 35) (b : ∀ y, y < 130 → -1 ≤ gT T y ∧ gT T y ≤ 34) (c0 : 0 ≤ p 3 k) (c1 : p 3 k < 20) (e0 : 0 ≤ p 2 k) (e1 : p 2 k / 16 % 256 ≤ p 2 k % 16) (e2 : p 2 k % 16 ≤ 9) (t0 : 0 ≤ gT T (reL p k)) (t1 : gT T (reL p k) ≤ 33) (q0 : 0 ≤ T.1 38) (q1 : T.1 38 ≤ 24) : AdT T (passT k T) (passG p k (gT T) (T.1 38)) 3 := by
  unfold passT
  rw [h10, h11, show ((k : Int)).toNat = k by omega]
  have g1 : T.2 33 (30 + p 3 k).toNat = gT T (reL p k) := by rw [gT_at (show reL p k < 130 by unfold reL; omega)]; rfl
  rw [g1]
  have a1 := AdT_put (T := T) (r := 30 + p 3 k) (v := gT T (reL p k) + 1) h5 (by omega) (by omega) b
  have b1 : ∀ y, y < 130 → -1 ≤ gT (M_put (30 + p 3 k) (gT T (reL p k) + 1) T) y ∧ gT (M_put (30 + p 3 k) (gT T (reL p k) + 1) T) y ≤ 34 := by rw [a1.2.2.2.2.1]; exact zu_bd b (by omega) (by omega)
  have a2 := AdT_put (T := M_put (30 + p 3 k) (gT T (reL p k) + 1) T) (r := 80 + p 3 k) (v := T.1 38) (by have := a1.2.2.1; omega) (by omega) (by omega) b1
  have b2 : ∀ y, y < 130 → -1 ≤ gT (M_put (80 + p 3 k) (T.1 38) (M_put (30 + p 3 k) (gT T (reL p k) + 1) T)) y ∧ gT (M_put (80 + p 3 k) (T.1 38) (M_put (30 + p 3 k) (gT T (reL p k) + 1) T)) y ≤ 34 := by rw [a2.2.2.2.2.1]; exact zu_bd b1 (by omega) (by omega)
  have a3 := AdT_clr (p 2 k % 16 - p 2 k / 16 % 256).toNat (p 2 k / 16 % 256 + 1) (M_put (80 + p 3 k) (T.1 38) (M_put (30 + p 3 k) (gT T (reL p k) + 1) T)) (by have := a1.2.2.1; have := a2.2.2.1; omega) (by omega) (by omega) b2
  refine AdT_le (AdT_trans a1 (AdT_trans a2 a3)) ?_ ?_
  · have w1 : ∀ v w : Int, (if v = w then 0 else 1 - wgt (30 + p 3 k).toNat v + wgt (30 + p 3 k).toNat w) ≤ 2 := by
      intro v w
      have := wgt_nn (30 + p 3 k).toNat v
      have := wgt_nn (30 + p 3 k).toNat w
      split <;> omega
    have w2 : ∀ v w : Int, (if v = w then 0 else 1 - wgt (80 + p 3 k).toNat v + wgt (80 + p 3 k).toNat w) ≤ 1 := by
      intro v w
      rw [wgt_z (v := v) (show (20 ≤ (80 + p 3 k).toNat ∧ (80 + p 3 k).toNat < 30) ∨ 50 ≤ (80 + p 3 k).toNat by omega), wgt_z (v := w) (show (20 ≤ (80 + p 3 k).toNat ∧ (80 + p 3 k).toNat < 30) ∨ 50 ≤ (80 + p 3 k).toNat by omega)]
      split <;> omega
    have := w1 (gT T (30 + p 3 k).toNat) (gT T (reL p k) + 1)
    have := w2 (gT (M_put (30 + p 3 k) (gT T (reL p k) + 1) T) (80 + p 3 k).toNat) (T.1 38)
    omega
  · rw [a2.2.2.2.2.1, a1.2.2.2.2.1]
    rfl
