/-- what an order leaves -/
def OC (p : Nat → Nat → Int) (R : Nat → Int) (N : Nat) (T : MSt) (r : Int × MSt) : Prop := (r.1 = 0 ∨ r.1 = 1) ∧ (¬ r.1 = 0 → RI p R N r.2 ∧ MU p N r.2 < MU p N T) ∧ (r.1 = 0 → RB p R N r.2 ∧ 376 * (501 - r.2.1 40) + 250 + 125 * nzE (r.2.2 36) (r.2.1 37).toNat < MU p N T)
theorem RB_step {p : Nat → Nat → Int} {R : Nat → Int} {N : Nat} {T : MSt} (h : RB p R N T) (h0 : T.1 41 = 0) : RB p R N (M_step T) := by
  obtain ⟨c, h1, h2, h3, h4⟩ := h
  refine ⟨(CfT_step c h0).1, ?_, h2, h3, h4⟩
  exact StR_md (md' := T.1 40 + 1) (by omega) h1
theorem RI_39 {p : Nat → Nat → Int} {R : Nat → Int} {N : Nat} {T : MSt} {w : Nat} (c : CfT p T) (h : RIc p R N (T.1 4) (T.2 36) (qT T) (snT T) (gT T) (T.1 35).toNat (T.1 37).toNat w (T.1 38) (T.1 40)) : RI p R N (mi T 39 w) := by
  refine ⟨CfT_39 c, by show 0 ≤ (w : Int); omega, ?_⟩
  show RIc p R N (T.1 4) (T.2 36) (qT T) (snT T) (gT T) (T.1 35).toNat (T.1 37).toNat ((w : Int)).toNat (T.1 38) (T.1 40)
  rw [show ((w : Int)).toNat = w by omega]
  exact h
theorem OC_begin {p : Nat → Nat → Int} {R : Nat → Int} {N : Nat} {T : MSt} (hp : prR p R N) (h : RI p R N T) (h0 : T.1 41 = 0) (hop : p 0 (T.1 39).toNat = 1) : OC p R N T (M_order T) := by
  obtain ⟨c, h39, hc⟩ := h
  have c' := c
  obtain ⟨q8, q9, q10, q11, q4, -, -, -, -, -, q35, q37, q40, q41, -, -⟩ := c'
  obtain ⟨cs, m5⟩ := CfT_step c h0
  obtain ⟨a1, a2⟩ := RI_begin hp q4 m5 hop hc
  have e35 : ((T.1 35).toNat : Int) = T.1 35 := by omega
  have ep : (T.1 39 + 1).toNat = (T.1 39).toNat + 1 := by omega
  have so : stp (p 0 (T.1 39).toNat) = 1 := by rw [hop]; rfl
  have sn := stp_nn (p 0 ((T.1 39).toNat + 1))
  have eM : M_order T = if T.2 9 (T.1 39).toNat < 0 then (1, M_step (mi T 39 (T.1 39 + 1))) else (1, M_choose 0 (T.2 9 (T.1 39).toNat) (M_step (mi T 39 (T.1 39 + 1)))) := by
    unfold M_order
    rw [q8, hop]
    rfl
  rw [eM, q9]
  by_cases ca : p 1 (T.1 39).toNat < 0
  · rw [if_pos ca]
    refine ⟨Or.inr rfl, fun _ => ⟨⟨(CfT_step (CfT_39 c) h0).1, by show 0 ≤ T.1 39 + 1; omega, ?_⟩, ?_⟩, fun y => absurd (show (1 : Int) = 0 from y) (by decide)⟩
    · show RIc p R N (T.1 4) (T.2 36) (qT T) (snT T) (gT T) (T.1 35).toNat (T.1 37).toNat (T.1 39 + 1).toNat (T.1 38) (T.1 40 + 1)
      rw [ep]; exact a1
    · show 376 * (501 - (T.1 40 + 1)) + 250 - 250 * stp (p 0 (T.1 39 + 1).toNat) + 125 * nzE (T.2 36) (T.1 37).toNat + ((N : Int) - (T.1 39 + 1)) < MU p N T
      unfold MU
      rw [so, ep]; omega
  · rw [if_neg ca]
    have a2' := a2 (by omega)
    rw [e35] at a2'
    refine ⟨Or.inr rfl, fun _ => ⟨⟨CfT_choose (CfT_step (CfT_39 c) h0).1, by show 0 ≤ T.1 39 + 1; omega, ?_⟩, ?_⟩, fun y => absurd (show (1 : Int) = 0 from y) (by decide)⟩
    · show RIc p R N (T.1 4) (zu (T.2 36) (T.1 37).toNat (0 + 4 * (p 1 (T.1 39).toNat + 256 * (T.1 38 + 32 * T.1 35)))) (qT T) (snT T) (gT T) (T.1 35).toNat (T.1 37 + 1).toNat (T.1 39 + 1).toNat (T.1 38) (T.1 40 + 1)
      rw [ep, show (T.1 37 + 1).toNat = (T.1 37).toNat + 1 by omega]; exact a2'
    · show 376 * (501 - (T.1 40 + 1)) + 250 - 250 * stp (p 0 (T.1 39 + 1).toNat) + 125 * nzE (zu (T.2 36) (T.1 37).toNat (0 + 4 * (p 1 (T.1 39).toNat + 256 * (T.1 38 + 32 * T.1 35)))) (T.1 37 + 1).toNat + ((N : Int) - (T.1 39 + 1)) < MU p N T
      unfold MU
      rw [so, ep, show (T.1 37 + 1).toNat = (T.1 37).toNat + 1 by omega, nzE_push]
      split <;> omega
/-- orders that only go on: GO, FIRST, LAST, NOTHING -/
theorem OC_on {p : Nat → Nat → Int} {R : Nat → Int} {N : Nat} {T : MSt} {w : Nat} {r : Int} (hp : prR p R N) (h : RI p R N T) (hr : r = 0 ∨ r = 1) (s0 : stp (p 0 (T.1 39).toNat) = 0) (d0 : dcp (p 0 (T.1 39).toNat) = 0) (c0 : crp (p 0 (T.1 39).toNat) = 0) (sB : sameB p (T.1 39).toNat w) (lt : (T.1 39).toNat < w) (wN : w < N) : OC p R N T (r, mi T 39 w) := by
  have hB := RI_RB hp h
  obtain ⟨c, h39, hc⟩ := h
  have dw := dcp_nn (p 0 w)
  have cw := crp_nn (p 0 w)
  have sw := stp_nn (p 0 w)
  refine ⟨hr, fun _ => ⟨RI_39 c (RI_move hp sB (by omega) wN (Int.le_refl _) hc.1.2.2.1 (Int.le_refl _) (by omega) (by omega) hc), ?_⟩, fun _ => ⟨hB, ?_⟩⟩
  · show 376 * (501 - T.1 40) + 250 - 250 * stp (p 0 ((w : Int)).toNat) + 125 * nzE (T.2 36) (T.1 37).toNat + ((N : Int) - w) < MU p N T
    unfold MU
    rw [s0, show ((w : Int)).toNat = w by omega]
    omega
  · show 376 * (501 - T.1 40) + 250 + 125 * nzE (T.2 36) (T.1 37).toNat < MU p N T
    have := hc.1.1
    unfold MU
    rw [s0]
    omega
/-- orders that count a step and pass signs, or fail -/
theorem OC_st {p : Nat → Nat → Int} {R : Nat → Int} {N : Nat} {T : MSt} {pl : Int} (hp : prR p R N) (h : RI p R N T) (h0 : T.1 41 = 0) (s1 : stp (p 0 (T.1 39).toNat) = 1) (d1 : dcp (p 0 (T.1 39).toNat) ≤ 8) (c0 : crp (p 0 (T.1 39).toNat) ≤ 2) (sB : sameB p (T.1 39).toNat ((T.1 39).toNat + 1)) (wN : (T.1 39).toNat + 1 < N) (hpl : T.1 38 ≤ pl) (hle : pl ≤ T.1 4) : OC p R N T (1, mi (M_step (mi T 39 (T.1 39 + 1))) 38 pl) ∧ OC p R N T (0, M_step (mi T 39 (T.1 39 + 1))) := by
  have hB := RI_RB hp h
  obtain ⟨c, h39, hc⟩ := h
  have dw := dcp_nn (p 0 ((T.1 39).toNat + 1))
  have cw := crp_nn (p 0 ((T.1 39).toNat + 1))
  have sw := stp_nn (p 0 ((T.1 39).toNat + 1))
  have ep : (T.1 39 + 1).toNat = (T.1 39).toNat + 1 := by omega
  have mv := RI_move (pl' := pl) (md' := T.1 40 + 1) hp sB (by omega) wN hpl hle (by omega) (by omega) (by omega) hc
  refine ⟨⟨Or.inr rfl, fun _ => ⟨⟨CfT_38 (CfT_step (CfT_39 c) h0).1, by show 0 ≤ T.1 39 + 1; omega, ?_⟩, ?_⟩, fun y => absurd (show (1 : Int) = 0 from y) (by decide)⟩, ⟨Or.inl rfl, fun y => absurd rfl y, fun _ => ⟨RB_step (T := mi T 39 (T.1 39 + 1)) hB h0, ?_⟩⟩⟩
  · show RIc p R N (T.1 4) (T.2 36) (qT T) (snT T) (gT T) (T.1 35).toNat (T.1 37).toNat (T.1 39 + 1).toNat pl (T.1 40 + 1)
    rw [ep]; exact mv
  · show 376 * (501 - (T.1 40 + 1)) + 250 - 250 * stp (p 0 (T.1 39 + 1).toNat) + 125 * nzE (T.2 36) (T.1 37).toNat + ((N : Int) - (T.1 39 + 1)) < MU p N T
    unfold MU
    rw [s1, ep]; omega
  · show 376 * (501 - (T.1 40 + 1)) + 250 + 125 * nzE (T.2 36) (T.1 37).toNat < MU p N T
    unfold MU
    rw [s1]; omega
theorem M_isSameL_by (g fr n3 : Int) (T : MSt) : ∀ (n : Nat) (same k : Int), (same = 0 ∨ same = 1) → M_isSameL g fr n3 T n same k = (0, T) ∨ M_isSameL g fr n3 T n same k = (1, mi T 38 (T.1 38 + n3))
  | 0, same, k, h => by
    rw [M_isSameL]
    rcases h with h | h <;> subst h
    · left; rfl
    · right; rfl
  | n + 1, same, k, h => by
    rw [M_isSameL]
    split
    · rcases h with h | h <;> subst h
      · left; rfl
      · right; rfl
    · refine M_isSameL_by g fr n3 T n _ (k + 1) ?_
      (repeat' split) <;> omega
theorem M_isSame_by (g : Int) (S : MSt) : M_isSame g S = (0, S) ∨ (S.2 33 g.toNat < 0 ∧ M_isSame g S = (1, S)) ∨ (0 ≤ S.2 33 g.toNat ∧ S.1 38 + (S.2 33 (10 + g).toNat - S.2 33 g.toNat) ≤ S.1 4 ∧ M_isSame g S = (1, mi S 38 (S.1 38 + (S.2 33 (10 + g).toNat - S.2 33 g.toNat)))) := by
  unfold M_isSame
  by_cases c1 : 0 ≤ S.2 33 g.toNat
  · rw [if_pos c1]
    by_cases c2 : S.1 38 + (S.2 33 (10 + g).toNat - S.2 33 g.toNat) ≤ S.1 4
    · rw [if_pos c2]
      rcases M_isSameL_by g (S.2 33 g.toNat) (S.2 33 (10 + g).toNat - S.2 33 g.toNat) S (S.2 33 (10 + g).toNat - S.2 33 g.toNat).toNat 1 0 (Or.inr rfl) with e | e
      · exact Or.inl e
      · exact Or.inr (Or.inr ⟨c1, c2, e⟩)
    · rw [if_neg c2]
      exact Or.inl rfl
  · rw [if_neg c1]
    exact Or.inr (Or.inl ⟨by omega, rfl⟩)
theorem OC_same {p : Nat → Nat → Int} {R : Nat → Int} {N : Nat} {T : MSt} (hp : prR p R N) (h : RI p R N T) (h0 : T.1 41 = 0) (hop : p 0 (T.1 39).toNat = 7) : OC p R N T (M_order T) := by
  have hh := h
  obtain ⟨c, h39, hc⟩ := hh
  have c' := c
  obtain ⟨q8, q9, q10, q11, q4, -, -, -, -, -, q35, q37, q40, q41, -, -⟩ := c'
  have hO := hp.2.2.1 _ hc.1.1
  have o3' := hO.2.2.2.1 (by omega) (by omega)
  have o6' := hO.2.2.2.2.2.2.1 hop
  have eM : M_order T = M_isSame (T.2 9 (T.1 39).toNat) (M_step (mi T 39 (T.1 39 + 1))) := by
    unfold M_order
    rw [q8, hop]
    rfl
  have s1 : stp (p 0 (T.1 39).toNat) = 1 := by rw [hop]; rfl
  have d1 := (dcp_nn (p 0 (T.1 39).toNat)).2
  have c1 := (crp_nn (p 0 (T.1 39).toNat)).2
  have x2 := hc.1.2.2.2.2.1 (p 1 (T.1 39).toNat).toNat (by omega) (by omega)
  rw [gT_at (show (p 1 (T.1 39).toNat).toNat < 130 by omega), gT_at (show 10 + (p 1 (T.1 39).toNat).toNat < 130 by omega)] at x2
  have hl := hc.1.2.2.1
  rw [eM, q9]
  have st0 := OC_st (pl := T.1 38) hp h h0 s1 d1 (by omega) o3'.2 o3'.1 (by omega) hl
  rcases M_isSame_by (p 1 (T.1 39).toNat) (M_step (mi T 39 (T.1 39 + 1))) with e | ⟨-, e⟩ | ⟨e0, e2, e⟩
  · rw [e]; exact st0.2
  · rw [e]; exact st0.1
  · rw [e]
    have e0' : 0 ≤ T.2 33 (p 1 (T.1 39).toNat).toNat := e0
    have e2' : T.1 38 + (T.2 33 (10 + p 1 (T.1 39).toNat).toNat - T.2 33 (p 1 (T.1 39).toNat).toNat) ≤ T.1 4 := e2
    refine (OC_st (pl := T.1 38 + (T.2 33 (10 + p 1 (T.1 39).toNat).toNat - T.2 33 (p 1 (T.1 39).toNat).toNat)) hp h h0 s1 d1 (by omega) o3'.2 o3'.1 ?_ e2').1
    rw [show (10 + p 1 (T.1 39).toNat).toNat = 10 + (p 1 (T.1 39).toNat).toNat by omega]
    omega
theorem OC_leaf {p : Nat → Nat → Int} {R : Nat → Int} {N : Nat} {T : MSt} (hp : prR p R N) (h : RI p R N T) (h0 : T.1 41 = 0) (hop0 : 3 ≤ p 0 (T.1 39).toNat) (hop1 : p 0 (T.1 39).toNat ≤ 6) : OC p R N T (M_order T) := by
  have hh := h
  obtain ⟨c, h39, hc⟩ := hh
  have c' := c
  obtain ⟨q8, q9, q10, q11, q4, -, -, -, -, -, q35, q37, q40, q41, -, -⟩ := c'
  have hO := hp.2.2.1 _ hc.1.1
  have o3' := hO.2.2.2.1 (by omega) (by omega)
  have eM : M_order T = M_one (T.1 39) (mi T 39 (T.1 39 + 1)) := by
    have : p 0 (T.1 39).toNat = 3 ∨ p 0 (T.1 39).toNat = 4 ∨ p 0 (T.1 39).toNat = 5 ∨ p 0 (T.1 39).toNat = 6 := by omega
    unfold M_order
    rw [q8]
    rcases this with e | e | e | e <;> rw [e] <;> rfl
  have s1 : stp (p 0 (T.1 39).toNat) = 1 := by unfold stp; rw [if_pos (by omega)]
  have d1 := (dcp_nn (p 0 (T.1 39).toNat)).2
  have c1 := (crp_nn (p 0 (T.1 39).toNat)).2
  have hl := hc.1.2.2.1
  rw [eM]
  unfold M_one
  split
  · exact (OC_st (pl := T.1 38) hp h h0 s1 d1 (by omega) o3'.2 o3'.1 (by omega) hl).2
  · rename_i e
    have ne : T.1 38 ≠ T.1 4 := fun y => e (by
      unfold M_passes
      exact if_pos y)
    exact (OC_st (pl := T.1 38 + 1) hp h h0 s1 d1 (by omega) o3'.2 o3'.1 (by omega) (by omega)).1
