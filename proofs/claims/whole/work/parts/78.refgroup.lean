theorem Ps_lin2 {p : Nat → Nat → Int} {R : Nat → Int} {N : Nat} {rg : Nat → Int} {pl : Int} : ∀ (n r x : Nat), (∀ h, h < n → p 0 h ≠ 10 → (inB p h r ↔ inB p h x)) → Ps p R N rg pl n r + R r = Ps p R N rg pl n x + R x
  | 0, r, x, _ => by rw [Ps, Ps]; omega
  | n + 1, r, x, h => by
    rw [Ps, Ps]
    have ih := Ps_lin2 (p := p) (R := R) (N := N) (rg := rg) (pl := pl) n r x (fun i hi => h i (by omega))
    by_cases h10 : p 0 n = 10
    · have g1 : ∀ y, ¬ (inB p n y ∧ p 0 n = 12) := fun y w => by rw [h10] at w; exact absurd w.2 (by decide)
      have g2 : ∀ y, ¬ (inB p n y ∧ p 0 n = 14) := fun y w => by rw [h10] at w; exact absurd w.2 (by decide)
      rw [pif_neg (g1 r), pif_neg (g1 x), pif_neg (g2 r), pif_neg (g2 x)]
      exact ih
    · have hn := h n (by omega) h10
      by_cases h1 : inB p n r ∧ p 0 n = 12
      · rw [pif_pos h1, pif_pos ⟨hn.mp h1.1, h1.2⟩]; omega
      · have h1' : ¬ (inB p n x ∧ p 0 n = 12) := fun y => h1 ⟨hn.mpr y.1, y.2⟩
        rw [pif_neg h1, pif_neg h1']
        by_cases h2 : inB p n r ∧ p 0 n = 14
        · have h2' : inB p n x ∧ p 0 n = 14 := ⟨hn.mp h2.1, h2.2⟩
          rw [pif_pos h2, pif_pos h2']; omega
        · have h2' : ¬ (inB p n x ∧ p 0 n = 14) := fun y => h2 ⟨hn.mpr y.1, y.2⟩
          rw [pif_neg h2, pif_neg h2']; exact ih
theorem loop_re {p : Nat → Nat → Int} {R : Nat → Int} {N k : Nat} (hp : prR p R N) (hk : k < N) (k14 : p 0 k = 14) : 30 ≤ reL p k ∧ reL p k < 50 ∧ 80 ≤ rbL p k ∧ rbL p k < 100 := by
  obtain ⟨l0, l1, l2, l3, l4, -⟩ := loop_in hp hk k14
  unfold reL rbL
  omega
theorem OC_open {p : Nat → Nat → Int} {R : Nat → Int} {N : Nat} {T : MSt} (hp : prR p R N) (h : RI p R N T) (hop : p 0 (T.1 39).toNat = 10) : OC p R N T (M_order T) := by
  obtain ⟨c, h39, i1, i2, i3, i4, i5⟩ := h
  have c' := c
  obtain ⟨q8, q9, q10, q11, q4, -, -, -, -, -, q35, q37, q40, q41, -, -⟩ := c'
  obtain ⟨w1, w2, w3, w4, w5, w6⟩ := (hp.2.2.1 _ i1.1).2.2.2.2.2.2.2.1 hop
  have hpl := i1.2.1
  have hle := i1.2.2.1
  have eM : M_order T = (1, M_put (20 + T.2 9 (T.1 39).toNat) (T.1 38) (mi T 39 (T.1 39 + 1))) := by
    unfold M_order
    rw [q8, hop]
    rfl
  rw [eM, q9]
  generalize hk : (T.1 39).toNat = k at *
  have ep : (T.1 39 + 1).toNat = k + 1 := by omega
  have a := AdT_put (T := mi T 39 (T.1 39 + 1)) (r := 20 + p 1 k) (v := T.1 38) q35 (by omega) (by omega) i1.2.2.2.1
  have f := a.1
  generalize hT' : M_put (20 + p 1 k) (T.1 38) (mi T 39 (T.1 39 + 1)) = T' at a f ⊢
  have e4 : T'.1 4 = T.1 4 := f.1 4 (by decide)
  have e37 : T'.1 37 = T.1 37 := f.1 37 (by decide)
  have e38 : T'.1 38 = T.1 38 := f.1 38 (by decide)
  have e39 : T'.1 39 = T.1 39 + 1 := f.1 39 (by decide)
  have e40 : T'.1 40 = T.1 40 := f.1 40 (by decide)
  have e36 : T'.2 36 = T.2 36 := f.2.1 36 (by decide) (by decide)
  have eq : qT T' = qT T := by have h1 := qT_ad a; exact h1
  have eg : gT T' = zu (gT T) (20 + p 1 k).toNat (T.1 38) := a.2.2.2.2.1
  have lin := Ps_lin2 (p := p) (R := R) (N := N) (rg := gT T) (pl := T.1 38) N k (k + 1) (fun h _ n10 => w5 h (fun y => n10 (by rw [y]; exact hop)))
  have r1 := hp.1.1 k (k + 1) (by omega) w1
  have pc : Ps p R N (gT T) (T.1 38) N (k + 1) = Ps p R N (zu (gT T) (20 + p 1 k).toNat (T.1 38)) (T.1 38) N (k + 1) := by
    refine Ps_cong hp.1 N (k + 1) (Nat.le_refl _) w1 (fun j hj j14 _ => ?_)
    have := loop_re hp hj j14
    exact ⟨(zu_ne (by omega)).symm, (zu_ne (by omega)).symm⟩
  have cb := cntB_but (q := 10) w5 inB_not_self w6 N
  rw [if_pos ⟨i1.1, hop⟩] at cb
  have cr := crp_nn (p 0 (k + 1))
  have dB : dcp (p 0 (k + 1)) = 8 := by rw [w2]; rfl
  have dO : dcp (p 0 k) = 3 := by rw [hop]; rfl
  have cO : crp (p 0 k) = 0 := by rw [hop]; rfl
  have sB : stp (p 0 (k + 1)) = 1 := by rw [w2]; rfl
  have sO : stp (p 0 k) = 1 := by rw [hop]; rfl
  have h5 : 0 ≤ T'.1 35 := by have := a.2.2.1; have e : (mi T 39 (T.1 39 + 1)).1 35 = T.1 35 := rfl; omega
  refine ⟨Or.inr rfl, fun _ => ⟨⟨CfT_ad (T := mi T 39 (T.1 39 + 1)) c a, by rw [e39]; omega, ?_⟩, ?_⟩, fun y => absurd (show (1 : Int) = 0 from y) (by decide)⟩
  · show RIc p R N (T'.1 4) (T'.2 36) (qT T') (snT T') (gT T') (T'.1 35).toNat (T'.1 37).toNat (T'.1 39).toNat (T'.1 38) (T'.1 40)
    rw [e4, e37, e38, e39, e40, e36, eq, ep]
    refine ⟨?_, ?_, ?_, StR_ad a i4, snT_now h5⟩
    · rw [eg]
      refine RSb_ad a i4 (RSb_add w1 w5 i1 (zu_bd i1.2.2.2.1 (by omega) (by omega)) (fun g g1 g9 => ?_) (fun j hj j14 _ => ?_) (fun j hj j10 jk => ?_) (by rw [hop]; decide) (fun y => by rw [hop] at y; exact absurd y (by decide)) (fun _ => ?_))
      · rw [zu_ne (show g ≠ (20 + p 1 k).toNat by omega), zu_ne (show 10 + g ≠ (20 + p 1 k).toNat by omega)]
        exact i1.2.2.2.2.1 g g1 g9
      · have := loop_re hp hj j14
        exact ⟨zu_ne (by omega), zu_ne (by omega)⟩
      · have o := (hp.2.2.1 j hj).2.2.2.2.2.2.2.1 j10
        have ne : p 1 j ≠ p 1 k := fun y => by have := hp.2.2.2.2.2 j k hj i1.1 j10 hop y; omega
        exact zu_ne (by omega)
      · rw [zu_eq]
        exact ⟨hpl, Int.le_refl _⟩
    · rw [eg]
      have a6 := a.2.2.2.2.2.1
      have wg : ∀ v w : Int, (if v = w then 0 else 1 - wgt (20 + p 1 k).toNat v + wgt (20 + p 1 k).toNat w) ≤ 1 := by
        intro v w
        rw [wgt_z (v := v) (show (20 ≤ (20 + p 1 k).toNat ∧ (20 + p 1 k).toNat < 30) ∨ 50 ≤ (20 + p 1 k).toNat by omega), wgt_z (v := w) (show (20 ≤ (20 + p 1 k).toNat ∧ (20 + p 1 k).toNat < 30) ∨ 50 ≤ (20 + p 1 k).toNat by omega)]
        split <;> omega
      have wg' := wg (gT (mi T 39 (T.1 39 + 1)) (20 + p 1 k).toNat) (T.1 38)
      have x1 : (mi T 39 (T.1 39 + 1)).1 35 = T.1 35 := rfl
      have x2 : gT (mi T 39 (T.1 39 + 1)) = gT T := rfl
      rw [x2] at a6 wg'
      omega
    · rw [eg, ← pc]
      omega
  · show 376 * (501 - T'.1 40) + 250 - 250 * stp (p 0 (T'.1 39).toNat) + 125 * nzE (T'.2 36) (T'.1 37).toNat + ((N : Int) - T'.1 39) < MU p N T
    unfold MU
    rw [e37, e39, e40, e36, ep, hk, sB, sO]
    omega
theorem OC_close {p : Nat → Nat → Int} {R : Nat → Int} {N : Nat} {T : MSt} (hp : prR p R N) (h : RI p R N T) (hop : p 0 (T.1 39).toNat = 11) : OC p R N T (M_order T) := by
  obtain ⟨c, h39, i1, i2, i3, i4, i5⟩ := h
  have c' := c
  obtain ⟨q8, q9, q10, q11, q4, -, -, -, -, -, q35, q37, q40, q41, -, -⟩ := c'
  obtain ⟨w1, w3, w4, q, qr, hq, eq1, ib, nib, bB⟩ := (hp.2.2.1 _ i1.1).2.2.2.2.2.2.2.2.1 hop
  have hpl := i1.2.1
  have hle := i1.2.2.1
  have eM : M_order T = (1, M_put (10 + T.2 9 (T.1 39).toNat) (T.1 38) (M_put (T.2 9 (T.1 39).toNat) (T.2 33 (20 + T.2 9 (T.1 39).toNat).toNat) (mi T 39 (T.1 39 + 1)))) := by
    unfold M_order
    rw [q8, hop]
    rfl
  rw [eM, q9]
  generalize hk : (T.1 39).toNat = k at *
  have ep : (T.1 39 + 1).toNat = k + 1 := by omega
  have g20 : T.2 33 (20 + p 1 k).toNat = gT T (20 + p 1 k).toNat := (gT_at (by omega)).symm
  rw [g20]
  have b6 := i1.2.2.2.2.2.2.1 q (by have := i1.1; omega) hq ib
  rw [eq1] at b6
  have a1 := AdT_put (T := mi T 39 (T.1 39 + 1)) (r := p 1 k) (v := gT T (20 + p 1 k).toNat) q35 (by omega) (by omega) i1.2.2.2.1
  have b1 : ∀ y, y < 130 → -1 ≤ gT (M_put (p 1 k) (gT T (20 + p 1 k).toNat) (mi T 39 (T.1 39 + 1))) y ∧ gT (M_put (p 1 k) (gT T (20 + p 1 k).toNat) (mi T 39 (T.1 39 + 1))) y ≤ 34 := by
    rw [a1.2.2.2.2.1]
    exact zu_bd i1.2.2.2.1 (by omega) (by omega)
  have a2 := AdT_put (T := M_put (p 1 k) (gT T (20 + p 1 k).toNat) (mi T 39 (T.1 39 + 1))) (r := 10 + p 1 k) (v := T.1 38) (by have := a1.2.2.1; have e : (mi T 39 (T.1 39 + 1)).1 35 = T.1 35 := rfl; omega) (by omega) (by omega) b1
  have a : AdT (mi T 39 (T.1 39 + 1)) (M_put (10 + p 1 k) (T.1 38) (M_put (p 1 k) (gT T (20 + p 1 k).toNat) (mi T 39 (T.1 39 + 1)))) (zu (zu (gT T) (p 1 k).toNat (gT T (20 + p 1 k).toNat)) (10 + p 1 k).toNat (T.1 38)) 4 := by
    refine AdT_le (AdT_trans a1 a2) ?_ (by rw [a1.2.2.2.2.1]; rfl)
    have wg : ∀ (i : Nat) (v w : Int), (if v = w then 0 else 1 - wgt i v + wgt i w) ≤ 2 := by
      intro i v w
      have := wgt_nn i v
      have := wgt_nn i w
      split <;> omega
    have := wg (p 1 k).toNat (gT (mi T 39 (T.1 39 + 1)) (p 1 k).toNat) (gT T (20 + p 1 k).toNat)
    have := wg (10 + p 1 k).toNat (gT (M_put (p 1 k) (gT T (20 + p 1 k).toNat) (mi T 39 (T.1 39 + 1))) (10 + p 1 k).toNat) (T.1 38)
    omega
  have f := a.1
  generalize hT' : M_put (10 + p 1 k) (T.1 38) (M_put (p 1 k) (gT T (20 + p 1 k).toNat) (mi T 39 (T.1 39 + 1))) = T' at a f ⊢
  have e4 : T'.1 4 = T.1 4 := f.1 4 (by decide)
  have e37 : T'.1 37 = T.1 37 := f.1 37 (by decide)
  have e38 : T'.1 38 = T.1 38 := f.1 38 (by decide)
  have e39 : T'.1 39 = T.1 39 + 1 := f.1 39 (by decide)
  have e40 : T'.1 40 = T.1 40 := f.1 40 (by decide)
  have e36 : T'.2 36 = T.2 36 := f.2.1 36 (by decide) (by decide)
  have eq : qT T' = qT T := by have h1 := qT_ad a; exact h1
  have eg := a.2.2.2.2.1
  have lin := Ps_lin2 (p := p) (R := R) (N := N) (rg := gT T) (pl := T.1 38) N k (k + 1) (fun h _ n10 => bB h (fun y => n10 (by rw [y]; exact hq)))
  have r1 := hp.1.1 k (k + 1) (by omega) w1
  have pc : Ps p R N (gT T) (T.1 38) N (k + 1) = Ps p R N (zu (zu (gT T) (p 1 k).toNat (gT T (20 + p 1 k).toNat)) (10 + p 1 k).toNat (T.1 38)) (T.1 38) N (k + 1) := by
    refine Ps_cong hp.1 N (k + 1) (Nat.le_refl _) w1 (fun j hj j14 _ => ?_)
    have := loop_re hp hj j14
    exact ⟨by rw [zu_ne (show reL p j ≠ (10 + p 1 k).toNat by omega), zu_ne (show reL p j ≠ (p 1 k).toNat by omega)], by rw [zu_ne (show rbL p j ≠ (10 + p 1 k).toNat by omega), zu_ne (show rbL p j ≠ (p 1 k).toNat by omega)]⟩
  have cb := cntB_but (q := 10) (b := q) (r := k + 1) (x := k) (fun h ne => (bB h ne).symm) nib ib N
  rw [if_pos ⟨by have := i1.1; omega, hq⟩] at cb
  have cr := crp_nn (p 0 (k + 1))
  have dr := dcp_nn (p 0 (k + 1))
  have sr := stp_nn (p 0 (k + 1))
  have dO : dcp (p 0 k) = 0 := by rw [hop]; rfl
  have cO : crp (p 0 k) = 0 := by rw [hop]; rfl
  have sO : stp (p 0 k) = 0 := by rw [hop]; rfl
  have h5 : 0 ≤ T'.1 35 := by have := a.2.2.1; have e : (mi T 39 (T.1 39 + 1)).1 35 = T.1 35 := rfl; omega
  refine ⟨Or.inr rfl, fun _ => ⟨⟨CfT_ad (T := mi T 39 (T.1 39 + 1)) c a, by rw [e39]; omega, ?_⟩, ?_⟩, fun y => absurd (show (1 : Int) = 0 from y) (by decide)⟩
  · show RIc p R N (T'.1 4) (T'.2 36) (qT T') (snT T') (gT T') (T'.1 35).toNat (T'.1 37).toNat (T'.1 39).toNat (T'.1 38) (T'.1 40)
    rw [e4, e37, e38, e39, e40, e36, eq, ep]
    refine ⟨?_, ?_, ?_, StR_ad a i4, snT_now h5⟩
    · rw [eg]
      refine RSb_ad a i4 (RSb_sub (pos := k) w1 (fun h hb => ?_) (fun m hm m2 hb => ?_) (RSb_regs hp.1 i1 (zu_bd (zu_bd i1.2.2.2.1 (by omega) (by omega)) (by omega) (by omega)) (fun g g1 g9 => ?_) (fun j hj j14 _ => ?_) (fun j hj j10 _ => ?_)))
      · by_cases e : h = q
        · subst e; exact absurd hb nib
        · exact (bB h e).mpr hb
      · refine (bB _ (fun y => ?_)).mp hb
        have := (i4.1 m hm).1.2.2.2.2.2.2.1 m2
        rw [y, hq] at this
        exact absurd this (by decide)
      · have b4 := i1.2.2.2.2.1 g g1 g9
        by_cases e : g = (p 1 k).toNat
        · rw [zu_ne (show g ≠ (10 + p 1 k).toNat by omega), show (10 + p 1 k).toNat = 10 + g by omega, zu_eq, ← e, zu_eq]
          omega
        · rw [zu_ne (show g ≠ (10 + p 1 k).toNat by omega), zu_ne (show 10 + g ≠ (10 + p 1 k).toNat by omega), zu_ne e, zu_ne (show 10 + g ≠ (p 1 k).toNat by omega)]
          exact b4
      · have := loop_re hp hj j14
        exact ⟨by rw [zu_ne (show reL p j ≠ (10 + p 1 k).toNat by omega), zu_ne (show reL p j ≠ (p 1 k).toNat by omega)], by rw [zu_ne (show rbL p j ≠ (10 + p 1 k).toNat by omega), zu_ne (show rbL p j ≠ (p 1 k).toNat by omega)]⟩
      · have o := (hp.2.2.1 j hj).2.2.2.2.2.2.2.1 j10
        rw [zu_ne (show (20 + p 1 j).toNat ≠ (10 + p 1 k).toNat by omega), zu_ne (show (20 + p 1 j).toNat ≠ (p 1 k).toNat by omega)]
    · rw [eg]
      have a6 := a.2.2.2.2.2.1
      have x1 : (mi T 39 (T.1 39 + 1)).1 35 = T.1 35 := rfl
      have x2 : gT (mi T 39 (T.1 39 + 1)) = gT T := rfl
      rw [x2] at a6
      omega
    · rw [eg, ← pc]
      omega
  · show 376 * (501 - T'.1 40) + 250 - 250 * stp (p 0 (T'.1 39).toNat) + 125 * nzE (T'.2 36) (T'.1 37).toNat + ((N : Int) - T'.1 39) < MU p N T
    unfold MU
    rw [e37, e39, e40, e36, ep, hk, sO]
    omega
