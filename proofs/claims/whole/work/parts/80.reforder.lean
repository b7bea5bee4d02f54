theorem OC_look {p : Nat → Nat → Int} {R : Nat → Int} {N : Nat} {T : MSt} (hp : prR p R N) (h : RI p R N T) (hop : p 0 (T.1 39).toNat = 12) : OC p R N T (M_order T) := by
  have hB := RI_RB hp h
  obtain ⟨c, h39, hc⟩ := h
  obtain ⟨q8, q9, q10, q11, q4, q6, q6', q3, q7, q34, q35, q37, q40, q41, q41', q33⟩ := c
  have eM : M_order T = (1, M_choose 2 (T.1 39) (ma (mi T 39 (T.1 39 + 1)) 33 (130 + T.2 11 (T.1 39).toNat).toNat (T.1 37))) := by
    unfold M_order
    rw [q8, hop]
    rfl
  have hk := hc.1.1
  obtain ⟨l0, ⟨l1, l2⟩, l3, l4, l5, l6, l7, l8⟩ := look_in hp hk hop
  have lk := RI_look hp q4 q41 hop hc
  have e35 : ((T.1 35).toNat : Int) = T.1 35 := by omega
  have e37 : ((T.1 37).toNat : Int) = T.1 37 := by omega
  have e39 : ((T.1 39).toNat : Int) = T.1 39 := by omega
  rw [e35, e37, e39] at lk
  have ep : (T.1 39 + 1).toNat = (T.1 39).toNat + 1 := by omega
  have so : stp (p 0 (T.1 39).toNat) = 0 := by rw [hop]; rfl
  have sn : stp (p 0 ((T.1 39).toNat + 1)) = 1 := by rw [l7]; rfl
  have b37 := hB.2.2.2.1
  rw [eM, q11]
  generalize hc3 : p 3 (T.1 39).toNat = c3 at *
  have ei : (130 + c3).toNat = 130 + c3.toNat := by omega
  rw [ei]
  have en : ∀ y, y < 130 → zu (T.2 33) (130 + c3.toNat) (T.1 37) y = T.2 33 y := fun y hy => zu_ne (by omega)
  have eg : gT (M_choose 2 (T.1 39) (ma (mi T 39 (T.1 39 + 1)) 33 (130 + c3.toNat) (T.1 37))) = gT T := gT_cong en
  have es : snT (M_choose 2 (T.1 39) (ma (mi T 39 (T.1 39 + 1)) 33 (130 + c3.toNat) (T.1 37))) = snT T := snT_cong en rfl rfl
  have eq : qT (M_choose 2 (T.1 39) (ma (mi T 39 (T.1 39 + 1)) 33 (130 + c3.toNat) (T.1 37))) = zu (qT T) c3.toNat (T.1 37) := by
    funext y
    show zu (T.2 33) (130 + c3.toNat) (T.1 37) (130 + y) = zu (qT T) c3.toNat (T.1 37) y
    by_cases e : y = c3.toNat
    · rw [e, zu_eq, zu_eq]
    · rw [zu_ne e, zu_ne (by omega)]
      rfl
  refine ⟨Or.inr rfl, fun _ => ⟨⟨?_, by show 0 ≤ T.1 39 + 1; omega, ?_⟩, ?_⟩, fun y => absurd (show (1 : Int) = 0 from y) (by decide)⟩
  · refine ⟨q8, q9, q10, q11, q4, q6, q6', q3, q7, q34, q35, by show 0 ≤ T.1 37 + 1; omega, q40, q41, q41', fun y hy => ?_⟩
    show -99999 ≤ zu (T.2 33) (130 + c3.toNat) (T.1 37) y ∧ zu (T.2 33) (130 + c3.toNat) (T.1 37) y ≤ 99999
    unfold zu
    split
    · omega
    · exact q33 y hy
  · rw [eg, es, eq]
    show RIc p R N (T.1 4) (zu (T.2 36) (T.1 37).toNat (2 + 4 * (T.1 39 + 256 * (T.1 38 + 32 * T.1 35)))) (zu (qT T) c3.toNat (T.1 37)) (snT T) (gT T) (T.1 35).toNat (T.1 37 + 1).toNat (T.1 39 + 1).toNat (T.1 38) (T.1 40)
    rw [ep, show (T.1 37 + 1).toNat = (T.1 37).toNat + 1 by omega]
    exact lk
  · show 376 * (501 - T.1 40) + 250 - 250 * stp (p 0 (T.1 39 + 1).toNat) + 125 * nzE (zu (T.2 36) (T.1 37).toNat (2 + 4 * (T.1 39 + 256 * (T.1 38 + 32 * T.1 35)))) (T.1 37 + 1).toNat + ((N : Int) - (T.1 39 + 1)) < MU p N T
    unfold MU
    rw [so, ep, sn, show (T.1 37 + 1).toNat = (T.1 37).toNat + 1 by omega, nzE_push]
    split <;> omega
theorem OC_looked {p : Nat → Nat → Int} {R : Nat → Int} {N : Nat} {T : MSt} (hp : prR p R N) (h : RI p R N T) (hop : p 0 (T.1 39).toNat = 13) : OC p R N T (M_order T) := by
  have hB := RI_RB hp h
  obtain ⟨c, h39, hc⟩ := h
  have c' := c
  obtain ⟨q8, q9, q10, q11, q4, q6, q6', q3, q7, q34, q35, q37, q40, q41, q41', q33⟩ := c'
  have eM : M_order T = ((if T.2 10 (T.1 39).toNat = 1 then 1 else 0 : Int), M_looked (T.1 39) (mi T 39 (T.1 39 + 1))) := by
    unfold M_order
    rw [q8, hop]
    rfl
  obtain ⟨m, m1, m2, m3, lk⟩ := RI_looked hp hop hc
  obtain ⟨-, -, b35, b37, b33⟩ := hB
  have c3 := (hp.2.2.1 _ hc.1.1).1
  have em : T.2 33 (130 + p 3 (T.1 39).toNat).toNat = m := by
    rw [← m1]
    unfold qT
    rw [show (130 + p 3 (T.1 39).toNat).toNat = 130 + (p 3 (T.1 39).toNat).toNat by omega]
  have eL : M_looked (T.1 39) (mi T 39 (T.1 39 + 1)) = mi (mi (mi T 39 (T.1 39 + 1)) 38 (T.2 36 m / 1024 % 32)) 37 m := by
    unfold M_looked
    show mi (mi (mi T 39 (T.1 39 + 1)) 38 (T.2 36 (T.2 33 (130 + T.2 11 (T.1 39).toNat).toNat).toNat / 1024 % 32)) 37 (T.2 33 (130 + T.2 11 (T.1 39).toNat).toNat) = _
    rw [q11, em, show ((m : Int)).toNat = m by omega]
  have ep : (T.1 39 + 1).toNat = (T.1 39).toNat + 1 := by omega
  have so : stp (p 0 (T.1 39).toNat) = 0 := by rw [hop]; rfl
  have sn := stp_nn (p 0 ((T.1 39).toNat + 1))
  have nz := nzE_mono (x := T.2 36) (m := m) (T.1 37).toNat (by omega)
  have hN := hc.1.1
  rw [eM, eL]
  have cf : CfT p (mi (mi (mi T 39 (T.1 39 + 1)) 38 (T.2 36 m / 1024 % 32)) 37 m) := CfT_37 (CfT_38 (CfT_39 c)) (by omega)
  refine ⟨?_, fun _ => ⟨⟨cf, by show 0 ≤ T.1 39 + 1; omega, ?_⟩, ?_⟩, fun _ => ⟨⟨cf, ?_, b35, ?_, b33⟩, ?_⟩⟩
  · show (if T.2 10 (T.1 39).toNat = 1 then 1 else 0 : Int) = 0 ∨ (if T.2 10 (T.1 39).toNat = 1 then 1 else 0 : Int) = 1
    split
    · exact Or.inr rfl
    · exact Or.inl rfl
  · show RIc p R N (T.1 4) (T.2 36) (qT T) (snT T) (gT T) (T.1 35).toNat ((m : Int)).toNat (T.1 39 + 1).toNat (T.2 36 m / 1024 % 32) (T.1 40)
    rw [ep, show ((m : Int)).toNat = m by omega]
    exact lk
  · show 376 * (501 - T.1 40) + 250 - 250 * stp (p 0 (T.1 39 + 1).toNat) + 125 * nzE (T.2 36) ((m : Int)).toNat + ((N : Int) - (T.1 39 + 1)) < MU p N T
    unfold MU
    rw [so, ep, show ((m : Int)).toNat = m by omega]
    omega
  · show StR p R N (T.1 4) (T.1 40) (T.2 36) (qT T) (snT T) ((m : Int)).toNat (T.1 35).toNat
    rw [show ((m : Int)).toNat = m by omega]
    exact lk.2.2.2.1
  · show (m : Int) ≤ 2990
    omega
  · show 376 * (501 - T.1 40) + 250 + 125 * nzE (T.2 36) ((m : Int)).toNat < MU p N T
    unfold MU
    rw [so, show ((m : Int)).toNat = m by omega]
    omega
theorem OC_loop {p : Nat → Nat → Int} {R : Nat → Int} {N : Nat} {T : MSt} (hp : prR p R N) (h : RI p R N T) (hop : p 0 (T.1 39).toNat = 14) : OC p R N T (M_order T) := by
  obtain ⟨c, h39, i1, i2, i3, i4, i5⟩ := h
  have c' := c
  obtain ⟨q8, q9, q10, q11, q4, -, -, -, -, -, q35, q37, q40, q41, -, -⟩ := c'
  have eM : M_order T = (1, M_decide (T.1 39) (M_put (30 + T.2 11 (T.1 39).toNat) 0 (mi T 39 (T.1 39 + 1)))) := by
    unfold M_order
    rw [q8, hop]
    rfl
  rw [eM, q11]
  have e39 : ((T.1 39).toNat : Int) = T.1 39 := by omega
  generalize hk : (T.1 39).toNat = k at *
  have hkN := i1.1
  obtain ⟨l0, l1, l2, l3, l4, l5, l6, l7, l8, l9, l10, l11, l12, l13⟩ := loop_in hp hkN hop
  have a := AdT_put (T := mi T 39 (T.1 39 + 1)) (r := 30 + p 3 k) (v := 0) q35 (by omega) (by omega) i1.2.2.2.1
  have f := a.1
  generalize hT' : M_put (30 + p 3 k) 0 (mi T 39 (T.1 39 + 1)) = T' at a f ⊢
  have e4 : T'.1 4 = T.1 4 := f.1 4 (by decide)
  have e37 : T'.1 37 = T.1 37 := f.1 37 (by decide)
  have e38 : T'.1 38 = T.1 38 := f.1 38 (by decide)
  have e40 : T'.1 40 = T.1 40 := f.1 40 (by decide)
  have e36 : T'.2 36 = T.2 36 := f.2.1 36 (by decide) (by decide)
  have eq : qT T' = qT T := by have h1 := qT_ad a; exact h1
  have eg : gT T' = zu (gT T) (reL p k) 0 := a.2.2.2.2.1
  have dO : dcp (p 0 k) = 0 := by rw [hop]; rfl
  have cO : crp (p 0 k) = 0 := by rw [hop]; rfl
  have sO : stp (p 0 k) = 0 := by rw [hop]; rfl
  have lp : LpT p R N k T' := by
    refine ⟨CfT_ad (T := mi T 39 (T.1 39 + 1)) c a, hkN, hop, ?_, ?_, ?_⟩
    · rw [e4, e37, e38, e36, eq, eg]
      have rr := loop_re hp hkN hop
      refine RSb_ad a i4 (RSb_regs hp.1 i1 (zu_bd i1.2.2.2.1 (by omega) (by omega)) (fun g g1 g9 => ?_) (fun j hj j14 jb => ?_) (fun j hj j10 _ => ?_))
      · rw [zu_ne (show g ≠ reL p k by omega), zu_ne (show 10 + g ≠ reL p k by omega)]
        exact i1.2.2.2.2.1 g g1 g9
      · have ne := loop_ne hp hj hkN j14 hop (fun y => by subst y; exact inB_not_self jb)
        exact ⟨zu_ne ne.1, zu_ne ne.2.2.2.1⟩
      · have o := (hp.2.2.1 j hj).2.2.2.2.2.2.2.1 j10
        exact zu_ne (by omega)
    · rw [eg, e40]
      have a6 := a.2.2.2.2.2.1
      have wg : ∀ v : Int, (if v = 0 then 0 else 1 - wgt (30 + p 3 k).toNat v + wgt (30 + p 3 k).toNat 0) ≤ 0 := by
        intro v
        unfold wgt
        rw [if_neg (show ¬ ((1 ≤ (30 + p 3 k).toNat ∧ (30 + p 3 k).toNat ≤ 9) ∨ (11 ≤ (30 + p 3 k).toNat ∧ (30 + p 3 k).toNat ≤ 19)) by omega), if_neg (show ¬ ((1 ≤ (30 + p 3 k).toNat ∧ (30 + p 3 k).toNat ≤ 9) ∨ (11 ≤ (30 + p 3 k).toNat ∧ (30 + p 3 k).toNat ≤ 19)) by omega), if_pos (show 30 ≤ (30 + p 3 k).toNat ∧ (30 + p 3 k).toNat < 50 by omega), if_pos (show 30 ≤ (30 + p 3 k).toNat ∧ (30 + p 3 k).toNat < 50 by omega), if_pos rfl]
        split <;> omega
      have wg' := wg (gT (mi T 39 (T.1 39 + 1)) (30 + p 3 k).toNat)
      have x1 : (mi T 39 (T.1 39 + 1)).1 35 = T.1 35 := rfl
      have x2 : gT (mi T 39 (T.1 39 + 1)) = gT T := rfl
      have x3 : (30 + p 3 k).toNat = reL p k := rfl
      rw [x2, x3] at a6 wg'
      omega
    · rw [e4, e37, e40, e36, eq]
      exact StR_ad a i4
  have dp : DPr p R N (gT T') (T'.1 38) (T'.1 37).toNat (T'.1 40) k := by
    rw [eg, e37, e38, e40]
    exact DPr_loop hp hkN hop i1.2.1 (by omega)
  obtain ⟨r1, r2⟩ := RI_decide hp lp dp
  rw [e39] at r1 r2
  refine ⟨Or.inr rfl, fun _ => ⟨r1, ?_⟩, fun y => absurd (show (1 : Int) = 0 from y) (by decide)⟩
  rw [e37, e40, e36] at r2
  have hen := (hp.1.2.2.2.2.1 k hkN hop).2.2.2.1
  show MU p N (M_decide (T.1 39) T') < 376 * (501 - T.1 40) + 250 - 250 * stp (p 0 (T.1 39).toNat) + 125 * nzE (T.2 36) (T.1 37).toNat + ((N : Int) - T.1 39)
  rw [hk, sO]
  omega
theorem OC_again {p : Nat → Nat → Int} {R : Nat → Int} {N : Nat} {T : MSt} (hp : prR p R N) (h : RI p R N T) (hop : p 0 (T.1 39).toNat = 15) : OC p R N T (M_order T) := by
  have hB := RI_RB hp h
  obtain ⟨c, h39, i1, i2, i3, i4, i5⟩ := h
  have c' := c
  obtain ⟨q8, q9, q10, q11, q4, -, -, -, -, -, q35, q37, q40, q41, -, -⟩ := c'
  obtain ⟨y0, y1, y2, y3⟩ := (hp.2.2.1 _ i1.1).2.2.2.2.2.2.2.2.2.2.2.2.1 hop
  have eM : M_order T = if zb (M_isIdle (T.2 9 (T.1 39).toNat) (mi T 39 (T.1 39 + 1))) = 0 then (1, M_decide (T.2 9 (T.1 39).toNat) (mi T 39 (T.1 39 + 1))) else (0, mi T 39 (T.1 39 + 1)) := by
    unfold M_order
    rw [q8, hop]
    rfl
  rw [eM, q9]
  have sO : stp (p 0 (T.1 39).toNat) = 0 := by rw [hop]; rfl
  have dO : dcp (p 0 (T.1 39).toNat) = 0 := by rw [hop]; rfl
  have cO : crp (p 0 (T.1 39).toNat) = 0 := by rw [hop]; rfl
  have hN := i1.1
  have e39 : ((p 1 (T.1 39).toNat).toNat : Int) = p 1 (T.1 39).toNat := by omega
  have hkN : (p 1 (T.1 39).toNat).toNat < N := by omega
  obtain ⟨k, hk⟩ : ∃ k, (p 1 (T.1 39).toNat).toNat = k := ⟨_, rfl⟩
  rw [hk] at y2 y3 e39 hkN
  obtain ⟨l0, l1, l2, l3, l4, l5, l6, l7, l8, l9, l10, l11, l12, l13⟩ := loop_in hp hkN y2
  have rr := loop_re hp hkN y2
  have hid : M_isIdle (p 1 (T.1 39).toNat) (mi T 39 (T.1 39 + 1)) ↔ lockL p (gT T) (T.1 38) k := by
    show (T.2 9 (p 1 (T.1 39).toNat).toNat % 128 < T.2 33 (30 + T.2 11 (p 1 (T.1 39).toNat).toNat).toNat ∧ T.2 33 (80 + T.2 11 (p 1 (T.1 39).toNat).toNat).toNat = T.1 38) ↔ _
    unfold lockL
    rw [q9, q11, hk, gT_at (show reL p k < 130 by omega), gT_at (show rbL p k < 130 by omega)]
    exact Iff.rfl
  unfold zb
  by_cases ci : M_isIdle (p 1 (T.1 39).toNat) (mi T 39 (T.1 39 + 1))
  · rw [if_pos ci, if_neg (by decide)]
    refine ⟨Or.inl rfl, fun y => absurd rfl y, fun _ => ⟨hB, ?_⟩⟩
    show 376 * (501 - T.1 40) + 250 + 125 * nzE (T.2 36) (T.1 37).toNat < MU p N T
    unfold MU
    rw [sO]
    omega
  · rw [if_neg ci, if_pos rfl]
    have nl : ¬ lockL p (gT T) (T.1 38) k := fun y => ci (hid.mpr y)
    rw [← y3] at i1 i2 i3 hN
    have lo := fun h => loop_out (h := h) hp hkN y2
    have lp : LpT p R N k (mi T 39 (T.1 39 + 1)) := by
      refine ⟨CfT_39 c, hkN, y2, RSb_sub hkN (fun h hb => ((lo h).2.1 (fun y => by subst y; exact inB_not_self hb)).mpr hb) (fun m hm m2 hb => ?_) i1, ?_, i4⟩
      · refine ((lo _).2.1 (fun y => ?_)).mp hb
        have h12 := (i4.1 m hm).1.2.2.2.2.2.2.1 m2
        have y' : (T.2 36 m / 4 % 256).toNat = k := y
        rw [y', y2] at h12
        exact absurd h12 (by decide)
      · show T.1 35 + Wr (gT T) 130 + 4 * cntB p 10 k N ≤ 8 * T.1 40 + 40
        have cb := cntB_but (q := 10) (b := k) (r := k) (x := enL p k) (fun h ne => ((lo h).2.1 ne).symm) inB_not_self l6 N
        rw [if_neg (fun y => by rw [y2] at y; exact absurd y.2 (by decide))] at cb
        rw [y3] at i2 cb
        omega
    have dp : DPr p R N (gT T) (T.1 38) (T.1 37).toNat (T.1 40) k := DPr_again hp hkN y2 i1 nl (by rw [y3] at i3 ⊢; omega)
    obtain ⟨r1, r2⟩ := RI_decide hp lp dp
    rw [e39] at r1 r2
    refine ⟨Or.inr rfl, fun _ => ⟨r1, ?_⟩, fun y => absurd (show (1 : Int) = 0 from y) (by decide)⟩
    have r2' : MU p N (M_decide (p 1 (T.1 39).toNat) (mi T 39 (T.1 39 + 1))) ≤ 376 * (501 - T.1 40) + 125 + 125 * nzE (T.2 36) (T.1 37).toNat + ((N : Int) - (p 1 (T.1 39).toNat + 1)) ∨ MU p N (M_decide (p 1 (T.1 39).toNat) (mi T 39 (T.1 39 + 1))) ≤ 376 * (501 - T.1 40) + 250 + 125 * nzE (T.2 36) (T.1 37).toNat + ((N : Int) - (enL p k + 1)) := r2
    have hN2 := hp.2.1
    show MU p N (M_decide (p 1 (T.1 39).toNat) (mi T 39 (T.1 39 + 1))) < 376 * (501 - T.1 40) + 250 - 250 * stp (p 0 (T.1 39).toNat) + 125 * nzE (T.2 36) (T.1 37).toNat + ((N : Int) - T.1 39)
    rw [sO]
    omega
theorem OC_order {p : Nat → Nat → Int} {R : Nat → Int} {N : Nat} {T : MSt} (hp : prR p R N) (h : RI p R N T) (h0 : T.1 41 = 0) (h16 : p 0 (T.1 39).toNat ≠ 16) : OC p R N T (M_order T) := by
  have hh := h
  obtain ⟨c, h39, hc⟩ := hh
  obtain ⟨q8, q9, -⟩ := c
  have hO := hp.2.2.1 _ hc.1.1
  have o0 := hO.1
  have ep : T.1 39 + 1 = (((T.1 39).toNat + 1 : Nat) : Int) := by omega
  by_cases e1 : p 0 (T.1 39).toNat = 1
  · exact OC_begin hp h h0 e1
  by_cases e2 : p 0 (T.1 39).toNat = 2
  · obtain ⟨g1, g2, g3⟩ := hO.2.2.1 e2
    have eM : M_order T = (1, mi (mi T 39 (T.1 39 + 1)) 39 (T.2 9 (T.1 39).toNat)) := by
      unfold M_order
      rw [q8, e2]
      rfl
    have ei : mi (mi T 39 (T.1 39 + 1)) 39 (p 1 (T.1 39).toNat) = mi T 39 (((p 1 (T.1 39).toNat).toNat : Nat) : Int) := by
      rw [show (((p 1 (T.1 39).toNat).toNat : Nat) : Int) = p 1 (T.1 39).toNat by omega]
      unfold mi
      refine Prod.ext ?_ rfl
      funext j
      show (if j = 39 then _ else if j = 39 then _ else T.1 j) = if j = 39 then _ else T.1 j
      split
      · rfl
      · rfl
    rw [eM, q9, ei]
    exact OC_on hp h (Or.inr rfl) (by rw [e2]; rfl) (by rw [e2]; rfl) (by rw [e2]; rfl) g3 (by omega) (by omega)
  by_cases e3 : p 0 (T.1 39).toNat ≤ 6
  · exact OC_leaf hp h h0 (by omega) e3
  by_cases e7 : p 0 (T.1 39).toNat = 7
  · exact OC_same hp h h0 e7
  by_cases e8 : p 0 (T.1 39).toNat = 8
  · obtain ⟨g1, g2⟩ := hO.2.2.2.1 (by omega) (by omega)
    have eM : M_order T = ((if T.1 38 = 0 then 1 else (if M_has 2 T = 0 then 0 else (if T.2 3 (T.1 38 - 1).toNat = 47 then 1 else 0 : Int) : Int) : Int), mi T 39 (T.1 39 + 1)) := by
      unfold M_order
      rw [q8, e8]
      rfl
    rw [eM, ep]
    exact OC_on hp h (by (repeat' split) <;> omega) (by rw [e8]; rfl) (by rw [e8]; rfl) (by rw [e8]; rfl) g2 (by omega) (by omega)
  by_cases e9 : p 0 (T.1 39).toNat = 9
  · obtain ⟨g1, g2⟩ := hO.2.2.2.1 (by omega) (by omega)
    have eM : M_order T = ((if T.1 38 = T.1 4 then 1 else (if M_has 2 T = 0 then 0 else (if T.2 3 (T.1 38).toNat = 47 then 1 else 0 : Int) : Int) : Int), mi T 39 (T.1 39 + 1)) := by
      unfold M_order
      rw [q8, e9]
      rfl
    rw [eM, ep]
    exact OC_on hp h (by (repeat' split) <;> omega) (by rw [e9]; rfl) (by rw [e9]; rfl) (by rw [e9]; rfl) g2 (by omega) (by omega)
  by_cases e10 : p 0 (T.1 39).toNat = 10
  · exact OC_open hp h e10
  by_cases e11 : p 0 (T.1 39).toNat = 11
  · exact OC_close hp h e11
  by_cases e12 : p 0 (T.1 39).toNat = 12
  · exact OC_look hp h e12
  by_cases e13 : p 0 (T.1 39).toNat = 13
  · exact OC_looked hp h e13
  by_cases e14 : p 0 (T.1 39).toNat = 14
  · exact OC_loop hp h e14
  by_cases e15 : p 0 (T.1 39).toNat = 15
  · exact OC_again hp h e15
  have e17 : p 0 (T.1 39).toNat = 17 := by omega
  obtain ⟨g1, g2⟩ := hO.2.2.2.2.2.2.2.2.2.2.2.2.2 e17
  have eM : M_order T = (1, mi T 39 (T.1 39 + 1)) := by
    unfold M_order
    rw [q8, e17]
    rfl
  rw [eM, ep]
  exact OC_on hp h (Or.inr rfl) (by rw [e17]; rfl) (by rw [e17]; rfl) (by rw [e17]; rfl) g2 (by omega) (by omega)
