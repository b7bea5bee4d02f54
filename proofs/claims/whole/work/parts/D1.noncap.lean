theorem rV_addS {S : CSt} {kd am nb : Int} (hv : rV S) (z0 : 0 ≤ S.1 7 5) (z1 : S.1 7 5 < 96) (h0 : -1 ≤ kd) (h1 : kd ≤ 1000000) (h2 : -1 ≤ am) (h3 : am ≤ 1000000) (h4 : -1 ≤ nb) (h5 : nb ≤ 1000000) : rV (addS kd am nb S) := by
  have q := rV_add (kd := kd) (am := am) (nb := nb) hv (by rw [K2_addQ z0 z1]) h0 h1 h2 h3 h4 h5
  rw [K2_addQ z0 z1] at q
  exact q
theorem rV_grp {S : CSt} (hV : rV S) (h : (K2_addGroup S).1 = 0) : rV (K2_addGroup S).2.2 := rV_of hV (pB_addGroup hV.1 h) (K2_addGroup_1 (by decide)) (K2_addGroup_1 (by decide)) (K2_addGroup_1 (by decide))
theorem addS_lo {kd am nb : Int} {S : CSt} {j k : Nat} (hj : j < 3) (hk : (k : Int) < S.1 7 5) : cqR (addS kd am nb S) j k = cqR S j k := by
  have hj' : j = 0 ∨ j = 1 ∨ j = 2 := by omega
  have a := addS_c (kd := kd) (am := am) (nb := nb) (S := S) (k := k)
  rcases hj' with y | y | y <;> subst y
  · rw [a.1, if_neg (by omega)]
  · rw [a.2.1, if_neg (by omega)]
  · rw [a.2.2, if_neg (by omega)]
theorem addS_hi {kd am nb : Int} {S : CSt} : cqR (addS kd am nb S) 0 (S.1 7 5).toNat = kd ∧ cqR (addS kd am nb S) 1 (S.1 7 5).toNat = am ∧ cqR (addS kd am nb S) 2 (S.1 7 5).toNat = nb := by
  have a := addS_c (kd := kd) (am := am) (nb := nb) (S := S) (k := (S.1 7 5).toNat)
  exact ⟨a.1.trans (if_pos rfl), a.2.1.trans (if_pos rfl), a.2.2.trans (if_pos rfl)⟩
theorem addS_at {kd am nb : Int} {S : CSt} {k : Int} : K4_at 2 k (addS kd am nb S) = K4_at 2 k S := by
  unfold K4_at
  rw [addS_o (by omega), addS_o (n := 11 + 2) (by omega)]
theorem ci8_q {S : CSt} {i j k : Nat} {v : Int} : cqR (ci S 8 i v) j k = cqR S j k := by
  show (ci S 8 i v).1 (26 + j) k = _
  rw [ci_ne (by omega)]; rfl
theorem ci7_q {S : CSt} {i j k : Nat} {v : Int} : cqR (ci S 7 i v) j k = cqR S j k := by
  show (ci S 7 i v).1 (26 + j) k = _
  rw [ci_ne (by omega)]; rfl
theorem ci_at8 {S : CSt} {i : Nat} {v k : Int} : K4_at 2 k (ci S 8 i v) = K4_at 2 k S := by
  unfold K4_at
  rw [ci_ne (by decide), ci_ne (by decide)]
theorem ci_at7 {S : CSt} {i : Nat} {v k : Int} : K4_at 2 k (ci S 7 i v) = K4_at 2 k S := by
  unfold K4_at
  rw [ci_ne (by decide), ci_ne (by decide)]
/-- a 'nothing' emitted behind a changed place -/
theorem em17 {T0 : MSt} {g v : Int} : (M_emit 17 0 g 0 (mi T0 24 v)).1 19 = T0.1 19 + 1 ∧ (M_emit 17 0 g 0 (mi T0 24 v)).1 24 = v ∧ (∀ k, k ≠ 19 → k ≠ 24 → (M_emit 17 0 g 0 (mi T0 24 v)).1 k = T0.1 k) ∧ (∀ k, k < 15 ∨ 18 < k → (M_emit 17 0 g 0 (mi T0 24 v)).2 k = T0.2 k) ∧ (np (M_emit 17 0 g 0 (mi T0 24 v)) 0 (T0.1 19).toNat = 17 ∧ np (M_emit 17 0 g 0 (mi T0 24 v)) 1 (T0.1 19).toNat = 0 ∧ np (M_emit 17 0 g 0 (mi T0 24 v)) 2 (T0.1 19).toNat = g ∧ np (M_emit 17 0 g 0 (mi T0 24 v)) 3 (T0.1 19).toNat = 0) ∧ (∀ j k : Nat, k ≠ (T0.1 19).toNat → np (M_emit 17 0 g 0 (mi T0 24 v)) j k = np T0 j k) := by
  refine ⟨rfl, rfl, fun k a b => ?_, fun k hk => ?_, np_emit0 (T := mi T0 24 v), fun j k hk => np_emit (T := mi T0 24 v) hk⟩
  · show (if k = 19 then _ else if k = 24 then _ else T0.1 k) = _
    rw [if_neg a, if_neg b]
  · show (if k = 18 then _ else if k = 17 then _ else if k = 16 then _ else if k = 15 then _ else T0.2 k) = _
    rw [if_neg (by omega), if_neg (by omega), if_neg (by omega), if_neg (by omega)]
/-- '(?:' in both -/
theorem NONCAP {G : Int → CSt → CR} {f d : Int} {T0 : MSt} {S0 : CSt} {F0 E0 : Nat → Nat} {R0 : Nat → Int} (h : RR f d T0 S0 F0) (hz : NZ T0) (hl : T0.1 24 < T0.1 14) (hFR : ∀ (S : CSt) (dp : Int), rV S → rR (wP S) S (G dp S)) (hG : d < 8 → HGd G f d) (c40 : M_sign T0 (T0.1 24) = 40) (c63 : M_sign T0 (T0.1 24 + 1) = 63) (c58 : M_sign T0 (T0.1 24 + 1 + 1) = 58) : OUT f d T0 S0 F0 E0 R0 (K3_readCountedAtom G d S0) := by
  have h0 := h
  obtain ⟨⟨e1, e2, e3⟩, h25, hD, hsg, hlen, hg, hlp, hlk, hgr, hsz, hcd, hd, hf, hv⟩ := h
  have k0 := hD.2.2.2.1
  have hz1 := hsz.1
  have hz2 := hsz.2
  have z0 : 0 ≤ S0.1 7 5 := by rw [hsz.1]; omega
  have l2 := sgn_lt (T := T0) (k := T0.1 24 + 1 + 1) (by omega)
  have rd : rdS T0 = M_openBody 2 (T0.1 19) (M_emit 17 0 (T0.1 20) 0 (mi T0 24 (T0.1 24 + 1 + 2))) := by
    unfold rdS
    rw [if_neg (show ¬ M_sign T0 (T0.1 24) = 124 by omega), if_neg (show ¬ M_sign T0 (T0.1 24) = 41 by omega), if_neg (show ¬ M_sign T0 (T0.1 24) = 94 by omega), if_neg (show ¬ M_sign T0 (T0.1 24) = 36 by omega), if_pos c40]
    unfold M_openParenthesis
    rw [if_pos c63, if_pos c58, mi_mi]
  obtain ⟨u19, u24, uo, u2, ub, un⟩ := em17 (T0 := T0) (g := T0.1 20) (v := T0.1 24 + 1 + 2)
  generalize hU : M_emit 17 0 (T0.1 20) 0 (mi T0 24 (T0.1 24 + 1 + 2)) = U at rd u19 u24 uo u2 ub un
  have an : (U.1 19).toNat = (T0.1 19).toNat + 1 := by omega
  have u32 := uo 32 (by decide) (by decide)
  -- the class up to the body
  have s8 : (addS 9 (-1) (-1) S0).1 8 3 = T0.1 24 := by rw [addS_o (by omega)]; exact e1
  have eop : K3_takeOpening 58 (addS 9 (-1) (-1) S0) = (1, ci (addS 9 (-1) (-1) S0) 8 3 (T0.1 24 + 3)) := by
    unfold K3_takeOpening
    rw [addS_at, addS_at, addS_at, s8, e3 _ e2, e3 _ (by omega), e3 _ (by omega), if_pos c40, if_pos c63, show T0.1 24 + 2 = T0.1 24 + 1 + 1 by omega, if_pos c58]
  have hA : K3_readAtom G d (addS 9 (-1) (-1) S0) = gBd (K3_readInside G d (ci (addS 9 (-1) (-1) S0) 8 3 (T0.1 24 + 3))) (fun v S => (0, v, S)) := by
    unfold K3_readAtom
    rw [eop]
    exact if_neg i10
  have eq : K3_readCountedAtom G d S0 = gBd (K3_readInside G d (ci (addS 9 (-1) (-1) S0) 8 3 (T0.1 24 + 3))) (fun v S => tailC (S0.1 7 5) (S0.1 7 12) v S) := by
    rw [counted_T, K2_addQ z0 (by omega)]
    refine (if_pos rfl).trans ?_
    show gBd (K3_readAtom G d (addS 9 (-1) (-1) S0)) _ = _
    rw [hA, gBd_id]
  have hs : ¬ K4_at 2 (S0.1 8 3) S0 = 0 := by rw [e1, e3 _ e2, c40]; decide
  have hVc := (K3_readCountedAtom_R hFR (dp := d) hv hs).2.2.1
  rw [eq] at hVc ⊢
  have va : rV (addS 9 (-1) (-1) S0) := rV_addS hv z0 (by omega) (by decide) (by decide) (by decide) (by decide) (by decide) (by decide)
  have vb : rV (ci (addS 9 (-1) (-1) S0) 8 3 (T0.1 24 + 3)) := rV_at va (by omega) (by rw [addS_o (by omega)]; omega)
  have b8 : (ci (addS 9 (-1) (-1) S0) 8 3 (T0.1 24 + 3)).1 8 3 = T0.1 24 + 3 := by rw [ci_eq, zu_eq]
  have b84 : (ci (addS 9 (-1) (-1) S0) 8 3 (T0.1 24 + 3)).1 8 4 = T0.1 23 := by rw [ci_eq, zu_ne (by decide), addS_o (by omega)]; exact hgr
  have b75 : (ci (addS 9 (-1) (-1) S0) 8 3 (T0.1 24 + 3)).1 7 5 = S0.1 7 5 + 1 := by rw [ci_ne (by decide), addS_75]
  have b7 : ∀ j, j ≠ 5 → (ci (addS 9 (-1) (-1) S0) 8 3 (T0.1 24 + 3)).1 7 j = S0.1 7 j := fun j hj => by rw [ci_ne (by decide), addS_7 hj]
  have b2 : (ci (addS 9 (-1) (-1) S0) 8 3 (T0.1 24 + 3)).1 2 1 = T0.1 14 := by rw [ci_ne (by decide), addS_o (by omega)]; exact hlen
  have bat : ∀ k, 0 ≤ k → K4_at 2 k (ci (addS 9 (-1) (-1) S0) 8 3 (T0.1 24 + 3)) = M_sign T0 k := fun k hk => by rw [ci_at8, addS_at]; exact e3 k hk
  have bq : ∀ j k : Nat, j < 3 → (k : Int) < S0.1 7 5 → cqR (ci (addS 9 (-1) (-1) S0) 8 3 (T0.1 24 + 3)) j k = cqR S0 j k := fun j k hj hk => by rw [ci8_q, addS_lo hj hk]
  have bh : cqR (ci (addS 9 (-1) (-1) S0) 8 3 (T0.1 24 + 3)) 0 (S0.1 7 5).toNat = 9 ∧ cqR (ci (addS 9 (-1) (-1) S0) 8 3 (T0.1 24 + 3)) 1 (S0.1 7 5).toNat = -1 := by rw [ci8_q, ci8_q]; exact ⟨addS_hi.1, addS_hi.2.1⟩
  have bw' : ∀ j k : Nat, cwR (ci (addS 9 (-1) (-1) S0) 8 3 (T0.1 24 + 3)) j k = cwR S0 j k := fun j k => rfl
  have bl : ∀ j c : Nat, 5 ≤ j → j ≤ 8 → cqR (ci (addS 9 (-1) (-1) S0) 8 3 (T0.1 24 + 3)) j c = cqR S0 j c := fun j c h5 h8 => by rw [ci8_q, addS_l h5]
  generalize ci (addS 9 (-1) (-1) S0) 8 3 (T0.1 24 + 3) = Sb at eq hVc vb b8 b84 b75 b7 b2 bat bq bh bw' bl ⊢
  by_cases cd : d < 8
  · have hDo : DMi (M_openBody 2 (T0.1 19) U) := by
      have q := rd_step hD h25 hl
      rw [rd] at q
      rcases q with q | q
      · have q' : (if U.1 25 = 0 then (if U.1 32 ≤ 8 then 0 else 1 : Int) else 1 : Int) = 1 := q
        rw [if_pos (by rw [uo 25 (by decide) (by decide)]; exact h25), if_pos (by omega)] at q'
        exact absurd q' (by decide)
      · exact q.2.2.1
    have usg : M_sign U = M_sign T0 := by
      funext k
      unfold M_sign
      rw [uo 14 (by decide) (by decide), u2 13 (by omega)]
    have hBIN := OPENB (f := f) (d := d) (U := U) (S := Sb) (F := fu F0 ((T0.1 19).toNat + 1) (F0 (T0.1 19).toNat + 1)) (R := zu R0 ((T0.1 19).toNat + 1) (R0 (T0.1 19).toNat)) (q := 2) (ah := T0.1 19) ⟨by omega, by omega, fun k hk => by rw [usg]; exact bat k hk⟩ (by rw [uo 25 (by decide) (by decide)]; exact h25) (by omega) ⟨hd.2.1, cd⟩ hDo (by rw [usg]; exact hsg) (by rw [b2, uo 14 (by decide) (by decide)]) (by rw [b7 12 (by decide), uo 20 (by decide) (by decide)]; exact hg) (by rw [b7 10 (by decide), uo 21 (by decide) (by decide)]; exact ⟨hlp.1, hlp.2.1, by omega⟩) (by rw [b7 11 (by decide), uo 22 (by decide) (by decide)]; exact ⟨hlk.1, hlk.2.1, by omega⟩) (by rw [b84, uo 23 (by decide) (by decide)]) (by rw [an, fu_eq, b75, u24]; omega) (by omega) (by rw [b7 13 (by decide)]; exact hf) (rV_addS vb (by omega) (by omega) (by decide) (by decide) (by decide) (by decide) (by decide) (by decide))
    rw [an] at hBIN
    obtain ⟨F2, hF2⟩ : ∃ F2, F2 = fu (fu F0 ((T0.1 19).toNat + 1) (F0 (T0.1 19).toNat + 1)) ((T0.1 19).toNat + 1 + 1) (fu F0 ((T0.1 19).toNat + 1) (F0 (T0.1 19).toNat + 1) ((T0.1 19).toNat + 1) + 1) := ⟨_, rfl⟩
    obtain ⟨R2, hR2⟩ : ∃ R2, R2 = zu (zu R0 ((T0.1 19).toNat + 1) (R0 (T0.1 19).toNat)) ((T0.1 19).toNat + 1 + 1) (zu R0 ((T0.1 19).toNat + 1) (R0 (T0.1 19).toNat) ((T0.1 19).toNat + 1)) := ⟨_, rfl⟩
    rw [← hF2, ← hR2] at hBIN
    have f2 : ∀ k, k ≤ (T0.1 19).toNat → F2 k = F0 k ∧ R2 k = R0 k := fun k hk => by
      rw [hF2, hR2, fu_ne (by omega), fu_ne (by omega), zu_ne (by omega), zu_ne (by omega)]
      exact ⟨rfl, rfl⟩
    have f2a : F2 ((T0.1 19).toNat + 1) = F0 (T0.1 19).toNat + 1 ∧ R2 ((T0.1 19).toNat + 1) = R0 (T0.1 19).toNat := by
      rw [hF2, hR2, fu_ne (by omega), fu_eq, zu_ne (by omega), zu_eq]
      exact ⟨rfl, rfl⟩
    obtain ⟨t19, t32, to, t2, t3, t26, tnp⟩ := op_f (q := 2) (ah := T0.1 19) (U := U) (by omega)
    have hd2 : HGd G f d := hG cd
    generalize M_openBody 2 (T0.1 19) U = T at rd hBIN hDo t19 t32 to t2 t3 t26 tnp
    have t14 : T.1 14 = T0.1 14 := (to 14 (by decide) (by decide) (by decide)).trans (uo 14 (by decide) (by decide))
    have t13 : T.2 13 = T0.2 13 := (t2 13 (by omega)).trans (u2 13 (by omega))
    have t24 : T.1 24 = T0.1 24 + 3 := (to 24 (by decide) (by decide) (by decide)).trans (by omega)
    have t20 : T.1 20 = T0.1 20 := (to 20 (by decide) (by decide) (by decide)).trans (uo 20 (by decide) (by decide))
    have t21 : T.1 21 = T0.1 21 := (to 21 (by decide) (by decide) (by decide)).trans (uo 21 (by decide) (by decide))
    have t22 : T.1 22 = T0.1 22 := (to 22 (by decide) (by decide) (by decide)).trans (uo 22 (by decide) (by decide))
    have hB := hd2 T Sb F2 E0 R2 ((T0.1 19).toNat + 1) hBIN (NZ_of hz t14 t13) vb
    have eF := (f2 (T0.1 19).toNat (Nat.le_refl _)).1
    have win := WIN (T0 := T0) (S0 := S0) (F0 := F0) (R0 := R0) h0 ⟨hd.2.1, cd⟩ hFR vb (NZ_of hz t14 t13) (by omega) hB (by omega) (fun k hk => (to k (by omega) (by omega) (by omega)).trans (uo k (by omega) (by omega))) (fun k hk => (t2 k (by omega)).trans (u2 k (by omega))) (fun i hi => by
      obtain ⟨a1, a2, a3, a4, a5, a6⟩ := t3 i (by omega)
      rw [u2 26 (by omega)] at a1
      rw [u2 27 (by omega)] at a2
      rw [u2 28 (by omega)] at a3
      rw [u2 29 (by omega)] at a4
      rw [u2 30 (by omega)] at a5
      rw [u2 31 (by omega)] at a6
      exact ⟨a1, a2, a3, a4, a5, a6⟩) (by omega) (fun j k hj hk => (tnp j k hj (by omega)).trans (un j k (by omega))) (fun k hk => f2 k (by omega)) (by rw [f2a.1]; omega) (fun j k hj hk => (addS_lo hj (by omega)).trans (bq j k hj hk)) (fun j k hj hk => bw' j k) (b7 10 (by decide)) (fun j c h5 h8 => (addS_l h5).trans (bl j c h5 h8))
    rcases win with ⟨q1, T1, q2, q3⟩ | ⟨w, S11, Te, F', E', R', ⟨i1, i2, i3, i4, i5, i6, i7, i8, i9, i10, i11, i12, i13, i14, i15, i16⟩, j1, j2, j3, j4, j5, j6, j7, j8⟩
    · refine Or.inl ⟨?_, T1, goR_trans (by rw [← rd]; exact goR_one h25 hl (by rw [rd]; omega)) q2, q3⟩
      show (if (K3_readInside G d Sb).1 = 0 then _ else ((1, 0, (K3_readInside G d Sb).2.2) : CR)).1 = 1
      rw [if_neg (by omega)]
    · obtain ⟨⟨x1, x2, x3, x4⟩, ⟨y1, y2, y3, y4, y5⟩, ⟨v1, v2, v3⟩, w1, w2, w3, -⟩ := i7
      have e26 : Te.2 26 (d + 1).toNat = 2 := by
        rw [(w2 (d + 1).toNat (by omega)).1, show (d + 1).toNat = (U.1 32).toNat by omega]; exact t26.1
      have e31 : Te.2 31 (d + 1).toNat = T0.1 19 := by
        rw [(w2 (d + 1).toNat (by omega)).2.2, show (d + 1).toNat = (U.1 32).toNat by omega]; exact t26.2
      rw [closeF_2 i13 e26, e31, i8] at i5
      have er : gBd (K3_readInside G d Sb) (fun v S => tailC (S0.1 7 5) (S0.1 7 12) v S) = tailC (S0.1 7 5) (S0.1 7 12) (w + 1) S11 := by
        rw [i1]; exact if_pos rfl
      rw [er] at hVc ⊢
      obtain ⟨c1, c2, c3, c4⟩ := clo_o Te
      have tc19 : (mi (mi (clo Te) 24 (Te.1 24 + 1)) 32 (d + 1)).1 19 = Te.1 19 + 1 := c1
      have tc21 : (mi (mi (clo Te) 24 (Te.1 24 + 1)) 32 (d + 1)).1 21 = Te.1 21 := c2 21 (by decide)
      have tc22 : (mi (mi (clo Te) 24 (Te.1 24 + 1)) 32 (d + 1)).1 22 = Te.1 22 := c2 22 (by decide)
      have tc20 : (mi (mi (clo Te) 24 (Te.1 24 + 1)) 32 (d + 1)).1 20 = Te.1 20 := c2 20 (by decide)
      have tc24 : (mi (mi (clo Te) 24 (Te.1 24 + 1)) 32 (d + 1)).1 24 = Te.1 24 + 1 := rfl
      have pa : ∀ j : Nat, j < 4 → np (clo Te) j (T0.1 19).toNat = np U j (T0.1 19).toNat := fun j hj => (i16 j _ hj (by omega)).trans (tnp j _ hj (by omega))
      have tcn : ∀ j k : Nat, np (mi (mi (clo Te) 24 (Te.1 24 + 1)) 32 (d + 1)) j k = np (clo Te) j k := fun _ _ => rfl
      have F'a := (j2 (T0.1 19).toNat (by omega))
      have F'b := x3 ((T0.1 19).toNat + 1) (Nat.le_refl _)
      have F2ab := f2a.1
      have R2ab := f2a.2
      have qa : ∀ j : Nat, j < 2 → cqR S11 j (F' (T0.1 19).toNat) = cqR Sb j (S0.1 7 5).toNat := fun j hj => by
        rw [F'a.1, y2 j _ (by omega) (by omega), addS_lo (by omega) (by omega), show F0 (T0.1 19).toNat = (S0.1 7 5).toNat by omega]
      rw [t20, t21, t22] at i9
      have s75 : S0.1 7 5 ≤ S11.1 7 5 := by rw [addS_75] at y1; omega
      generalize mi (mi (clo Te) 24 (Te.1 24 + 1)) 32 (d + 1) = Tc at i5 i6 i9 j8 tc19 tc20 tc21 tc22 tc24 tcn
      rw [← tc20, ← tc21, ← tc22] at i9
      refine WRC (T := T) (Te := Te) (T1 := Tc) (F1 := F') (E1 := E') (R1 := R') (e := (Te.1 19).toNat + 1) h0 hl rd i2 (by omega) i3 i4 i5 i6 (by omega) (by omega) ?_ ?_ ?_ ?_ (by omega) (by omega) (by omega) i9 (by omega) ?_ ?_ (by omega) ?_ (by omega) (SEG_Rm i9) i10.2 (by omega) (by omega) s75 (fun j k hj hk => (tcn j k).trans (j1 j k hj hk)) j2 j3 j4 j5 j6 j7 j8 (fun q => (hVc q).1)
      · rw [tcn, pa 0 (by omega)]; exact ub.1
      · rw [tcn, pa 1 (by omega)]; exact ub.2.1
      · rw [tcn, pa 2 (by omega)]; exact ub.2.2.1
      · rw [tcn, pa 3 (by omega)]; exact ub.2.2.2
      · rw [qa 0 (by omega)]; exact bh.1
      · rw [qa 1 (by omega)]; exact bh.2
      · rw [tcn, i15]; rfl
  · have ei : K3_readInside G d Sb = (1, 0, Sb) := if_neg cd
    refine thr_OUT h25 hl (by rw [ei]; rfl) ?_
    rw [rd]
    refine dmR_bad ?_
    show (if U.1 25 = 0 then (if U.1 32 ≤ 8 then 0 else 1 : Int) else 1 : Int) = 1
    rw [if_pos (by rw [uo 25 (by decide) (by decide)]; exact h25), if_neg (by omega)]
