theorem rV_lk {S : CSt} (hV : rV S) (h : (K2_addLook S).1 = 0) : rV (K2_addLook S).2.2 := rV_of hV (pB_addLook hV.1 h) (K2_addLook_1 (by decide)) (K2_addLook_1 (by decide)) (K2_addLook_1 (by decide))
/-- what is emitted at '(?=' and '(?!' -/
theorem emL {T0 : MSt} {p lk v : Int} : (mi (M_emit 12 p 0 lk (mi T0 24 v)) 22 (lk + 1)).1 19 = T0.1 19 + 1 ∧ (mi (M_emit 12 p 0 lk (mi T0 24 v)) 22 (lk + 1)).1 24 = v ∧ (mi (M_emit 12 p 0 lk (mi T0 24 v)) 22 (lk + 1)).1 22 = lk + 1 ∧ (∀ k, k ≠ 19 → k ≠ 24 → k ≠ 22 → (mi (M_emit 12 p 0 lk (mi T0 24 v)) 22 (lk + 1)).1 k = T0.1 k) ∧ (∀ k, k < 15 ∨ 18 < k → (mi (M_emit 12 p 0 lk (mi T0 24 v)) 22 (lk + 1)).2 k = T0.2 k) ∧ (np (mi (M_emit 12 p 0 lk (mi T0 24 v)) 22 (lk + 1)) 0 (T0.1 19).toNat = 12 ∧ np (mi (M_emit 12 p 0 lk (mi T0 24 v)) 22 (lk + 1)) 1 (T0.1 19).toNat = p ∧ np (mi (M_emit 12 p 0 lk (mi T0 24 v)) 22 (lk + 1)) 2 (T0.1 19).toNat = 0 ∧ np (mi (M_emit 12 p 0 lk (mi T0 24 v)) 22 (lk + 1)) 3 (T0.1 19).toNat = lk) ∧ (∀ j k : Nat, k ≠ (T0.1 19).toNat → np (mi (M_emit 12 p 0 lk (mi T0 24 v)) 22 (lk + 1)) j k = np T0 j k) := by
  refine ⟨rfl, rfl, rfl, fun k a b c => ?_, fun k hk => ?_, np_emit0 (T := mi T0 24 v), fun j k hk => np_emit (T := mi T0 24 v) hk⟩
  · show (if k = 22 then _ else if k = 19 then _ else if k = 24 then _ else T0.1 k) = _
    rw [if_neg c, if_neg a, if_neg b]
  · show (if k = 18 then _ else if k = 17 then _ else if k = 16 then _ else if k = 15 then _ else T0.2 k) = _
    rw [if_neg (by omega), if_neg (by omega), if_neg (by omega), if_neg (by omega)]
set_option maxHeartbeats 8000000 in
/-- '(?=' .. ')' and '(?!' .. ')' in both -/
theorem LOOK {G : Int → CSt → CR} {f d : Int} {T0 : MSt} {S0 : CSt} {F0 E0 : Nat → Nat} {R0 : Nat → Int} {p bk ek q : Int} (h : RR f d T0 S0 F0) (hz : NZ T0) (hl : T0.1 24 < T0.1 14) (hFR : ∀ (S : CSt) (dp : Int), rV S → rR (wP S) S (G dp S)) (hG : d < 8 → HGd G f d) (c40 : M_sign T0 (T0.1 24) = 40) (c63 : M_sign T0 (T0.1 24 + 1) = 63) (hp : (p = 1 ∧ bk = 13 ∧ ek = 14 ∧ q = 3 ∧ M_sign T0 (T0.1 24 + 1 + 1) = 61) ∨ (p = 0 ∧ bk = 15 ∧ ek = 16 ∧ q = 4 ∧ M_sign T0 (T0.1 24 + 1 + 1) = 33)) : OUT f d T0 S0 F0 E0 R0 (K3_readLook G bk ek d (ci S0 8 3 (T0.1 24 + 3))) := by
  have h0 := h
  obtain ⟨⟨e1, e2, e3⟩, h25, hD, hsg, hlen, hg, hlp, hlk, hgr, hsz, hcd, hd, hf, hv⟩ := h
  have k0 := hD.2.2.2.1
  have hz1 := hsz.1
  have hz2 := hsz.2
  have z0 : 0 ≤ S0.1 7 5 := by rw [hsz.1]; omega
  have l2 := sgn_lt (T := T0) (k := T0.1 24 + 1 + 1) (by omega)
  have hpq : 0 ≤ bk ∧ bk ≤ 100 ∧ 0 ≤ ek ∧ ek ≤ 100 ∧ 3 ≤ q := by omega
  have rd : rdS T0 = M_openBody q (T0.1 19) (mi (M_emit 12 p 0 (T0.1 22) (mi T0 24 (T0.1 24 + 1 + 2))) 22 (T0.1 22 + 1)) := by
    unfold rdS
    rw [if_neg (show ¬ M_sign T0 (T0.1 24) = 124 by omega), if_neg (show ¬ M_sign T0 (T0.1 24) = 41 by omega), if_neg (show ¬ M_sign T0 (T0.1 24) = 94 by omega), if_neg (show ¬ M_sign T0 (T0.1 24) = 36 by omega), if_pos c40]
    unfold M_openParenthesis
    rcases hp with ⟨a1, a2, a3, a4, a5⟩ | ⟨a1, a2, a3, a4, a5⟩
    · rw [if_pos c63, if_neg (show ¬ M_sign T0 (T0.1 24 + 1 + 1) = 58 by omega), if_pos a5, mi_mi, a1, a4]
    · rw [if_pos c63, if_neg (show ¬ M_sign T0 (T0.1 24 + 1 + 1) = 58 by omega), if_neg (show ¬ M_sign T0 (T0.1 24 + 1 + 1) = 61 by omega), if_pos a5, mi_mi, a1, a4]
  obtain ⟨u19, u24, u22, uo, u2, ub, un⟩ := emL (T0 := T0) (p := p) (lk := T0.1 22) (v := T0.1 24 + 1 + 2)
  generalize hU : mi (M_emit 12 p 0 (T0.1 22) (mi T0 24 (T0.1 24 + 1 + 2))) 22 (T0.1 22 + 1) = U at rd u19 u24 u22 uo u2 ub un
  have an : (U.1 19).toNat = (T0.1 19).toNat + 1 := by omega
  have u32 := uo 32 (by decide) (by decide) (by decide)
  have v1 : rV (ci S0 8 3 (T0.1 24 + 3)) := rV_at hv (by omega) (by omega)
  have hVc := (K3_readLook_R hFR (bk := bk) (ek := ek) (dp := d) v1 hpq.1 hpq.2.1 hpq.2.2.1 hpq.2.2.2.1).2.2.1
  have b11 : (ci S0 8 3 (T0.1 24 + 3)).1 7 11 = T0.1 22 := by rw [ci_ne (by decide)]; exact hlk.1
  by_cases cg : T0.1 22 < 10
  · have eg : K2_addLook (ci S0 8 3 (T0.1 24 + 3)) = (0, T0.1 22, ci (ci S0 8 3 (T0.1 24 + 3)) 7 11 (T0.1 22 + 1)) := by
      unfold K2_addLook
      rw [b11, if_pos cg, show T0.1 22 + 1 - 1 = T0.1 22 by omega]
    have q75 : (ci (ci S0 8 3 (T0.1 24 + 3)) 7 11 (T0.1 22 + 1)).1 7 5 = S0.1 7 5 := by rw [ci_eq, zu_ne (by decide), ci_ne (by decide)]
    have vq : rV (ci (ci S0 8 3 (T0.1 24 + 3)) 7 11 (T0.1 22 + 1)) := by
      have q := rV_lk v1 (by rw [eg])
      rw [eg] at q
      exact q
    have er0 : K3_readLook G bk ek d (ci S0 8 3 (T0.1 24 + 3)) = gBd (K3_readInside G d (addS bk (-1) (T0.1 22) (ci (ci S0 8 3 (T0.1 24 + 3)) 7 11 (T0.1 22 + 1)))) (fun v_11 S_12 => gBd (K2_add ek (-1) (T0.1 22) S_12) (fun v_15 S_16 => (0, v_11, K2_aimAt 7 (S0.1 7 5) (S_16.1 7 5) S_16))) := by
      unfold K3_readLook
      rw [eg]
      refine (if_pos rfl).trans ?_
      show gBd (K2_add bk (-1) (T0.1 22) (ci (ci S0 8 3 (T0.1 24 + 3)) 7 11 (T0.1 22 + 1))) _ = _
      rw [K2_addQ (by omega) (by omega), q75]
      exact if_pos rfl
    rw [er0] at hVc ⊢
    have vd : rV (addS bk (-1) (T0.1 22) (ci (ci S0 8 3 (T0.1 24 + 3)) 7 11 (T0.1 22 + 1))) := rV_addS vq (by omega) (by omega) (by omega) (by omega) (by decide) (by decide) (by omega) (by omega)
    have b8 : (addS bk (-1) (T0.1 22) (ci (ci S0 8 3 (T0.1 24 + 3)) 7 11 (T0.1 22 + 1))).1 8 3 = T0.1 24 + 3 := by rw [addS_o (by omega), ci_ne (by decide), ci_eq, zu_eq]
    have b84 : (addS bk (-1) (T0.1 22) (ci (ci S0 8 3 (T0.1 24 + 3)) 7 11 (T0.1 22 + 1))).1 8 4 = T0.1 23 := by rw [addS_o (by omega), ci_ne (by decide), ci_eq, zu_ne (by decide)]; exact hgr
    have b75 : (addS bk (-1) (T0.1 22) (ci (ci S0 8 3 (T0.1 24 + 3)) 7 11 (T0.1 22 + 1))).1 7 5 = S0.1 7 5 + 1 := by rw [addS_75, q75]
    have b711 : (addS bk (-1) (T0.1 22) (ci (ci S0 8 3 (T0.1 24 + 3)) 7 11 (T0.1 22 + 1))).1 7 11 = T0.1 22 + 1 := by rw [addS_7 (by decide), ci_eq, zu_eq]
    have b7 : ∀ j, j ≠ 5 → j ≠ 11 → (addS bk (-1) (T0.1 22) (ci (ci S0 8 3 (T0.1 24 + 3)) 7 11 (T0.1 22 + 1))).1 7 j = S0.1 7 j := fun j hj hj' => by rw [addS_7 hj, ci_eq, zu_ne hj', ci_ne (by decide)]
    have b2 : (addS bk (-1) (T0.1 22) (ci (ci S0 8 3 (T0.1 24 + 3)) 7 11 (T0.1 22 + 1))).1 2 1 = T0.1 14 := by rw [addS_o (by omega), ci_ne (by decide), ci_ne (by decide)]; exact hlen
    have bat : ∀ k, 0 ≤ k → K4_at 2 k (addS bk (-1) (T0.1 22) (ci (ci S0 8 3 (T0.1 24 + 3)) 7 11 (T0.1 22 + 1))) = M_sign T0 k := fun k hk => by rw [addS_at, ci_at7, ci_at8]; exact e3 k hk
    have bq0 : ∀ j k : Nat, j < 3 → (k : Int) < S0.1 7 5 → cqR (addS bk (-1) (T0.1 22) (ci (ci S0 8 3 (T0.1 24 + 3)) 7 11 (T0.1 22 + 1))) j k = cqR S0 j k := fun j k hj hk => by rw [addS_lo hj (by omega), ci7_q, ci8_q]
    have bh1 := addS_hi (kd := bk) (am := -1) (nb := T0.1 22) (S := ci (ci S0 8 3 (T0.1 24 + 3)) 7 11 (T0.1 22 + 1))
    rw [q75, show (S0.1 7 5).toNat = F0 (T0.1 19).toNat by omega] at bh1
    have bw' : ∀ j k : Nat, cwR (addS bk (-1) (T0.1 22) (ci (ci S0 8 3 (T0.1 24 + 3)) 7 11 (T0.1 22 + 1))) j k = cwR S0 j k := fun j k => rfl
    have bl : ∀ j c : Nat, 5 ≤ j → j ≤ 8 → cqR (addS bk (-1) (T0.1 22) (ci (ci S0 8 3 (T0.1 24 + 3)) 7 11 (T0.1 22 + 1))) j c = cqR S0 j c := fun j c h5 h8 => by rw [addS_l h5, ci7_q, ci8_q]
    clear er0 eg vq v1 q75 b11
    generalize addS bk (-1) (T0.1 22) (ci (ci S0 8 3 (T0.1 24 + 3)) 7 11 (T0.1 22 + 1)) = Sd at hVc vd b8 b84 b75 b711 b7 b2 bat bh1 bw' bl bq0 ⊢
    by_cases cd : d < 8
    · have hDo : DMi (M_openBody q (T0.1 19) U) := by
        have q := rd_step hD h25 hl
        rw [rd] at q
        rcases q with q | q
        · have q' : (if U.1 25 = 0 then (if U.1 32 ≤ 8 then 0 else 1 : Int) else 1 : Int) = 1 := q
          rw [if_pos (by rw [uo 25 (by decide) (by decide) (by decide)]; exact h25), if_pos (by omega)] at q'
          exact absurd q' (by decide)
        · exact q.2.2.1
      have usg : M_sign U = M_sign T0 := by
        funext k
        unfold M_sign
        rw [uo 14 (by decide) (by decide) (by decide), u2 13 (by omega)]
      have hBIN := OPENB (f := f) (d := d) (U := U) (S := Sd) (F := fu F0 ((T0.1 19).toNat + 1) (F0 (T0.1 19).toNat + 1)) (R := zu R0 ((T0.1 19).toNat + 1) (R0 (T0.1 19).toNat)) (q := q) (ah := T0.1 19) ⟨by omega, by omega, fun k hk => by rw [usg]; exact bat k hk⟩ (by rw [uo 25 (by decide) (by decide) (by decide)]; exact h25) (by omega) ⟨hd.2.1, cd⟩ hDo (by rw [usg]; exact hsg) (by rw [b2, uo 14 (by decide) (by decide) (by decide)]) (by rw [b7 12 (by decide) (by decide), uo 20 (by decide) (by decide) (by decide)]; exact hg) (by rw [b7 10 (by decide) (by decide), uo 21 (by decide) (by decide) (by decide)]; exact ⟨hlp.1, hlp.2.1, by omega⟩) (by omega) (by rw [b84, uo 23 (by decide) (by decide) (by decide)]) (by rw [an, fu_eq, b75, u24]; omega) (by omega) (by rw [b7 13 (by decide) (by decide)]; exact hf) (rV_addS vd (by omega) (by omega) (by decide) (by decide) (by decide) (by decide) (by decide) (by decide))
      rw [an] at hBIN
      obtain ⟨F2, hF2⟩ : ∃ F2, F2 = fu (fu F0 ((T0.1 19).toNat + 1) (F0 (T0.1 19).toNat + 1)) ((T0.1 19).toNat + 1 + 1) (fu F0 ((T0.1 19).toNat + 1) (F0 (T0.1 19).toNat + 1) ((T0.1 19).toNat + 1) + 1) := ⟨_, rfl⟩
      obtain ⟨R2, hR2⟩ : ∃ R2, R2 = zu (zu R0 ((T0.1 19).toNat + 1) (R0 (T0.1 19).toNat)) ((T0.1 19).toNat + 1 + 1) (zu R0 ((T0.1 19).toNat + 1) (R0 (T0.1 19).toNat) ((T0.1 19).toNat + 1)) := ⟨_, rfl⟩
      rw [← hF2, ← hR2] at hBIN
      have f2 : ∀ k, k ≤ (T0.1 19).toNat → F2 k = F0 k ∧ R2 k = R0 k := fun k hk => by
        rw [hF2, hR2, fu_ne (by omega), fu_ne (by omega), zu_ne (by omega), zu_ne (by omega)]
        exact ⟨rfl, rfl⟩
      have f2a : F2 ((T0.1 19).toNat + 1) = F0 (T0.1 19).toNat + 1 ∧ R2 ((T0.1 19).toNat + 1) = R0 (T0.1 19).toNat := by
        rw [hF2, hR2, fu_ne (by omega), fu_eq, zu_ne (by omega), zu_eq]
        exact ⟨rfl, rfl⟩
      obtain ⟨t19, t32, to, t2, t3, t26, tnp⟩ := op_f (q := q) (ah := T0.1 19) (U := U) (by omega)
      have hd2 : HGd G f d := hG cd
      generalize M_openBody q (T0.1 19) U = T at rd hBIN hDo t19 t32 to t2 t3 t26 tnp
      have t14 : T.1 14 = T0.1 14 := (to 14 (by decide) (by decide) (by decide)).trans (uo 14 (by decide) (by decide) (by decide))
      have t13 : T.2 13 = T0.2 13 := (t2 13 (by omega)).trans (u2 13 (by omega))
      have t24 : T.1 24 = T0.1 24 + 3 := (to 24 (by decide) (by decide) (by decide)).trans (by omega)
      have t20 : T.1 20 = T0.1 20 := (to 20 (by decide) (by decide) (by decide)).trans (uo 20 (by decide) (by decide) (by decide))
      have t21 : T.1 21 = T0.1 21 := (to 21 (by decide) (by decide) (by decide)).trans (uo 21 (by decide) (by decide) (by decide))
      have t22 : T.1 22 = T0.1 22 + 1 := (to 22 (by decide) (by decide) (by decide)).trans u22
      have hB := hd2 T Sd F2 E0 R2 ((T0.1 19).toNat + 1) hBIN (NZ_of hz t14 t13) vd
      have eF := (f2 (T0.1 19).toNat (Nat.le_refl _)).1
      have win := WIN (T0 := T0) (S0 := S0) (F0 := F0) (R0 := R0) h0 ⟨hd.2.1, cd⟩ hFR vd (NZ_of hz t14 t13) (by omega) hB (by omega) (fun k hk => (to k (by omega) (by omega) (by omega)).trans (uo k (by omega) (by omega) (by omega))) (fun k hk => (t2 k (by omega)).trans (u2 k (by omega))) (fun i hi => by
        obtain ⟨a1, a2, a3, a4, a5, a6⟩ := t3 i (by omega)
        rw [u2 26 (by omega)] at a1
        rw [u2 27 (by omega)] at a2
        rw [u2 28 (by omega)] at a3
        rw [u2 29 (by omega)] at a4
        rw [u2 30 (by omega)] at a5
        rw [u2 31 (by omega)] at a6
        exact ⟨a1, a2, a3, a4, a5, a6⟩) (by omega) (fun j k hj hk => (tnp j k hj (by omega)).trans (un j k (by omega))) (fun k hk => f2 k (by omega)) (by rw [f2a.1]; omega) (fun j k hj hk => (addS_lo hj (by omega)).trans (bq0 j k hj hk)) (fun j k hj hk => bw' j k) (b7 10 (by decide) (by decide)) (fun j c h5 h8 => (addS_l h5).trans (bl j c h5 h8))
      have goT : goR T0 T := by rw [← rd]; exact goR_one h25 hl (by rw [rd]; omega)
      rcases win with ⟨q1, T1, q2, q3⟩ | ⟨w, S11, Te, F', E', R', ⟨i1, i2, i3, i4, i5, i6, i7, i8, i9, i10, i11, i12, i13, i14, i15, i16⟩, j1, j2, j3, j4, j5, j6, j7, j8⟩
      · exact Or.inl ⟨bd_1 q1, T1, goR_trans goT q2, q3⟩
      · obtain ⟨⟨x1, x2, x3, x4⟩, ⟨y1, y2, y3, y4, y5⟩, ⟨v1, v2, v3⟩, w1, w2, w3, -⟩ := i7
        have e26 : Te.2 26 (d + 1).toNat = q := by
          rw [(w2 (d + 1).toNat (by omega)).1, show (d + 1).toNat = (U.1 32).toNat by omega]; exact t26.1
        have e31 : Te.2 31 (d + 1).toNat = T0.1 19 := by
          rw [(w2 (d + 1).toNat (by omega)).2.2, show (d + 1).toNat = (U.1 32).toNat by omega]; exact t26.2
        obtain ⟨c1, c2, c3, c4⟩ := clo_o Te
        have pa : ∀ j : Nat, j < 4 → np (clo Te) j (T0.1 19).toNat = np U j (T0.1 19).toNat := fun j hj => (i16 j _ hj (by omega)).trans (tnp j _ hj (by omega))
        have ea : (((T0.1 19).toNat : Nat) : Int) = T0.1 19 := by omega
        have ee : (((Te.1 19).toNat + 1 : Nat) : Int) = (clo Te).1 19 := by rw [c1]; omega
        have e13 : rdS Te = M_weigh (w + 1) (M_emit 13 (((T0.1 19).toNat : Nat) : Int) p (T0.1 22) (ma (mi (mi (clo Te) 24 (Te.1 24 + 1)) 32 (d + 1)) 17 (T0.1 19).toNat (((Te.1 19).toNat + 1 : Nat) : Int))) := by
          rw [ea, ee, i5, closeF_3 i13 (by rw [e26]; exact hpq.2.2.2.2), e31, i8, pa 1 (by omega), pa 3 (by omega), ub.2.1, ub.2.2.2]
        have hz6 := i6.2.2.2.2.2.2.2.2.2.1
        have k06 := i6.2.2.1.2.2
        have hd6 := i6.2.2.2.2.2.2.2.2.2.2.2.1
        have v11 := i6.2.2.2.2.2.2.2.2.2.2.2.2.2
        have s75 : S0.1 7 5 + 2 ≤ S11.1 7 5 := by rw [addS_75] at y1; omega
        have s96 : S11.1 7 5 < 96 := by omega
        have tc19 : (mi (mi (clo Te) 24 (Te.1 24 + 1)) 32 (d + 1)).1 19 = Te.1 19 + 1 := c1
        have tcn : ((mi (mi (clo Te) 24 (Te.1 24 + 1)) 32 (d + 1)).1 19).toNat = (Te.1 19).toNat + 1 := by omega
        have hz61 := hz6.1
        rw [tcn] at hz61
        have F'a := (j2 (T0.1 19).toNat (by omega))
        have er : gBd (K3_readInside G d Sd) (fun v_11 S_12 => gBd (K2_add ek (-1) (T0.1 22) S_12) (fun v_15 S_16 => (0, v_11, K2_aimAt 7 (S0.1 7 5) (S_16.1 7 5) S_16))) = (0, w + 1, ci (addS ek (-1) (T0.1 22) S11) 27 (F' (T0.1 19).toNat) ((F' ((Te.1 19).toNat + 1) + 1 : Nat) : Int)) := by
          rw [i1]
          refine (if_pos rfl).trans ?_
          show gBd (K2_add ek (-1) (T0.1 22) S11) _ = _
          rw [K2_addQ (by omega) s96]
          refine (if_pos rfl).trans ?_
          show ((0, w + 1, K2_aimAt 7 (S0.1 7 5) ((addS ek (-1) (T0.1 22) S11).1 7 5) (addS ek (-1) (T0.1 22) S11)) : CR) = _
          have i1 : ¬ K2_isInstruction 7 (S0.1 7 5) (addS ek (-1) (T0.1 22) S11) = 0 := by
            unfold K2_isInstruction
            rw [addS_75, if_neg (by omega), if_neg (by omega), if_neg (by omega)]
            decide
          have ea2 : K2_aimAt 7 (S0.1 7 5) ((addS ek (-1) (T0.1 22) S11).1 7 5) (addS ek (-1) (T0.1 22) S11) = ci (addS ek (-1) (T0.1 22) S11) 27 (S0.1 7 5).toNat ((addS ek (-1) (T0.1 22) S11).1 7 5) := by
            unfold K2_aimAt
            rw [if_neg i1]
            rfl
          rw [ea2, addS_75, show (S0.1 7 5).toNat = F' (T0.1 19).toNat by omega, show S11.1 7 5 + 1 = ((F' ((Te.1 19).toNat + 1) + 1 : Nat) : Int) by omega]
        rw [er] at hVc ⊢
        have F'b := x3 ((T0.1 19).toNat + 1) (Nat.le_refl _)
        have F2ab := f2a.1
        have R2ab := f2a.2
        have qa : ∀ j : Nat, j < 3 → cqR S11 j (F' (T0.1 19).toNat) = cqR Sd j (F0 (T0.1 19).toNat) := fun j hj => by
          rw [F'a.1, y2 j _ (by omega) (by omega), addS_lo (by omega) (by omega)]
        have tc21 : (mi (mi (clo Te) 24 (Te.1 24 + 1)) 32 (d + 1)).1 21 = Te.1 21 := c2 21 (by decide)
        have tc22 : (mi (mi (clo Te) 24 (Te.1 24 + 1)) 32 (d + 1)).1 22 = Te.1 22 := c2 22 (by decide)
        have tc20 : (mi (mi (clo Te) 24 (Te.1 24 + 1)) 32 (d + 1)).1 20 = Te.1 20 := c2 20 (by decide)
        have tc24 : (mi (mi (clo Te) 24 (Te.1 24 + 1)) 32 (d + 1)).1 24 = Te.1 24 + 1 := rfl
        have tcp : ∀ j k : Nat, np (mi (mi (clo Te) 24 (Te.1 24 + 1)) 32 (d + 1)) j k = np (clo Te) j k := fun _ _ => rfl
        rw [t20, t21, t22] at i9
        generalize mi (mi (clo Te) 24 (Te.1 24 + 1)) 32 (d + 1) = Tc at e13 i6 i9 j8 tc19 tc20 tc21 tc22 tc24 tcn tcp k06 hd6 hz6
        rw [← tc20, ← tc21, ← tc22] at i9
        have k14 := k06.2.1
        have hp' : (p = 1 ∧ bk = 13 ∧ ek = 14) ∨ (p = 0 ∧ bk = 15 ∧ ek = 16) := by omega
        obtain ⟨g1, g2⟩ := LKC (f := f) (d := d) (Tc := Tc) (S11 := S11) (a := (T0.1 19).toNat) (e := (Te.1 19).toNat + 1) (p := p) (lk := T0.1 22) (w := w + 1) (bk := bk) (ek := ek) i6 (by omega) (by omega) (by omega) (by have := i10.2; omega) (by omega) (by omega) hlp.2.1 (by omega) hlk.2.1 cg (by omega) (by omega) hp' i9 ⟨by rw [tcp, pa 0 (by omega)]; exact ub.1, by rw [tcp, pa 1 (by omega)]; exact ub.2.1, by rw [tcp, pa 3 (by omega)]; exact ub.2.2.2⟩ (by rw [tcp]; exact i15) (by omega) (by omega) (by rw [qa 0 (by omega)]; exact bh1.1) (by rw [qa 2 (by omega)]; exact bh1.2.2) (rV_addS v11 (by omega) s96 (by omega) (by omega) (by decide) (by decide) (by omega) (by omega)) (hVc rfl).1
        obtain ⟨nn, -, -⟩ := np_look (Tc := Tc) (a := (T0.1 19).toNat) (e := (Te.1 19).toNat + 1) (p := p) (lk := T0.1 22) (w := w + 1) tcn (by omega)
        have mfr := frB_weigh (w := w + 1) (by omega) (frB_emit (w := 13) (x := (((T0.1 19).toNat : Nat) : Int)) (y := p) (z := T0.1 22) (frB_17 (i := (T0.1 19).toNat) (v := (((Te.1 19).toNat + 1 : Nat) : Int)) j8))
        have m19 : (M_weigh (w + 1) (M_emit 13 (((T0.1 19).toNat : Nat) : Int) p (T0.1 22) (ma Tc 17 (T0.1 19).toNat (((Te.1 19).toNat + 1 : Nat) : Int)))).1 19 = Tc.1 19 + 1 := rfl
        have m20 : (M_weigh (w + 1) (M_emit 13 (((T0.1 19).toNat : Nat) : Int) p (T0.1 22) (ma Tc 17 (T0.1 19).toNat (((Te.1 19).toNat + 1 : Nat) : Int)))).1 20 = Tc.1 20 := rfl
        have m21 : (M_weigh (w + 1) (M_emit 13 (((T0.1 19).toNat : Nat) : Int) p (T0.1 22) (ma Tc 17 (T0.1 19).toNat (((Te.1 19).toNat + 1 : Nat) : Int)))).1 21 = Tc.1 21 := rfl
        have m22 : (M_weigh (w + 1) (M_emit 13 (((T0.1 19).toNat : Nat) : Int) p (T0.1 22) (ma Tc 17 (T0.1 19).toNat (((Te.1 19).toNat + 1 : Nat) : Int)))).1 22 = Tc.1 22 := rfl
        have m24 : (M_weigh (w + 1) (M_emit 13 (((T0.1 19).toNat : Nat) : Int) p (T0.1 22) (ma Tc 17 (T0.1 19).toNat (((Te.1 19).toNat + 1 : Nat) : Int)))).1 24 = Tc.1 24 := rfl
        generalize M_weigh (w + 1) (M_emit 13 (((T0.1 19).toNat : Nat) : Int) p (T0.1 22) (ma Tc 17 (T0.1 19).toNat (((Te.1 19).toNat + 1 : Nat) : Int))) = T1 at e13 g1 g2 nn mfr m19 m20 m21 m22 m24
        have mn : (T1.1 19).toNat = (Te.1 19).toNat + 1 + 1 := by omega
        have gT : goR T0 T1 := by
          have := goR_one i4 i3 (by rw [e13]; omega)
          rw [e13] at this
          exact goR_trans (goR_trans goT i2) this
        have rz1 : zu R' ((Te.1 19).toNat + 1 + 1) (R' ((Te.1 19).toNat + 1)) ((Te.1 19).toNat + 1 + 1) = R' ((Te.1 19).toNat + 1) := zu_eq
        have rz2 : ∀ k, k ≤ (Te.1 19).toNat + 1 → zu R' ((Te.1 19).toNat + 1 + 1) (R' ((Te.1 19).toNat + 1)) k = R' k := fun k hk => zu_ne (by omega)
        have Rza := rz2 (T0.1 19).toNat (by omega)
        have q27 : ∀ j k : Nat, k ≠ F' (T0.1 19).toNat → cqR (ci (addS ek (-1) (T0.1 22) S11) 27 (F' (T0.1 19).toNat) ((F' ((Te.1 19).toNat + 1) + 1 : Nat) : Int)) j k = cqR (addS ek (-1) (T0.1 22) S11) j k := fun j k h => by
          by_cases c : j = 1
          · subst c
            show (ci (addS ek (-1) (T0.1 22) S11) 27 (F' (T0.1 19).toNat) ((F' ((Te.1 19).toNat + 1) + 1 : Nat) : Int)).1 27 k = (addS ek (-1) (T0.1 22) S11).1 27 k
            rw [ci_eq, zu_ne h]
          · show (ci (addS ek (-1) (T0.1 22) S11) 27 (F' (T0.1 19).toNat) ((F' ((Te.1 19).toNat + 1) + 1 : Nat) : Int)).1 (26 + j) k = (addS ek (-1) (T0.1 22) S11).1 (26 + j) k
            rw [ci_ne (by omega)]
        have q27l : ∀ j k : Nat, 5 ≤ j → cqR (ci (addS ek (-1) (T0.1 22) S11) 27 (F' (T0.1 19).toNat) ((F' ((Te.1 19).toNat + 1) + 1 : Nat) : Int)) j k = cqR S11 j k := fun j k h5 => by
          show (ci (addS ek (-1) (T0.1 22) S11) 27 (F' (T0.1 19).toNat) ((F' ((Te.1 19).toNat + 1) + 1 : Nat) : Int)).1 (26 + j) k = S11.1 (26 + j) k
          rw [ci_ne (by omega)]
          exact addS_l h5
        have q7 : ∀ j, (ci (addS ek (-1) (T0.1 22) S11) 27 (F' (T0.1 19).toNat) ((F' ((Te.1 19).toNat + 1) + 1 : Nat) : Int)).1 7 j = (addS ek (-1) (T0.1 22) S11).1 7 j := fun j => by rw [ci_ne (by decide)]
        rw [show (0 : Int) + (w + 1) = w + 1 by omega] at mfr
        rw [← m20, ← m21, ← m22] at g2
        refine Or.inr ⟨rfl, T1, fu F' ((Te.1 19).toNat + 1 + 1) (F' ((Te.1 19).toNat + 1) + 1), fu E' (T0.1 19).toNat ((Te.1 19).toNat + 1), zu R' ((Te.1 19).toNat + 1 + 1) (R' ((Te.1 19).toNat + 1)), gT, g1, mfr, ⟨by omega, fun j k hj hk => ?_, fun k hk => ⟨?_, ?_⟩, fun k hk => ?_, ?_, fun j k hj hk => ?_, fun j k hj hk => j5 j k hj hk, ?_, fun j c hc h5 h8 => ?_, by omega, by omega, by omega⟩, ?_, ?_, ?_⟩
        · rw [nn j k hj (by omega) (by omega), tcp]; exact j1 j k hj hk
        · rw [fu_ne (by omega)]; exact (j2 k hk).1
        · rw [rz2 k (by omega)]; exact (j2 k hk).2
        · rw [fu_ne (by omega)]; exact j3 k hk
        · show S0.1 7 5 ≤ (ci (addS ek (-1) (T0.1 22) S11) 27 (F' (T0.1 19).toNat) ((F' ((Te.1 19).toNat + 1) + 1 : Nat) : Int)).1 7 5
          rw [q7, addS_75]; omega
        · show cqR (ci (addS ek (-1) (T0.1 22) S11) 27 (F' (T0.1 19).toNat) ((F' ((Te.1 19).toNat + 1) + 1 : Nat) : Int)) j k = _
          rw [q27 j k (by omega), addS_lo hj (by omega)]; exact j4 j k hj hk
        · show S0.1 7 10 ≤ (ci (addS ek (-1) (T0.1 22) S11) 27 (F' (T0.1 19).toNat) ((F' ((Te.1 19).toNat + 1) + 1 : Nat) : Int)).1 7 10
          rw [q7, addS_7 (by decide)]; exact j6
        · show cqR (ci (addS ek (-1) (T0.1 22) S11) 27 (F' (T0.1 19).toNat) ((F' ((Te.1 19).toNat + 1) + 1 : Nat) : Int)) j c = _
          rw [q27l j c h5]; exact j7 j c hc h5 h8
        · rw [mn]; exact g2
        · show 3 * (zu R' ((Te.1 19).toNat + 1 + 1) (R' ((Te.1 19).toNat + 1)) (T1.1 19).toNat - zu R' ((Te.1 19).toNat + 1 + 1) (R' ((Te.1 19).toNat + 1)) (T0.1 19).toNat) ≤ w + 1
          rw [mn, rz1, Rza]
          have := i10.1
          omega
        · show 0 ≤ w + 1
          have := i10.2
          omega
    · have ei : K3_readInside G d Sd = (1, 0, Sd) := if_neg cd
      refine thr_OUT h25 hl (bd_1 (by rw [ei])) ?_
      rw [rd]
      refine dmR_bad ?_
      show (if U.1 25 = 0 then (if U.1 32 ≤ 8 then 0 else 1 : Int) else 1 : Int) = 1
      rw [if_pos (by rw [uo 25 (by decide) (by decide) (by decide)]; exact h25), if_neg (by omega)]
  · have eg : K2_addLook (ci S0 8 3 (T0.1 24 + 3)) = (1, 0, ci S0 8 3 (T0.1 24 + 3)) := by
      unfold K2_addLook
      rw [b11, if_neg cg]
    have ei : (K3_readLook G bk ek d (ci S0 8 3 (T0.1 24 + 3))).1 = 1 := by
      unfold K3_readLook
      rw [eg]; rfl
    refine thr_OUT h25 hl ei (dm_step hD h25 hl (Or.inr (Or.inr ?_)))
    rw [rd]
    show U.1 14 - U.1 24 < U.1 32 + 1 - 1
    rw [uo 14 (by decide) (by decide) (by decide)]
    have := hlk.2.2
    omega
