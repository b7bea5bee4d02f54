set_option maxHeartbeats 8000000 in
/-- '(' .. ')' in both -/
theorem GROUP {G : Int → CSt → CR} {f d : Int} {T0 : MSt} {S0 : CSt} {F0 E0 : Nat → Nat} {R0 : Nat → Int} (h : RR f d T0 S0 F0) (hz : NZ T0) (hl : T0.1 24 < T0.1 14) (hFR : ∀ (S : CSt) (dp : Int), rV S → rR (wP S) S (G dp S)) (hG : d < 8 → HGd G f d) (c40 : M_sign T0 (T0.1 24) = 40) (c63 : ¬ M_sign T0 (T0.1 24 + 1) = 63) : OUT f d T0 S0 F0 E0 R0 (K3_readCountedAtom G d S0) := by
  have h0 := h
  obtain ⟨⟨e1, e2, e3⟩, h25, hD, hsg, hlen, hg, hlp, hlk, hgr, hsz, hcd, hd, hf, hv⟩ := h
  have k0 := hD.2.2.2.1
  have hz1 := hsz.1
  have hz2 := hsz.2
  have z0 : 0 ≤ S0.1 7 5 := by rw [hsz.1]; omega
  have rd : rdS T0 = ma (M_openBody 1 (T0.1 19) (M_emit 10 (T0.1 20 + 1) 0 0 (mi (M_emit 17 0 (T0.1 20) 0 (mi T0 24 (T0.1 24 + 1))) 20 (T0.1 20 + 1)))) 27 (T0.1 32 + 1 - 1).toNat (T0.1 20 + 1) := by
    unfold rdS
    rw [if_neg (show ¬ M_sign T0 (T0.1 24) = 124 by omega), if_neg (show ¬ M_sign T0 (T0.1 24) = 41 by omega), if_neg (show ¬ M_sign T0 (T0.1 24) = 94 by omega), if_neg (show ¬ M_sign T0 (T0.1 24) = 36 by omega), if_pos c40]
    unfold M_openParenthesis
    rw [if_neg c63]
  obtain ⟨u19, u24, u20, uo, u2, ub, ub1, un⟩ := emG (T0 := T0) (g := T0.1 20) (v := T0.1 24 + 1) (u := T0.1 20 + 1) hcd.1
  generalize hU : M_emit 10 (T0.1 20 + 1) 0 0 (mi (M_emit 17 0 (T0.1 20) 0 (mi T0 24 (T0.1 24 + 1))) 20 (T0.1 20 + 1)) = U at rd u19 u24 u20 uo u2 ub ub1 un
  have an : (U.1 19).toNat = (T0.1 19).toNat + 1 + 1 := by omega
  have u32 := uo 32 (by decide) (by decide) (by decide)
  have tp : (T0.1 32 + 1 - 1).toNat = (d + 1).toNat := by omega
  rw [tp] at rd
  -- the class up to the group
  have s8 : (addS 9 (-1) (-1) S0).1 8 3 = T0.1 24 := by rw [addS_o (by omega)]; exact e1
  have eop : K3_takeOpening 58 (addS 9 (-1) (-1) S0) = (0, addS 9 (-1) (-1) S0) := by
    unfold K3_takeOpening
    rw [addS_at, addS_at, addS_at, s8, e3 _ e2, e3 _ (by omega), if_pos c40, if_neg c63]
  have etk : K3_take 40 (addS 9 (-1) (-1) S0) = (1, ci (addS 9 (-1) (-1) S0) 8 3 (T0.1 24 + 1)) := by
    rw [take_y (x := 40) (by rw [addS_at, s8, e3 _ e2]; exact c40), s8]
  have hA : K3_readAtom G d (addS 9 (-1) (-1) S0) = gBd (K3_readGroup G d (ci (addS 9 (-1) (-1) S0) 8 3 (T0.1 24 + 1))) (fun v S => (0, v, S)) := by
    unfold K3_readAtom
    rw [eop]
    refine (if_pos rfl).trans ?_
    show gLt (K3_take 40 (addS 9 (-1) (-1) S0)) _ = _
    rw [etk]
    exact if_neg i10
  have eq : K3_readCountedAtom G d S0 = gBd (K3_readGroup G d (ci (addS 9 (-1) (-1) S0) 8 3 (T0.1 24 + 1))) (fun v S => tailC (S0.1 7 5) (S0.1 7 12) v S) := by
    rw [counted_T, K2_addQ z0 (by omega)]
    refine (if_pos rfl).trans ?_
    show gBd (K3_readAtom G d (addS 9 (-1) (-1) S0)) _ = _
    rw [hA, gBd_id]
  have hs : ¬ K4_at 2 (S0.1 8 3) S0 = 0 := by rw [e1, e3 _ e2, c40]; decide
  have hVc := (K3_readCountedAtom_R hFR (dp := d) hv hs).2.2.1
  rw [eq] at hVc ⊢
  have va : rV (addS 9 (-1) (-1) S0) := rV_addS hv z0 (by omega) (by decide) (by decide) (by decide) (by decide) (by decide) (by decide)
  have vb : rV (ci (addS 9 (-1) (-1) S0) 8 3 (T0.1 24 + 1)) := rV_at va (by omega) (by rw [addS_o (by omega)]; omega)
  have b12 : (ci (addS 9 (-1) (-1) S0) 8 3 (T0.1 24 + 1)).1 7 12 = T0.1 20 := by rw [ci_ne (by decide), addS_7 (by decide)]; exact hg.1
  by_cases cg : T0.1 20 < 9
  · have eg : K2_addGroup (ci (addS 9 (-1) (-1) S0) 8 3 (T0.1 24 + 1)) = (0, T0.1 20 + 1, ci (ci (addS 9 (-1) (-1) S0) 8 3 (T0.1 24 + 1)) 7 12 (T0.1 20 + 1)) := by
      unfold K2_addGroup
      rw [b12, if_pos cg]
    have q75 : (ci (ci (addS 9 (-1) (-1) S0) 8 3 (T0.1 24 + 1)) 7 12 (T0.1 20 + 1)).1 7 5 = S0.1 7 5 + 1 := by rw [ci_eq, zu_ne (by decide), ci_ne (by decide), addS_75]
    have vq : rV (ci (ci (addS 9 (-1) (-1) S0) 8 3 (T0.1 24 + 1)) 7 12 (T0.1 20 + 1)) := by
      have q := rV_grp vb (by rw [eg])
      rw [eg] at q
      exact q
    have er0 : K3_readGroup G d (ci (addS 9 (-1) (-1) S0) 8 3 (T0.1 24 + 1)) = gBd (K3_readInside G d (addS 7 (-1) (T0.1 20 + 1) (ci (ci (addS 9 (-1) (-1) S0) 8 3 (T0.1 24 + 1)) 7 12 (T0.1 20 + 1)))) (fun v_11 S_12 => gBd (K2_add 8 (-1) (T0.1 20 + 1) S_12) (fun v_15 S_16 => (0, v_11, S_16))) := by
      unfold K3_readGroup
      rw [eg]
      refine (if_pos rfl).trans ?_
      show gBd (K2_add 7 (-1) (T0.1 20 + 1) (ci (ci (addS 9 (-1) (-1) S0) 8 3 (T0.1 24 + 1)) 7 12 (T0.1 20 + 1))) _ = _
      rw [K2_addQ (by omega) (by omega)]
      exact if_pos rfl
    rw [er0] at hVc ⊢
    have vd : rV (addS 7 (-1) (T0.1 20 + 1) (ci (ci (addS 9 (-1) (-1) S0) 8 3 (T0.1 24 + 1)) 7 12 (T0.1 20 + 1))) := rV_addS vq (by omega) (by omega) (by decide) (by decide) (by decide) (by decide) (by omega) (by omega)
    have b8 : (addS 7 (-1) (T0.1 20 + 1) (ci (ci (addS 9 (-1) (-1) S0) 8 3 (T0.1 24 + 1)) 7 12 (T0.1 20 + 1))).1 8 3 = T0.1 24 + 1 := by rw [addS_o (by omega), ci_ne (by decide), ci_eq, zu_eq]
    have b84 : (addS 7 (-1) (T0.1 20 + 1) (ci (ci (addS 9 (-1) (-1) S0) 8 3 (T0.1 24 + 1)) 7 12 (T0.1 20 + 1))).1 8 4 = T0.1 23 := by rw [addS_o (by omega), ci_ne (by decide), ci_eq, zu_ne (by decide), addS_o (by omega)]; exact hgr
    have b75 : (addS 7 (-1) (T0.1 20 + 1) (ci (ci (addS 9 (-1) (-1) S0) 8 3 (T0.1 24 + 1)) 7 12 (T0.1 20 + 1))).1 7 5 = S0.1 7 5 + 2 := by rw [addS_75, q75]; omega
    have b712 : (addS 7 (-1) (T0.1 20 + 1) (ci (ci (addS 9 (-1) (-1) S0) 8 3 (T0.1 24 + 1)) 7 12 (T0.1 20 + 1))).1 7 12 = T0.1 20 + 1 := by rw [addS_7 (by decide), ci_eq, zu_eq]
    have b7 : ∀ j, j ≠ 5 → j ≠ 12 → (addS 7 (-1) (T0.1 20 + 1) (ci (ci (addS 9 (-1) (-1) S0) 8 3 (T0.1 24 + 1)) 7 12 (T0.1 20 + 1))).1 7 j = S0.1 7 j := fun j hj hj' => by rw [addS_7 hj, ci_eq, zu_ne hj', ci_ne (by decide), addS_7 hj]
    have b2 : (addS 7 (-1) (T0.1 20 + 1) (ci (ci (addS 9 (-1) (-1) S0) 8 3 (T0.1 24 + 1)) 7 12 (T0.1 20 + 1))).1 2 1 = T0.1 14 := by rw [addS_o (by omega), ci_ne (by decide), ci_ne (by decide), addS_o (by omega)]; exact hlen
    have bat : ∀ k, 0 ≤ k → K4_at 2 k (addS 7 (-1) (T0.1 20 + 1) (ci (ci (addS 9 (-1) (-1) S0) 8 3 (T0.1 24 + 1)) 7 12 (T0.1 20 + 1))) = M_sign T0 k := fun k hk => by rw [addS_at, ci_at7, ci_at8, addS_at]; exact e3 k hk
    have bq : ∀ j k : Nat, j < 3 → (k : Int) < S0.1 7 5 + 1 → cqR (addS 7 (-1) (T0.1 20 + 1) (ci (ci (addS 9 (-1) (-1) S0) 8 3 (T0.1 24 + 1)) 7 12 (T0.1 20 + 1))) j k = cqR (addS 9 (-1) (-1) S0) j k := fun j k hj hk => by rw [addS_lo hj (by omega), ci7_q, ci8_q]
    have bh : cqR (addS 7 (-1) (T0.1 20 + 1) (ci (ci (addS 9 (-1) (-1) S0) 8 3 (T0.1 24 + 1)) 7 12 (T0.1 20 + 1))) 0 (S0.1 7 5).toNat = 9 ∧ cqR (addS 7 (-1) (T0.1 20 + 1) (ci (ci (addS 9 (-1) (-1) S0) 8 3 (T0.1 24 + 1)) 7 12 (T0.1 20 + 1))) 1 (S0.1 7 5).toNat = -1 := by rw [bq 0 _ (by omega) (by omega), bq 1 _ (by omega) (by omega)]; exact ⟨addS_hi.1, addS_hi.2.1⟩
    have bh1 := addS_hi (kd := 7) (am := -1) (nb := T0.1 20 + 1) (S := ci (ci (addS 9 (-1) (-1) S0) 8 3 (T0.1 24 + 1)) 7 12 (T0.1 20 + 1))
    rw [q75, show (S0.1 7 5 + 1).toNat = F0 (T0.1 19).toNat + 1 by omega] at bh1
    have bw' : ∀ j k : Nat, cwR (addS 7 (-1) (T0.1 20 + 1) (ci (ci (addS 9 (-1) (-1) S0) 8 3 (T0.1 24 + 1)) 7 12 (T0.1 20 + 1))) j k = cwR S0 j k := fun j k => rfl
    have bl : ∀ j c : Nat, 5 ≤ j → j ≤ 8 → cqR (addS 7 (-1) (T0.1 20 + 1) (ci (ci (addS 9 (-1) (-1) S0) 8 3 (T0.1 24 + 1)) 7 12 (T0.1 20 + 1))) j c = cqR S0 j c := fun j c h5 h8 => by rw [addS_l h5, ci7_q, ci8_q, addS_l h5]
    have bq0 : ∀ j k : Nat, j < 3 → (k : Int) < S0.1 7 5 → cqR (addS 7 (-1) (T0.1 20 + 1) (ci (ci (addS 9 (-1) (-1) S0) 8 3 (T0.1 24 + 1)) 7 12 (T0.1 20 + 1))) j k = cqR S0 j k := fun j k hj hk => by rw [bq j k hj (by omega), addS_lo hj hk]
    clear bq er0 eq hA etk eop eg vq va vb q75 b12
    generalize addS 7 (-1) (T0.1 20 + 1) (ci (ci (addS 9 (-1) (-1) S0) 8 3 (T0.1 24 + 1)) 7 12 (T0.1 20 + 1)) = Sd at hVc vd b8 b84 b75 b712 b7 b2 bat bh bh1 bw' bl bq0 ⊢
    by_cases cd : d < 8
    · have hDo : DMi (M_openBody 1 (T0.1 19) U) := by
        have q := rd_step hD h25 hl
        rw [rd] at q
        rcases q with q | q
        · have q' : (if U.1 25 = 0 then (if U.1 32 ≤ 8 then 0 else 1 : Int) else 1 : Int) = 1 := q
          rw [if_pos (by rw [uo 25 (by decide) (by decide) (by decide)]; exact h25), if_pos (by omega)] at q'
          exact absurd q' (by decide)
        · exact q.2.2.1
      have usg : M_sign U = M_sign T0 := by
        funext k
        unfold M_sign
        rw [uo 14 (by decide) (by decide) (by decide), u2 13 (by omega)]
      have hBIN := OPENB (f := f) (d := d) (U := U) (S := Sd) (F := fu (fu F0 ((T0.1 19).toNat + 1) (F0 (T0.1 19).toNat + 1)) ((T0.1 19).toNat + 1 + 1) (F0 (T0.1 19).toNat + 2)) (R := zu (zu R0 ((T0.1 19).toNat + 1) (R0 (T0.1 19).toNat)) ((T0.1 19).toNat + 1 + 1) (R0 (T0.1 19).toNat)) (q := 1) (ah := T0.1 19) ⟨by omega, by omega, fun k hk => by rw [usg]; exact bat k hk⟩ (by rw [uo 25 (by decide) (by decide) (by decide)]; exact h25) (by omega) ⟨hd.2.1, cd⟩ hDo (by rw [usg]; exact hsg) (by rw [b2, uo 14 (by decide) (by decide) (by decide)]) (by omega) (by rw [b7 10 (by decide) (by decide), uo 21 (by decide) (by decide) (by decide)]; exact ⟨hlp.1, hlp.2.1, by omega⟩) (by rw [b7 11 (by decide) (by decide), uo 22 (by decide) (by decide) (by decide)]; exact ⟨hlk.1, hlk.2.1, by omega⟩) (by rw [b84, uo 23 (by decide) (by decide) (by decide)]) (by rw [an, fu_eq, b75, u24]; omega) (by omega) (by rw [b7 13 (by decide) (by decide)]; exact hf) (rV_addS vd (by omega) (by omega) (by decide) (by decide) (by decide) (by decide) (by decide) (by decide))
      rw [an] at hBIN
      obtain ⟨F2, hF2⟩ : ∃ F2, F2 = fu (fu (fu F0 ((T0.1 19).toNat + 1) (F0 (T0.1 19).toNat + 1)) ((T0.1 19).toNat + 1 + 1) (F0 (T0.1 19).toNat + 2)) ((T0.1 19).toNat + 1 + 1 + 1) (fu (fu F0 ((T0.1 19).toNat + 1) (F0 (T0.1 19).toNat + 1)) ((T0.1 19).toNat + 1 + 1) (F0 (T0.1 19).toNat + 2) ((T0.1 19).toNat + 1 + 1) + 1) := ⟨_, rfl⟩
      obtain ⟨R2, hR2⟩ : ∃ R2, R2 = zu (zu (zu R0 ((T0.1 19).toNat + 1) (R0 (T0.1 19).toNat)) ((T0.1 19).toNat + 1 + 1) (R0 (T0.1 19).toNat)) ((T0.1 19).toNat + 1 + 1 + 1) (zu (zu R0 ((T0.1 19).toNat + 1) (R0 (T0.1 19).toNat)) ((T0.1 19).toNat + 1 + 1) (R0 (T0.1 19).toNat) ((T0.1 19).toNat + 1 + 1)) := ⟨_, rfl⟩
      rw [← hF2, ← hR2] at hBIN
      have f2 : ∀ k, k ≤ (T0.1 19).toNat → F2 k = F0 k ∧ R2 k = R0 k := fun k hk => by
        rw [hF2, hR2, fu_ne (by omega), fu_ne (by omega), fu_ne (by omega), zu_ne (by omega), zu_ne (by omega), zu_ne (by omega)]
        exact ⟨rfl, rfl⟩
      have f2a : F2 ((T0.1 19).toNat + 1) = F0 (T0.1 19).toNat + 1 ∧ R2 ((T0.1 19).toNat + 1) = R0 (T0.1 19).toNat := by
        rw [hF2, hR2, fu_ne (by omega), fu_ne (by omega), fu_eq, zu_ne (by omega), zu_ne (by omega), zu_eq]
        exact ⟨rfl, rfl⟩
      have f2b : F2 ((T0.1 19).toNat + 1 + 1) = F0 (T0.1 19).toNat + 2 ∧ R2 ((T0.1 19).toNat + 1 + 1) = R0 (T0.1 19).toNat := by
        rw [hF2, hR2, fu_ne (by omega), fu_eq, zu_ne (by omega), zu_eq]
        exact ⟨rfl, rfl⟩
      obtain ⟨t19, t32, to, t2, t3, t26, tnp⟩ := op_f (q := 1) (ah := T0.1 19) (U := U) (by omega)
      have hd2 : HGd G f d := hG cd
      have m1 : (ma (M_openBody 1 (T0.1 19) U) 27 (d + 1).toNat (T0.1 20 + 1)).1 = (M_openBody 1 (T0.1 19) U).1 := rfl
      have m2 : ∀ k, k ≠ 27 → (ma (M_openBody 1 (T0.1 19) U) 27 (d + 1).toNat (T0.1 20 + 1)).2 k = (M_openBody 1 (T0.1 19) U).2 k := fun k hk => by
        show (if k = 27 then _ else (M_openBody 1 (T0.1 19) U).2 k) = _
        rw [if_neg hk]
      have m27 : (ma (M_openBody 1 (T0.1 19) U) 27 (d + 1).toNat (T0.1 20 + 1)).2 27 = zu ((M_openBody 1 (T0.1 19) U).2 27) (d + 1).toNat (T0.1 20 + 1) := rfl
      have hBIN' : BIN f (d + 1) (ma (M_openBody 1 (T0.1 19) U) 27 (d + 1).toNat (T0.1 20 + 1)) (addS 5 (-1) (-1) Sd) F2 R2 ((T0.1 19).toNat + 1 + 1) := hBIN
      generalize M_openBody 1 (T0.1 19) U = V at rd hBIN hBIN' hDo t19 t32 to t2 t3 t26 tnp m1 m2 m27
      generalize ma V 27 (d + 1).toNat (T0.1 20 + 1) = T at rd hBIN' m1 m2 m27
      have t14 : T.1 14 = T0.1 14 := by rw [m1]; exact (to 14 (by decide) (by decide) (by decide)).trans (uo 14 (by decide) (by decide) (by decide))
      have t13 : T.2 13 = T0.2 13 := by rw [m2 13 (by decide)]; exact (t2 13 (by omega)).trans (u2 13 (by omega))
      have t24 : T.1 24 = T0.1 24 + 1 := by rw [m1]; exact (to 24 (by decide) (by decide) (by decide)).trans (by omega)
      have t20 : T.1 20 = T0.1 20 + 1 := by rw [m1]; exact (to 20 (by decide) (by decide) (by decide)).trans u20
      have t21 : T.1 21 = T0.1 21 := by rw [m1]; exact (to 21 (by decide) (by decide) (by decide)).trans (uo 21 (by decide) (by decide) (by decide))
      have t22 : T.1 22 = T0.1 22 := by rw [m1]; exact (to 22 (by decide) (by decide) (by decide)).trans (uo 22 (by decide) (by decide) (by decide))
      have t19' : T.1 19 = T0.1 19 + 3 := by rw [m1]; omega
      have t32' : T.1 32 = d + 2 := by rw [m1]; omega
      have tnp' : ∀ j k : Nat, j < 4 → k ≠ (U.1 19).toNat → np T j k = np U j k := fun j k hj hk => by
        rw [← tnp j k hj hk]
        show T.2 (15 + j) k = V.2 (15 + j) k
        rw [m2 (15 + j) (by omega)]
      have hB := hd2 T Sd F2 E0 R2 ((T0.1 19).toNat + 1 + 1) hBIN' (NZ_of hz t14 t13) vd
      have eF := (f2 (T0.1 19).toNat (Nat.le_refl _)).1
      have win := WIN (T0 := T0) (S0 := S0) (F0 := F0) (R0 := R0) h0 ⟨hd.2.1, cd⟩ hFR vd (NZ_of hz t14 t13) (by omega) hB t32' (fun k hk => by rw [m1]; exact (to k (by omega) (by omega) (by omega)).trans (uo k (by omega) (by omega) (by omega))) (fun k hk => by rw [m2 k (by omega)]; exact (t2 k (by omega)).trans (u2 k (by omega))) (fun i hi => by
        obtain ⟨a1, a2, a3, a4, a5, a6⟩ := t3 i (by omega)
        rw [u2 26 (by omega)] at a1
        rw [u2 27 (by omega)] at a2
        rw [u2 28 (by omega)] at a3
        rw [u2 29 (by omega)] at a4
        rw [u2 30 (by omega)] at a5
        rw [u2 31 (by omega)] at a6
        rw [m2 26 (by decide), m27, m2 28 (by decide), m2 29 (by decide), m2 30 (by decide), m2 31 (by decide), zu_ne (show i ≠ (d + 1).toNat by omega)]
        exact ⟨a1, a2, a3, a4, a5, a6⟩) (by omega) (fun j k hj hk => (tnp' j k hj (by omega)).trans (un j k (by omega))) (fun k hk => f2 k (by omega)) (by rw [f2b.1]; omega) (fun j k hj hk => (addS_lo hj (by omega)).trans (bq0 j k hj hk)) (fun j k hj hk => bw' j k) (b7 10 (by decide) (by decide)) (fun j c h5 h8 => (addS_l h5).trans (bl j c h5 h8))
      rcases win with ⟨q1, T1, q2, q3⟩ | ⟨w, S11, Te, F', E', R', ⟨i1, i2, i3, i4, i5, i6, i7, i8, i9, i10, i11, i12, i13, i14, i15, i16⟩, j1, j2, j3, j4, j5, j6, j7, j8⟩
      · refine Or.inl ⟨?_, T1, goR_trans (by rw [← rd]; exact goR_one h25 hl (by rw [rd]; omega)) q2, q3⟩
        have z1 : (gBd (K3_readInside G d Sd) (fun v_11 S_12 => gBd (K2_add 8 (-1) (T0.1 20 + 1) S_12) (fun v_15 S_16 => (0, v_11, S_16)))) = (1, 0, (K3_readInside G d Sd).2.2) := if_neg (by omega)
        rw [z1]
        rfl
      · obtain ⟨⟨x1, x2, x3, x4⟩, ⟨y1, y2, y3, y4, y5⟩, ⟨v1, v2, v3⟩, w1, w2, w3, -⟩ := i7
        have e26 : Te.2 26 (d + 1).toNat = 1 := by
          rw [(w2 (d + 1).toNat (by omega)).1, m2 26 (by decide), show (d + 1).toNat = (U.1 32).toNat by omega]; exact t26.1
        have e31 : Te.2 31 (d + 1).toNat = T0.1 19 := by
          rw [(w2 (d + 1).toNat (by omega)).2.2, m2 31 (by decide), show (d + 1).toNat = (U.1 32).toNat by omega]; exact t26.2
        have e27 : Te.2 27 (d + 1).toNat = T0.1 20 + 1 := by
          rw [(w2 (d + 1).toNat (by omega)).2.1, m27, zu_eq]
        rw [closeF_1 i13 e26, e31, e27, i8] at i5
        have hz6 := i6.2.2.2.2.2.2.2.2.2.1
        have k06 := i6.2.2.1.2.2
        have hd6 := i6.2.2.2.2.2.2.2.2.2.2.2.1
        have v11 := i6.2.2.2.2.2.2.2.2.2.2.2.2.2
        have s75 : S0.1 7 5 + 3 ≤ S11.1 7 5 := by rw [addS_75] at y1; omega
        have s96 : S11.1 7 5 < 96 := by omega
        have er : gBd (gBd (K3_readInside G d Sd) (fun v_11 S_12 => gBd (K2_add 8 (-1) (T0.1 20 + 1) S_12) (fun v_15 S_16 => (0, v_11, S_16)))) (fun v S => tailC (S0.1 7 5) (S0.1 7 12) v S) = tailC (S0.1 7 5) (S0.1 7 12) (w + 1) (addS 8 (-1) (T0.1 20 + 1) S11) := by
          rw [i1]
          have e' : gBd ((0, w + 1, S11) : CR) (fun v_11 S_12 => gBd (K2_add 8 (-1) (T0.1 20 + 1) S_12) (fun v_15 S_16 => (0, v_11, S_16))) = (0, w + 1, addS 8 (-1) (T0.1 20 + 1) S11) := by
            refine (if_pos rfl).trans ?_
            show gBd (K2_add 8 (-1) (T0.1 20 + 1) S11) _ = _
            rw [K2_addQ (by omega) s96]
            exact if_pos rfl
          rw [e']
          exact if_pos rfl
        rw [er] at hVc ⊢
        obtain ⟨c1, c2, c3, c4⟩ := clo_o Te
        have tc19 : (mi (mi (clo Te) 24 (Te.1 24 + 1)) 32 (d + 1)).1 19 = Te.1 19 + 1 := c1
        have tc21 : (mi (mi (clo Te) 24 (Te.1 24 + 1)) 32 (d + 1)).1 21 = Te.1 21 := c2 21 (by decide)
        have tc22 : (mi (mi (clo Te) 24 (Te.1 24 + 1)) 32 (d + 1)).1 22 = Te.1 22 := c2 22 (by decide)
        have tc20 : (mi (mi (clo Te) 24 (Te.1 24 + 1)) 32 (d + 1)).1 20 = Te.1 20 := c2 20 (by decide)
        have tc24 : (mi (mi (clo Te) 24 (Te.1 24 + 1)) 32 (d + 1)).1 24 = Te.1 24 + 1 := rfl
        have pa : ∀ j k : Nat, j < 4 → k < (T0.1 19).toNat + 1 + 1 → np (clo Te) j k = np U j k := fun j k hj hk => (i16 j _ hj hk).trans (tnp' j _ hj (by omega))
        have tcn : ∀ j k : Nat, np (mi (mi (clo Te) 24 (Te.1 24 + 1)) 32 (d + 1)) j k = np (clo Te) j k := fun _ _ => rfl
        have F'a := (j2 (T0.1 19).toNat (by omega))
        have F'b := x3 ((T0.1 19).toNat + 1) (by omega)
        have F'c := x3 ((T0.1 19).toNat + 1 + 1) (Nat.le_refl _)
        have F2ab := f2a.1
        have R2ab := f2a.2
        have F2bb := f2b.1
        have R2bb := f2b.2
        have qa : ∀ j k : Nat, j < 3 → k < F0 (T0.1 19).toNat + 2 → cqR S11 j k = cqR Sd j k := fun j k hj hk => by
          rw [y2 j _ (by omega) (by omega), addS_lo (by omega) (by omega)]
        rw [t20, t21, t22] at i9
        generalize mi (mi (clo Te) 24 (Te.1 24 + 1)) 32 (d + 1) = Tc at i5 i6 i9 j8 tc19 tc20 tc21 tc22 tc24 tcn
        rw [← tc20, ← tc21, ← tc22] at i9
        have grc := GRC (f := f) (d := d) (Tc := Tc) (S11 := S11) (a := (T0.1 19).toNat) (e := (Te.1 19).toNat + 1) (g := T0.1 20) i6 (by omega) (by omega) (by omega) (by omega) hlp.2.1 (by omega) (by omega) hg.2.1 cg (by omega) i9 (by rw [tcn, tcn, tcn, tcn, pa 0 _ (by omega) (by omega), pa 1 _ (by omega) (by omega), pa 2 _ (by omega) (by omega), pa 3 _ (by omega) (by omega)]; exact ub1) (by rw [tcn]; exact i15) (by omega) (by omega) (by rw [qa 0 _ (by omega) (by omega), F'b.1, F2ab]; exact bh1.1) (by rw [qa 2 _ (by omega) (by omega), F'b.1, F2ab]; exact bh1.2.2) (rV_addS v11 (by omega) s96 (by decide) (by decide) (by decide) (by decide) (by omega) (by omega))
        obtain ⟨g1, g2⟩ := grc
        have m19 : (M_emit 11 (T0.1 20 + 1) 0 0 Tc).1 19 = Tc.1 19 + 1 := rfl
        have m20 : (M_emit 11 (T0.1 20 + 1) 0 0 Tc).1 20 = Tc.1 20 := rfl
        have m21 : (M_emit 11 (T0.1 20 + 1) 0 0 Tc).1 21 = Tc.1 21 := rfl
        have m22 : (M_emit 11 (T0.1 20 + 1) 0 0 Tc).1 22 = Tc.1 22 := rfl
        have m24 : (M_emit 11 (T0.1 20 + 1) 0 0 Tc).1 24 = Tc.1 24 := rfl
        have mnp : ∀ j k : Nat, (k : Int) < Tc.1 19 → np (M_emit 11 (T0.1 20 + 1) 0 0 Tc) j k = np Tc j k := fun j k hk => np_emit (by omega)
        have mfr := frB_emit (w := 11) (x := T0.1 20 + 1) (y := 0) (z := 0) j8
        generalize M_emit 11 (T0.1 20 + 1) 0 0 Tc = T1 at i5 g1 g2 m19 m20 m21 m22 m24 mnp mfr
        rw [← m20, ← m21, ← m22] at g2
        have rz1 : zu R' ((Te.1 19).toNat + 1 + 1) (R' ((Te.1 19).toNat + 1)) ((Te.1 19).toNat + 1 + 1) = R' ((Te.1 19).toNat + 1) := zu_eq
        have rz2 : ∀ k, k ≤ (Te.1 19).toNat + 1 → zu R' ((Te.1 19).toNat + 1 + 1) (R' ((Te.1 19).toNat + 1)) k = R' k := fun k hk => zu_ne (by omega)
        have fz2 : ∀ k, k ≤ (Te.1 19).toNat + 1 → fu F' ((Te.1 19).toNat + 1 + 1) (F' ((Te.1 19).toNat + 1) + 1) k = F' k := fun k hk => fu_ne (by omega)
        have ez2 : ∀ k, k ≤ (T0.1 19).toNat → fu E' ((T0.1 19).toNat + 1) ((Te.1 19).toNat + 1) k = E' k := fun k hk => fu_ne (by omega)
        generalize zu R' ((Te.1 19).toNat + 1 + 1) (R' ((Te.1 19).toNat + 1)) = Rz at g2 rz1 rz2
        generalize fu F' ((Te.1 19).toNat + 1 + 1) (F' ((Te.1 19).toNat + 1) + 1) = Fz at g1 g2 fz2
        generalize fu E' ((T0.1 19).toNat + 1) ((Te.1 19).toNat + 1) = Ez at g2 ez2
        have Fza := fz2 (T0.1 19).toNat (by omega)
        have Fzb := fz2 ((T0.1 19).toNat + 1) (by omega)
        have Rza := rz2 (T0.1 19).toNat (by omega)
        have Rzb := rz2 ((T0.1 19).toNat + 1) (by omega)
        have v12 : S11.1 7 5 ≤ (addS 8 (-1) (T0.1 20 + 1) S11).1 7 5 := by rw [addS_75]; omega
        refine WRC (T := T) (Te := Te) (T1 := T1) (F1 := Fz) (E1 := Ez) (R1 := Rz) (e := (Te.1 19).toNat + 1 + 1) h0 hl rd i2 (by omega) i3 i4 i5 g1 (by omega) (by omega) ?_ ?_ ?_ ?_ (by omega) (by omega) (by omega) g2 (by omega) ?_ ?_ (by omega) ?_ (by omega) (SEG_Rm g2) i10.2 (by omega) (by omega) (by omega) (fun j k hj hk => (mnp j k (by omega)).trans ((tcn j k).trans (j1 j k hj hk))) (fun k hk => ⟨(fz2 k (by omega)).trans (j2 k hk).1, (rz2 k (by omega)).trans (j2 k hk).2⟩) (fun k hk => (ez2 k (by omega)).trans (j3 k hk)) (fun j k hj hk => (addS_lo hj (by omega)).trans (j4 j k hj hk)) j5 (by rw [addS_7 (by decide)]; exact j6) (fun j c hc h5 h8 => (addS_l h5).trans (j7 j c hc h5 h8)) mfr (fun q => (hVc q).1)
        · rw [mnp _ _ (by omega), tcn, pa 0 _ (by omega) (by omega)]; exact ub.1
        · rw [mnp _ _ (by omega), tcn, pa 1 _ (by omega) (by omega)]; exact ub.2.1
        · rw [mnp _ _ (by omega), tcn, pa 2 _ (by omega) (by omega)]; exact ub.2.2.1
        · rw [mnp _ _ (by omega), tcn, pa 3 _ (by omega) (by omega)]; exact ub.2.2.2
        · rw [Fza, F'a.1, addS_lo (by omega) (by omega), qa 0 _ (by omega) (by omega), show F0 (T0.1 19).toNat = (S0.1 7 5).toNat by omega]; exact bh.1
        · rw [Fza, F'a.1, addS_lo (by omega) (by omega), qa 1 _ (by omega) (by omega), show F0 (T0.1 19).toNat = (S0.1 7 5).toNat by omega]; exact bh.2
        · rw [mnp _ _ (by omega), tcn, pa 0 _ (by omega) (by omega), ub1.1]; rfl
    · have ei : K3_readInside G d Sd = (1, 0, Sd) := if_neg cd
      refine thr_OUT h25 hl (by rw [ei]; rfl) ?_
      rw [rd]
      refine dmR_bad ?_
      show (if U.1 25 = 0 then (if U.1 32 ≤ 8 then 0 else 1 : Int) else 1 : Int) = 1
      rw [if_pos (by rw [uo 25 (by decide) (by decide) (by decide)]; exact h25), if_neg (by omega)]
  · have eg : K2_addGroup (ci (addS 9 (-1) (-1) S0) 8 3 (T0.1 24 + 1)) = (1, 0, ci (addS 9 (-1) (-1) S0) 8 3 (T0.1 24 + 1)) := by
      unfold K2_addGroup
      rw [b12, if_neg cg]
    have ei : K3_readGroup G d (ci (addS 9 (-1) (-1) S0) 8 3 (T0.1 24 + 1)) = (1, 0, ci (addS 9 (-1) (-1) S0) 8 3 (T0.1 24 + 1)) := by
      unfold K3_readGroup
      rw [eg]
      exact if_neg i10
    refine thr_OUT h25 hl (by rw [ei]; rfl) (dm_step hD h25 hl (Or.inl ?_))
    rw [rd]
    show 9 < U.1 20
    omega
