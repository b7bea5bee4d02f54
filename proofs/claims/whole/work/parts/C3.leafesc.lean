theorem gBd_id {r : CR} {k : Int → CSt → CR} : gBd (gBd r (fun v S => (0, v, S))) k = gBd r k := by
  unfold gBd
  by_cases c : r.1 = 0
  · rw [if_pos c]
    exact (if_pos rfl).trans (if_pos c).symm
  · rw [if_neg c]
    exact (if_neg i10).trans (if_neg c).symm
/-- a sign behind '\' -/
theorem LF_esc {G : Int → CSt → CR} {f d : Int} {T : MSt} {S : CSt} {F E : Nat → Nat} {R : Nat → Int} (h : RR f d T S F) (hl : T.1 24 < T.1 14) (hFR : ∀ (S : CSt) (dp : Int), rV S → rR (wP S) S (G dp S)) (c92 : M_sign T (T.1 24) = 92) : OUT f d T S F E R (K3_readCountedAtom G d S) := by
  have h0 := h
  obtain ⟨⟨e1, e2, e3⟩, h25, hD, hsg, hlen, hg, hlp, hlk, hgr, hsz, hcd, hd, hf, hv⟩ := h
  have hz2 := hsz.2
  have k0 := hD.2.2.2.1
  have z0 : 0 ≤ S.1 7 5 := by rw [hsz.1]; omega
  have hs0 : ¬ M_sign T (T.1 24) = 0 := by omega
  have rd := rdS_atom (T := T) (by omega) (by omega) (by omega) (by omega) (by omega)
  have em0 : M_atom T = (if ((M_escaped (M_emit 17 0 (T.1 20) 0 T)).1 25) = 0 then (M_count (T.1 19) 1 (M_escaped (M_emit 17 0 (T.1 20) 0 T))) else (M_escaped (M_emit 17 0 (T.1 20) 0 T))) := by
    unfold M_atom
    rw [if_neg (by omega), if_pos c92]
  rw [em0] at rd
  have ka : ∀ k, K4_at 2 k (addS 9 (-1) (-1) S) = K4_at 2 k S := fun k => by
    unfold K4_at
    rw [addS_o (by omega), addS_o (n := 11 + 2) (by omega)]
  have s8 : (addS 9 (-1) (-1) S).1 8 3 = T.1 24 := by rw [addS_o (by omega)]; exact e1
  have kc : ∀ k, 0 ≤ k → K4_at 2 k (clr (addS 9 (-1) (-1) S)) = M_sign T k := fun k hk => (upM_sg upM_clr k).trans ((ka k).trans (e3 k hk))
  have c8 : (clr (addS 9 (-1) (-1) S)).1 8 3 = T.1 24 := s8
  have kk : K4_at 2 ((clr (addS 9 (-1) (-1) S)).1 8 3) (clr (addS 9 (-1) (-1) S)) = M_sign T (T.1 24) := by rw [c8]; exact kc _ e2
  have hA := atom_C (G := G) (d := d) (S := addS 9 (-1) (-1) S) (by rw [ka, s8, e3 _ e2]; omega)
  rw [take_y (x := 92) (by rw [kk]; exact c92)] at hA
  have hA1 := hA.trans (if_neg i10)
  rw [c8] at hA1
  have um := upM_trans (upM_clr (S := addS 9 (-1) (-1) S)) (upM_8 (v := T.1 24 + 1))
  have k1 : ∀ k, 0 ≤ k → K4_at 2 k (ci (clr (addS 9 (-1) (-1) S)) 8 3 (T.1 24 + 1)) = M_sign T k := fun k hk => (upM_sg um k).trans ((ka k).trans (e3 k hk))
  have a8 : (ci (clr (addS 9 (-1) (-1) S)) 8 3 (T.1 24 + 1)).1 8 3 = T.1 24 + 1 := um.1
  have hsm : ∀ x, sm (ci (clr (addS 9 (-1) (-1) S)) 8 3 (T.1 24 + 1)) x = false := fun x => sm_clear (S := addS 9 (-1) (-1) S)
  have a84 : (ci (clr (addS 9 (-1) (-1) S)) 8 3 (T.1 24 + 1)).1 8 4 = T.1 23 := by rw [um.2.1 4 (by decide), addS_o (by omega)]; exact hgr
  generalize ci (clr (addS 9 (-1) (-1) S)) 8 3 (T.1 24 + 1) = SA at *
  have sgA : K4_at 2 (SA.1 8 3) SA = M_sign T (T.1 24 + 1) := by rw [a8]; exact k1 _ (by omega)
  have hE : K3_readEscaped SA = (if M_sign T (T.1 24 + 1) < 49 then (if ((K_ix2 (M_sign T (T.1 24 + 1)))) < 0 then (if (M_sign T (T.1 24 + 1)) = 47 then (gBd (K3_addOneSign 0 (K5_add (M_sign T (T.1 24 + 1)) (ci SA 8 3 (T.1 24 + 1 + 1)))) (fun v_17 S_18 => (0, v_17, S_18))) else (if ((K_ix1 (M_sign T (T.1 24 + 1)))) < 0 then (1, 0, (ci SA 8 3 (T.1 24 + 1 + 1))) else (gBd (K3_addOneSign 0 (K5_add (M_sign T (T.1 24 + 1)) (ci SA 8 3 (T.1 24 + 1 + 1)))) (fun v_28 S_29 => (0, v_28, S_29))))) else (gBd (K3_addOneSign 0 (K5_addKind (M_sign T (T.1 24 + 1)) (ci SA 8 3 (T.1 24 + 1 + 1)))) (fun v_35 S_36 => (0, v_35, S_36)))) else (if 57 < (M_sign T (T.1 24 + 1)) then (if ((K_ix2 (M_sign T (T.1 24 + 1)))) < 0 then (if (M_sign T (T.1 24 + 1)) = 47 then (gBd (K3_addOneSign 0 (K5_add (M_sign T (T.1 24 + 1)) (ci SA 8 3 (T.1 24 + 1 + 1)))) (fun v_48 S_49 => (0, v_48, S_49))) else (if ((K_ix1 (M_sign T (T.1 24 + 1)))) < 0 then (1, 0, (ci SA 8 3 (T.1 24 + 1 + 1))) else (gBd (K3_addOneSign 0 (K5_add (M_sign T (T.1 24 + 1)) (ci SA 8 3 (T.1 24 + 1 + 1)))) (fun v_59 S_60 => (0, v_59, S_60))))) else (gBd (K3_addOneSign 0 (K5_addKind (M_sign T (T.1 24 + 1)) (ci SA 8 3 (T.1 24 + 1 + 1)))) (fun v_66 S_67 => (0, v_66, S_67)))) else (gBd (K2_add 4 (-1) ((M_sign T (T.1 24 + 1)) - 48) (ci (ci SA 8 3 (T.1 24 + 1 + 1)) 8 4 ((if (T.1 23) < ((M_sign T (T.1 24 + 1)) - 48) then (M_sign T (T.1 24 + 1)) - 48 else T.1 23 : Int)))) (fun v_70 S_71 => (0, 1, S_71))))) := by
    unfold K3_readEscaped
    rw [sgA, a8, a84]
  have us := upM_trans um (upM_8 (v := T.1 24 + 1 + 1))
  have fin : ∀ (q : CR), (∃ v, q = gBd (K3_addOneSign 0 v) (fun v_53 S_54 => (0, v_53, S_54))) → gBd q (fun v_53 S_54 => (0, v_53, S_54)) = q := fun q hq => by
    obtain ⟨v, e⟩ := hq
    subst e
    exact gBd_id
  have esm : M_sign (M_emit 17 0 (T.1 20) 0 T) = M_sign T := rfl
  have e24 : (M_emit 17 0 (T.1 20) 0 T).1 24 = T.1 24 := rfl
  have e25' : (M_emit 17 0 (T.1 20) 0 T).1 25 = T.1 25 := rfl
  have e23' : (M_emit 17 0 (T.1 20) 0 T).1 23 = T.1 23 := rfl
  have hME : M_escaped (M_emit 17 0 (T.1 20) 0 T) = (if (zb (M_isClass (M_sign T ((T.1 24) + 1)))) = 0 then (if (M_sign T ((T.1 24) + 1)) < 49 then (M_emit 3 (M_sign T ((T.1 24) + 1)) 0 0 (mi (mi (M_emit 17 0 (T.1 20) 0 T) 24 ((T.1 24) + 2)) 25 ((if (zb (M_isSpecial (M_sign T ((T.1 24) + 1)))) = 0 then (if (M_sign T ((T.1 24) + 1)) = 47 then 0 else 1 : Int) else 0 : Int)))) else (if 57 < (M_sign T ((T.1 24) + 1)) then (M_emit 3 (M_sign T ((T.1 24) + 1)) 0 0 (mi (mi (M_emit 17 0 (T.1 20) 0 T) 24 ((T.1 24) + 2)) 25 ((if (zb (M_isSpecial (M_sign T ((T.1 24) + 1)))) = 0 then (if (M_sign T ((T.1 24) + 1)) = 47 then 0 else 1 : Int) else 0 : Int)))) else (M_emit 7 ((M_sign T ((T.1 24) + 1)) - 48) 0 0 (mi (mi (M_emit 17 0 (T.1 20) 0 T) 24 ((T.1 24) + 2)) 23 ((if ((M_sign T ((T.1 24) + 1)) - 48) ≤ (T.1 23) then T.1 23 else (M_sign T ((T.1 24) + 1)) - 48 : Int)))))) else (M_emit 5 (M_sign T ((T.1 24) + 1)) 0 0 (mi (M_emit 17 0 (T.1 20) 0 T) 24 ((T.1 24) + 2)))) := by
    unfold M_escaped
    rw [esm, e24, e25', e23', if_pos h25]
  have sb := hsg (T.1 24 + 1)
  have ix1 := K_ix1_iff sb.1 sb.2
  have ix2 := K_ix2_iff sb.1 sb.2
  have gt1 : ¬ M_sign T (T.1 24 + 1) = 0 → T.1 24 + 1 + 1 ≤ T.1 14 := fun y => by have := sgn_lt y; omega
  generalize hc : M_sign T (T.1 24 + 1) = c at *
  -- a sign that means itself
  have own : (¬ (49 ≤ c ∧ c ≤ 57)) → ¬ M_isClass c → (c = 47 ∨ M_isSpecial c) → OUT f d T S F E R (K3_readCountedAtom G d S) := fun y1 y2 y3 => by
    have hEq : K3_readEscaped SA = gBd (K3_addOneSign 0 (K5_add c (ci SA 8 3 (T.1 24 + 1 + 1)))) (fun v_53 S_54 => (0, v_53, S_54)) := by
      rw [hE]
      have q2 : K_ix2 c < 0 := ix2.mpr y2
      by_cases d1 : c < 49
      · rw [if_pos d1, if_pos q2]
        by_cases d2 : c = 47
        · rw [if_pos d2]
        · rw [if_neg d2, if_neg (fun z => (ix1.mp z) (by omega))]
      · rw [if_neg d1, if_pos (by omega), if_pos q2]
        by_cases d2 : c = 47
        · rw [if_pos d2]
        · rw [if_neg d2, if_neg (fun z => (ix1.mp z) (by omega))]
    have hA2 : K3_readAtom G d (addS 9 (-1) (-1) S) = gBd (K3_addOneSign 0 (K5_add c (ci SA 8 3 (T.1 24 + 1 + 1)))) (fun v_53 S_54 => (0, v_53, S_54)) := by
      refine hA1.trans ?_
      show gBd (K3_readEscaped SA) _ = _
      rw [hEq]
      exact fin _ ⟨_, rfl⟩
    have bz : (if (zb (M_isSpecial c)) = 0 then (if c = 47 then 0 else 1 : Int) else 0 : Int) = 0 := by
      rcases y3 with y3 | y3
      · rw [if_pos y3]; split <;> rfl
      · rw [zb_t y3, if_neg (by decide)]
    have eM : M_escaped (M_emit 17 0 (T.1 20) 0 T) = (M_emit 3 c 0 0 (mi (mi (M_emit 17 0 (T.1 20) 0 T) 24 ((T.1 24) + 2)) 25 0)) := by
      rw [hME, if_pos (zb_f y2), bz]
      by_cases d1 : c < 49
      · rw [if_pos d1]
      · rw [if_neg d1, if_pos (by omega)]
    rw [eM] at rd
    have rd1 := rd.trans (if_pos rfl)
    have hM : lfM T (M_emit 3 c 0 0 (mi (mi (M_emit 17 0 (T.1 20) 0 T) 24 ((T.1 24) + 2)) 25 0)) 3 c 0 0 (T.1 24 + 2) (T.1 23) := by
      refine lfM_of (U := mi (mi (M_emit 17 0 (T.1 20) 0 T) 24 ((T.1 24) + 2)) 25 0) hcd.1 rfl rfl rfl ?_ rfl rfl rfl (fun k a b c e => ?_)
      · show T.1 19 + 1 + 1 = _; omega
      · show (if k = 19 then _ else if k = 25 then _ else if k = 24 then _ else if k = 19 then _ else T.1 k) = T.1 k
        rw [if_neg a, if_neg e, if_neg c, if_neg a]
    have uu : upM (addS 9 (-1) (-1) S) (K5_add c (ci SA 8 3 (T.1 24 + 1 + 1))) (T.1 24 + 2) := by
      have a := upM_trans us (upM_k5 (S' := K5_add c (ci SA 8 3 (T.1 24 + 1 + 1))) K5_add_1 K5_add_22 (fun n hn => K5_add_2 hn))
      rw [us.1, show T.1 24 + 1 + 1 = T.1 24 + 2 by omega] at a
      rw [show T.1 24 + 1 + 1 = T.1 24 + 2 by omega]
      exact a
    have l2 := gt1 (by omega)
    refine ONE h0 hl hs0 hFR rd1 hM ⟨by omega, by omega⟩ (by omega) (fun y => by omega) (fun _ => rfl) (by omega) (fun v v0 v1 => ?_) uu hA2
    have p0 := hM.2.2.2.2.2.2.2.2
    generalize M_emit 3 c 0 0 (mi (mi (M_emit 17 0 (T.1 20) 0 T) 24 ((T.1 24) + 2)) 25 0) = T1 at p0 ⊢
    have e8 : (tkT f T1).2 8 ((((T.1 19).toNat + 1 : Nat) : Int)).toNat = 3 := by rw [show ((((T.1 19).toNat + 1 : Nat) : Int)).toNat = (T.1 19).toNat + 1 by omega]; exact p0.1
    have e9 : (tkT f T1).2 9 ((((T.1 19).toNat + 1 : Nat) : Int)).toNat = c := by rw [show ((((T.1 19).toNat + 1 : Nat) : Int)).toNat = (T.1 19).toNat + 1 by omega]; exact p0.2.1
    have s0 : sm (ci SA 8 3 (T.1 24 + 1 + 1)) v = false := hsm v
    unfold M_fits
    rw [e8, if_pos rfl, e9, sm_add sb.1 (by omega) (by omega) (by omega), s0]
    by_cases cv : v = c
    · rw [if_pos cv, if_pos (by simp [cv])]
    · rw [if_neg cv, if_neg (by simp [cv])]
  by_cases cd : 49 ≤ c ∧ c ≤ 57
  · -- a reference
    have nC : ¬ M_isClass c := by omega
    have hEq : K3_readEscaped SA = gBd (K2_add 4 (-1) (c - 48) (ci (ci SA 8 3 (T.1 24 + 1 + 1)) 8 4 ((if (T.1 23) < (c - 48) then c - 48 else T.1 23 : Int)))) (fun v_70 S_71 => (0, 1, S_71)) := by
      rw [hE, if_neg (by omega), if_neg (by omega)]
    have z8 : (ci (ci SA 8 3 (T.1 24 + 1 + 1)) 8 4 ((if (T.1 23) < (c - 48) then c - 48 else T.1 23 : Int))).1 7 5 = S.1 7 5 + 1 := by rw [ci_ne (by decide), us.2.2.1 7 (by decide), addS_75]
    rw [K2_addQ (by rw [z8]; omega) (by rw [z8]; omega)] at hEq
    have hEq' := hEq.trans (if_pos rfl)
    have hA2 : K3_readAtom G d (addS 9 (-1) (-1) S) = (0, 1, addS 4 (-1) (c - 48) (ci (ci SA 8 3 (T.1 24 + 1 + 1)) 8 4 ((if (T.1 23) < (c - 48) then c - 48 else T.1 23 : Int)))) := by
      refine hA1.trans ?_
      show gBd (K3_readEscaped SA) _ = _
      rw [hEq']
      exact if_pos rfl
    have eM : M_escaped (M_emit 17 0 (T.1 20) 0 T) = (M_emit 7 (c - 48) 0 0 (mi (mi (M_emit 17 0 (T.1 20) 0 T) 24 ((T.1 24) + 2)) 23 ((if (c - 48) ≤ (T.1 23) then T.1 23 else c - 48 : Int)))) := by
      rw [hME, if_pos (zb_f nC), if_neg (by omega), if_neg (by omega)]
    rw [eM] at rd
    have rd1 := rd.trans (if_pos h25)
    have hM : lfM T (M_emit 7 (c - 48) 0 0 (mi (mi (M_emit 17 0 (T.1 20) 0 T) 24 ((T.1 24) + 2)) 23 ((if (c - 48) ≤ (T.1 23) then T.1 23 else c - 48 : Int)))) 7 (c - 48) 0 0 (T.1 24 + 2) (if (c - 48) ≤ (T.1 23) then T.1 23 else c - 48 : Int) := by
      refine lfM_of (U := mi (mi (M_emit 17 0 (T.1 20) 0 T) 24 ((T.1 24) + 2)) 23 ((if (c - 48) ≤ (T.1 23) then T.1 23 else c - 48 : Int))) hcd.1 rfl rfl rfl ?_ rfl rfl h25 (fun k a b c e => ?_)
      · show T.1 19 + 1 + 1 = _; omega
      · show (if k = 19 then _ else if k = 23 then _ else if k = 24 then _ else if k = 19 then _ else T.1 k) = T.1 k
        rw [if_neg a, if_neg b, if_neg c, if_neg a]
    have hs : ¬ K4_at 2 (S.1 8 3) S = 0 := by rw [e1, e3 _ e2]; exact hs0
    have hva : rV (addS 9 (-1) (-1) S) := by
      have q := rV_add (kd := 9) (am := -1) (nb := -1) hv (by rw [K2_addQ z0 (by omega)]) (by decide) (by decide) (by decide) (by decide) (by decide) (by decide)
      rw [K2_addQ z0 (by omega)] at q
      exact q
    have hV3 := (K3_readAtom_R hFR (dp := d) hva (by rw [ka, s8, e3 _ e2]; exact hs0)).2.2.1
    have eq : K3_readCountedAtom G d S = tailC (S.1 7 5) (S.1 7 12) 1 (addS 4 (-1) (c - 48) (ci (ci SA 8 3 (T.1 24 + 1 + 1)) 8 4 ((if (T.1 23) < (c - 48) then c - 48 else T.1 23 : Int)))) := by
      rw [counted_T, K2_addQ z0 (by omega)]
      refine (if_pos rfl).trans ?_
      show gBd (K3_readAtom G d (addS 9 (-1) (-1) S)) _ = _
      rw [hA2]
      exact if_pos rfl
    have hVc := (K3_readCountedAtom_R hFR (dp := d) hv hs).2.2.1
    rw [eq] at hVc ⊢
    rw [hA2] at hV3
    have l2 := gt1 (by omega)
    have hC : lfC S (addS 4 (-1) (c - 48) (ci (ci SA 8 3 (T.1 24 + 1 + 1)) 8 4 ((if (T.1 23) < (c - 48) then c - 48 else T.1 23 : Int)))) 4 (c - 48) (T.1 24 + 2) (if (c - 48) ≤ (T.1 23) then T.1 23 else c - 48 : Int) := by
      refine lfC_of (S2 := ci (ci SA 8 3 (T.1 24 + 1 + 1)) 8 4 ((if (T.1 23) < (c - 48) then c - 48 else T.1 23 : Int))) z0 ?_ ?_ (fun n hn => ?_) rfl (fun j k hj hk => ?_)
      · rw [ci_eq, zu_ne (by decide), us.1]; omega
      · rw [ci_eq, zu_eq]
        by_cases q : c - 48 ≤ T.1 23
        · rw [if_pos q, if_neg (by omega)]
        · rw [if_neg q, if_pos (by omega)]
      · rw [ci_ne hn, us.2.2.1 n hn]
      · show (ci (ci SA 8 3 (T.1 24 + 1 + 1)) 8 4 ((if (T.1 23) < (c - 48) then c - 48 else T.1 23 : Int))).2.1 (26 + j) k = S.2.1 (26 + j) k
        have q := us.2.2.2.1 (26 + j) (by omega)
        rw [addS_2] at q
        exact congrFun q k
    exact LEAF h0 hl rd1 hM hC ⟨by omega, by omega⟩ (Or.inr ⟨rfl, rfl, rfl, by omega, by omega⟩) (by omega) (fun y => by omega) (hV3 rfl).1 (fun q => (hVc q).1)
  · by_cases cC : M_isClass c
    · -- a kind
      have hEq : K3_readEscaped SA = gBd (K3_addOneSign 0 (K5_addKind c (ci SA 8 3 (T.1 24 + 1 + 1)))) (fun v_53 S_54 => (0, v_53, S_54)) := by
        rw [hE]
        have q2 : ¬ K_ix2 c < 0 := fun y => ix2.mp y cC
        by_cases d1 : c < 49
        · rw [if_pos d1, if_neg q2]
        · rw [if_neg d1, if_pos (by omega), if_neg q2]
      have hA2 : K3_readAtom G d (addS 9 (-1) (-1) S) = gBd (K3_addOneSign 0 (K5_addKind c (ci SA 8 3 (T.1 24 + 1 + 1)))) (fun v_53 S_54 => (0, v_53, S_54)) := by
        refine hA1.trans ?_
        show gBd (K3_readEscaped SA) _ = _
        rw [hEq]
        exact fin _ ⟨_, rfl⟩
      have eM : M_escaped (M_emit 17 0 (T.1 20) 0 T) = (M_emit 5 c 0 0 (mi (M_emit 17 0 (T.1 20) 0 T) 24 ((T.1 24) + 2))) := by
        rw [hME, if_neg (by rw [zb_t cC]; decide)]
      rw [eM] at rd
      have rd1 := rd.trans (if_pos h25)
      have hM : lfM T (M_emit 5 c 0 0 (mi (M_emit 17 0 (T.1 20) 0 T) 24 ((T.1 24) + 2))) 5 c 0 0 (T.1 24 + 2) (T.1 23) := by
        refine lfM_of (U := mi (M_emit 17 0 (T.1 20) 0 T) 24 ((T.1 24) + 2)) hcd.1 rfl rfl rfl ?_ rfl rfl h25 (fun k a b c e => ?_)
        · show T.1 19 + 1 + 1 = _; omega
        · show (if k = 19 then _ else if k = 24 then _ else if k = 19 then _ else T.1 k) = T.1 k
          rw [if_neg a, if_neg c, if_neg a]
      have uu : upM (addS 9 (-1) (-1) S) (K5_addKind c (ci SA 8 3 (T.1 24 + 1 + 1))) (T.1 24 + 2) := by
        have a := upM_trans us (upM_k5 (S' := K5_addKind c (ci SA 8 3 (T.1 24 + 1 + 1))) K5_addKind_1 K5_addKind_22 (fun n hn => K5_addKind_2 hn))
        rw [us.1, show T.1 24 + 1 + 1 = T.1 24 + 2 by omega] at a
        rw [show T.1 24 + 1 + 1 = T.1 24 + 2 by omega]
        exact a
      have l2 := gt1 (by omega)
      refine ONE h0 hl hs0 hFR rd1 hM ⟨by omega, by omega⟩ (by omega) (fun y => by omega) (fun _ => rfl) (by omega) (fun v v0 v1 => ?_) uu hA2
      have p0 := hM.2.2.2.2.2.2.2.2
      generalize M_emit 5 c 0 0 (mi (M_emit 17 0 (T.1 20) 0 T) 24 ((T.1 24) + 2)) = T1 at p0 ⊢
      have e8 : (tkT f T1).2 8 ((((T.1 19).toNat + 1 : Nat) : Int)).toNat = 5 := by rw [show ((((T.1 19).toNat + 1 : Nat) : Int)).toNat = (T.1 19).toNat + 1 by omega]; exact p0.1
      have e9 : (tkT f T1).2 9 ((((T.1 19).toNat + 1 : Nat) : Int)).toNat = c := by rw [show ((((T.1 19).toNat + 1 : Nat) : Int)).toNat = (T.1 19).toNat + 1 by omega]; exact p0.2.1
      have s0 : sm (ci SA 8 3 (T.1 24 + 1 + 1)) v = false := hsm v
      unfold M_fits
      rw [e8, if_neg (by decide), if_neg (by decide), if_pos rfl, e9, sm_addKind cC (by omega) (by omega), s0]
      rcases M_inClass_01 c v with q | q
      · rw [q, if_neg (by simp)]
      · rw [q, if_pos (by simp)]
    · by_cases c3 : c = 47 ∨ M_isSpecial c
      · exact own cd cC c3
      · have q2 : K_ix2 c < 0 := ix2.mpr cC
        have q1 : K_ix1 c < 0 := ix1.mpr (fun y => c3 (Or.inr y))
        have n47 : ¬ c = 47 := fun y => c3 (Or.inl y)
        have hEq : K3_readEscaped SA = (1, 0, ci SA 8 3 (T.1 24 + 1 + 1)) := by
          rw [hE]
          by_cases d1 : c < 49
          · rw [if_pos d1, if_pos q2, if_neg n47, if_pos q1]
          · rw [if_neg d1, if_pos (by omega), if_pos q2, if_neg n47, if_pos q1]
        refine thr_OUT h25 hl (cnt_thr z0 (by omega) ?_) ?_
        · rw [hA1]
          show (gBd (K3_readEscaped SA) _).1 = 1
          rw [hEq]
          rfl
        · have bz : (if (zb (M_isSpecial c)) = 0 then (if c = 47 then 0 else 1 : Int) else 0 : Int) = 1 := by
            rw [zb_f (fun y => c3 (Or.inr y)), if_pos rfl, if_neg n47]
          have eM : M_escaped (M_emit 17 0 (T.1 20) 0 T) = (M_emit 3 c 0 0 (mi (mi (M_emit 17 0 (T.1 20) 0 T) 24 ((T.1 24) + 2)) 25 1)) := by
            rw [hME, if_pos (zb_f cC), bz]
            by_cases d1 : c < 49
            · rw [if_pos d1]
            · rw [if_neg d1, if_pos (by omega)]
          rw [eM] at rd
          have rd1 := rd.trans (if_neg (show ¬ (1 : Int) = 0 by decide))
          rw [rd1]
          exact dmR_bad rfl
