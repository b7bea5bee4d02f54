theorem i10 : ¬ (1 : Int) = 0 := by decide
theorem rdS_atom {T : MSt} (n1 : ¬ M_sign T (T.1 24) = 124) (n2 : ¬ M_sign T (T.1 24) = 41) (n3 : ¬ M_sign T (T.1 24) = 94) (n4 : ¬ M_sign T (T.1 24) = 36) (n5 : ¬ M_sign T (T.1 24) = 40) : rdS T = M_atom T := by
  unfold rdS
  rw [if_neg n1, if_neg n2, if_neg n3, if_neg n4, if_neg n5]
/-- the class's set of fitting signs, empty -/
def clr (S : CSt) : CSt := cj (cj S 9 0 0) 9 1 0
theorem upM_clr {S : CSt} : upM S (clr S) (S.1 8 3) := upM_k5 rfl rfl (fun n hn => by unfold clr; rw [cj_ne hn, cj_ne hn])
/-- what readAtom does at a sign that is no bracket -/
theorem atom_C {G : Int → CSt → CR} {d : Int} {S : CSt} (h40 : ¬ K4_at 2 (S.1 8 3) S = 40) : K3_readAtom G d S = (gLt (K3_take 92 (clr S)) (fun v_22 S_23 => (if v_22 = 0 then (gLt (K3_take 91 S_23) (fun v_29 S_30 => (if v_29 = 0 then (gLt (K3_take 46 S_30) (fun v_36 S_37 => (if v_36 = 0 then (if ((K_ix1 ((K4_at 2 (S_37.1 8 3) S_37)))) < 0 then (gBd (K3_addOneSign 0 (K5_add ((K4_at 2 (S_37.1 8 3) S_37)) (ci S_37 8 3 ((S_37.1 8 3) + 1)))) (fun v_53 S_54 => (0, v_53, S_54))) else (1, 0, S_37)) else (gBd (K3_addOneSign 0 (K3_addAnySign S_37)) (fun v_60 S_61 => (0, v_60, S_61)))))) else (gBd (K3_readSet S_30) (fun v_64 S_65 => (0, v_64, S_65)))))) else (gBd (K3_readEscaped S_23) (fun v_68 S_69 => (0, v_68, S_69)))))) := by
  have e1 : K3_takeOpening 58 S = (0, S) := if_neg h40
  have e2 := take_n (x := 40) h40
  unfold K3_readAtom
  rw [e1]
  refine (if_pos rfl).trans ?_
  show gLt (K3_take 40 S) _ = _
  rw [e2]
  exact if_pos rfl
/-- one sign that fits, in both -/
theorem ONE {G : Int → CSt → CR} {f d : Int} {T T1 : MSt} {S S2 : CSt} {F E : Nat → Nat} {R : Nat → Int} {op x y z at' tu : Int} (h : RR f d T S F) (hl : T.1 24 < T.1 14) (hs0 : ¬ M_sign T (T.1 24) = 0) (hFR : ∀ (S : CSt) (dp : Int), rV S → rR (wP S) S (G dp S)) (hrd : rdS T = M_count (T.1 19) 1 T1) (hM : lfM T T1 op x y z at' (T.1 23)) (hat : T.1 24 < at' ∧ at' ≤ T.1 14) (hx : 0 ≤ x ∧ x ≤ 126 ∧ 0 ≤ y ∧ y ≤ 39 ∧ 0 ≤ z ∧ z ≤ 1) (h6 : op = 6 → x ≤ 41 ∧ z = (if tu = 0 then 0 else 1 : Int)) (hn : ¬ op = 6 → tu = 0) (hop : 3 ≤ op ∧ op ≤ 6) (hb : ∀ v, 32 ≤ v → v ≤ 126 → M_fits (((T.1 19).toNat + 1 : Nat) : Int) v (tkT f T1) = (if sm S2 v = true then 1 else 0)) (hu : upM (addS 9 (-1) (-1) S) S2 at') (hA : K3_readAtom G d (addS 9 (-1) (-1) S) = gBd (K3_addOneSign tu S2) (fun v T => (0, v, T))) : OUT f d T S F E R (K3_readCountedAtom G d S) := by
  have h0 := h
  obtain ⟨⟨e1, e2, e3⟩, h25, hD, hsg, hlen, hg, hlp, hlk, hgr, hsz, hcd, hd, hf, hv⟩ := h
  have hz2 := hsz.2
  have k0 := hD.2.2.2.1
  have z0 : 0 ≤ S.1 7 5 := by rw [hsz.1]; omega
  obtain ⟨u1, u2, u3, u4, u5⟩ := hu
  have z2 : S2.1 7 5 = S.1 7 5 + 1 := by rw [u3 7 (by decide), addS_75]
  obtain ⟨S3, o1, o2, o3, o4⟩ := one_C (tu := tu) (S2 := S2) (by omega) (by omega)
  rw [o1] at hA
  have hA' : K3_readAtom G d (addS 9 (-1) (-1) S) = (0, 1, S3) := hA.trans (if_pos rfl)
  have hs : ¬ K4_at 2 (S.1 8 3) S = 0 := by rw [e1, e3 _ e2]; exact hs0
  have eq : K3_readCountedAtom G d S = tailC (S.1 7 5) (S.1 7 12) 1 S3 := by
    rw [counted_T, K2_addQ z0 (by omega)]
    refine (if_pos rfl).trans ?_
    show gBd (K3_readAtom G d (addS 9 (-1) (-1) S)) _ = _
    rw [hA']
    exact if_pos rfl
  have hVc := (K3_readCountedAtom_R hFR (dp := d) hv hs).2.2.1
  rw [eq] at hVc
  have hva : rV (addS 9 (-1) (-1) S) := by
    have q := rV_add (kd := 9) (am := -1) (nb := -1) hv (by rw [K2_addQ z0 (by omega)]) (by decide) (by decide) (by decide) (by decide) (by decide) (by decide)
    rw [K2_addQ z0 (by omega)] at q
    exact q
  have hV3 : rV S3 := by
    have q := (K3_readAtom_R hFR (dp := d) hva (by
      have k : K4_at 2 ((addS 9 (-1) (-1) S).1 8 3) (addS 9 (-1) (-1) S) = K4_at 2 (S.1 8 3) S := by
        unfold K4_at
        rw [addS_o (by omega), addS_o (by omega), addS_o (n := 11 + 2) (by omega)]
      rw [k]; exact hs)).2.2.1
    rw [hA'] at q
    exact (q rfl).1
  rw [eq]
  have i1 : (S2.1 7 5).toNat = (S.1 7 5).toNat + 1 := by omega
  have hC : lfC S S3 1 (-1) at' (T.1 23) := by
    refine lfC_of (S2 := S2) z0 u1 ?_ u3 o2 (fun j k hj hk => ?_)
    · rw [u2 4 (by decide), addS_o (by omega)]; exact hgr
    · rw [o3 j k hj (by omega)]
      show S2.2.1 (26 + j) k = S.2.1 (26 + j) k
      rw [u4 _ (by omega), addS_2]
  have p0 := hM.2.2.2.2.2.2.2.2
  refine LEAF h0 hl hrd hM hC hat (Or.inl ⟨hop.1, hop.2, rfl, fun v v0 v1 => ?_⟩) hx (fun y => (h6 y).1) hV3 (fun q => (hVc q).1)
  rw [fit_N (tu := tu) hb (by rw [p0.1, p0.2.2.2]; exact fun y => (h6 y).2) (by rw [p0.1]; exact hn) v0 v1, ← i1, o4, sm_one (by omega) (by omega)]
  have ef : S2.1 7 13 = f := by rw [u3 7 (by decide), addS_7 (by decide)]; exact hf
  rw [ef]
theorem thr_OUT {f d : Int} {T : MSt} {S : CSt} {F E : Nat → Nat} {R : Nat → Int} {r : CR} (hb : T.1 25 = 0) (hl : T.1 24 < T.1 14) (h : r.1 = 1) (h1 : dmR (rdS T)) : OUT f d T S F E R r := Or.inl ⟨h, T, goR_refl, dmR_S hb hl h1⟩
/-- thrown in readAtom: thrown -/
theorem cnt_thr {G : Int → CSt → CR} {d : Int} {S : CSt} (z0 : 0 ≤ S.1 7 5) (z1 : S.1 7 5 < 96) (h : (K3_readAtom G d (addS 9 (-1) (-1) S)).1 = 1) : (K3_readCountedAtom G d S).1 = 1 := by
  rw [counted_T, K2_addQ z0 z1]
  show (gBd (K3_readAtom G d (addS 9 (-1) (-1) S)) _).1 = 1
  show (if (K3_readAtom G d (addS 9 (-1) (-1) S)).1 = 0 then _ else ((1, 0, (K3_readAtom G d (addS 9 (-1) (-1) S)).2.2) : CR)).1 = 1
  rw [if_neg (by omega)]
/-- '.' and a sign that means itself -/
theorem LF_plain {G : Int → CSt → CR} {f d : Int} {T : MSt} {S : CSt} {F E : Nat → Nat} {R : Nat → Int} (h : RR f d T S F) (hl : T.1 24 < T.1 14) (hs0 : ¬ M_sign T (T.1 24) = 0) (hFR : ∀ (S : CSt) (dp : Int), rV S → rR (wP S) S (G dp S)) (n1 : ¬ M_sign T (T.1 24) = 124) (n2 : ¬ M_sign T (T.1 24) = 41) (n3 : ¬ M_sign T (T.1 24) = 94) (n4 : ¬ M_sign T (T.1 24) = 36) (n5 : ¬ M_sign T (T.1 24) = 40) (n6 : ¬ M_sign T (T.1 24) = 91) (n7 : ¬ M_sign T (T.1 24) = 92) : OUT f d T S F E R (K3_readCountedAtom G d S) := by
  have h0 := h
  obtain ⟨⟨e1, e2, e3⟩, h25, hD, hsg, hlen, hg, hlp, hlk, hgr, hsz, hcd, hd, hf, hv⟩ := h
  have hz2 := hsz.2
  have k0 := hD.2.2.2.1
  have z0 : 0 ≤ S.1 7 5 := by rw [hsz.1]; omega
  have rd := rdS_atom n1 n2 n3 n4 n5
  have ka : ∀ k, K4_at 2 k (addS 9 (-1) (-1) S) = K4_at 2 k S := fun k => by
    unfold K4_at
    rw [addS_o (by omega), addS_o (n := 11 + 2) (by omega)]
  have s8 : (addS 9 (-1) (-1) S).1 8 3 = T.1 24 := by rw [addS_o (by omega)]; exact e1
  have kc : ∀ k, 0 ≤ k → K4_at 2 k (clr (addS 9 (-1) (-1) S)) = M_sign T k := fun k hk => (upM_sg upM_clr k).trans ((ka k).trans (e3 k hk))
  have c8 : (clr (addS 9 (-1) (-1) S)).1 8 3 = T.1 24 := s8
  have kk : K4_at 2 ((clr (addS 9 (-1) (-1) S)).1 8 3) (clr (addS 9 (-1) (-1) S)) = M_sign T (T.1 24) := by rw [c8]; exact kc _ e2
  have hA := atom_C (G := G) (d := d) (S := addS 9 (-1) (-1) S) (by rw [ka, s8, e3 _ e2]; exact n5)
  rw [take_n (x := 92) (by rw [kk]; exact n7)] at hA
  have hA1 := hA.trans (if_pos rfl)
  rw [take_n (x := 91) (by show ¬ K4_at 2 ((clr (addS 9 (-1) (-1) S)).1 8 3) (clr (addS 9 (-1) (-1) S)) = 91; rw [kk]; exact n6)] at hA1
  have hA2 := hA1.trans (if_pos rfl)
  have um := upM_clr (S := addS 9 (-1) (-1) S)
  by_cases c46 : M_sign T (T.1 24) = 46
  · rw [take_y (x := 46) (by show K4_at 2 ((clr (addS 9 (-1) (-1) S)).1 8 3) (clr (addS 9 (-1) (-1) S)) = 46; rw [kk]; exact c46)] at hA2
    have hA3 := hA2.trans (if_neg i10)
    have erd : rdS T = M_count (T.1 19) 1 (mi (M_emit 4 0 0 0 (M_emit 17 0 (T.1 20) 0 T)) 24 ((T.1 24) + 1)) := by
      rw [rd]
      unfold M_atom
      rw [if_neg n6, if_neg n7, if_pos c46, if_pos h25]
    have hM : lfM T (mi (M_emit 4 0 0 0 (M_emit 17 0 (T.1 20) 0 T)) 24 ((T.1 24) + 1)) 4 0 0 0 (T.1 24 + 1) (T.1 23) := by
      refine lfM_of (U := M_emit 17 0 (T.1 20) 0 T) hcd.1 rfl rfl rfl ?_ rfl rfl h25 (fun k a b c e => ?_)
      · show T.1 19 + 1 + 1 = _; omega
      · show (if k = 24 then _ else if k = 19 then _ else if k = 19 then _ else T.1 k) = T.1 k
        rw [if_neg c, if_neg a, if_neg a]
    have uu : upM (addS 9 (-1) (-1) S) (K3_addAnySign (ci (clr (addS 9 (-1) (-1) S)) 8 3 ((clr (addS 9 (-1) (-1) S)).1 8 3 + 1))) (T.1 24 + 1) := by
      have a := upM_trans um (upM_8 (S := clr (addS 9 (-1) (-1) S)) (v := (clr (addS 9 (-1) (-1) S)).1 8 3 + 1))
      rw [c8] at a ⊢
      generalize ci (clr (addS 9 (-1) (-1) S)) 8 3 (T.1 24 + 1) = SS at a ⊢
      have b : upM SS (K3_addAnySign SS) (SS.1 8 3) := by
        refine upM_k5 ?_ ?_ (fun n hn => ?_)
        · unfold K3_addAnySign; split
          · exact K5_addRange_1
          · exact K5_addRange_1.trans K5_addRange_1
        · unfold K3_addAnySign; split
          · exact K5_addRange_22
          · exact K5_addRange_22.trans K5_addRange_22
        · unfold K3_addAnySign; split
          · exact K5_addRange_2 hn
          · exact (K5_addRange_2 hn).trans (K5_addRange_2 hn)
      have c := upM_trans a b
      rw [a.1] at c
      exact c
    have hlt : T.1 24 + 1 ≤ T.1 14 := by omega
    refine ONE h0 hl hs0 hFR erd hM ⟨by omega, hlt⟩ (by omega) (fun y => by omega) (fun _ => rfl) (by omega) (fun v v0 v1 => ?_) uu hA3
    have p0 := hM.2.2.2.2.2.2.2.2
    have e8 : (tkT f (mi (M_emit 4 0 0 0 (M_emit 17 0 (T.1 20) 0 T)) 24 ((T.1 24) + 1))).2 8 ((((T.1 19).toNat + 1 : Nat) : Int)).toNat = 4 := by rw [show ((((T.1 19).toNat + 1 : Nat) : Int)).toNat = (T.1 19).toNat + 1 by omega]; exact p0.1
    have eh : M_has 2 (tkT f (mi (M_emit 4 0 0 0 (M_emit 17 0 (T.1 20) 0 T)) 24 ((T.1 24) + 1))) = (if zand f 2 = 0 then 0 else 1 : Int) := rfl
    unfold M_fits
    rw [e8, if_neg (by decide), if_pos rfl, eh]
    have e13 : (ci (clr (addS 9 (-1) (-1) S)) 8 3 ((clr (addS 9 (-1) (-1) S)).1 8 3 + 1)).1 7 13 = f := by
      rw [ci_ne (by decide)]
      show (addS 9 (-1) (-1) S).1 7 13 = f
      rw [addS_7 (by decide)]; exact hf
    have s0 : sm (ci (clr (addS 9 (-1) (-1) S)) 8 3 ((clr (addS 9 (-1) (-1) S)).1 8 3 + 1)) v = false := sm_clear (S := addS 9 (-1) (-1) S)
    generalize ci (clr (addS 9 (-1) (-1) S)) 8 3 ((clr (addS 9 (-1) (-1) S)).1 8 3 + 1) = SS at e13 s0 ⊢
    unfold K3_addAnySign
    have eh2 : K2_has 7 2 SS = (if zand (SS.1 7 13) 2 = 0 then 0 else 1 : Int) := rfl
    rw [eh2, e13]
    by_cases cz : zand f 2 = 0
    · rw [if_pos cz, if_pos rfl, if_pos rfl, sm_addRange (by decide) (by decide) (by decide) (by omega) (by omega), s0]
      rw [if_pos (by simp; omega)]
    · rw [if_neg cz, if_neg (show ¬ (1 : Int) = 0 by decide), if_neg (show ¬ (1 : Int) = 0 by decide), sm_addRange (by decide) (by decide) (by decide) (by omega) (by omega), sm_addRange (by decide) (by decide) (by decide) (by omega) (by omega), s0]
      by_cases c47 : v = 47
      · rw [if_pos c47, if_neg (by simp; omega)]
      · rw [if_neg c47, if_pos (by simp; omega)]
  · rw [take_n (x := 46) (by show ¬ K4_at 2 ((clr (addS 9 (-1) (-1) S)).1 8 3) (clr (addS 9 (-1) (-1) S)) = 46; rw [kk]; exact c46)] at hA2
    have hA3 := hA2.trans (if_pos rfl)
    have hA3 : K3_readAtom G d (addS 9 (-1) (-1) S) = (if ((K_ix1 ((K4_at 2 ((clr (addS 9 (-1) (-1) S)).1 8 3) (clr (addS 9 (-1) (-1) S)))))) < 0 then (gBd (K3_addOneSign 0 (K5_add ((K4_at 2 ((clr (addS 9 (-1) (-1) S)).1 8 3) (clr (addS 9 (-1) (-1) S)))) (ci (clr (addS 9 (-1) (-1) S)) 8 3 (((clr (addS 9 (-1) (-1) S)).1 8 3) + 1)))) (fun v_53 S_54 => (0, v_53, S_54))) else (1, 0, (clr (addS 9 (-1) (-1) S)))) := hA3
    rw [kk, c8] at hA3
    have sb := hsg (T.1 24)
    have ix := K_ix1_iff sb.1 sb.2
    by_cases cs : M_isSpecial (M_sign T (T.1 24))
    · rw [if_neg (fun y => ix.mp y cs)] at hA3
      refine thr_OUT h25 hl (cnt_thr z0 (by omega) (by rw [hA3])) ?_
      rw [rd]
      have ev : (if (T.1 25) = 0 then (if (zb (M_isSpecial (M_sign T (T.1 24)))) = 0 then 0 else 1 : Int) else 1 : Int) = 1 := by rw [if_pos h25, zb_t cs, if_neg (by decide)]
      have em : M_atom T = (mi (M_emit 3 (M_sign T (T.1 24)) 0 0 (mi (M_emit 17 0 (T.1 20) 0 T) 25 ((if (T.1 25) = 0 then (if (zb (M_isSpecial (M_sign T (T.1 24)))) = 0 then 0 else 1 : Int) else 1 : Int)))) 24 ((T.1 24) + 1)) := by
        unfold M_atom
        rw [if_neg n6, if_neg n7, if_neg c46, if_neg (by rw [ev]; decide)]
      rw [em]
      exact dmR_bad ev
    · rw [if_pos (ix.mpr cs)] at hA3
      have ev : (if (T.1 25) = 0 then (if (zb (M_isSpecial (M_sign T (T.1 24)))) = 0 then 0 else 1 : Int) else 1 : Int) = 0 := by rw [if_pos h25, zb_f cs, if_pos rfl]
      have erd : rdS T = M_count (T.1 19) 1 (mi (M_emit 3 (M_sign T (T.1 24)) 0 0 (mi (M_emit 17 0 (T.1 20) 0 T) 25 ((if (T.1 25) = 0 then (if (zb (M_isSpecial (M_sign T (T.1 24)))) = 0 then 0 else 1 : Int) else 1 : Int)))) 24 ((T.1 24) + 1)) := by
        rw [rd]
        unfold M_atom
        rw [if_neg n6, if_neg n7, if_neg c46, if_pos ev]
      rw [ev] at erd
      have hM : lfM T (mi (M_emit 3 (M_sign T (T.1 24)) 0 0 (mi (M_emit 17 0 (T.1 20) 0 T) 25 0)) 24 ((T.1 24) + 1)) 3 (M_sign T (T.1 24)) 0 0 (T.1 24 + 1) (T.1 23) := by
        refine lfM_of (U := mi (M_emit 17 0 (T.1 20) 0 T) 25 0) hcd.1 rfl rfl rfl ?_ rfl rfl rfl (fun k a b c e => ?_)
        · show T.1 19 + 1 + 1 = _; omega
        · show (if k = 24 then _ else if k = 19 then _ else if k = 25 then _ else if k = 19 then _ else T.1 k) = T.1 k
          rw [if_neg c, if_neg a, if_neg e, if_neg a]
      have uu : upM (addS 9 (-1) (-1) S) (K5_add (M_sign T (T.1 24)) (ci (clr (addS 9 (-1) (-1) S)) 8 3 (T.1 24 + 1))) (T.1 24 + 1) := upM_trans (upM_trans um upM_8) (upM_k5 K5_add_1 K5_add_22 (fun n hn => K5_add_2 hn))
      refine ONE h0 hl hs0 hFR erd hM ⟨by omega, by omega⟩ (by omega) (fun y => by omega) (fun _ => rfl) (by omega) (fun v v0 v1 => ?_) uu hA3
      have p0 := hM.2.2.2.2.2.2.2.2
      generalize mi (M_emit 3 (M_sign T (T.1 24)) 0 0 (mi (M_emit 17 0 (T.1 20) 0 T) 25 0)) 24 ((T.1 24) + 1) = T1 at p0 ⊢
      have e8 : (tkT f T1).2 8 ((((T.1 19).toNat + 1 : Nat) : Int)).toNat = 3 := by rw [show ((((T.1 19).toNat + 1 : Nat) : Int)).toNat = (T.1 19).toNat + 1 by omega]; exact p0.1
      have e9 : (tkT f T1).2 9 ((((T.1 19).toNat + 1 : Nat) : Int)).toNat = M_sign T (T.1 24) := by rw [show ((((T.1 19).toNat + 1 : Nat) : Int)).toNat = (T.1 19).toNat + 1 by omega]; exact p0.2.1
      have s0 : sm (ci (clr (addS 9 (-1) (-1) S)) 8 3 (T.1 24 + 1)) v = false := sm_clear (S := addS 9 (-1) (-1) S)
      unfold M_fits
      rw [e8, if_pos rfl, e9, sm_add sb.1 (by omega) (by omega) (by omega), s0]
      by_cases cv : v = M_sign T (T.1 24)
      · rw [if_pos cv, if_pos (by simp [cv])]
      · rw [if_neg cv, if_neg (by simp [cv])]
