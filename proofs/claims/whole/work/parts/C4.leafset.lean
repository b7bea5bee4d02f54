/-- a set in brackets -/
theorem LF_set {G : Int → CSt → CR} {f d : Int} {T : MSt} {S : CSt} {F E : Nat → Nat} {R : Nat → Int} (h : RR f d T S F) (hl : T.1 24 < T.1 14) (hFR : ∀ (S : CSt) (dp : Int), rV S → rR (wP S) S (G dp S)) (c91 : M_sign T (T.1 24) = 91) : OUT f d T S F E R (K3_readCountedAtom G d S) := by
  have h0 := h
  obtain ⟨⟨e1, e2, e3⟩, h25, hD, hsg, hlen, hg, hlp, hlk, hgr, hsz, hcd, hd, hf, hv⟩ := h
  have hz2 := hsz.2
  have k0 := hD.2.2.2.1
  have z0 : 0 ≤ S.1 7 5 := by rw [hsz.1]; omega
  have hs0 : ¬ M_sign T (T.1 24) = 0 := by omega
  have rd := rdS_atom (T := T) (by omega) (by omega) (by omega) (by omega) (by omega)
  have em0 : M_atom T = (if ((M_set (M_emit 17 0 (T.1 20) 0 T)).1 25) = 0 then (M_count (T.1 19) 1 (M_set (M_emit 17 0 (T.1 20) 0 T))) else (M_set (M_emit 17 0 (T.1 20) 0 T))) := by
    unfold M_atom
    rw [if_pos c91]
  rw [em0] at rd
  have ka : ∀ k, K4_at 2 k (addS 9 (-1) (-1) S) = K4_at 2 k S := fun k => by
    unfold K4_at
    rw [addS_o (by omega), addS_o (n := 11 + 2) (by omega)]
  have s8 : (addS 9 (-1) (-1) S).1 8 3 = T.1 24 := by rw [addS_o (by omega)]; exact e1
  have kc : ∀ k, 0 ≤ k → K4_at 2 k (clr (addS 9 (-1) (-1) S)) = M_sign T k := fun k hk => (upM_sg upM_clr k).trans ((ka k).trans (e3 k hk))
  have c8 : (clr (addS 9 (-1) (-1) S)).1 8 3 = T.1 24 := s8
  have kk : K4_at 2 ((clr (addS 9 (-1) (-1) S)).1 8 3) (clr (addS 9 (-1) (-1) S)) = M_sign T (T.1 24) := by rw [c8]; exact kc _ e2
  have hA := atom_C (G := G) (d := d) (S := addS 9 (-1) (-1) S) (by rw [ka, s8, e3 _ e2]; omega)
  rw [take_n (x := 92) (by rw [kk]; omega)] at hA
  have hA0 := hA.trans (if_pos rfl)
  rw [take_y (x := 91) (by show K4_at 2 ((clr (addS 9 (-1) (-1) S)).1 8 3) (clr (addS 9 (-1) (-1) S)) = 91; rw [kk]; exact c91)] at hA0
  have hA1 := hA0.trans (if_neg i10)
  have hA1 : K3_readAtom G d (addS 9 (-1) (-1) S) = gBd (K3_readSet (ci (clr (addS 9 (-1) (-1) S)) 8 3 ((clr (addS 9 (-1) (-1) S)).1 8 3 + 1))) (fun v_64 S_65 => (0, v_64, S_65)) := hA1
  rw [c8] at hA1
  have um := upM_trans (upM_clr (S := addS 9 (-1) (-1) S)) (upM_8 (v := T.1 24 + 1))
  have k1 : ∀ k, 0 ≤ k → K4_at 2 k (ci (clr (addS 9 (-1) (-1) S)) 8 3 (T.1 24 + 1)) = M_sign T k := fun k hk => (upM_sg um k).trans ((ka k).trans (e3 k hk))
  have hsm : ∀ x, sm (ci (clr (addS 9 (-1) (-1) S)) 8 3 (T.1 24 + 1)) x = false := fun x => sm_clear (S := addS 9 (-1) (-1) S)
  generalize ci (clr (addS 9 (-1) (-1) S)) 8 3 (T.1 24 + 1) = SA at *
  have sgA : K4_at 2 (SA.1 8 3) SA = M_sign T (T.1 24 + 1) := by rw [um.1]; exact k1 _ (by omega)
  have hz : ∀ k, T.1 14 ≤ k → M_sign T k = 0 := fun k hk => by unfold M_sign; rw [if_pos hk]
  -- the place behind '[' or '[^', and what is turned
  have main : ∀ (tu fr : Int) (SB : CSt), (tu = 0 ∨ tu = 1) → (T.1 24 + 1 ≤ fr ∧ fr ≤ T.1 14) → upM (addS 9 (-1) (-1) S) SB fr → (∀ x, sm SB x = false) → K3_readSet SA = K3_setL tu 40 1 0 SB → M_set (M_emit 17 0 (T.1 20) 0 T) = M_setL tu fr 60 1 (mi (M_emit 17 0 (T.1 20) 0 T) 24 fr) → OUT f d T S F E R (K3_readCountedAtom G d S) := fun tu fr SB t01 hfr ub sb0 hR hMs => by
    have kb : ∀ k, 0 ≤ k → K4_at 2 k SB = M_sign T k := fun k hk => (upM_sg ub k).trans ((ka k).trans (e3 k hk))
    have sc := setL_C (tu := tu) (sg := M_sign T) (len := T.1 14) hsg hz 40 1 0 SB (by omega) (Or.inr rfl) kb (by rw [ub.1]; omega) (by rw [ub.1]; omega) (by rw [ub.1]; omega)
    have sa := setL_A tu fr 60 1 (mi (M_emit 17 0 (T.1 20) 0 T) 24 fr) h25 (Or.inr rfl) (by show fr ≤ T.1 14; omega) (by show T.1 14 - fr < 60; omega)
    have es : M_sign (mi (M_emit 17 0 (T.1 20) 0 T) 24 fr) = M_sign T := rfl
    have e24 : (mi (M_emit 17 0 (T.1 20) 0 T) 24 fr).1 24 = fr := rfl
    rw [es, e24, setA_fuel hz 40 60 1 fr (by omega) (by omega)] at sa
    rw [ub.1] at sc
    cases hq : setA (M_sign T) 40 1 fr with
    | none =>
      refine thr_OUT h25 hl (cnt_thr z0 (by omega) ?_) ?_
      · rw [hA1, hR]
        have q := sc.2 hq
        show (if (K3_setL tu 40 1 0 SB).1 = 0 then _ else ((1, 0, (K3_setL tu 40 1 0 SB).2.2) : CR)).1 = 1
        rw [if_neg (by omega)]
      · have q := sa.2 hq
        rw [rd, hMs, if_neg (by omega)]
        exact dmR_bad q
    | some to =>
      obtain ⟨S2, q1, q2, q3⟩ := sc.1 to hq
      have q4 := sa.1 to hq
      obtain ⟨g1, g2⟩ := setA_ge 40 1 fr to hq
      have tl := sgn_lt (T := T) (k := to) (by omega)
      have hA2 : K3_readAtom G d (addS 9 (-1) (-1) S) = gBd (K3_addOneSign tu S2) (fun v T => (0, v, T)) := by
        rw [hA1, hR, q1]
        first
          | rfl
          | exact gBd_id
      have rd1 : rdS T = M_count (T.1 19) 1 (mi (M_emit 6 fr to (if tu = 0 then 0 else 1 : Int) (mi (mi (M_emit 17 0 (T.1 20) 0 T) 24 fr) 24 to)) 24 (to + 1)) := by
        rw [rd, hMs, q4]
        exact if_pos h25
      have hM : lfM T (mi (M_emit 6 fr to (if tu = 0 then 0 else 1 : Int) (mi (mi (M_emit 17 0 (T.1 20) 0 T) 24 fr) 24 to)) 24 (to + 1)) 6 fr to (if tu = 0 then 0 else 1 : Int) (to + 1) (T.1 23) := by
        refine lfM_of (U := mi (mi (M_emit 17 0 (T.1 20) 0 T) 24 fr) 24 to) hcd.1 rfl rfl rfl ?_ rfl rfl h25 (fun k a b c e => ?_)
        · show T.1 19 + 1 + 1 = _; omega
        · show (if k = 24 then _ else if k = 19 then _ else if k = 24 then _ else if k = 24 then _ else if k = 19 then _ else T.1 k) = T.1 k
          rw [if_neg c, if_neg a, if_neg c, if_neg c, if_neg a]
      have zt : (if tu = 0 then 0 else 1 : Int) = 0 ∨ (if tu = 0 then 0 else 1 : Int) = 1 := by split <;> omega
      have nN : (((T.1 19).toNat + 1 : Nat) : Int).toNat = (T.1 19).toNat + 1 := by omega
      refine ONE h0 hl hs0 hFR rd1 hM ⟨by omega, by omega⟩ (by omega) (fun _ => ⟨by omega, rfl⟩) (fun y => absurd rfl y) (by omega) (fun v v0 v1 => ?_) (upM_trans ub q2) hA2
      have p0 := hM.2.2.2.2.2.2.2.2
      have p13 := hM.2.2.2.2.2.1 13 (by omega)
      generalize mi (M_emit 6 fr to (if tu = 0 then 0 else 1 : Int) (mi (mi (M_emit 17 0 (T.1 20) 0 T) 24 fr) 24 to)) 24 (to + 1) = T1 at p0 p13 ⊢
      have e8 : (tkT f T1).2 8 ((((T.1 19).toNat + 1 : Nat) : Int)).toNat = 6 := by rw [nN]; exact p0.1
      have e9 : (tkT f T1).2 9 ((((T.1 19).toNat + 1 : Nat) : Int)).toNat = fr := by rw [nN]; exact p0.2.1
      have e10 : (tkT f T1).2 10 ((((T.1 19).toNat + 1 : Nat) : Int)).toNat = to := by rw [nN]; exact p0.2.2.1
      unfold M_fits
      rw [e8, if_neg (by decide), if_neg (by decide), if_neg (by decide), e9, e10, q3 v (by omega) (by omega), sb0]
      unfold M_inSet
      rw [inSet_A (sg := M_sign T) (T := tkT f T1) (fr := fr) (to := to) hsg (fun k x0 x1 => by
        show T1.2 13 k.toNat = _
        rw [p13]
        unfold M_sign
        rw [if_neg (by omega)]) 40 (to - fr).toNat 1 fr 0 hq (by omega) (by omega) (Or.inr rfl) (Or.inl rfl)]
      cases adA (M_sign T) 40 1 fr v <;> simp
  by_cases c94 : M_sign T (T.1 24 + 1) = 94
  · have l1 := sgn_lt (T := T) (k := T.1 24 + 1) (by omega)
    refine main 1 (T.1 24 + 1 + 1) (ci SA 8 3 (SA.1 8 3 + 1)) (Or.inr rfl) ⟨by omega, by omega⟩ ?_ hsm ?_ ?_
    · have a := upM_trans um (upM_8 (v := SA.1 8 3 + 1))
      rw [um.1] at a ⊢
      exact a
    · unfold K3_readSet
      rw [take_y (x := 94) (by rw [sgA]; exact c94)]
    · unfold M_set
      have e1 : M_sign (M_emit 17 0 (T.1 20) 0 T) ((M_emit 17 0 (T.1 20) 0 T).1 24 + 1) = 94 := c94
      rw [if_pos e1, if_neg (by decide), mi_mi]
      rfl
  · refine main 0 (T.1 24 + 1) SA (Or.inl rfl) ⟨by omega, by omega⟩ um hsm ?_ ?_
    · unfold K3_readSet
      rw [take_n (x := 94) (by rw [sgA]; exact c94)]
    · unfold M_set
      have e1 : ¬ M_sign (M_emit 17 0 (T.1 20) 0 T) ((M_emit 17 0 (T.1 20) 0 T).1 24 + 1) = 94 := c94
      rw [if_neg e1, if_pos rfl, mi_mi, Int.add_zero]
      rfl
/-- EVERY ATOM that is no bracket -/
theorem LF_all {G : Int → CSt → CR} {f d : Int} {T : MSt} {S : CSt} {F E : Nat → Nat} {R : Nat → Int} (h : RR f d T S F) (hl : T.1 24 < T.1 14) (hs0 : ¬ M_sign T (T.1 24) = 0) (hFR : ∀ (S : CSt) (dp : Int), rV S → rR (wP S) S (G dp S)) (n1 : ¬ M_sign T (T.1 24) = 124) (n2 : ¬ M_sign T (T.1 24) = 41) (n3 : ¬ M_sign T (T.1 24) = 94) (n4 : ¬ M_sign T (T.1 24) = 36) (n5 : ¬ M_sign T (T.1 24) = 40) : OUT f d T S F E R (K3_readCountedAtom G d S) := by
  by_cases c1 : M_sign T (T.1 24) = 91
  · exact LF_set h hl hFR c1
  by_cases c2 : M_sign T (T.1 24) = 92
  · exact LF_esc h hl hFR c2
  exact LF_plain h hl hs0 hFR n1 n2 n3 n4 n5 c1 c2
