theorem add_bd {kd am nb : Int} {S : CSt} {k : Int → CSt → CR} (h : 0 ≤ S.1 7 5 → S.1 7 5 < 96 → (k (S.1 7 5) (addS kd am nb S)).1 = 1) : (gBd (K2_add kd am nb S) k).1 = 1 := by
  by_cases c0 : S.1 7 5 < 0
  · have e : K2_add kd am nb S = (1, 0, S) := if_pos c0
    rw [e]; rfl
  · by_cases c1 : S.1 7 5 < 96
    · rw [K2_addQ (by omega) c1]
      exact h (by omega) c1
    · have e : K2_add kd am nb S = (1, 0, S) := (if_neg c0).trans (if_neg c1)
      rw [e]; rfl
theorem bd_1 {r : CR} {k : Int → CSt → CR} (h : r.1 = 1) : (gBd r k).1 = 1 := by
  have e : gBd r k = (1, 0, r.2.2) := if_neg (by omega)
  rw [e]
theorem bd_0 {v : Int} {S : CSt} {k : Int → CSt → CR} : gBd (0, v, S) k = k v S := if_pos rfl
/-- '?' where an atom must stand is refused -/
theorem atom_63 {G : Int → CSt → CR} {d : Int} {S : CSt} (h : K4_at 2 (S.1 8 3) S = 63) : (K3_readAtom G d S).1 = 1 := by
  have hc : K4_at 2 ((clr S).1 8 3) (clr S) = 63 := h
  rw [atom_C (by omega), take_n (x := 92) (by rw [hc]; decide)]
  have e1 : (gLt ((0, clr S) : Int × CSt) (fun v_22 S_23 => (if v_22 = 0 then (gLt (K3_take 91 S_23) (fun v_29 S_30 => (if v_29 = 0 then (gLt (K3_take 46 S_30) (fun v_36 S_37 => (if v_36 = 0 then (if ((K_ix1 ((K4_at 2 (S_37.1 8 3) S_37)))) < 0 then (gBd (K3_addOneSign 0 (K5_add ((K4_at 2 (S_37.1 8 3) S_37)) (ci S_37 8 3 ((S_37.1 8 3) + 1)))) (fun v_53 S_54 => (0, v_53, S_54))) else (1, 0, S_37)) else (gBd (K3_addOneSign 0 (K3_addAnySign S_37)) (fun v_60 S_61 => (0, v_60, S_61)))))) else (gBd (K3_readSet S_30) (fun v_64 S_65 => (0, v_64, S_65)))))) else (gBd (K3_readEscaped S_23) (fun v_68 S_69 => (0, v_68, S_69)))))) = gLt (K3_take 91 (clr S)) (fun v_29 S_30 => (if v_29 = 0 then (gLt (K3_take 46 S_30) (fun v_36 S_37 => (if v_36 = 0 then (if ((K_ix1 ((K4_at 2 (S_37.1 8 3) S_37)))) < 0 then (gBd (K3_addOneSign 0 (K5_add ((K4_at 2 (S_37.1 8 3) S_37)) (ci S_37 8 3 ((S_37.1 8 3) + 1)))) (fun v_53 S_54 => (0, v_53, S_54))) else (1, 0, S_37)) else (gBd (K3_addOneSign 0 (K3_addAnySign S_37)) (fun v_60 S_61 => (0, v_60, S_61)))))) else (gBd (K3_readSet S_30) (fun v_64 S_65 => (0, v_64, S_65))))) := if_pos rfl
  rw [e1, take_n (x := 91) (by rw [hc]; decide)]
  have e2 : (gLt ((0, clr S) : Int × CSt) (fun v_29 S_30 => (if v_29 = 0 then (gLt (K3_take 46 S_30) (fun v_36 S_37 => (if v_36 = 0 then (if ((K_ix1 ((K4_at 2 (S_37.1 8 3) S_37)))) < 0 then (gBd (K3_addOneSign 0 (K5_add ((K4_at 2 (S_37.1 8 3) S_37)) (ci S_37 8 3 ((S_37.1 8 3) + 1)))) (fun v_53 S_54 => (0, v_53, S_54))) else (1, 0, S_37)) else (gBd (K3_addOneSign 0 (K3_addAnySign S_37)) (fun v_60 S_61 => (0, v_60, S_61)))))) else (gBd (K3_readSet S_30) (fun v_64 S_65 => (0, v_64, S_65)))))) = gLt (K3_take 46 (clr S)) (fun v_36 S_37 => (if v_36 = 0 then (if ((K_ix1 ((K4_at 2 (S_37.1 8 3) S_37)))) < 0 then (gBd (K3_addOneSign 0 (K5_add ((K4_at 2 (S_37.1 8 3) S_37)) (ci S_37 8 3 ((S_37.1 8 3) + 1)))) (fun v_53 S_54 => (0, v_53, S_54))) else (1, 0, S_37)) else (gBd (K3_addOneSign 0 (K3_addAnySign S_37)) (fun v_60 S_61 => (0, v_60, S_61))))) := if_pos rfl
  rw [e2, take_n (x := 46) (by rw [hc]; decide)]
  have e3 : (gLt ((0, clr S) : Int × CSt) (fun v_36 S_37 => (if v_36 = 0 then (if ((K_ix1 ((K4_at 2 (S_37.1 8 3) S_37)))) < 0 then (gBd (K3_addOneSign 0 (K5_add ((K4_at 2 (S_37.1 8 3) S_37)) (ci S_37 8 3 ((S_37.1 8 3) + 1)))) (fun v_53 S_54 => (0, v_53, S_54))) else (1, 0, S_37)) else (gBd (K3_addOneSign 0 (K3_addAnySign S_37)) (fun v_60 S_61 => (0, v_60, S_61)))))) = (if ((K_ix1 ((K4_at 2 ((clr S).1 8 3) (clr S))))) < 0 then (gBd (K3_addOneSign 0 (K5_add ((K4_at 2 ((clr S).1 8 3) (clr S))) (ci (clr S) 8 3 (((clr S).1 8 3) + 1)))) (fun v_53 S_54 => (0, v_53, S_54))) else (1, 0, clr S)) := if_pos rfl
  rw [e3, hc, if_neg (fun y => (K_ix1_iff (x := 63) (by decide) (by decide)).mp y (by decide))]
theorem Q63 : ∀ (n : Nat) (S : CSt) (dp : Int), K4_at 2 (S.1 8 3) S = 63 → (K3_al n dp S).1 = 1
  | 0, S, dp, _ => rfl
  | n + 1, S, dp, h => by
    rw [K3_al]
    unfold K3_readAlternatives
    refine add_bd (fun z0 z1 => bd_1 ?_)
    have h5 : K4_at 2 ((addS 5 (-1) (-1) S).1 8 3) (addS 5 (-1) (-1) S) = 63 := by rw [addS_at, addS_o (by omega)]; exact h
    generalize addS 5 (-1) (-1) S = X at h5
    unfold K3_readRow
    rw [K3_rowL, if_neg (by decide)]
    have g1 : ¬ K3_rowGoesOn X = 0 := by
      unfold K3_rowGoesOn
      rw [h5]
      decide
    rw [if_neg g1]
    refine bd_1 ?_
    unfold K3_readTerm
    rw [take_n (x := 94) (by rw [h5]; decide)]
    refine (congrArg Prod.fst (if_pos rfl)).trans ?_
    show (gLt (K3_take 36 X) _).1 = 1
    rw [take_n (x := 36) (by rw [h5]; decide)]
    refine (congrArg Prod.fst (if_pos rfl)).trans ?_
    show (gLt (K3_takeOpening 61 X) _).1 = 1
    have e1 : K3_takeOpening 61 X = (0, X) := if_neg (by rw [h5]; decide)
    rw [e1]
    refine (congrArg Prod.fst (if_pos rfl)).trans ?_
    show (gLt (K3_takeOpening 33 X) _).1 = 1
    have e2 : K3_takeOpening 33 X = (0, X) := if_neg (by rw [h5]; decide)
    rw [e2]
    refine (congrArg Prod.fst (if_pos rfl)).trans ?_
    show (gBd (K3_readCountedAtom (K3_al n) dp X) _).1 = 1
    refine bd_1 ?_
    rw [counted_T]
    refine add_bd (fun z0 z1 => bd_1 (atom_63 ?_))
    rw [addS_at, addS_o (by omega)]; exact h5
/-- '(?' and no sign that may stand there: refused -/
theorem BADQ {G : Int → CSt → CR} {f d : Int} {T0 : MSt} {S0 : CSt} {F0 E0 : Nat → Nat} {R0 : Nat → Int} (h : RR f d T0 S0 F0) (hl : T0.1 24 < T0.1 14) (hQ : ∀ (S : CSt) (dp : Int), K4_at 2 (S.1 8 3) S = 63 → (G dp S).1 = 1) (c40 : M_sign T0 (T0.1 24) = 40) (c63 : M_sign T0 (T0.1 24 + 1) = 63) (n58 : ¬ M_sign T0 (T0.1 24 + 1 + 1) = 58) (n61 : ¬ M_sign T0 (T0.1 24 + 1 + 1) = 61) (n33 : ¬ M_sign T0 (T0.1 24 + 1 + 1) = 33) : OUT f d T0 S0 F0 E0 R0 (K3_readCountedAtom G d S0) := by
  obtain ⟨⟨e1, e2, e3⟩, h25, hD, hsg, hlen, hg, hlp, hlk, hgr, hsz, hcd, hd, hf, hv⟩ := h
  have k0 := hD.2.2.2.1
  have hz1 := hsz.1
  have hz2 := hsz.2
  have z0 : 0 ≤ S0.1 7 5 := by rw [hsz.1]; omega
  have rd : rdS T0 = mi (mi T0 24 (T0.1 24 + 1 + 2)) 25 1 := by
    unfold rdS
    rw [if_neg (show ¬ M_sign T0 (T0.1 24) = 124 by omega), if_neg (show ¬ M_sign T0 (T0.1 24) = 41 by omega), if_neg (show ¬ M_sign T0 (T0.1 24) = 94 by omega), if_neg (show ¬ M_sign T0 (T0.1 24) = 36 by omega), if_pos c40]
    unfold M_openParenthesis
    rw [if_pos c63, if_neg n58, if_neg n61, if_neg n33, mi_mi]
  have s8 : (addS 9 (-1) (-1) S0).1 8 3 = T0.1 24 := by rw [addS_o (by omega)]; exact e1
  have eop : K3_takeOpening 58 (addS 9 (-1) (-1) S0) = (0, addS 9 (-1) (-1) S0) := by
    unfold K3_takeOpening
    rw [addS_at, addS_at, addS_at, s8, e3 _ e2, e3 _ (by omega), e3 _ (by omega), if_pos c40, if_pos c63, show T0.1 24 + 2 = T0.1 24 + 1 + 1 by omega, if_neg n58]
  have etk : K3_take 40 (addS 9 (-1) (-1) S0) = (1, ci (addS 9 (-1) (-1) S0) 8 3 (T0.1 24 + 1)) := by
    rw [take_y (x := 40) (by rw [addS_at, s8, e3 _ e2]; exact c40), s8]
  have hA : K3_readAtom G d (addS 9 (-1) (-1) S0) = gBd (K3_readGroup G d (ci (addS 9 (-1) (-1) S0) 8 3 (T0.1 24 + 1))) (fun v S => (0, v, S)) := by
    unfold K3_readAtom
    rw [eop]
    refine (if_pos rfl).trans ?_
    show gLt (K3_take 40 (addS 9 (-1) (-1) S0)) _ = _
    rw [etk]
    exact if_neg i10
  have kq : K4_at 2 ((ci (addS 9 (-1) (-1) S0) 8 3 (T0.1 24 + 1)).1 8 3) (ci (addS 9 (-1) (-1) S0) 8 3 (T0.1 24 + 1)) = 63 := by
    rw [ci_at8, addS_at, ci_eq, zu_eq, e3 _ (by omega)]; exact c63
  refine thr_OUT h25 hl (cnt_thr z0 (by omega) ?_) (by rw [rd]; exact dmR_bad rfl)
  rw [hA]
  refine bd_1 ?_
  generalize ci (addS 9 (-1) (-1) S0) 8 3 (T0.1 24 + 1) = X at kq
  unfold K3_readGroup
  by_cases cg : X.1 7 12 < 9
  · have eg : K2_addGroup X = (0, X.1 7 12 + 1, ci X 7 12 (X.1 7 12 + 1)) := if_pos cg
    rw [eg, bd_0]
    refine add_bd (fun z0 z1 => bd_1 ?_)
    unfold K3_readInside
    by_cases cd : d < 8
    · rw [if_pos cd]
      refine bd_1 (hQ _ _ ?_)
      rw [addS_at, addS_o (by omega), ci_at7, ci_ne (by decide)]
      exact kq
    · rw [if_neg cd]
  · have eg : K2_addGroup X = (1, 0, X) := if_neg cg
    rw [eg]; rfl
