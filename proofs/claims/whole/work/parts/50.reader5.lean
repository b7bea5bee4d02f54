theorem rV_k5 {S S' : CSt} (hV : rV S) (h : S'.1 = S.1) : rV S' := rV_of hV (pB_of (congrFun h _) (fun j hj => congrFun h _) hV.1) (congrFun h _) (congrFun h _) (congrFun h _)
theorem K_ix1_0 : K_ix1 0 = -1 := by decide
theorem K_ix2_0 : K_ix2 0 = -1 := by decide
theorem K3_readEscaped_R {S : CSt} (hV : rV S) : rR (fun v T => v = 1 ∧ S.1 8 3 < T.1 8 3) S (K3_readEscaped S) := by
  have hb := K4_at_b2 hV.2.2.2.1 (S.1 8 3)
  have ha0 := hV.2.2.2.2.1
  have thr : rR (fun v T => v = 1 ∧ S.1 8 3 < T.1 8 3) S (1, 0, ci S 8 3 (S.1 8 3 + 1)) := rR.thr rK.c8 (pB_ci (by decide) (by decide) hV.1)
  have one : ∀ T : CSt, ¬ K4_at 2 (S.1 8 3) S = 0 → T.1 = (ci S 8 3 (S.1 8 3 + 1)).1 → T.2.2 = S.2.2 → (∀ n, n ≠ 9 → T.2.1 n = S.2.1 n) → rR (fun v T => v = 1 ∧ S.1 8 3 < T.1 8 3) S (gBd (K3_addOneSign 0 T) (fun v T => (0, v, T))) := by
    intro T h0 h1 h2 h3
    have hV1 : rV (ci S 8 3 (S.1 8 3 + 1)) := rV_at hV (by omega) (by have := (hb.2.2 h0).2; omega)
    have hV2 : rV T := rV_k5 hV1 h1
    have e8 : T.1 8 3 = S.1 8 3 + 1 := by rw [h1, ci_eq, zu_eq]
    refine rR.mono (rK.c8.tr (rK.k5 h1 h2 h3)) (by omega) (rR.bd (K3_addOneSign_R hV2) (fun _ hV3 _ hp => rR.ret rK.rf hV3 (Int.le_refl _) ⟨hp.1, ?_⟩))
    rw [hp.2, e8]; omega
  have oneA : ¬ K4_at 2 (S.1 8 3) S = 0 → rR (fun v T => v = 1 ∧ S.1 8 3 < T.1 8 3) S (gBd (K3_addOneSign 0 (K5_add (K4_at 2 (S.1 8 3) S) (ci S 8 3 (S.1 8 3 + 1)))) (fun v T => (0, v, T))) := fun h => one _ h K5_add_1 K5_add_22 (fun n hn => K5_add_2 hn)
  have oneK : ¬ K4_at 2 (S.1 8 3) S = 0 → rR (fun v T => v = 1 ∧ S.1 8 3 < T.1 8 3) S (gBd (K3_addOneSign 0 (K5_addKind (K4_at 2 (S.1 8 3) S) (ci S 8 3 (S.1 8 3 + 1)))) (fun v T => (0, v, T))) := fun h => one _ h K5_addKind_1 K5_addKind_22 (fun n hn => K5_addKind_2 hn)
  unfold K3_readEscaped
  generalize K4_at 2 (S.1 8 3) S = x at *
  have i1 : ¬ K_ix1 x < 0 → ¬ x = 0 := fun h e => h (by rw [e, K_ix1_0]; decide)
  have i2 : ¬ K_ix2 x < 0 → ¬ x = 0 := fun h e => h (by rw [e, K_ix2_0]; decide)
  have hg := hV.2.2.2.2.2.2
  have mx : 49 ≤ x → x ≤ 57 → ∀ g : Int, 0 ≤ g → g ≤ 9 → rR (fun v T => v = 1 ∧ S.1 8 3 < T.1 8 3) S (gBd (K2_add 4 (-1) (x - 48) (ci (ci S 8 3 (S.1 8 3 + 1)) 8 4 g)) (fun _ T => (0, 1, T))) := by
    intro x0 x1 g g0 g1
    have hV1 : rV (ci S 8 3 (S.1 8 3 + 1)) := rV_at hV (by omega) (by have := (hb.2.2 (by omega)).2; omega)
    have hV2 : rV (ci (ci S 8 3 (S.1 8 3 + 1)) 8 4 g) := rV_4 hV1 g0 g1
    refine rR.mono (rK.c8.tr rK.c8) (by show S.1 8 3 ≤ S.1 8 3 + 1; omega) (rR.ad hV2 (by decide) (by decide) (by decide) (by decide) (by omega) (by omega) (fun _ hV3 e8 _ _ _ => rR.ret rK.rf hV3 (Int.le_refl _) ⟨rfl, ?_⟩))
    rw [e8]
    show S.1 8 3 < S.1 8 3 + 1
    omega
  (repeat' split)
  · exact oneA (by omega)
  · exact thr
  · exact oneA (i1 (by assumption))
  · exact oneK (i2 (by assumption))
  · exact oneA (by omega)
  · exact thr
  · exact oneA (i1 (by assumption))
  · exact oneK (i2 (by assumption))
  · exact mx (by omega) (by omega) _ (by omega) (by omega)
  · exact mx (by omega) (by omega) _ hg.1 hg.2.1
theorem K3_readMark_R {S : CSt} (hV : rV S) : rR (fun v T => -1 ≤ v ∧ v ≤ 126 ∧ S.1 8 3 < T.1 8 3) S (K3_readMark S) := by
  have hb := K4_at_b2 hV.2.2.2.1 (S.1 8 3)
  have hb2 := K4_at_b2 (S := ci S 8 3 (S.1 8 3 + 1)) hV.2.2.2.1 (S.1 8 3 + 1)
  have ha0 := hV.2.2.2.2.1
  have ret : ∀ (v k : Int) (T : CSt), -1 ≤ v → v ≤ 126 → S.1 8 3 < k → k ≤ S.1 2 1 → T.1 = (ci S 8 3 k).1 → T.2.2 = S.2.2 → (∀ n, n ≠ 9 → T.2.1 n = S.2.1 n) → rR (fun v T => -1 ≤ v ∧ v ≤ 126 ∧ S.1 8 3 < T.1 8 3) S (0, v, T) := by
    intro v k T v0 v1 k0 k1 h1 h2 h3
    have e8 : T.1 8 3 = k := by rw [h1, ci_eq, zu_eq]
    exact rR.ret (rK.c8.tr (rK.k5 h1 h2 h3)) (rV_k5 (rV_at hV (by omega) k1) h1) (by omega) ⟨v0, v1, by omega⟩
  have cc : ∀ k : Int, (ci (ci S 8 3 (S.1 8 3 + 1)) 8 3 k).1 = (ci S 8 3 k).1 := by
    intro k
    funext n j
    by_cases hn : n = 8
    · subst hn
      rw [ci_eq, ci_eq, ci_eq]
      by_cases hj : j = 3
      · subst hj; rw [zu_eq, zu_eq]
      · rw [zu_ne hj, zu_ne hj, zu_ne hj]
    · rw [ci_ne hn, ci_ne hn, ci_ne hn]
  have el : (ci S 8 3 (S.1 8 3 + 1)).1 2 1 = S.1 2 1 := rfl
  rw [el] at hb2
  unfold K3_readMark
  generalize K4_at 2 (S.1 8 3 + 1) (ci S 8 3 (S.1 8 3 + 1)) = y at *
  generalize K4_at 2 (S.1 8 3) S = x at *
  have i1 : 0 ≤ K_ix1 y → ¬ y = 0 := fun h e => absurd h (by rw [e, K_ix1_0]; decide)
  have i2 : ¬ K_ix2 y < 0 → ¬ y = 0 := fun h e => h (by rw [e, K_ix2_0]; decide)
  have retA : ¬ y = 0 → rR (fun v T => -1 ≤ v ∧ v ≤ 126 ∧ S.1 8 3 < T.1 8 3) S (0, y, K5_add y (ci (ci S 8 3 (S.1 8 3 + 1)) 8 3 (S.1 8 3 + 1 + 1))) := fun h => ret y (S.1 8 3 + 1 + 1) _ (by omega) (by omega) (by omega) (by have := hb2.2.2 h; omega) (K5_add_1.trans (cc _)) K5_add_22 (fun n hn => K5_add_2 hn)
  (repeat' split)
  · exact rR.thr rK.c8 (pB_ci (by decide) (by decide) hV.1)
  · exact retA (by omega)
  · exact retA (by omega)
  · exact retA (i1 (by assumption))
  · exact rR.thr (rK.c8.tr rK.c8) (pB_ci (by decide) (by decide) (pB_ci (by decide) (by decide) hV.1))
  · have h := i2 (by assumption)
    exact ret (-1) (S.1 8 3 + 1 + 1) _ (by omega) (by omega) (by omega) (by have := hb2.2.2 h; omega) (K5_addKind_1.trans (cc _)) K5_addKind_22 (fun n hn => K5_addKind_2 hn)
  · exact ret x (S.1 8 3 + 1) _ (by omega) (by omega) (by omega) (by have := hb.2.2 (by assumption); omega) K5_add_1 K5_add_22 (fun n hn => K5_add_2 hn)
def K3_readMember (dx : Int) (S : CSt) : CR := (if dx = 0 then (gBd (K3_readMark S) (fun v_4 S_5 => (if ((K4_at 2 (S_5.1 8 3) S_5)) = 45 then (if ((K4_at 2 ((S_5.1 8 3) + 1) S_5)) = 93 then (0, 0, S_5) else (gBd (K3_readMark (ci S_5 8 3 ((S_5.1 8 3) + 1))) (fun v_20 S_21 => (if v_4 = (-1) then (1, 0, S_21) else (if v_20 = (-1) then (1, 0, S_21) else (if v_4 ≤ v_20 then (0, 1, (K5_addRange v_4 v_20 S_21)) else (1, 0, S_21))))))) else (0, 0, S_5)))) else (gLt (K3_take 45 S) (fun v_32 S_33 => (if v_32 = 0 then (gBd (K3_readMark S_33) (fun v_37 S_38 => (if ((K4_at 2 (S_38.1 8 3) S_38)) = 45 then (if ((K4_at 2 ((S_38.1 8 3) + 1) S_38)) = 93 then (0, 0, S_38) else (gBd (K3_readMark (ci S_38 8 3 ((S_38.1 8 3) + 1))) (fun v_53 S_54 => (if v_37 = (-1) then (1, 0, S_54) else (if v_53 = (-1) then (1, 0, S_54) else (if v_37 ≤ v_53 then (0, 1, (K5_addRange v_37 v_53 S_54)) else (1, 0, S_54))))))) else (0, 0, S_38)))) else (0, 0, (K5_add 45 S_33))))))
set_option maxHeartbeats 1000000 in
set_option maxRecDepth 100000 in
theorem cX3_readMember_ok (l : Launch) (hl0 : l.stackTraces = false) (D : va_G) (cy : Nat → ClassId) (q : Nat → Nat) (V : Nat × (Nat → Nat)) (n0 x y b : Nat) (S : CSt) (hF : cFx 7 b S) (dx : Int) (hV : rV S) (h0 : dx = 0 ∨ dx = 1) : gMi l D cy q V n0 x y "java/lang/IllegalArgumentException" yX3_readMember (.code yX3_readMember cX3_readMember 4 (some .boolean) :: TBC) 7 173 S [.ref (q 8), .int (zI dx)] (K3_readMember dx S) := by
  refine g_of (cc := cX3_readMember) (maxL := 4) (ret := (some .boolean)) (by decide) rfl rfl (Nat.le_of_ble_eq_true rfl) ?_
  intro p e s m args below meth c ls B hK hG hM hl
  generalize gA (cq q x y) n0 = A at hG hM ⊢
  have hR : (headSpec (.code yX3_readMember cX3_readMember 4 (some .boolean) :: TBC) (gRm 7 173 S)).room.cells = (gK - gl S) + 1 ∧ (headSpec (.code yX3_readMember cX3_readMember 4 (some .boolean) :: TBC) (gRm 7 173 S)).room.slots = 2 * (gK - gl S) + 6 := ⟨rfl, rfl⟩
  have hl : lv_has ls 4 [(0, .ref (q 8)), (1, .int (zI dx))] := hl
  obtain ⟨hP, hLa, hLb, hcs, ha0, ha1, hga, hgb, hna, hnb, hma, hmb, hzz⟩ := id hV
  refine lv_iload_n B.1 B.2.1 dX3_readMember_0 rfl (lv_at hl 1 rfl) ?_
  refine z_if_eq (tgt := 24) B.1 B.2.1 (zr_of (by omega) (by omega)) dX3_readMember_1 (by decide) (fun c_1 => ?_) (fun c_1 => ?_)
  · --
    refine lv_aload_n B.1 B.2.1 dX3_readMember_24 rfl (lv_at hl 0 rfl) ?_
    refine g_calli (E := "java/lang/IllegalArgumentException") (As := []) (rest := []) B hK hG hM 8 (by decide) (by decide) rfl (cX3_readMark_ok l hl0 D cy q V n0 x y b S hF   hV) (cwC 0 B wC_mRX3_200 wC_im_yX3_readMark wC_sl_yX3_readMark wC_in_RX3 wC_cd_yX3_readMark rfl rfl (by decide +kernel) ⟨Nat.le_of_ble_eq_true rfl, Nat.le_of_ble_eq_true rfl⟩) rfl hl.1 rfl (Nat.le_of_ble_eq_true rfl) dX3_readMember_25 hR (Nat.le_refl _) (cFx_gl hF) (gl_of (K3_readMark_R  (S := S) hV ).1.1) (fun c_3 => (by unfold K3_readMember; exact ((if_pos c_1).trans (if_neg c_3)))) (fun x y H locs c_3 hM => ?_)
    have hg : gl S ≤ gl (K3_readMark S).2.2 := Nat.le_trans (Nat.le_refl _) (gl_of (K3_readMark_R  (S := S) hV ).1.1)
    obtain ⟨k_2, -, k_2v, -⟩ := K3_readMark_R  (S := S) hV 
    obtain ⟨hV, k_2l, k_2p⟩ := k_2v c_3
    have hF : cFx 7 b (K3_readMark S).2.2 := cFx_of k_2.1 hF
    generalize hS_5 : (K3_readMark S).2.2 = S_5 at *
    generalize hv_4 : (K3_readMark S).2.1 = v_4 at *
    obtain ⟨hP, hLa, hLb, hcs, ha0, ha1, hga, hgb, hna, hnb, hma, hmb, hzz⟩ := id hV
    refine lv_istore_n (lv' := [(2, .int (zI v_4)), (0, .ref (q 8)), (1, .int (zI dx))]) B.1 B.2.1 dX3_readMember_28 rfl hl (by decide) rfl (fun ls hl => ?_)
    refine lv_aload_n B.1 B.2.1 dX3_readMember_29 rfl (lv_at hl 1 rfl) ?_
    refine c_getr (q := (cq q x y)) (r := 2) B (iC3 _) hK hM 8 0 3 (by decide) rfl rfl (by decide) (by decide) rfl rfl rfl (cFx_r hF 8 0) (List.mem_cons_of_mem _ wC_fRX3_18) dX3_readMember_30 ?_
    refine lv_aload_n B.1 B.2.1 dX3_readMember_33 rfl (lv_at hl 1 rfl) ?_
    refine c_geti (q := (cq q x y)) (x := S_5.1 8 3) B (iC3 _) hK hM 8 3 3 (by decide) rfl rfl (by decide) (by decide) rfl rfl (by decide) rfl (List.mem_cons_of_mem _ wC_fRX3_32) dX3_readMember_34 ?_
    refine c_calli (q := (cq q x y)) (As := [.int (zI (S_5.1 8 3))]) (rest := []) B hK hM 2 (by decide) (by decide) rfl (cX4_at_ok l D cy (cq q x y) 7 b S_5 hF 2 (by decide) (S_5.1 8 3) (by show 0 ≤ (S_5.1 2 1); omega) (by show (S_5.1 2 1) ≤ 100000; omega) (by show -10000000 ≤ (S_5.1 8 3); omega) (by show (S_5.1 8 3) ≤ 10000000; omega) (hcs_of hcs)) (cwC 1 B wC_mRX3_70 wC_im_yX4_at wC_sl_yX4_at wC_in_RX4 wC_cd_yX4_at rfl rfl (by decide +kernel) ⟨Nat.le_of_ble_eq_true rfl, Nat.le_of_ble_eq_true rfl⟩) rfl hl.1 rfl (Nat.le_of_ble_eq_true rfl) dX3_readMember_37 ⟨g_rc hR hg (cFx_gl (S := S_5) hF), g_rs hR hg (cFx_gl (S := S_5) hF)⟩ (fun z_9 S_8 H locs hp_7 hM => ?_)
    obtain ⟨hp_7, he_hp_7⟩ := hp_7
    have he_hp_7 := he_hp_7.symm
    subst he_hp_7
    have hp_7 : (K4_at 2 (S_5.1 8 3) S_5) = z_9 := hp_7.symm
    subst hp_7
    have f_10 := K4_at_b2 (S := S_5) hcs (S_5.1 8 3)
    refine z_bipush B.1 B.2.1 (by decide) dX3_readMember_40 ?_
    refine z_icmp_ne (tgt := 63) B.1 B.2.1 (zr_of (by omega) (by omega)) (zr_of (by decide) (by decide)) dX3_readMember_42 (by decide) (fun c_11 => ?_) (fun c_11 => ?_)
    · --
      refine z_iconst B.1 B.2.1 dX3_readMember_63 ?_
      exact g_retz (S := S_5) B hM (by decide) (by subst hS_5; subst hv_4; unfold K3_readMember; exact ((if_pos c_1).trans ((if_pos c_3).trans (if_neg c_11)))) dX3_readMember_64
    · --
      refine lv_aload_n B.1 B.2.1 dX3_readMember_45 rfl (lv_at hl 1 rfl) ?_
      refine c_getr (q := (cq q x y)) (r := 2) B (iC3 _) hK hM 8 0 3 (by decide) rfl rfl (by decide) (by decide) rfl rfl rfl (cFx_r hF 8 0) (List.mem_cons_of_mem _ wC_fRX3_18) dX3_readMember_46 ?_
      refine lv_aload_n B.1 B.2.1 dX3_readMember_49 rfl (lv_at hl 1 rfl) ?_
      refine c_geti (q := (cq q x y)) (x := S_5.1 8 3) B (iC3 _) hK hM 8 3 3 (by decide) rfl rfl (by decide) (by decide) rfl rfl (by decide) rfl (List.mem_cons_of_mem _ wC_fRX3_32) dX3_readMember_50 ?_
      refine z_iconst B.1 B.2.1 dX3_readMember_53 ?_
      refine z_iadd (x := (S_5.1 8 3) + 1) B.1 B.2.1 rfl dX3_readMember_54 ?_
      refine c_calli (q := (cq q x y)) (As := [.int (zI ((S_5.1 8 3) + 1))]) (rest := []) B hK hM 2 (by decide) (by decide) rfl (cX4_at_ok l D cy (cq q x y) 7 b S_5 hF 2 (by decide) ((S_5.1 8 3) + 1) (by show 0 ≤ (S_5.1 2 1); omega) (by show (S_5.1 2 1) ≤ 100000; omega) (by show -10000000 ≤ ((S_5.1 8 3) + 1); omega) (by show ((S_5.1 8 3) + 1) ≤ 10000000; omega) (hcs_of hcs)) (cwC 1 B wC_mRX3_70 wC_im_yX4_at wC_sl_yX4_at wC_in_RX4 wC_cd_yX4_at rfl rfl (by decide +kernel) ⟨Nat.le_of_ble_eq_true rfl, Nat.le_of_ble_eq_true rfl⟩) rfl hl.1 rfl (Nat.le_of_ble_eq_true rfl) dX3_readMember_55 ⟨g_rc hR hg (cFx_gl (S := S_5) hF), g_rs hR hg (cFx_gl (S := S_5) hF)⟩ (fun z_15 S_14 H locs hp_13 hM => ?_)
      obtain ⟨hp_13, he_hp_13⟩ := hp_13
      have he_hp_13 := he_hp_13.symm
      subst he_hp_13
      have hp_13 : (K4_at 2 ((S_5.1 8 3) + 1) S_5) = z_15 := hp_13.symm
      subst hp_13
      have f_16 := K4_at_b2 (S := S_5) hcs ((S_5.1 8 3) + 1)
      refine z_bipush B.1 B.2.1 (by decide) dX3_readMember_58 ?_
      refine z_icmp_ne (tgt := 65) B.1 B.2.1 (zr_of (by omega) (by omega)) (zr_of (by decide) (by decide)) dX3_readMember_60 (by decide) (fun c_17 => ?_) (fun c_17 => ?_)
      · --
        refine lv_aload_n B.1 B.2.1 dX3_readMember_65 rfl (lv_at hl 1 rfl) ?_
        refine lv_dup B.1 B.2.1 dX3_readMember_66 rfl ?_
        refine c_geti (q := (cq q x y)) (x := S_5.1 8 3) B (iC3 _) hK hM 8 3 3 (by decide) rfl rfl (by decide) (by decide) rfl rfl (by decide) rfl (List.mem_cons_of_mem _ wC_fRX3_32) dX3_readMember_67 ?_
        refine z_iconst B.1 B.2.1 dX3_readMember_70 ?_
        refine z_iadd (x := (S_5.1 8 3) + 1) B.1 B.2.1 rfl dX3_readMember_71 ?_
        refine c_puti (q := (cq q x y)) B (iC3 _) tyX3 tyX3_ok nmX3 hK hM 8 3 3 (by decide) rfl rfl (by decide) (by decide) rfl rfl rfl (by decide +kernel) (by decide) (List.mem_cons_of_mem _ wC_fRX3_32) dX3_readMember_72 (fun H locs hM => ?_)
        have hP : pB 7 (ci S_5 8 3 ((S_5.1 8 3) + 1)) := pB_ci (by decide) (by decide) hP
        refine lv_aload_n B.1 B.2.1 dX3_readMember_75 rfl (lv_at hl 1 rfl) ?_
        have hV : rV (ci S_5 8 3 ((S_5.1 8 3) + 1)) := ⟨hP, (by show 0 ≤ (S_5.1 2 1); omega), (by show (S_5.1 2 1) ≤ 40; omega), hcs, (by show 0 ≤ ((S_5.1 8 3) + 1); omega), (by show ((S_5.1 8 3) + 1) ≤ (S_5.1 2 1); omega), (by show 0 ≤ (S_5.1 8 4); omega), (by show (S_5.1 8 4) ≤ 9; omega), (by show 0 ≤ (S_5.1 8 5); omega), (by show (S_5.1 8 5) ≤ 9; omega), (by show 0 ≤ (S_5.1 8 6); omega), (by show (S_5.1 8 6) ≤ 9 ∨ (S_5.1 8 6) = 1000000; omega), (by show (S_5.1 8 7) = 0 ∨ (S_5.1 8 7) = 1; omega)⟩
        refine g_calli (E := "java/lang/IllegalArgumentException") (As := []) (rest := []) B hK hG hM 8 (by decide) (by decide) rfl (cX3_readMark_ok l hl0 D cy q V n0 x y b (ci S_5 8 3 ((S_5.1 8 3) + 1)) hF   hV) (cwC 0 B wC_mRX3_200 wC_im_yX3_readMark wC_sl_yX3_readMark wC_in_RX3 wC_cd_yX3_readMark rfl rfl (by decide +kernel) ⟨Nat.le_of_ble_eq_true rfl, Nat.le_of_ble_eq_true rfl⟩) rfl hl.1 rfl (Nat.le_of_ble_eq_true rfl) dX3_readMember_76 hR hg (cFx_gl hF) (gl_of (K3_readMark_R  (S := (ci S_5 8 3 ((S_5.1 8 3) + 1))) hV ).1.1) (fun c_19 => (by subst hS_5; subst hv_4; unfold K3_readMember; exact ((if_pos c_1).trans ((if_pos c_3).trans ((if_pos c_11).trans ((if_neg c_17).trans (if_neg c_19))))))) (fun x y H locs c_19 hM => ?_)
        have hg : gl S ≤ gl (K3_readMark (ci S_5 8 3 ((S_5.1 8 3) + 1))).2.2 := Nat.le_trans hg (gl_of (K3_readMark_R  (S := (ci S_5 8 3 ((S_5.1 8 3) + 1))) hV ).1.1)
        obtain ⟨k_18, -, k_18v, -⟩ := K3_readMark_R  (S := (ci S_5 8 3 ((S_5.1 8 3) + 1))) hV 
        obtain ⟨hV, k_18l, k_18p⟩ := k_18v c_19
        have hF : cFx 7 b (K3_readMark (ci S_5 8 3 ((S_5.1 8 3) + 1))).2.2 := cFx_of k_18.1 hF
        generalize hS_21 : (K3_readMark (ci S_5 8 3 ((S_5.1 8 3) + 1))).2.2 = S_21 at *
        generalize hv_20 : (K3_readMark (ci S_5 8 3 ((S_5.1 8 3) + 1))).2.1 = v_20 at *
        obtain ⟨hP, hLa, hLb, hcs, ha0, ha1, hga, hgb, hna, hnb, hma, hmb, hzz⟩ := id hV
        refine lv_istore_n (lv' := [(3, .int (zI v_20)), (2, .int (zI v_4)), (0, .ref (q 8)), (1, .int (zI dx))]) B.1 B.2.1 dX3_readMember_79 rfl hl (by decide) rfl (fun ls hl => ?_)
        refine lv_iload_n B.1 B.2.1 dX3_readMember_80 rfl (lv_at hl 1 rfl) ?_
        refine z_iconst B.1 B.2.1 dX3_readMember_81 ?_
        refine z_icmp_eq (tgt := 95) B.1 B.2.1 (zr_of (by omega) (by omega)) (zr_of (by decide) (by decide)) dX3_readMember_82 (by decide) (fun c_22 => ?_) (fun c_22 => ?_)
        · --
          exact g_throw (S := S_21) (E := "java/lang/IllegalArgumentException") (ik := 49) (is := 203) (ic := 53) 18 (by decide) hl0 B hG hM rfl sX_java_lang_IllegalArgumentException (by decide +kernel) (List.mem_cons_of_mem _ wC_cRX3_49) (List.mem_cons_of_mem _ wC_in__java_lang_IllegalArgumentException_) (tC_RX3_53 _) tN_RX3_53 hl.1 (Nat.le_of_ble_eq_true rfl) hR (Nat.le_of_ble_eq_true rfl) (Nat.le_of_ble_eq_true rfl) hg (cFx_gl hF) (tO_RX3_53 _) dX3_readMember_95 dX3_readMember_98 dX3_readMember_99 dX3_readMember_101 dX3_readMember_104 (by subst hS_5; subst hv_4; subst hS_21; subst hv_20; unfold K3_readMember; exact ((if_pos c_1).trans ((if_pos c_3).trans ((if_pos c_11).trans ((if_neg c_17).trans ((if_pos c_19).trans (if_pos c_22)))))))
        · --
          refine lv_iload_n B.1 B.2.1 dX3_readMember_85 rfl (lv_at hl 0 rfl) ?_
          refine z_iconst B.1 B.2.1 dX3_readMember_86 ?_
          refine z_icmp_eq (tgt := 95) B.1 B.2.1 (zr_of (by omega) (by omega)) (zr_of (by decide) (by decide)) dX3_readMember_87 (by decide) (fun c_23 => ?_) (fun c_23 => ?_)
          · --
            exact g_throw (S := S_21) (E := "java/lang/IllegalArgumentException") (ik := 49) (is := 203) (ic := 53) 18 (by decide) hl0 B hG hM rfl sX_java_lang_IllegalArgumentException (by decide +kernel) (List.mem_cons_of_mem _ wC_cRX3_49) (List.mem_cons_of_mem _ wC_in__java_lang_IllegalArgumentException_) (tC_RX3_53 _) tN_RX3_53 hl.1 (Nat.le_of_ble_eq_true rfl) hR (Nat.le_of_ble_eq_true rfl) (Nat.le_of_ble_eq_true rfl) hg (cFx_gl hF) (tO_RX3_53 _) dX3_readMember_95 dX3_readMember_98 dX3_readMember_99 dX3_readMember_101 dX3_readMember_104 (by subst hS_5; subst hv_4; subst hS_21; subst hv_20; unfold K3_readMember; exact ((if_pos c_1).trans ((if_pos c_3).trans ((if_pos c_11).trans ((if_neg c_17).trans ((if_pos c_19).trans ((if_neg c_22).trans (if_pos c_23))))))))
          · --
            refine lv_iload_n B.1 B.2.1 dX3_readMember_90 rfl (lv_at hl 1 rfl) ?_
            refine lv_iload_n B.1 B.2.1 dX3_readMember_91 rfl (lv_at hl 0 rfl) ?_
            refine z_icmp_le (tgt := 105) B.1 B.2.1 (zr_of (by omega) (by omega)) (zr_of (by omega) (by omega)) dX3_readMember_92 (by decide) (fun c_24 => ?_) (fun c_24 => ?_)
            · --
              refine lv_aload_n B.1 B.2.1 dX3_readMember_105 rfl (lv_at hl 2 rfl) ?_
              refine c_getr (q := (cq q x y)) (r := 9) B (iC3 _) hK hM 8 1 3 (by decide) rfl rfl (by decide) (by decide) rfl rfl rfl (cFx_r hF 8 1) (List.mem_cons_of_mem _ wC_fRX3_12) dX3_readMember_106 ?_
              refine lv_iload_n B.1 B.2.1 dX3_readMember_109 rfl (lv_at hl 1 rfl) ?_
              refine lv_iload_n B.1 B.2.1 dX3_readMember_110 rfl (lv_at hl 0 rfl) ?_
              refine c_callv (q := (cq q x y)) (As := [.int (zI v_4), .int (zI v_20)]) (rest := []) B hK hM 9 (by decide) (by decide) rfl (cX5_addRange_ok l D cy (cq q x y) 7 b S_21 hF  v_4 v_20 (by show 0 ≤ v_4; omega) (by show v_4 ≤ v_20 + 1; omega) (by show v_20 < 65536; omega)) (cwC 2 B wC_mRX3_176 wC_im_yX5_addRange wC_sl_yX5_addRange wC_in_RX5 wC_cd_yX5_addRange rfl rfl (by decide +kernel) ⟨Nat.le_of_ble_eq_true rfl, Nat.le_of_ble_eq_true rfl⟩) rfl hl.1 rfl (Nat.le_of_ble_eq_true rfl) dX3_readMember_111 ⟨g_rc hR hg (cFx_gl (S := S_21) hF), g_rs hR hg (cFx_gl (S := S_21) hF)⟩ (fun S_27 H locs hp_26 hM => ?_)
              have hp_26 := hp_26.symm
              subst hp_26
              have hg : gl S ≤ gl (K5_addRange v_4 v_20 S_21) := Nat.le_trans hg (gl_of (S := S_21) (S' := (K5_addRange v_4 v_20 S_21)) K5_addRange_22)
              refine W.widen (k := gl (K5_addRange v_4 v_20 S_21) - gl S) (n := 2 * (gl (K5_addRange v_4 v_20 S_21) - gl S)) (Nat.sub_le_sub_right (gl_of (S := S_21) (S' := (K5_addRange v_4 v_20 S_21)) K5_addRange_22) _) (Nat.mul_le_mul_left 2 (Nat.sub_le_sub_right (gl_of (S := S_21) (S' := (K5_addRange v_4 v_20 S_21)) K5_addRange_22) _)) ?_
              have hF : cFx 7 b (K5_addRange v_4 v_20 S_21) := cFx_of K5_addRange_22 hF
              have hP : pB 7 (K5_addRange v_4 v_20 S_21) := pB_of (congrFun K5_addRange_1 _) (fun j hj => congrFun K5_addRange_1 _) hP
              refine z_iconst B.1 B.2.1 dX3_readMember_114 ?_
              exact g_retz (S := (K5_addRange v_4 v_20 S_21)) B hM (by decide) (by subst hS_5; subst hv_4; subst hS_21; subst hv_20; unfold K3_readMember; exact ((if_pos c_1).trans ((if_pos c_3).trans ((if_pos c_11).trans ((if_neg c_17).trans ((if_pos c_19).trans ((if_neg c_22).trans ((if_neg c_23).trans (if_pos c_24))))))))) dX3_readMember_115
            · --
              exact g_throw (S := S_21) (E := "java/lang/IllegalArgumentException") (ik := 49) (is := 203) (ic := 53) 18 (by decide) hl0 B hG hM rfl sX_java_lang_IllegalArgumentException (by decide +kernel) (List.mem_cons_of_mem _ wC_cRX3_49) (List.mem_cons_of_mem _ wC_in__java_lang_IllegalArgumentException_) (tC_RX3_53 _) tN_RX3_53 hl.1 (Nat.le_of_ble_eq_true rfl) hR (Nat.le_of_ble_eq_true rfl) (Nat.le_of_ble_eq_true rfl) hg (cFx_gl hF) (tO_RX3_53 _) dX3_readMember_95 dX3_readMember_98 dX3_readMember_99 dX3_readMember_101 dX3_readMember_104 (by subst hS_5; subst hv_4; subst hS_21; subst hv_20; unfold K3_readMember; exact ((if_pos c_1).trans ((if_pos c_3).trans ((if_pos c_11).trans ((if_neg c_17).trans ((if_pos c_19).trans ((if_neg c_22).trans ((if_neg c_23).trans (if_neg c_24)))))))))
      · --
        refine z_iconst B.1 B.2.1 dX3_readMember_63 ?_
        exact g_retz (S := S_5) B hM (by decide) (by subst hS_5; subst hv_4; unfold K3_readMember; exact ((if_pos c_1).trans ((if_pos c_3).trans ((if_pos c_11).trans (if_pos c_17))))) dX3_readMember_64
  · --
    refine lv_aload_n B.1 B.2.1 dX3_readMember_4 rfl (lv_at hl 0 rfl) ?_
    refine z_bipush B.1 B.2.1 (by decide) dX3_readMember_5 ?_
    refine c_calli (q := (cq q x y)) (As := [.int (zI 45)]) (rest := []) B hK hM 8 (by decide) (by decide) rfl (cX3_take_ok l D cy (cq q x y) b S hF  45 hV (by show 1 ≤ 45; omega) (by show 45 < 65536; omega)) (cwC 1 B wC_mRX3_76 wC_im_yX3_take wC_sl_yX3_take wC_in_RX3 wC_cd_yX3_take rfl rfl (by decide +kernel) ⟨Nat.le_of_ble_eq_true rfl, Nat.le_of_ble_eq_true rfl⟩) rfl hl.1 rfl (Nat.le_of_ble_eq_true rfl) dX3_readMember_7 ⟨g_rc hR (Nat.le_refl _) (cFx_gl (S := S) hF), g_rs hR (Nat.le_refl _) (cFx_gl (S := S) hF)⟩ (fun z_31 S_30 H locs hp_29 hM => ?_)
    obtain ⟨hp_29, he_hp_29⟩ := hp_29
    have he_hp_29 := he_hp_29.symm
    subst he_hp_29
    have hp_29 : (K3_take 45 S).1 = z_31 := hp_29.symm
    subst hp_29
    have hg : gl S ≤ gl (K3_take 45 S).2 := Nat.le_trans (Nat.le_refl _) (gl_of (S := S) (S' := (K3_take 45 S).2) (congrArg Prod.snd K3_take_2))
    refine W.widen (k := gl (K3_take 45 S).2 - gl S) (n := 2 * (gl (K3_take 45 S).2 - gl S)) (Nat.sub_le_sub_right (gl_of (S := S) (S' := (K3_take 45 S).2) (congrArg Prod.snd K3_take_2)) _) (Nat.mul_le_mul_left 2 (Nat.sub_le_sub_right (gl_of (S := S) (S' := (K3_take 45 S).2) (congrArg Prod.snd K3_take_2)) _)) ?_
    have k_28v := K3_take_v (x := 45) hV (by omega)
    have k_28l : S.1 8 3 ≤ (K3_take 45 S).2.1 8 3 := by rcases k_28v with ⟨-, h9, -⟩ | ⟨-, h9, -⟩ <;> rw [h9] <;> first | exact Int.le_refl _ | (simp only [ci_eq, zu_eq]; omega)
    have hV := rV_take (x := 45) hV (by omega)
    have hF : cFx 7 b (K3_take 45 S).2 := cFx_of (congrArg Prod.snd K3_take_2) hF
    have k_28b : (K3_take 45 S).1 = 0 ∨ (K3_take 45 S).1 = 1 := by rcases k_28v with ⟨h9, -⟩ | ⟨h9, -⟩ <;> omega
    have k_28n : (K3_take 45 S).1 = 0 ∨ (K3_take 45 S).2.1 8 3 = S.1 8 3 + 1 := by rcases k_28v with ⟨h9, -⟩ | ⟨-, h9, -⟩ <;> first | exact Or.inl h9 | exact Or.inr (by rw [h9, ci_eq, zu_eq])
    generalize hS_33 : (K3_take 45 S).2 = S_33 at *
    generalize hv_32 : (K3_take 45 S).1 = v_32 at *
    obtain ⟨hP, hLa, hLb, hcs, ha0, ha1, hga, hgb, hna, hnb, hma, hmb, hzz⟩ := id hV
    refine z_if_eq (tgt := 24) B.1 B.2.1 (zr_of (by omega) (by omega)) dX3_readMember_10 (by decide) (fun c_34 => ?_) (fun c_34 => ?_)
    · --
      refine lv_aload_n B.1 B.2.1 dX3_readMember_24 rfl (lv_at hl 0 rfl) ?_
      refine g_calli (E := "java/lang/IllegalArgumentException") (As := []) (rest := []) B hK hG hM 8 (by decide) (by decide) rfl (cX3_readMark_ok l hl0 D cy q V n0 x y b S_33 hF   hV) (cwC 0 B wC_mRX3_200 wC_im_yX3_readMark wC_sl_yX3_readMark wC_in_RX3 wC_cd_yX3_readMark rfl rfl (by decide +kernel) ⟨Nat.le_of_ble_eq_true rfl, Nat.le_of_ble_eq_true rfl⟩) rfl hl.1 rfl (Nat.le_of_ble_eq_true rfl) dX3_readMember_25 hR hg (cFx_gl hF) (gl_of (K3_readMark_R  (S := S_33) hV ).1.1) (fun c_36 => (by subst hS_33; subst hv_32; unfold K3_readMember; exact ((if_neg c_1).trans ((if_pos c_34).trans (if_neg c_36))))) (fun x y H locs c_36 hM => ?_)
      have hg : gl S ≤ gl (K3_readMark S_33).2.2 := Nat.le_trans hg (gl_of (K3_readMark_R  (S := S_33) hV ).1.1)
      obtain ⟨k_35, -, k_35v, -⟩ := K3_readMark_R  (S := S_33) hV 
      obtain ⟨hV, k_35l, k_35p⟩ := k_35v c_36
      have hF : cFx 7 b (K3_readMark S_33).2.2 := cFx_of k_35.1 hF
      generalize hS_38 : (K3_readMark S_33).2.2 = S_38 at *
      generalize hv_37 : (K3_readMark S_33).2.1 = v_37 at *
      obtain ⟨hP, hLa, hLb, hcs, ha0, ha1, hga, hgb, hna, hnb, hma, hmb, hzz⟩ := id hV
      refine lv_istore_n (lv' := [(2, .int (zI v_37)), (0, .ref (q 8)), (1, .int (zI dx))]) B.1 B.2.1 dX3_readMember_28 rfl hl (by decide) rfl (fun ls hl => ?_)
      refine lv_aload_n B.1 B.2.1 dX3_readMember_29 rfl (lv_at hl 1 rfl) ?_
      refine c_getr (q := (cq q x y)) (r := 2) B (iC3 _) hK hM 8 0 3 (by decide) rfl rfl (by decide) (by decide) rfl rfl rfl (cFx_r hF 8 0) (List.mem_cons_of_mem _ wC_fRX3_18) dX3_readMember_30 ?_
      refine lv_aload_n B.1 B.2.1 dX3_readMember_33 rfl (lv_at hl 1 rfl) ?_
      refine c_geti (q := (cq q x y)) (x := S_38.1 8 3) B (iC3 _) hK hM 8 3 3 (by decide) rfl rfl (by decide) (by decide) rfl rfl (by decide) rfl (List.mem_cons_of_mem _ wC_fRX3_32) dX3_readMember_34 ?_
      refine c_calli (q := (cq q x y)) (As := [.int (zI (S_38.1 8 3))]) (rest := []) B hK hM 2 (by decide) (by decide) rfl (cX4_at_ok l D cy (cq q x y) 7 b S_38 hF 2 (by decide) (S_38.1 8 3) (by show 0 ≤ (S_38.1 2 1); omega) (by show (S_38.1 2 1) ≤ 100000; omega) (by show -10000000 ≤ (S_38.1 8 3); omega) (by show (S_38.1 8 3) ≤ 10000000; omega) (hcs_of hcs)) (cwC 1 B wC_mRX3_70 wC_im_yX4_at wC_sl_yX4_at wC_in_RX4 wC_cd_yX4_at rfl rfl (by decide +kernel) ⟨Nat.le_of_ble_eq_true rfl, Nat.le_of_ble_eq_true rfl⟩) rfl hl.1 rfl (Nat.le_of_ble_eq_true rfl) dX3_readMember_37 ⟨g_rc hR hg (cFx_gl (S := S_38) hF), g_rs hR hg (cFx_gl (S := S_38) hF)⟩ (fun z_42 S_41 H locs hp_40 hM => ?_)
      obtain ⟨hp_40, he_hp_40⟩ := hp_40
      have he_hp_40 := he_hp_40.symm
      subst he_hp_40
      have hp_40 : (K4_at 2 (S_38.1 8 3) S_38) = z_42 := hp_40.symm
      subst hp_40
      have f_43 := K4_at_b2 (S := S_38) hcs (S_38.1 8 3)
      refine z_bipush B.1 B.2.1 (by decide) dX3_readMember_40 ?_
      refine z_icmp_ne (tgt := 63) B.1 B.2.1 (zr_of (by omega) (by omega)) (zr_of (by decide) (by decide)) dX3_readMember_42 (by decide) (fun c_44 => ?_) (fun c_44 => ?_)
      · --
        refine z_iconst B.1 B.2.1 dX3_readMember_63 ?_
        exact g_retz (S := S_38) B hM (by decide) (by subst hS_33; subst hv_32; subst hS_38; subst hv_37; unfold K3_readMember; exact ((if_neg c_1).trans ((if_pos c_34).trans ((if_pos c_36).trans (if_neg c_44))))) dX3_readMember_64
      · --
        refine lv_aload_n B.1 B.2.1 dX3_readMember_45 rfl (lv_at hl 1 rfl) ?_
        refine c_getr (q := (cq q x y)) (r := 2) B (iC3 _) hK hM 8 0 3 (by decide) rfl rfl (by decide) (by decide) rfl rfl rfl (cFx_r hF 8 0) (List.mem_cons_of_mem _ wC_fRX3_18) dX3_readMember_46 ?_
        refine lv_aload_n B.1 B.2.1 dX3_readMember_49 rfl (lv_at hl 1 rfl) ?_
        refine c_geti (q := (cq q x y)) (x := S_38.1 8 3) B (iC3 _) hK hM 8 3 3 (by decide) rfl rfl (by decide) (by decide) rfl rfl (by decide) rfl (List.mem_cons_of_mem _ wC_fRX3_32) dX3_readMember_50 ?_
        refine z_iconst B.1 B.2.1 dX3_readMember_53 ?_
        refine z_iadd (x := (S_38.1 8 3) + 1) B.1 B.2.1 rfl dX3_readMember_54 ?_
        refine c_calli (q := (cq q x y)) (As := [.int (zI ((S_38.1 8 3) + 1))]) (rest := []) B hK hM 2 (by decide) (by decide) rfl (cX4_at_ok l D cy (cq q x y) 7 b S_38 hF 2 (by decide) ((S_38.1 8 3) + 1) (by show 0 ≤ (S_38.1 2 1); omega) (by show (S_38.1 2 1) ≤ 100000; omega) (by show -10000000 ≤ ((S_38.1 8 3) + 1); omega) (by show ((S_38.1 8 3) + 1) ≤ 10000000; omega) (hcs_of hcs)) (cwC 1 B wC_mRX3_70 wC_im_yX4_at wC_sl_yX4_at wC_in_RX4 wC_cd_yX4_at rfl rfl (by decide +kernel) ⟨Nat.le_of_ble_eq_true rfl, Nat.le_of_ble_eq_true rfl⟩) rfl hl.1 rfl (Nat.le_of_ble_eq_true rfl) dX3_readMember_55 ⟨g_rc hR hg (cFx_gl (S := S_38) hF), g_rs hR hg (cFx_gl (S := S_38) hF)⟩ (fun z_48 S_47 H locs hp_46 hM => ?_)
        obtain ⟨hp_46, he_hp_46⟩ := hp_46
        have he_hp_46 := he_hp_46.symm
        subst he_hp_46
        have hp_46 : (K4_at 2 ((S_38.1 8 3) + 1) S_38) = z_48 := hp_46.symm
        subst hp_46
        have f_49 := K4_at_b2 (S := S_38) hcs ((S_38.1 8 3) + 1)
        refine z_bipush B.1 B.2.1 (by decide) dX3_readMember_58 ?_
        refine z_icmp_ne (tgt := 65) B.1 B.2.1 (zr_of (by omega) (by omega)) (zr_of (by decide) (by decide)) dX3_readMember_60 (by decide) (fun c_50 => ?_) (fun c_50 => ?_)
        · --
          refine lv_aload_n B.1 B.2.1 dX3_readMember_65 rfl (lv_at hl 1 rfl) ?_
          refine lv_dup B.1 B.2.1 dX3_readMember_66 rfl ?_
          refine c_geti (q := (cq q x y)) (x := S_38.1 8 3) B (iC3 _) hK hM 8 3 3 (by decide) rfl rfl (by decide) (by decide) rfl rfl (by decide) rfl (List.mem_cons_of_mem _ wC_fRX3_32) dX3_readMember_67 ?_
          refine z_iconst B.1 B.2.1 dX3_readMember_70 ?_
          refine z_iadd (x := (S_38.1 8 3) + 1) B.1 B.2.1 rfl dX3_readMember_71 ?_
          refine c_puti (q := (cq q x y)) B (iC3 _) tyX3 tyX3_ok nmX3 hK hM 8 3 3 (by decide) rfl rfl (by decide) (by decide) rfl rfl rfl (by decide +kernel) (by decide) (List.mem_cons_of_mem _ wC_fRX3_32) dX3_readMember_72 (fun H locs hM => ?_)
          have hP : pB 7 (ci S_38 8 3 ((S_38.1 8 3) + 1)) := pB_ci (by decide) (by decide) hP
          refine lv_aload_n B.1 B.2.1 dX3_readMember_75 rfl (lv_at hl 1 rfl) ?_
          have hV : rV (ci S_38 8 3 ((S_38.1 8 3) + 1)) := ⟨hP, (by show 0 ≤ (S_38.1 2 1); omega), (by show (S_38.1 2 1) ≤ 40; omega), hcs, (by show 0 ≤ ((S_38.1 8 3) + 1); omega), (by show ((S_38.1 8 3) + 1) ≤ (S_38.1 2 1); omega), (by show 0 ≤ (S_38.1 8 4); omega), (by show (S_38.1 8 4) ≤ 9; omega), (by show 0 ≤ (S_38.1 8 5); omega), (by show (S_38.1 8 5) ≤ 9; omega), (by show 0 ≤ (S_38.1 8 6); omega), (by show (S_38.1 8 6) ≤ 9 ∨ (S_38.1 8 6) = 1000000; omega), (by show (S_38.1 8 7) = 0 ∨ (S_38.1 8 7) = 1; omega)⟩
          refine g_calli (E := "java/lang/IllegalArgumentException") (As := []) (rest := []) B hK hG hM 8 (by decide) (by decide) rfl (cX3_readMark_ok l hl0 D cy q V n0 x y b (ci S_38 8 3 ((S_38.1 8 3) + 1)) hF   hV) (cwC 0 B wC_mRX3_200 wC_im_yX3_readMark wC_sl_yX3_readMark wC_in_RX3 wC_cd_yX3_readMark rfl rfl (by decide +kernel) ⟨Nat.le_of_ble_eq_true rfl, Nat.le_of_ble_eq_true rfl⟩) rfl hl.1 rfl (Nat.le_of_ble_eq_true rfl) dX3_readMember_76 hR hg (cFx_gl hF) (gl_of (K3_readMark_R  (S := (ci S_38 8 3 ((S_38.1 8 3) + 1))) hV ).1.1) (fun c_52 => (by subst hS_33; subst hv_32; subst hS_38; subst hv_37; unfold K3_readMember; exact ((if_neg c_1).trans ((if_pos c_34).trans ((if_pos c_36).trans ((if_pos c_44).trans ((if_neg c_50).trans (if_neg c_52)))))))) (fun x y H locs c_52 hM => ?_)
          have hg : gl S ≤ gl (K3_readMark (ci S_38 8 3 ((S_38.1 8 3) + 1))).2.2 := Nat.le_trans hg (gl_of (K3_readMark_R  (S := (ci S_38 8 3 ((S_38.1 8 3) + 1))) hV ).1.1)
          obtain ⟨k_51, -, k_51v, -⟩ := K3_readMark_R  (S := (ci S_38 8 3 ((S_38.1 8 3) + 1))) hV 
          obtain ⟨hV, k_51l, k_51p⟩ := k_51v c_52
          have hF : cFx 7 b (K3_readMark (ci S_38 8 3 ((S_38.1 8 3) + 1))).2.2 := cFx_of k_51.1 hF
          generalize hS_54 : (K3_readMark (ci S_38 8 3 ((S_38.1 8 3) + 1))).2.2 = S_54 at *
          generalize hv_53 : (K3_readMark (ci S_38 8 3 ((S_38.1 8 3) + 1))).2.1 = v_53 at *
          obtain ⟨hP, hLa, hLb, hcs, ha0, ha1, hga, hgb, hna, hnb, hma, hmb, hzz⟩ := id hV
          refine lv_istore_n (lv' := [(3, .int (zI v_53)), (2, .int (zI v_37)), (0, .ref (q 8)), (1, .int (zI dx))]) B.1 B.2.1 dX3_readMember_79 rfl hl (by decide) rfl (fun ls hl => ?_)
          refine lv_iload_n B.1 B.2.1 dX3_readMember_80 rfl (lv_at hl 1 rfl) ?_
          refine z_iconst B.1 B.2.1 dX3_readMember_81 ?_
          refine z_icmp_eq (tgt := 95) B.1 B.2.1 (zr_of (by omega) (by omega)) (zr_of (by decide) (by decide)) dX3_readMember_82 (by decide) (fun c_55 => ?_) (fun c_55 => ?_)
          · --
            exact g_throw (S := S_54) (E := "java/lang/IllegalArgumentException") (ik := 49) (is := 203) (ic := 53) 18 (by decide) hl0 B hG hM rfl sX_java_lang_IllegalArgumentException (by decide +kernel) (List.mem_cons_of_mem _ wC_cRX3_49) (List.mem_cons_of_mem _ wC_in__java_lang_IllegalArgumentException_) (tC_RX3_53 _) tN_RX3_53 hl.1 (Nat.le_of_ble_eq_true rfl) hR (Nat.le_of_ble_eq_true rfl) (Nat.le_of_ble_eq_true rfl) hg (cFx_gl hF) (tO_RX3_53 _) dX3_readMember_95 dX3_readMember_98 dX3_readMember_99 dX3_readMember_101 dX3_readMember_104 (by subst hS_33; subst hv_32; subst hS_38; subst hv_37; subst hS_54; subst hv_53; unfold K3_readMember; exact ((if_neg c_1).trans ((if_pos c_34).trans ((if_pos c_36).trans ((if_pos c_44).trans ((if_neg c_50).trans ((if_pos c_52).trans (if_pos c_55))))))))
          · --
            refine lv_iload_n B.1 B.2.1 dX3_readMember_85 rfl (lv_at hl 0 rfl) ?_
            refine z_iconst B.1 B.2.1 dX3_readMember_86 ?_
            refine z_icmp_eq (tgt := 95) B.1 B.2.1 (zr_of (by omega) (by omega)) (zr_of (by decide) (by decide)) dX3_readMember_87 (by decide) (fun c_56 => ?_) (fun c_56 => ?_)
            · --
              exact g_throw (S := S_54) (E := "java/lang/IllegalArgumentException") (ik := 49) (is := 203) (ic := 53) 18 (by decide) hl0 B hG hM rfl sX_java_lang_IllegalArgumentException (by decide +kernel) (List.mem_cons_of_mem _ wC_cRX3_49) (List.mem_cons_of_mem _ wC_in__java_lang_IllegalArgumentException_) (tC_RX3_53 _) tN_RX3_53 hl.1 (Nat.le_of_ble_eq_true rfl) hR (Nat.le_of_ble_eq_true rfl) (Nat.le_of_ble_eq_true rfl) hg (cFx_gl hF) (tO_RX3_53 _) dX3_readMember_95 dX3_readMember_98 dX3_readMember_99 dX3_readMember_101 dX3_readMember_104 (by subst hS_33; subst hv_32; subst hS_38; subst hv_37; subst hS_54; subst hv_53; unfold K3_readMember; exact ((if_neg c_1).trans ((if_pos c_34).trans ((if_pos c_36).trans ((if_pos c_44).trans ((if_neg c_50).trans ((if_pos c_52).trans ((if_neg c_55).trans (if_pos c_56)))))))))
            · --
              refine lv_iload_n B.1 B.2.1 dX3_readMember_90 rfl (lv_at hl 1 rfl) ?_
              refine lv_iload_n B.1 B.2.1 dX3_readMember_91 rfl (lv_at hl 0 rfl) ?_
              refine z_icmp_le (tgt := 105) B.1 B.2.1 (zr_of (by omega) (by omega)) (zr_of (by omega) (by omega)) dX3_readMember_92 (by decide) (fun c_57 => ?_) (fun c_57 => ?_)
              · --
                refine lv_aload_n B.1 B.2.1 dX3_readMember_105 rfl (lv_at hl 2 rfl) ?_
                refine c_getr (q := (cq q x y)) (r := 9) B (iC3 _) hK hM 8 1 3 (by decide) rfl rfl (by decide) (by decide) rfl rfl rfl (cFx_r hF 8 1) (List.mem_cons_of_mem _ wC_fRX3_12) dX3_readMember_106 ?_
                refine lv_iload_n B.1 B.2.1 dX3_readMember_109 rfl (lv_at hl 1 rfl) ?_
                refine lv_iload_n B.1 B.2.1 dX3_readMember_110 rfl (lv_at hl 0 rfl) ?_
                refine c_callv (q := (cq q x y)) (As := [.int (zI v_37), .int (zI v_53)]) (rest := []) B hK hM 9 (by decide) (by decide) rfl (cX5_addRange_ok l D cy (cq q x y) 7 b S_54 hF  v_37 v_53 (by show 0 ≤ v_37; omega) (by show v_37 ≤ v_53 + 1; omega) (by show v_53 < 65536; omega)) (cwC 2 B wC_mRX3_176 wC_im_yX5_addRange wC_sl_yX5_addRange wC_in_RX5 wC_cd_yX5_addRange rfl rfl (by decide +kernel) ⟨Nat.le_of_ble_eq_true rfl, Nat.le_of_ble_eq_true rfl⟩) rfl hl.1 rfl (Nat.le_of_ble_eq_true rfl) dX3_readMember_111 ⟨g_rc hR hg (cFx_gl (S := S_54) hF), g_rs hR hg (cFx_gl (S := S_54) hF)⟩ (fun S_60 H locs hp_59 hM => ?_)
                have hp_59 := hp_59.symm
                subst hp_59
                have hg : gl S ≤ gl (K5_addRange v_37 v_53 S_54) := Nat.le_trans hg (gl_of (S := S_54) (S' := (K5_addRange v_37 v_53 S_54)) K5_addRange_22)
                refine W.widen (k := gl (K5_addRange v_37 v_53 S_54) - gl S) (n := 2 * (gl (K5_addRange v_37 v_53 S_54) - gl S)) (Nat.sub_le_sub_right (gl_of (S := S_54) (S' := (K5_addRange v_37 v_53 S_54)) K5_addRange_22) _) (Nat.mul_le_mul_left 2 (Nat.sub_le_sub_right (gl_of (S := S_54) (S' := (K5_addRange v_37 v_53 S_54)) K5_addRange_22) _)) ?_
                have hF : cFx 7 b (K5_addRange v_37 v_53 S_54) := cFx_of K5_addRange_22 hF
                have hP : pB 7 (K5_addRange v_37 v_53 S_54) := pB_of (congrFun K5_addRange_1 _) (fun j hj => congrFun K5_addRange_1 _) hP
                refine z_iconst B.1 B.2.1 dX3_readMember_114 ?_
                exact g_retz (S := (K5_addRange v_37 v_53 S_54)) B hM (by decide) (by subst hS_33; subst hv_32; subst hS_38; subst hv_37; subst hS_54; subst hv_53; unfold K3_readMember; exact ((if_neg c_1).trans ((if_pos c_34).trans ((if_pos c_36).trans ((if_pos c_44).trans ((if_neg c_50).trans ((if_pos c_52).trans ((if_neg c_55).trans ((if_neg c_56).trans (if_pos c_57)))))))))) dX3_readMember_115
              · --
                exact g_throw (S := S_54) (E := "java/lang/IllegalArgumentException") (ik := 49) (is := 203) (ic := 53) 18 (by decide) hl0 B hG hM rfl sX_java_lang_IllegalArgumentException (by decide +kernel) (List.mem_cons_of_mem _ wC_cRX3_49) (List.mem_cons_of_mem _ wC_in__java_lang_IllegalArgumentException_) (tC_RX3_53 _) tN_RX3_53 hl.1 (Nat.le_of_ble_eq_true rfl) hR (Nat.le_of_ble_eq_true rfl) (Nat.le_of_ble_eq_true rfl) hg (cFx_gl hF) (tO_RX3_53 _) dX3_readMember_95 dX3_readMember_98 dX3_readMember_99 dX3_readMember_101 dX3_readMember_104 (by subst hS_33; subst hv_32; subst hS_38; subst hv_37; subst hS_54; subst hv_53; unfold K3_readMember; exact ((if_neg c_1).trans ((if_pos c_34).trans ((if_pos c_36).trans ((if_pos c_44).trans ((if_neg c_50).trans ((if_pos c_52).trans ((if_neg c_55).trans ((if_neg c_56).trans (if_neg c_57))))))))))
        · --
          refine z_iconst B.1 B.2.1 dX3_readMember_63 ?_
          exact g_retz (S := S_38) B hM (by decide) (by subst hS_33; subst hv_32; subst hS_38; subst hv_37; unfold K3_readMember; exact ((if_neg c_1).trans ((if_pos c_34).trans ((if_pos c_36).trans ((if_pos c_44).trans (if_pos c_50)))))) dX3_readMember_64
    · --
      refine lv_aload_n B.1 B.2.1 dX3_readMember_13 rfl (lv_at hl 0 rfl) ?_
      refine c_getr (q := (cq q x y)) (r := 9) B (iC3 _) hK hM 8 1 3 (by decide) rfl rfl (by decide) (by decide) rfl rfl rfl (cFx_r hF 8 1) (List.mem_cons_of_mem _ wC_fRX3_12) dX3_readMember_14 ?_
      refine z_bipush B.1 B.2.1 (by decide) dX3_readMember_17 ?_
      refine c_callv (q := (cq q x y)) (As := [.int (zI 45)]) (rest := []) B hK hM 9 (by decide) (by decide) rfl (cX5_add_ok l D cy (cq q x y) 7 b S_33 hF  45 (by show 0 ≤ 45; omega) (by show 45 < 65536; omega)) (cwC 1 B wC_mRX3_167 wC_im_yX5_add wC_sl_yX5_add wC_in_RX5 wC_cd_yX5_add rfl rfl (by decide +kernel) ⟨Nat.le_of_ble_eq_true rfl, Nat.le_of_ble_eq_true rfl⟩) rfl hl.1 rfl (Nat.le_of_ble_eq_true rfl) dX3_readMember_19 ⟨g_rc hR hg (cFx_gl (S := S_33) hF), g_rs hR hg (cFx_gl (S := S_33) hF)⟩ (fun S_63 H locs hp_62 hM => ?_)
      have hp_62 := hp_62.symm
      subst hp_62
      have hg : gl S ≤ gl (K5_add 45 S_33) := Nat.le_trans hg (gl_of (S := S_33) (S' := (K5_add 45 S_33)) K5_add_22)
      refine W.widen (k := gl (K5_add 45 S_33) - gl S) (n := 2 * (gl (K5_add 45 S_33) - gl S)) (Nat.sub_le_sub_right (gl_of (S := S_33) (S' := (K5_add 45 S_33)) K5_add_22) _) (Nat.mul_le_mul_left 2 (Nat.sub_le_sub_right (gl_of (S := S_33) (S' := (K5_add 45 S_33)) K5_add_22) _)) ?_
      have hF : cFx 7 b (K5_add 45 S_33) := cFx_of K5_add_22 hF
      have hP : pB 7 (K5_add 45 S_33) := pB_of (congrFun K5_add_1 _) (fun j hj => congrFun K5_add_1 _) hP
      refine z_iconst B.1 B.2.1 dX3_readMember_22 ?_
      exact g_retz (S := (K5_add 45 S_33)) B hM (by decide) (by subst hS_33; subst hv_32; unfold K3_readMember; exact ((if_neg c_1).trans (if_neg c_34))) dX3_readMember_23
theorem K3_readMember_R {dx : Int} {S : CSt} (hV : rV S) : rR (fun v T => (v = 0 ∨ v = 1) ∧ S.1 8 3 < T.1 8 3) S (K3_readMember dx S) := by
  have fin : ∀ T : CSt, rV T → rR (fun v U => (v = 0 ∨ v = 1) ∧ T.1 8 3 < U.1 8 3) T (gBd (K3_readMark T) (fun v4 S5 => (if K4_at 2 (S5.1 8 3) S5 = 45 then (if K4_at 2 (S5.1 8 3 + 1) S5 = 93 then (0, 0, S5) else (gBd (K3_readMark (ci S5 8 3 (S5.1 8 3 + 1))) (fun v20 S21 => (if v4 = -1 then (1, 0, S21) else (if v20 = -1 then (1, 0, S21) else (if v4 ≤ v20 then (0, 1, K5_addRange v4 v20 S21) else (1, 0, S21))))))) else (0, 0, S5)))) := by
    intro T hT
    refine rR.bd (K3_readMark_R hT) (fun _ hV1 ha1 hp1 => ?_)
    generalize (K3_readMark T).2.2 = U at *
    generalize (K3_readMark T).2.1 = v at *
    have hb := K4_at_b2 hV1.2.2.2.1 (U.1 8 3)
    split
    · rename_i h45
      split
      · exact rR.ret rK.rf hV1 (Int.le_refl _) ⟨Or.inl rfl, hp1.2.2⟩
      · have h3 := hV1.2.2.2.2.1
        have hV2 : rV (ci U 8 3 (U.1 8 3 + 1)) := rV_at hV1 (by omega) (by have := (hb.2.2 (by omega)).2; omega)
        refine rR.mono rK.c8 (by rw [ci_eq, zu_eq]; omega) (rR.bd (K3_readMark_R hV2) (fun _ hV3 ha3 hp3 => ?_))
        have e1 : (ci U 8 3 (U.1 8 3 + 1)).1 8 3 = U.1 8 3 + 1 := by rw [ci_eq, zu_eq]
        rw [e1] at ha3
        generalize (K3_readMark (ci U 8 3 (U.1 8 3 + 1))).2.2 = W9 at *
        generalize (K3_readMark (ci U 8 3 (U.1 8 3 + 1))).2.1 = v2 at *
        (repeat' split)
        · exact rR.thr rK.rf hV3.1
        · exact rR.thr rK.rf hV3.1
        · refine rR.ret (rK.k5 K5_addRange_1 K5_addRange_22 (fun n hn => K5_addRange_2 hn)) (rV_k5 hV3 K5_addRange_1) (by rw [K5_addRange_1]; exact Int.le_refl _) ⟨Or.inr rfl, ?_⟩
          rw [K5_addRange_1]
          omega
        · exact rR.thr rK.rf hV3.1
    · exact rR.ret rK.rf hV1 (Int.le_refl _) ⟨Or.inl rfl, hp1.2.2⟩
  unfold K3_readMember
  split
  · exact fin S hV
  · refine rR.tk hV (by decide) (fun _ => ?_) (fun _ _ hV1 => ?_)
    · rw [if_pos rfl]; exact fin S hV
    · rw [if_neg z1n0]
      refine rR.ret (rK.k5 K5_add_1 K5_add_22 (fun n hn => K5_add_2 hn)) (rV_k5 hV1 K5_add_1) (by rw [K5_add_1]; exact Int.le_refl _) ⟨Or.inl rfl, ?_⟩
      rw [K5_add_1, ci_eq, zu_eq]
      omega
def K3_setL (tu : Int) : Nat → Int → Int → CSt → CR
  | 0, dx, i, T => (gBd (K3_addOneSign tu T) (fun v_4 S_5 => (0, v_4, S_5)))
  | n + 1, dx, i, T => (if 40 ≤ i then (gBd (K3_addOneSign tu T) (fun v_4 S_5 => (0, v_4, S_5))) else (gLt (K3_take 93 T) (fun v_10 S_11 => (if v_10 = 0 then (gBd (K3_readMember dx S_11) (fun v_19 S_20 => K3_setL tu n v_19 (i + 1) S_20)) else (gBd (K3_addOneSign tu S_11) (fun v_15 S_16 => (0, v_15, S_16)))))))
set_option maxHeartbeats 1000000 in
set_option maxRecDepth 100000 in
theorem lp3_set (l : Launch) (hl0 : l.stackTraces = false) (D : va_G) (cy : Nat → ClassId) (q : Nat → Nat) (V : Nat × (Nat → Nat)) (n0 b : Nat)  (tu : Int) (htu : tu = 0 ∨ tu = 1) (S0 : CSt) (rc : CR) {A : Nat → Prop} {p : Program} {e : Env} {s : State} {m : MethodId} {args : Array Value} {below : List Frame} {meth : Method} {c : Code} (B : zAt p s m args meth c RX3 cX3_readSet 4 (some .int) (.code yX3_readSet cX3_readSet 4 (some .int) :: TBC)) (hK : va_K D vwCl (zTY cy) s) (hG : gEn V n0 A s c) (hR : (headSpec (.code yX3_readSet cX3_readSet 4 (some .int) :: TBC) (gRm 9 196 S0)).room.cells = (gK - gl S0) + 1 ∧ (headSpec (.code yX3_readSet cX3_readSet 4 (some .int) :: TBC) (gRm 9 196 S0)).room.slots = 2 * (gK - gl S0) + 6) :
    ∀ (n : Nat) (dx : Int) (i : Int) (T : CSt) (x y : Nat) (H : Heap) (locs : List Loc) (ls : Array Slot), (cFx 7 b T) → (gl S0 ≤ gl T) → (rV T) → (dx = 0 ∨ dx = 1) → (0 ≤ i) → (i ≤ 40) → (40 - i = n) → cH D cy (cq q x y) A s.heap T H locs → lv_has ls 4 [(0, .ref (q 8)), (1, .int (zI tu)), (2, .int (zI dx)), (3, .int (zI i))] → (rc = K3_setL tu n dx i T) → W p l e (headSpec (.code yX3_readSet cX3_readSet 4 (some .int) :: TBC) (gRm 9 196 S0)).room s m args below meth c H locs (gl T - gl S0) (2 * (gl T - gl S0)) (vx_MQ below (gQi D cy q A rc) (gX D cy q A "java/lang/IllegalArgumentException" rc) args s (gc S0 rc) (gs S0 rc) A) (F0 m 11 ls []) := by
  intro n
  induction n with
  | zero =>
    intro dx i T x y H locs ls hF hg hV hd hi0 hi1 hn hM hl hpost
    obtain ⟨hP, hLa, hLb, hcs, ha0, ha1, hga, hgb, hna, hnb, hma, hmb, hzz⟩ := id hV
    refine lv_iload_n B.1 B.2.1 dX3_readSet_11 rfl (lv_at hl 3 rfl) ?_
    refine z_bipush B.1 B.2.1 (by decide) dX3_readSet_12 ?_
    refine z_icmp_ge (tgt := 38) B.1 B.2.1 (zr_of (by omega) (by omega)) (zr_of (by decide) (by decide)) dX3_readSet_14 (by decide) (fun c_1 => ?_) (fun c_1 => ?_)
    · --
      refine lv_aload_n B.1 B.2.1 dX3_readSet_38 rfl (lv_at hl 0 rfl) ?_
      refine lv_iload_n B.1 B.2.1 dX3_readSet_39 rfl (lv_at hl 1 rfl) ?_
      refine g_calli (E := "java/lang/IllegalArgumentException") (As := [.int (zI tu)]) (rest := []) B hK hG hM 8 (by decide) (by decide) rfl (cX3_addOneSign_ok l hl0 D cy q V n0 x y b T hF  tu hP (by show tu = 0 ∨ tu = 1; omega)) (cwC 1 B wC_mRX3_156 wC_im_yX3_addOneSign wC_sl_yX3_addOneSign wC_in_RX3 wC_cd_yX3_addOneSign rfl rfl (by decide +kernel) ⟨Nat.le_of_ble_eq_true rfl, Nat.le_of_ble_eq_true rfl⟩) rfl hl.1 rfl (Nat.le_of_ble_eq_true rfl) dX3_readSet_40 hR hg (cFx_gl hF) (gl_of (K3_addOneSign_R0 (tu := tu) (S := T) hP).1.1) (fun c_3 => (hpost.trans (by rw [K3_setL]; exact (if_neg c_3)))) (fun x y H locs c_3 hM => ?_)
      have hg : gl S0 ≤ gl (K3_addOneSign tu T).2.2 := Nat.le_trans hg (gl_of (K3_addOneSign_R0 (tu := tu) (S := T) hP).1.1)
      have k_2 := (K3_addOneSign_R0 (tu := tu) (S := T) hP).1
      have hF : cFx 7 b (K3_addOneSign tu T).2.2 := cFx_of k_2.1 hF
      generalize hS_5 : (K3_addOneSign tu T).2.2 = S_5 at *
      generalize hv_4 : (K3_addOneSign tu T).2.1 = v_4 at *
      exact g_reti (S := S_5) B hM (hpost.trans (by subst hS_5; subst hv_4; rw [K3_setL]; exact (if_pos c_3))) dX3_readSet_43
    · exact absurd c_1 (by omega)
  | succ n ih =>
    intro dx i T x y H locs ls hF hg hV hd hi0 hi1 hn hM hl hpost
    obtain ⟨hP, hLa, hLb, hcs, ha0, ha1, hga, hgb, hna, hnb, hma, hmb, hzz⟩ := id hV
    refine lv_iload_n B.1 B.2.1 dX3_readSet_11 rfl (lv_at hl 3 rfl) ?_
    refine z_bipush B.1 B.2.1 (by decide) dX3_readSet_12 ?_
    refine z_icmp_ge (tgt := 38) B.1 B.2.1 (zr_of (by omega) (by omega)) (zr_of (by decide) (by decide)) dX3_readSet_14 (by decide) (fun c_1 => ?_) (fun c_1 => ?_)
    · --
      refine lv_aload_n B.1 B.2.1 dX3_readSet_38 rfl (lv_at hl 0 rfl) ?_
      refine lv_iload_n B.1 B.2.1 dX3_readSet_39 rfl (lv_at hl 1 rfl) ?_
      refine g_calli (E := "java/lang/IllegalArgumentException") (As := [.int (zI tu)]) (rest := []) B hK hG hM 8 (by decide) (by decide) rfl (cX3_addOneSign_ok l hl0 D cy q V n0 x y b T hF  tu hP (by show tu = 0 ∨ tu = 1; omega)) (cwC 1 B wC_mRX3_156 wC_im_yX3_addOneSign wC_sl_yX3_addOneSign wC_in_RX3 wC_cd_yX3_addOneSign rfl rfl (by decide +kernel) ⟨Nat.le_of_ble_eq_true rfl, Nat.le_of_ble_eq_true rfl⟩) rfl hl.1 rfl (Nat.le_of_ble_eq_true rfl) dX3_readSet_40 hR hg (cFx_gl hF) (gl_of (K3_addOneSign_R0 (tu := tu) (S := T) hP).1.1) (fun c_3 => (hpost.trans (by rw [K3_setL]; exact ((if_pos c_1).trans (if_neg c_3))))) (fun x y H locs c_3 hM => ?_)
      have hg : gl S0 ≤ gl (K3_addOneSign tu T).2.2 := Nat.le_trans hg (gl_of (K3_addOneSign_R0 (tu := tu) (S := T) hP).1.1)
      have k_2 := (K3_addOneSign_R0 (tu := tu) (S := T) hP).1
      have hF : cFx 7 b (K3_addOneSign tu T).2.2 := cFx_of k_2.1 hF
      generalize hS_5 : (K3_addOneSign tu T).2.2 = S_5 at *
      generalize hv_4 : (K3_addOneSign tu T).2.1 = v_4 at *
      exact g_reti (S := S_5) B hM (hpost.trans (by subst hS_5; subst hv_4; rw [K3_setL]; exact ((if_pos c_1).trans (if_pos c_3)))) dX3_readSet_43
    · --
      refine lv_aload_n B.1 B.2.1 dX3_readSet_17 rfl (lv_at hl 0 rfl) ?_
      refine z_bipush B.1 B.2.1 (by decide) dX3_readSet_18 ?_
      refine c_calli (q := (cq q x y)) (As := [.int (zI 93)]) (rest := []) B hK hM 8 (by decide) (by decide) rfl (cX3_take_ok l D cy (cq q x y) b T hF  93 hV (by show 1 ≤ 93; omega) (by show 93 < 65536; omega)) (cwC 1 B wC_mRX3_76 wC_im_yX3_take wC_sl_yX3_take wC_in_RX3 wC_cd_yX3_take rfl rfl (by decide +kernel) ⟨Nat.le_of_ble_eq_true rfl, Nat.le_of_ble_eq_true rfl⟩) rfl hl.1 rfl (Nat.le_of_ble_eq_true rfl) dX3_readSet_20 ⟨g_rc hR hg (cFx_gl (S := T) hF), g_rs hR hg (cFx_gl (S := T) hF)⟩ (fun z_9 S_8 H locs hp_7 hM => ?_)
      obtain ⟨hp_7, he_hp_7⟩ := hp_7
      have he_hp_7 := he_hp_7.symm
      subst he_hp_7
      have hp_7 : (K3_take 93 T).1 = z_9 := hp_7.symm
      subst hp_7
      have hg : gl S0 ≤ gl (K3_take 93 T).2 := Nat.le_trans hg (gl_of (S := T) (S' := (K3_take 93 T).2) (congrArg Prod.snd K3_take_2))
      refine W.widen (k := gl (K3_take 93 T).2 - gl S0) (n := 2 * (gl (K3_take 93 T).2 - gl S0)) (Nat.sub_le_sub_right (gl_of (S := T) (S' := (K3_take 93 T).2) (congrArg Prod.snd K3_take_2)) _) (Nat.mul_le_mul_left 2 (Nat.sub_le_sub_right (gl_of (S := T) (S' := (K3_take 93 T).2) (congrArg Prod.snd K3_take_2)) _)) ?_
      have k_6v := K3_take_v (x := 93) hV (by omega)
      have k_6l : T.1 8 3 ≤ (K3_take 93 T).2.1 8 3 := by rcases k_6v with ⟨-, h9, -⟩ | ⟨-, h9, -⟩ <;> rw [h9] <;> first | exact Int.le_refl _ | (simp only [ci_eq, zu_eq]; omega)
      have hV := rV_take (x := 93) hV (by omega)
      have hF : cFx 7 b (K3_take 93 T).2 := cFx_of (congrArg Prod.snd K3_take_2) hF
      have k_6b : (K3_take 93 T).1 = 0 ∨ (K3_take 93 T).1 = 1 := by rcases k_6v with ⟨h9, -⟩ | ⟨h9, -⟩ <;> omega
      have k_6n : (K3_take 93 T).1 = 0 ∨ (K3_take 93 T).2.1 8 3 = T.1 8 3 + 1 := by rcases k_6v with ⟨h9, -⟩ | ⟨-, h9, -⟩ <;> first | exact Or.inl h9 | exact Or.inr (by rw [h9, ci_eq, zu_eq])
      generalize hS_11 : (K3_take 93 T).2 = S_11 at *
      generalize hv_10 : (K3_take 93 T).1 = v_10 at *
      obtain ⟨hP, hLa, hLb, hcs, ha0, ha1, hga, hgb, hna, hnb, hma, hmb, hzz⟩ := id hV
      refine z_if_ne (tgt := 38) B.1 B.2.1 (zr_of (by omega) (by omega)) dX3_readSet_23 (by decide) (fun c_12 => ?_) (fun c_12 => ?_)
      · --
        refine lv_aload_n B.1 B.2.1 dX3_readSet_38 rfl (lv_at hl 0 rfl) ?_
        refine lv_iload_n B.1 B.2.1 dX3_readSet_39 rfl (lv_at hl 1 rfl) ?_
        refine g_calli (E := "java/lang/IllegalArgumentException") (As := [.int (zI tu)]) (rest := []) B hK hG hM 8 (by decide) (by decide) rfl (cX3_addOneSign_ok l hl0 D cy q V n0 x y b S_11 hF  tu hP (by show tu = 0 ∨ tu = 1; omega)) (cwC 1 B wC_mRX3_156 wC_im_yX3_addOneSign wC_sl_yX3_addOneSign wC_in_RX3 wC_cd_yX3_addOneSign rfl rfl (by decide +kernel) ⟨Nat.le_of_ble_eq_true rfl, Nat.le_of_ble_eq_true rfl⟩) rfl hl.1 rfl (Nat.le_of_ble_eq_true rfl) dX3_readSet_40 hR hg (cFx_gl hF) (gl_of (K3_addOneSign_R0 (tu := tu) (S := S_11) hP).1.1) (fun c_14 => (hpost.trans (by subst hS_11; subst hv_10; rw [K3_setL]; exact ((if_neg c_1).trans ((if_neg c_12).trans (if_neg c_14)))))) (fun x y H locs c_14 hM => ?_)
        have hg : gl S0 ≤ gl (K3_addOneSign tu S_11).2.2 := Nat.le_trans hg (gl_of (K3_addOneSign_R0 (tu := tu) (S := S_11) hP).1.1)
        have k_13 := (K3_addOneSign_R0 (tu := tu) (S := S_11) hP).1
        have hF : cFx 7 b (K3_addOneSign tu S_11).2.2 := cFx_of k_13.1 hF
        generalize hS_16 : (K3_addOneSign tu S_11).2.2 = S_16 at *
        generalize hv_15 : (K3_addOneSign tu S_11).2.1 = v_15 at *
        exact g_reti (S := S_16) B hM (hpost.trans (by subst hS_11; subst hv_10; subst hS_16; subst hv_15; rw [K3_setL]; exact ((if_neg c_1).trans ((if_neg c_12).trans (if_pos c_14))))) dX3_readSet_43
      · --
        refine lv_aload_n B.1 B.2.1 dX3_readSet_26 rfl (lv_at hl 0 rfl) ?_
        refine lv_iload_n B.1 B.2.1 dX3_readSet_27 rfl (lv_at hl 2 rfl) ?_
        refine g_calli (E := "java/lang/IllegalArgumentException") (As := [.int (zI dx)]) (rest := []) B hK hG hM 8 (by decide) (by decide) rfl (cX3_readMember_ok l hl0 D cy q V n0 x y b S_11 hF  dx hV (by show dx = 0 ∨ dx = 1; omega)) (cwC 1 B wC_mRX3_196 wC_im_yX3_readMember wC_sl_yX3_readMember wC_in_RX3 wC_cd_yX3_readMember rfl rfl (by decide +kernel) ⟨Nat.le_of_ble_eq_true rfl, Nat.le_of_ble_eq_true rfl⟩) rfl hl.1 rfl (Nat.le_of_ble_eq_true rfl) dX3_readSet_28 hR hg (cFx_gl hF) (gl_of (K3_readMember_R (dx := dx) (S := S_11) hV ).1.1) (fun c_18 => (hpost.trans (by subst hS_11; subst hv_10; rw [K3_setL]; exact ((if_neg c_1).trans ((if_pos c_12).trans (if_neg c_18)))))) (fun x y H locs c_18 hM => ?_)
        have hg : gl S0 ≤ gl (K3_readMember dx S_11).2.2 := Nat.le_trans hg (gl_of (K3_readMember_R (dx := dx) (S := S_11) hV ).1.1)
        obtain ⟨k_17, -, k_17v, -⟩ := K3_readMember_R (dx := dx) (S := S_11) hV 
        obtain ⟨hV, k_17l, k_17p⟩ := k_17v c_18
        have hF : cFx 7 b (K3_readMember dx S_11).2.2 := cFx_of k_17.1 hF
        generalize hS_20 : (K3_readMember dx S_11).2.2 = S_20 at *
        generalize hv_19 : (K3_readMember dx S_11).2.1 = v_19 at *
        obtain ⟨hP, hLa, hLb, hcs, ha0, ha1, hga, hgb, hna, hnb, hma, hmb, hzz⟩ := id hV
        refine lv_istore_n (lv' := [(2, .int (zI v_19)), (0, .ref (q 8)), (1, .int (zI tu)), (3, .int (zI i))]) B.1 B.2.1 dX3_readSet_31 rfl hl (by decide) rfl (fun ls hl => ?_)
        refine z_iinc (v := i + 1) (lv' := [(3, .int (zI (i + 1))), (2, .int (zI v_19)), (0, .ref (q 8)), (1, .int (zI tu))]) B.1 B.2.1 dX3_readSet_32 hl (k := 3) rfl rfl (by decide) rfl (fun ls hl => ?_)
        refine lv_goto (tgt := 11) B.1 B.2.1 dX3_readSet_35 (by decide) ?_
        have hq : K3_setL tu (n + 1) dx i T = K3_setL tu n v_19 (i + 1) S_20 := by subst hS_11; subst hv_10; subst hS_20; subst hv_19; rw [K3_setL]; exact ((if_neg c_1).trans ((if_pos c_12).trans (if_pos c_18)))
        rw [hq] at hpost
        exact ih v_19 (i + 1) S_20 x y H locs ls hF hg hV (by omega) (by omega) (by omega) (by omega) hM (lv_sub hl [2, 3, 1, 0] rfl) hpost
def K3_readSet (S : CSt) : CR := (gLt (K3_take 94 S) (fun v_5 S_6 => (K3_setL v_5 40 1 0 S_6)))
set_option maxHeartbeats 1000000 in
set_option maxRecDepth 100000 in
theorem cX3_readSet_ok (l : Launch) (hl0 : l.stackTraces = false) (D : va_G) (cy : Nat → ClassId) (q : Nat → Nat) (V : Nat × (Nat → Nat)) (n0 x y b : Nat) (S : CSt) (hF : cFx 7 b S) (hV : rV S) : gMi l D cy q V n0 x y "java/lang/IllegalArgumentException" yX3_readSet (.code yX3_readSet cX3_readSet 4 (some .int) :: TBC) 9 196 S [.ref (q 8)] (K3_readSet S) := by
  refine g_of (cc := cX3_readSet) (maxL := 4) (ret := (some .int)) (by decide) rfl rfl (Nat.le_of_ble_eq_true rfl) ?_
  intro p e s m args below meth c ls B hK hG hM hl
  generalize gA (cq q x y) n0 = A at hG hM ⊢
  have hR : (headSpec (.code yX3_readSet cX3_readSet 4 (some .int) :: TBC) (gRm 9 196 S)).room.cells = (gK - gl S) + 1 ∧ (headSpec (.code yX3_readSet cX3_readSet 4 (some .int) :: TBC) (gRm 9 196 S)).room.slots = 2 * (gK - gl S) + 6 := ⟨rfl, rfl⟩
  have hl : lv_has ls 4 [(0, .ref (q 8))] := hl
  obtain ⟨hP, hLa, hLb, hcs, ha0, ha1, hga, hgb, hna, hnb, hma, hmb, hzz⟩ := id hV
  refine lv_aload_n B.1 B.2.1 dX3_readSet_0 rfl (lv_at hl 0 rfl) ?_
  refine z_bipush B.1 B.2.1 (by decide) dX3_readSet_1 ?_
  refine c_calli (q := (cq q x y)) (As := [.int (zI 94)]) (rest := []) B hK hM 8 (by decide) (by decide) rfl (cX3_take_ok l D cy (cq q x y) b S hF  94 hV (by show 1 ≤ 94; omega) (by show 94 < 65536; omega)) (cwC 1 B wC_mRX3_76 wC_im_yX3_take wC_sl_yX3_take wC_in_RX3 wC_cd_yX3_take rfl rfl (by decide +kernel) ⟨Nat.le_of_ble_eq_true rfl, Nat.le_of_ble_eq_true rfl⟩) rfl hl.1 rfl (Nat.le_of_ble_eq_true rfl) dX3_readSet_3 ⟨g_rc hR (Nat.le_refl _) (cFx_gl (S := S) hF), g_rs hR (Nat.le_refl _) (cFx_gl (S := S) hF)⟩ (fun z_4 S_3 H locs hp_2 hM => ?_)
  obtain ⟨hp_2, he_hp_2⟩ := hp_2
  have he_hp_2 := he_hp_2.symm
  subst he_hp_2
  have hp_2 : (K3_take 94 S).1 = z_4 := hp_2.symm
  subst hp_2
  have hg : gl S ≤ gl (K3_take 94 S).2 := Nat.le_trans (Nat.le_refl _) (gl_of (S := S) (S' := (K3_take 94 S).2) (congrArg Prod.snd K3_take_2))
  refine W.widen (k := gl (K3_take 94 S).2 - gl S) (n := 2 * (gl (K3_take 94 S).2 - gl S)) (Nat.sub_le_sub_right (gl_of (S := S) (S' := (K3_take 94 S).2) (congrArg Prod.snd K3_take_2)) _) (Nat.mul_le_mul_left 2 (Nat.sub_le_sub_right (gl_of (S := S) (S' := (K3_take 94 S).2) (congrArg Prod.snd K3_take_2)) _)) ?_
  have k_1v := K3_take_v (x := 94) hV (by omega)
  have k_1l : S.1 8 3 ≤ (K3_take 94 S).2.1 8 3 := by rcases k_1v with ⟨-, h9, -⟩ | ⟨-, h9, -⟩ <;> rw [h9] <;> first | exact Int.le_refl _ | (simp only [ci_eq, zu_eq]; omega)
  have hV := rV_take (x := 94) hV (by omega)
  have hF : cFx 7 b (K3_take 94 S).2 := cFx_of (congrArg Prod.snd K3_take_2) hF
  have k_1b : (K3_take 94 S).1 = 0 ∨ (K3_take 94 S).1 = 1 := by rcases k_1v with ⟨h9, -⟩ | ⟨h9, -⟩ <;> omega
  have k_1n : (K3_take 94 S).1 = 0 ∨ (K3_take 94 S).2.1 8 3 = S.1 8 3 + 1 := by rcases k_1v with ⟨h9, -⟩ | ⟨-, h9, -⟩ <;> first | exact Or.inl h9 | exact Or.inr (by rw [h9, ci_eq, zu_eq])
  generalize hS_6 : (K3_take 94 S).2 = S_6 at *
  generalize hv_5 : (K3_take 94 S).1 = v_5 at *
  obtain ⟨hP, hLa, hLb, hcs, ha0, ha1, hga, hgb, hna, hnb, hma, hmb, hzz⟩ := id hV
  refine lv_istore_n (lv' := [(1, .int (zI v_5)), (0, .ref (q 8))]) B.1 B.2.1 dX3_readSet_6 rfl hl (by decide) rfl (fun ls hl => ?_)
  refine z_iconst B.1 B.2.1 dX3_readSet_7 ?_
  refine lv_istore_n (lv' := [(2, .int (zI 1)), (1, .int (zI v_5)), (0, .ref (q 8))]) B.1 B.2.1 dX3_readSet_8 rfl hl (by decide) rfl (fun ls hl => ?_)
  refine z_iconst B.1 B.2.1 dX3_readSet_9 ?_
  refine lv_istore_n (lv' := [(3, .int (zI 0)), (2, .int (zI 1)), (1, .int (zI v_5)), (0, .ref (q 8))]) B.1 B.2.1 dX3_readSet_10 rfl hl (by decide) rfl (fun ls hl => ?_)
  exact lp3_set l hl0 D cy q V n0 b v_5 (by omega) S _ B hK hG hR 40 1 0 S_6 x y H locs ls hF hg hV (by omega) (by omega) (by omega) (by omega) hM (lv_sub hl [3, 2, 1, 0] rfl) (by subst hS_6; subst hv_5; unfold K3_readSet; rfl)
theorem K3_setL_R {tu : Int} : ∀ (n : Nat) (dx i : Int) (S : CSt), rV S → rR (fun v T => v = 1) S (K3_setL tu n dx i S)
  | 0, dx, i, S, hV => by
    rw [K3_setL]
    exact rR.bd (K3_addOneSign_R hV) (fun _ h _ hp => rR.ret rK.rf h (Int.le_refl _) hp.1)
  | n + 1, dx, i, S, hV => by
    have fin : ∀ T : CSt, rV T → rR (fun v T => v = 1) T (gBd (K3_addOneSign tu T) (fun v T => (0, v, T))) := fun T hT => rR.bd (K3_addOneSign_R hT) (fun _ h _ hp => rR.ret rK.rf h (Int.le_refl _) hp.1)
    rw [K3_setL]
    split
    · exact fin S hV
    · refine rR.tk hV (by decide) (fun _ => ?_) (fun _ _ h1 => ?_)
      · rw [if_pos rfl]
        exact rR.bd (K3_readMember_R hV) (fun _ h _ _ => K3_setL_R n _ _ _ h)
      · rw [if_neg z1n0]
        exact fin _ h1
theorem K3_readSet_R {S : CSt} (hV : rV S) : rR (fun v T => v = 1) S (K3_readSet S) := by
  unfold K3_readSet
  refine rR.tk hV (by decide) (fun _ => ?_) (fun _ _ h1 => ?_)
  · exact K3_setL_R _ _ _ _ hV
  · exact K3_setL_R _ _ _ _ h1
