theorem K3_readCount_R {S : CSt} (hV : rV S) : rR (fun v _ => v = 0 ∨ v = 1) S (K3_readCount S) := by
  have fin : ∀ T : CSt, rV T → rR (fun v _ => v = 0 ∨ v = 1) T (gLt (K3_take 63 T) (fun v T => (0, 1, ci T 8 7 v))) := by
    intro T hT
    refine rR.tk hT (by decide) (fun _ => ?_) (fun _ _ hT2 => ?_)
    · exact rR.ret rK.c8 (rV_7 hT (Or.inl rfl)) (Int.le_refl _) (Or.inr rfl)
    · exact rR.ret rK.c8 (rV_7 hT2 (Or.inr rfl)) (Int.le_refl _) (Or.inr rfl)
  unfold K3_readCount
  refine rR.tk hV (by decide) (fun _ => ?_) (fun _ _ h1 => ?_)
  · rw [if_pos rfl]
    refine rR.tk hV (by decide) (fun _ => ?_) (fun _ _ h2 => ?_)
    · rw [if_pos rfl]
      refine rR.tk hV (by decide) (fun _ => ?_) (fun _ _ h3 => ?_)
      · rw [if_pos rfl]
        refine rR.tk hV (by decide) (fun _ => ?_) (fun _ _ h4 => ?_)
        · rw [if_pos rfl]
          exact rR.ret rK.rf hV (Int.le_refl _) (Or.inl rfl)
        · rw [if_neg z1n0]
          exact rR.bd (K3_readBraces_R h4) (fun _ h5 _ _ => fin _ h5)
      · rw [if_neg z1n0]
        exact rR.mono (rK.c8.tr rK.c8) (Int.le_refl _) (fin _ (rV_6 (rV_5 h3 (by decide) (by decide)) (by decide) (Or.inl (by decide))))
    · rw [if_neg z1n0]
      exact rR.mono (rK.c8.tr rK.c8) (Int.le_refl _) (fin _ (rV_6 (rV_5 h2 (by decide) (by decide)) (by decide) (Or.inr rfl)))
  · rw [if_neg z1n0]
    exact rR.mono (rK.c8.tr rK.c8) (Int.le_refl _) (fin _ (rV_6 (rV_5 h1 (by decide) (by decide)) (by decide) (Or.inr rfl)))
def K3_readEscaped (S : CSt) : CR := (if ((K4_at 2 (S.1 8 3) S)) < 49 then (if ((K_ix2 ((K4_at 2 (S.1 8 3) S)))) < 0 then (if ((K4_at 2 (S.1 8 3) S)) = 47 then (gBd (K3_addOneSign 0 (K5_add ((K4_at 2 (S.1 8 3) S)) (ci S 8 3 ((S.1 8 3) + 1)))) (fun v_17 S_18 => (0, v_17, S_18))) else (if ((K_ix1 ((K4_at 2 (S.1 8 3) S)))) < 0 then (1, 0, (ci S 8 3 ((S.1 8 3) + 1))) else (gBd (K3_addOneSign 0 (K5_add ((K4_at 2 (S.1 8 3) S)) (ci S 8 3 ((S.1 8 3) + 1)))) (fun v_28 S_29 => (0, v_28, S_29))))) else (gBd (K3_addOneSign 0 (K5_addKind ((K4_at 2 (S.1 8 3) S)) (ci S 8 3 ((S.1 8 3) + 1)))) (fun v_35 S_36 => (0, v_35, S_36)))) else (if 57 < ((K4_at 2 (S.1 8 3) S)) then (if ((K_ix2 ((K4_at 2 (S.1 8 3) S)))) < 0 then (if ((K4_at 2 (S.1 8 3) S)) = 47 then (gBd (K3_addOneSign 0 (K5_add ((K4_at 2 (S.1 8 3) S)) (ci S 8 3 ((S.1 8 3) + 1)))) (fun v_48 S_49 => (0, v_48, S_49))) else (if ((K_ix1 ((K4_at 2 (S.1 8 3) S)))) < 0 then (1, 0, (ci S 8 3 ((S.1 8 3) + 1))) else (gBd (K3_addOneSign 0 (K5_add ((K4_at 2 (S.1 8 3) S)) (ci S 8 3 ((S.1 8 3) + 1)))) (fun v_59 S_60 => (0, v_59, S_60))))) else (gBd (K3_addOneSign 0 (K5_addKind ((K4_at 2 (S.1 8 3) S)) (ci S 8 3 ((S.1 8 3) + 1)))) (fun v_66 S_67 => (0, v_66, S_67)))) else (gBd (K2_add 4 (-1) (((K4_at 2 (S.1 8 3) S)) - 48) (ci (ci S 8 3 ((S.1 8 3) + 1)) 8 4 ((if (S.1 8 4) < (((K4_at 2 (S.1 8 3) S)) - 48) then ((K4_at 2 (S.1 8 3) S)) - 48 else S.1 8 4 : Int)))) (fun v_70 S_71 => (0, 1, S_71)))))
set_option maxHeartbeats 1000000 in
set_option maxRecDepth 100000 in
theorem cX3_readEscaped_ok (l : Launch) (hl0 : l.stackTraces = false) (D : va_G) (cy : Nat → ClassId) (q : Nat → Nat) (V : Nat × (Nat → Nat)) (n0 x y b : Nat) (S : CSt) (hF : cFx 7 b S) (hV : rV S) : gMi l D cy q V n0 x y "java/lang/IllegalArgumentException" yX3_readEscaped (.code yX3_readEscaped cX3_readEscaped 3 (some .int) :: TBC) 9 156 S [.ref (q 8)] (K3_readEscaped S) := by
  refine g_of (cc := cX3_readEscaped) (maxL := 3) (ret := (some .int)) (by decide) rfl rfl (Nat.le_of_ble_eq_true rfl) ?_
  intro p e s m args below meth c ls B hK hG hM hl
  generalize gA (cq q x y) n0 = A at hG hM ⊢
  have hR : (headSpec (.code yX3_readEscaped cX3_readEscaped 3 (some .int) :: TBC) (gRm 9 156 S)).room.cells = (gK - gl S) + 1 ∧ (headSpec (.code yX3_readEscaped cX3_readEscaped 3 (some .int) :: TBC) (gRm 9 156 S)).room.slots = 2 * (gK - gl S) + 6 := ⟨rfl, rfl⟩
  have hl : lv_has ls 3 [(0, .ref (q 8))] := hl
  obtain ⟨hP, hLa, hLb, hcs, ha0, ha1, hga, hgb, hna, hnb, hma, hmb, hzz⟩ := id hV
  refine lv_aload_n B.1 B.2.1 dX3_readEscaped_0 rfl (lv_at hl 0 rfl) ?_
  refine c_getr (q := (cq q x y)) (r := 2) B (iC3 _) hK hM 8 0 3 (by decide) rfl rfl (by decide) (by decide) rfl rfl rfl (cFx_r hF 8 0) (List.mem_cons_of_mem _ wC_fRX3_18) dX3_readEscaped_1 ?_
  refine lv_aload_n B.1 B.2.1 dX3_readEscaped_4 rfl (lv_at hl 0 rfl) ?_
  refine c_geti (q := (cq q x y)) (x := S.1 8 3) B (iC3 _) hK hM 8 3 3 (by decide) rfl rfl (by decide) (by decide) rfl rfl (by decide) rfl (List.mem_cons_of_mem _ wC_fRX3_32) dX3_readEscaped_5 ?_
  refine c_calli (q := (cq q x y)) (As := [.int (zI (S.1 8 3))]) (rest := []) B hK hM 2 (by decide) (by decide) rfl (cX4_at_ok l D cy (cq q x y) 7 b S hF 2 (by decide) (S.1 8 3) (by show 0 ≤ (S.1 2 1); omega) (by show (S.1 2 1) ≤ 100000; omega) (by show -10000000 ≤ (S.1 8 3); omega) (by show (S.1 8 3) ≤ 10000000; omega) (hcs_of hcs)) (cwC 1 B wC_mRX3_70 wC_im_yX4_at wC_sl_yX4_at wC_in_RX4 wC_cd_yX4_at rfl rfl (by decide +kernel) ⟨Nat.le_of_ble_eq_true rfl, Nat.le_of_ble_eq_true rfl⟩) rfl hl.1 rfl (Nat.le_of_ble_eq_true rfl) dX3_readEscaped_8 ⟨g_rc hR (Nat.le_refl _) (cFx_gl (S := S) hF), g_rs hR (Nat.le_refl _) (cFx_gl (S := S) hF)⟩ (fun z_4 S_3 H locs hp_2 hM => ?_)
  obtain ⟨hp_2, he_hp_2⟩ := hp_2
  have he_hp_2 := he_hp_2.symm
  subst he_hp_2
  have hp_2 : (K4_at 2 (S.1 8 3) S) = z_4 := hp_2.symm
  subst hp_2
  have f_5 := K4_at_b2 (S := S) hcs (S.1 8 3)
  refine lv_istore_n (lv' := [(1, .int (zI ((K4_at 2 (S.1 8 3) S)))), (0, .ref (q 8))]) B.1 B.2.1 dX3_readEscaped_11 rfl hl (by decide) rfl (fun ls hl => ?_)
  refine lv_aload_n B.1 B.2.1 dX3_readEscaped_12 rfl (lv_at hl 1 rfl) ?_
  refine lv_dup B.1 B.2.1 dX3_readEscaped_13 rfl ?_
  refine c_geti (q := (cq q x y)) (x := S.1 8 3) B (iC3 _) hK hM 8 3 3 (by decide) rfl rfl (by decide) (by decide) rfl rfl (by decide) rfl (List.mem_cons_of_mem _ wC_fRX3_32) dX3_readEscaped_14 ?_
  refine z_iconst B.1 B.2.1 dX3_readEscaped_17 ?_
  refine z_iadd (x := (S.1 8 3) + 1) B.1 B.2.1 rfl dX3_readEscaped_18 ?_
  refine c_puti (q := (cq q x y)) B (iC3 _) tyX3 tyX3_ok nmX3 hK hM 8 3 3 (by decide) rfl rfl (by decide) (by decide) rfl rfl rfl (by decide +kernel) (by decide) (List.mem_cons_of_mem _ wC_fRX3_32) dX3_readEscaped_19 (fun H locs hM => ?_)
  have hP : pB 7 (ci S 8 3 ((S.1 8 3) + 1)) := pB_ci (by decide) (by decide) hP
  refine lv_iload_n B.1 B.2.1 dX3_readEscaped_22 rfl (lv_at hl 0 rfl) ?_
  refine z_bipush B.1 B.2.1 (by decide) dX3_readEscaped_23 ?_
  refine z_icmp_lt (tgt := 64) B.1 B.2.1 (zr_of (by omega) (by omega)) (zr_of (by decide) (by decide)) dX3_readEscaped_25 (by decide) (fun c_6 => ?_) (fun c_6 => ?_)
  · --
    refine va_ldcS B.1 B.2.1 B.2.2.2.1 (hG.1.1 16 (by decide)) dX3_readEscaped_64 ?_
    refine lv_iload_n B.1 B.2.1 dX3_readEscaped_66 rfl (lv_at hl 0 rfl) ?_
    refine j_callv (As := [.int (zI ((K4_at 2 (S.1 8 3) S)))]) (rest := []) B (j_env2 hG hM) (cJ0_indexOf_0f7a4_ok l V.1 (V.2 16) (V.2 27) 6 sB2 ((K4_at 2 (S.1 8 3) S)) (by omega) (by omega) (by decide) (by decide)) (cwC 1 B wC_mRX3_162 wC_im_yJ0_indexOf_0f7a4 wC_sl_yJ0_indexOf_0f7a4 wC_in_RJ0 wC_cd_yJ0_indexOf_0f7a4 rfl rfl (by decide +kernel) ⟨Nat.le_of_ble_eq_true rfl, Nat.le_of_ble_eq_true rfl⟩) rfl hl.1 rfl (Nat.le_of_ble_eq_true rfl) dX3_readEscaped_67 ⟨g_rc hR (Nat.le_refl _) (cFx_gl (S := (ci S 8 3 ((S.1 8 3) + 1))) hF), g_rs hR (Nat.le_refl _) (cFx_gl (S := (ci S 8 3 ((S.1 8 3) + 1))) hF)⟩ (fun z_7 hz_8 => ?_)
    have hz_8 : (K_ix2 ((K4_at 2 (S.1 8 3) S))) = z_7 := hz_8.symm
    subst hz_8
    have f_9 := K_ix2_bd ((K4_at 2 (S.1 8 3) S))
    refine z_if_lt (tgt := 84) B.1 B.2.1 (zr_of (by omega) (by omega)) dX3_readEscaped_70 (by decide) (fun c_10 => ?_) (fun c_10 => ?_)
    · --
      refine lv_iload_n B.1 B.2.1 dX3_readEscaped_84 rfl (lv_at hl 0 rfl) ?_
      refine z_bipush B.1 B.2.1 (by decide) dX3_readEscaped_85 ?_
      refine z_icmp_eq (tgt := 99) B.1 B.2.1 (zr_of (by omega) (by omega)) (zr_of (by decide) (by decide)) dX3_readEscaped_87 (by decide) (fun c_11 => ?_) (fun c_11 => ?_)
      · --
        refine lv_aload_n B.1 B.2.1 dX3_readEscaped_99 rfl (lv_at hl 1 rfl) ?_
        refine c_getr (q := (cq q x y)) (r := 9) B (iC3 _) hK hM 8 1 3 (by decide) rfl rfl (by decide) (by decide) rfl rfl rfl (cFx_r hF 8 1) (List.mem_cons_of_mem _ wC_fRX3_12) dX3_readEscaped_100 ?_
        refine lv_iload_n B.1 B.2.1 dX3_readEscaped_103 rfl (lv_at hl 0 rfl) ?_
        refine c_callv (q := (cq q x y)) (As := [.int (zI ((K4_at 2 (S.1 8 3) S)))]) (rest := []) B hK hM 9 (by decide) (by decide) rfl (cX5_add_ok l D cy (cq q x y) 7 b (ci S 8 3 ((S.1 8 3) + 1)) hF  ((K4_at 2 (S.1 8 3) S)) (by show 0 ≤ ((K4_at 2 (S.1 8 3) S)); omega) (by show ((K4_at 2 (S.1 8 3) S)) < 65536; omega)) (cwC 1 B wC_mRX3_167 wC_im_yX5_add wC_sl_yX5_add wC_in_RX5 wC_cd_yX5_add rfl rfl (by decide +kernel) ⟨Nat.le_of_ble_eq_true rfl, Nat.le_of_ble_eq_true rfl⟩) rfl hl.1 rfl (Nat.le_of_ble_eq_true rfl) dX3_readEscaped_104 ⟨g_rc hR (Nat.le_refl _) (cFx_gl (S := (ci S 8 3 ((S.1 8 3) + 1))) hF), g_rs hR (Nat.le_refl _) (cFx_gl (S := (ci S 8 3 ((S.1 8 3) + 1))) hF)⟩ (fun S_14 H locs hp_13 hM => ?_)
        have hp_13 := hp_13.symm
        subst hp_13
        have hg : gl S ≤ gl (K5_add ((K4_at 2 (S.1 8 3) S)) (ci S 8 3 ((S.1 8 3) + 1))) := Nat.le_trans (Nat.le_refl _) (gl_of (S := (ci S 8 3 ((S.1 8 3) + 1))) (S' := (K5_add ((K4_at 2 (S.1 8 3) S)) (ci S 8 3 ((S.1 8 3) + 1)))) K5_add_22)
        refine W.widen (k := gl (K5_add ((K4_at 2 (S.1 8 3) S)) (ci S 8 3 ((S.1 8 3) + 1))) - gl S) (n := 2 * (gl (K5_add ((K4_at 2 (S.1 8 3) S)) (ci S 8 3 ((S.1 8 3) + 1))) - gl S)) (Nat.sub_le_sub_right (gl_of (S := (ci S 8 3 ((S.1 8 3) + 1))) (S' := (K5_add ((K4_at 2 (S.1 8 3) S)) (ci S 8 3 ((S.1 8 3) + 1)))) K5_add_22) _) (Nat.mul_le_mul_left 2 (Nat.sub_le_sub_right (gl_of (S := (ci S 8 3 ((S.1 8 3) + 1))) (S' := (K5_add ((K4_at 2 (S.1 8 3) S)) (ci S 8 3 ((S.1 8 3) + 1)))) K5_add_22) _)) ?_
        have hF : cFx 7 b (K5_add ((K4_at 2 (S.1 8 3) S)) (ci S 8 3 ((S.1 8 3) + 1))) := cFx_of K5_add_22 hF
        have hP : pB 7 (K5_add ((K4_at 2 (S.1 8 3) S)) (ci S 8 3 ((S.1 8 3) + 1))) := pB_of (congrFun K5_add_1 _) (fun j hj => congrFun K5_add_1 _) hP
        refine lv_goto (tgt := 120) B.1 B.2.1 dX3_readEscaped_107 (by decide) ?_
        refine lv_aload_n B.1 B.2.1 dX3_readEscaped_120 rfl (lv_at hl 1 rfl) ?_
        refine z_iconst B.1 B.2.1 dX3_readEscaped_121 ?_
        refine g_calli (E := "java/lang/IllegalArgumentException") (As := [.int (zI 0)]) (rest := []) B hK hG hM 8 (by decide) (by decide) rfl (cX3_addOneSign_ok l hl0 D cy q V n0 x y b (K5_add ((K4_at 2 (S.1 8 3) S)) (ci S 8 3 ((S.1 8 3) + 1))) hF  0 hP (by show 0 = 0 ∨ 0 = 1; omega)) (cwC 1 B wC_mRX3_156 wC_im_yX3_addOneSign wC_sl_yX3_addOneSign wC_in_RX3 wC_cd_yX3_addOneSign rfl rfl (by decide +kernel) ⟨Nat.le_of_ble_eq_true rfl, Nat.le_of_ble_eq_true rfl⟩) rfl hl.1 rfl (Nat.le_of_ble_eq_true rfl) dX3_readEscaped_122 hR hg (cFx_gl hF) (gl_of (K3_addOneSign_R0 (tu := 0) (S := (K5_add ((K4_at 2 (S.1 8 3) S)) (ci S 8 3 ((S.1 8 3) + 1)))) hP).1.1) (fun c_16 => (by unfold K3_readEscaped; exact ((if_pos c_6).trans ((if_pos c_10).trans ((if_pos c_11).trans (if_neg c_16)))))) (fun x y H locs c_16 hM => ?_)
        have hg : gl S ≤ gl (K3_addOneSign 0 (K5_add ((K4_at 2 (S.1 8 3) S)) (ci S 8 3 ((S.1 8 3) + 1)))).2.2 := Nat.le_trans hg (gl_of (K3_addOneSign_R0 (tu := 0) (S := (K5_add ((K4_at 2 (S.1 8 3) S)) (ci S 8 3 ((S.1 8 3) + 1)))) hP).1.1)
        have k_15 := (K3_addOneSign_R0 (tu := 0) (S := (K5_add ((K4_at 2 (S.1 8 3) S)) (ci S 8 3 ((S.1 8 3) + 1)))) hP).1
        have hF : cFx 7 b (K3_addOneSign 0 (K5_add ((K4_at 2 (S.1 8 3) S)) (ci S 8 3 ((S.1 8 3) + 1)))).2.2 := cFx_of k_15.1 hF
        generalize hS_18 : (K3_addOneSign 0 (K5_add ((K4_at 2 (S.1 8 3) S)) (ci S 8 3 ((S.1 8 3) + 1)))).2.2 = S_18 at *
        generalize hv_17 : (K3_addOneSign 0 (K5_add ((K4_at 2 (S.1 8 3) S)) (ci S 8 3 ((S.1 8 3) + 1)))).2.1 = v_17 at *
        exact g_reti (S := S_18) B hM (by subst hS_18; subst hv_17; unfold K3_readEscaped; exact ((if_pos c_6).trans ((if_pos c_10).trans ((if_pos c_11).trans (if_pos c_16))))) dX3_readEscaped_125
      · --
        refine va_ldcS B.1 B.2.1 B.2.2.2.1 (hG.1.1 15 (by decide)) dX3_readEscaped_90 ?_
        refine lv_iload_n B.1 B.2.1 dX3_readEscaped_92 rfl (lv_at hl 0 rfl) ?_
        refine j_callv (As := [.int (zI ((K4_at 2 (S.1 8 3) S)))]) (rest := []) B (j_env1 hG hM) (cJ0_indexOf_0f7a4_ok l V.1 (V.2 15) (V.2 26) 14 sB1 ((K4_at 2 (S.1 8 3) S)) (by omega) (by omega) (by decide) (by decide)) (cwC 1 B wC_mRX3_162 wC_im_yJ0_indexOf_0f7a4 wC_sl_yJ0_indexOf_0f7a4 wC_in_RJ0 wC_cd_yJ0_indexOf_0f7a4 rfl rfl (by decide +kernel) ⟨Nat.le_of_ble_eq_true rfl, Nat.le_of_ble_eq_true rfl⟩) rfl hl.1 rfl (Nat.le_of_ble_eq_true rfl) dX3_readEscaped_93 ⟨g_rc hR (Nat.le_refl _) (cFx_gl (S := (ci S 8 3 ((S.1 8 3) + 1))) hF), g_rs hR (Nat.le_refl _) (cFx_gl (S := (ci S 8 3 ((S.1 8 3) + 1))) hF)⟩ (fun z_19 hz_20 => ?_)
        have hz_20 : (K_ix1 ((K4_at 2 (S.1 8 3) S))) = z_19 := hz_20.symm
        subst hz_20
        have f_21 := K_ix1_bd ((K4_at 2 (S.1 8 3) S))
        refine z_if_lt (tgt := 110) B.1 B.2.1 (zr_of (by omega) (by omega)) dX3_readEscaped_96 (by decide) (fun c_22 => ?_) (fun c_22 => ?_)
        · --
          exact g_throw (S := (ci S 8 3 ((S.1 8 3) + 1))) (E := "java/lang/IllegalArgumentException") (ik := 49) (is := 194) (ic := 53) 17 (by decide) hl0 B hG hM rfl sX_java_lang_IllegalArgumentException (by decide +kernel) (List.mem_cons_of_mem _ wC_cRX3_49) (List.mem_cons_of_mem _ wC_in__java_lang_IllegalArgumentException_) (tC_RX3_53 _) tN_RX3_53 hl.1 (Nat.le_of_ble_eq_true rfl) hR (Nat.le_of_ble_eq_true rfl) (Nat.le_of_ble_eq_true rfl) (Nat.le_refl _) (cFx_gl hF) (tO_RX3_53 _) dX3_readEscaped_110 dX3_readEscaped_113 dX3_readEscaped_114 dX3_readEscaped_116 dX3_readEscaped_119 (by unfold K3_readEscaped; exact ((if_pos c_6).trans ((if_pos c_10).trans ((if_neg c_11).trans (if_pos c_22)))))
        · --
          refine lv_aload_n B.1 B.2.1 dX3_readEscaped_99 rfl (lv_at hl 1 rfl) ?_
          refine c_getr (q := (cq q x y)) (r := 9) B (iC3 _) hK hM 8 1 3 (by decide) rfl rfl (by decide) (by decide) rfl rfl rfl (cFx_r hF 8 1) (List.mem_cons_of_mem _ wC_fRX3_12) dX3_readEscaped_100 ?_
          refine lv_iload_n B.1 B.2.1 dX3_readEscaped_103 rfl (lv_at hl 0 rfl) ?_
          refine c_callv (q := (cq q x y)) (As := [.int (zI ((K4_at 2 (S.1 8 3) S)))]) (rest := []) B hK hM 9 (by decide) (by decide) rfl (cX5_add_ok l D cy (cq q x y) 7 b (ci S 8 3 ((S.1 8 3) + 1)) hF  ((K4_at 2 (S.1 8 3) S)) (by show 0 ≤ ((K4_at 2 (S.1 8 3) S)); omega) (by show ((K4_at 2 (S.1 8 3) S)) < 65536; omega)) (cwC 1 B wC_mRX3_167 wC_im_yX5_add wC_sl_yX5_add wC_in_RX5 wC_cd_yX5_add rfl rfl (by decide +kernel) ⟨Nat.le_of_ble_eq_true rfl, Nat.le_of_ble_eq_true rfl⟩) rfl hl.1 rfl (Nat.le_of_ble_eq_true rfl) dX3_readEscaped_104 ⟨g_rc hR (Nat.le_refl _) (cFx_gl (S := (ci S 8 3 ((S.1 8 3) + 1))) hF), g_rs hR (Nat.le_refl _) (cFx_gl (S := (ci S 8 3 ((S.1 8 3) + 1))) hF)⟩ (fun S_25 H locs hp_24 hM => ?_)
          have hp_24 := hp_24.symm
          subst hp_24
          have hg : gl S ≤ gl (K5_add ((K4_at 2 (S.1 8 3) S)) (ci S 8 3 ((S.1 8 3) + 1))) := Nat.le_trans (Nat.le_refl _) (gl_of (S := (ci S 8 3 ((S.1 8 3) + 1))) (S' := (K5_add ((K4_at 2 (S.1 8 3) S)) (ci S 8 3 ((S.1 8 3) + 1)))) K5_add_22)
          refine W.widen (k := gl (K5_add ((K4_at 2 (S.1 8 3) S)) (ci S 8 3 ((S.1 8 3) + 1))) - gl S) (n := 2 * (gl (K5_add ((K4_at 2 (S.1 8 3) S)) (ci S 8 3 ((S.1 8 3) + 1))) - gl S)) (Nat.sub_le_sub_right (gl_of (S := (ci S 8 3 ((S.1 8 3) + 1))) (S' := (K5_add ((K4_at 2 (S.1 8 3) S)) (ci S 8 3 ((S.1 8 3) + 1)))) K5_add_22) _) (Nat.mul_le_mul_left 2 (Nat.sub_le_sub_right (gl_of (S := (ci S 8 3 ((S.1 8 3) + 1))) (S' := (K5_add ((K4_at 2 (S.1 8 3) S)) (ci S 8 3 ((S.1 8 3) + 1)))) K5_add_22) _)) ?_
          have hF : cFx 7 b (K5_add ((K4_at 2 (S.1 8 3) S)) (ci S 8 3 ((S.1 8 3) + 1))) := cFx_of K5_add_22 hF
          have hP : pB 7 (K5_add ((K4_at 2 (S.1 8 3) S)) (ci S 8 3 ((S.1 8 3) + 1))) := pB_of (congrFun K5_add_1 _) (fun j hj => congrFun K5_add_1 _) hP
          refine lv_goto (tgt := 120) B.1 B.2.1 dX3_readEscaped_107 (by decide) ?_
          refine lv_aload_n B.1 B.2.1 dX3_readEscaped_120 rfl (lv_at hl 1 rfl) ?_
          refine z_iconst B.1 B.2.1 dX3_readEscaped_121 ?_
          refine g_calli (E := "java/lang/IllegalArgumentException") (As := [.int (zI 0)]) (rest := []) B hK hG hM 8 (by decide) (by decide) rfl (cX3_addOneSign_ok l hl0 D cy q V n0 x y b (K5_add ((K4_at 2 (S.1 8 3) S)) (ci S 8 3 ((S.1 8 3) + 1))) hF  0 hP (by show 0 = 0 ∨ 0 = 1; omega)) (cwC 1 B wC_mRX3_156 wC_im_yX3_addOneSign wC_sl_yX3_addOneSign wC_in_RX3 wC_cd_yX3_addOneSign rfl rfl (by decide +kernel) ⟨Nat.le_of_ble_eq_true rfl, Nat.le_of_ble_eq_true rfl⟩) rfl hl.1 rfl (Nat.le_of_ble_eq_true rfl) dX3_readEscaped_122 hR hg (cFx_gl hF) (gl_of (K3_addOneSign_R0 (tu := 0) (S := (K5_add ((K4_at 2 (S.1 8 3) S)) (ci S 8 3 ((S.1 8 3) + 1)))) hP).1.1) (fun c_27 => (by unfold K3_readEscaped; exact ((if_pos c_6).trans ((if_pos c_10).trans ((if_neg c_11).trans ((if_neg c_22).trans (if_neg c_27))))))) (fun x y H locs c_27 hM => ?_)
          have hg : gl S ≤ gl (K3_addOneSign 0 (K5_add ((K4_at 2 (S.1 8 3) S)) (ci S 8 3 ((S.1 8 3) + 1)))).2.2 := Nat.le_trans hg (gl_of (K3_addOneSign_R0 (tu := 0) (S := (K5_add ((K4_at 2 (S.1 8 3) S)) (ci S 8 3 ((S.1 8 3) + 1)))) hP).1.1)
          have k_26 := (K3_addOneSign_R0 (tu := 0) (S := (K5_add ((K4_at 2 (S.1 8 3) S)) (ci S 8 3 ((S.1 8 3) + 1)))) hP).1
          have hF : cFx 7 b (K3_addOneSign 0 (K5_add ((K4_at 2 (S.1 8 3) S)) (ci S 8 3 ((S.1 8 3) + 1)))).2.2 := cFx_of k_26.1 hF
          generalize hS_29 : (K3_addOneSign 0 (K5_add ((K4_at 2 (S.1 8 3) S)) (ci S 8 3 ((S.1 8 3) + 1)))).2.2 = S_29 at *
          generalize hv_28 : (K3_addOneSign 0 (K5_add ((K4_at 2 (S.1 8 3) S)) (ci S 8 3 ((S.1 8 3) + 1)))).2.1 = v_28 at *
          exact g_reti (S := S_29) B hM (by subst hS_29; subst hv_28; unfold K3_readEscaped; exact ((if_pos c_6).trans ((if_pos c_10).trans ((if_neg c_11).trans ((if_neg c_22).trans (if_pos c_27)))))) dX3_readEscaped_125
    · --
      refine lv_aload_n B.1 B.2.1 dX3_readEscaped_73 rfl (lv_at hl 1 rfl) ?_
      refine c_getr (q := (cq q x y)) (r := 9) B (iC3 _) hK hM 8 1 3 (by decide) rfl rfl (by decide) (by decide) rfl rfl rfl (cFx_r hF 8 1) (List.mem_cons_of_mem _ wC_fRX3_12) dX3_readEscaped_74 ?_
      refine lv_iload_n B.1 B.2.1 dX3_readEscaped_77 rfl (lv_at hl 0 rfl) ?_
      refine c_callv (q := (cq q x y)) (As := [.int (zI ((K4_at 2 (S.1 8 3) S)))]) (rest := []) B hK hM 9 (by decide) (by decide) rfl (cX5_addKind_ok l D cy (cq q x y) 7 b (ci S 8 3 ((S.1 8 3) + 1)) hF  ((K4_at 2 (S.1 8 3) S)) (by show 0 ≤ ((K4_at 2 (S.1 8 3) S)); omega) (by show ((K4_at 2 (S.1 8 3) S)) < 65536; omega)) (cwC 1 B wC_mRX3_190 wC_im_yX5_addKind wC_sl_yX5_addKind wC_in_RX5 wC_cd_yX5_addKind rfl rfl (by decide +kernel) ⟨Nat.le_of_ble_eq_true rfl, Nat.le_of_ble_eq_true rfl⟩) rfl hl.1 rfl (Nat.le_of_ble_eq_true rfl) dX3_readEscaped_78 ⟨g_rc hR (Nat.le_refl _) (cFx_gl (S := (ci S 8 3 ((S.1 8 3) + 1))) hF), g_rs hR (Nat.le_refl _) (cFx_gl (S := (ci S 8 3 ((S.1 8 3) + 1))) hF)⟩ (fun S_32 H locs hp_31 hM => ?_)
      have hp_31 := hp_31.symm
      subst hp_31
      have hg : gl S ≤ gl (K5_addKind ((K4_at 2 (S.1 8 3) S)) (ci S 8 3 ((S.1 8 3) + 1))) := Nat.le_trans (Nat.le_refl _) (gl_of (S := (ci S 8 3 ((S.1 8 3) + 1))) (S' := (K5_addKind ((K4_at 2 (S.1 8 3) S)) (ci S 8 3 ((S.1 8 3) + 1)))) K5_addKind_22)
      refine W.widen (k := gl (K5_addKind ((K4_at 2 (S.1 8 3) S)) (ci S 8 3 ((S.1 8 3) + 1))) - gl S) (n := 2 * (gl (K5_addKind ((K4_at 2 (S.1 8 3) S)) (ci S 8 3 ((S.1 8 3) + 1))) - gl S)) (Nat.sub_le_sub_right (gl_of (S := (ci S 8 3 ((S.1 8 3) + 1))) (S' := (K5_addKind ((K4_at 2 (S.1 8 3) S)) (ci S 8 3 ((S.1 8 3) + 1)))) K5_addKind_22) _) (Nat.mul_le_mul_left 2 (Nat.sub_le_sub_right (gl_of (S := (ci S 8 3 ((S.1 8 3) + 1))) (S' := (K5_addKind ((K4_at 2 (S.1 8 3) S)) (ci S 8 3 ((S.1 8 3) + 1)))) K5_addKind_22) _)) ?_
      have hF : cFx 7 b (K5_addKind ((K4_at 2 (S.1 8 3) S)) (ci S 8 3 ((S.1 8 3) + 1))) := cFx_of K5_addKind_22 hF
      have hP : pB 7 (K5_addKind ((K4_at 2 (S.1 8 3) S)) (ci S 8 3 ((S.1 8 3) + 1))) := pB_of (congrFun K5_addKind_1 _) (fun j hj => congrFun K5_addKind_1 _) hP
      refine lv_goto (tgt := 120) B.1 B.2.1 dX3_readEscaped_81 (by decide) ?_
      refine lv_aload_n B.1 B.2.1 dX3_readEscaped_120 rfl (lv_at hl 1 rfl) ?_
      refine z_iconst B.1 B.2.1 dX3_readEscaped_121 ?_
      refine g_calli (E := "java/lang/IllegalArgumentException") (As := [.int (zI 0)]) (rest := []) B hK hG hM 8 (by decide) (by decide) rfl (cX3_addOneSign_ok l hl0 D cy q V n0 x y b (K5_addKind ((K4_at 2 (S.1 8 3) S)) (ci S 8 3 ((S.1 8 3) + 1))) hF  0 hP (by show 0 = 0 ∨ 0 = 1; omega)) (cwC 1 B wC_mRX3_156 wC_im_yX3_addOneSign wC_sl_yX3_addOneSign wC_in_RX3 wC_cd_yX3_addOneSign rfl rfl (by decide +kernel) ⟨Nat.le_of_ble_eq_true rfl, Nat.le_of_ble_eq_true rfl⟩) rfl hl.1 rfl (Nat.le_of_ble_eq_true rfl) dX3_readEscaped_122 hR hg (cFx_gl hF) (gl_of (K3_addOneSign_R0 (tu := 0) (S := (K5_addKind ((K4_at 2 (S.1 8 3) S)) (ci S 8 3 ((S.1 8 3) + 1)))) hP).1.1) (fun c_34 => (by unfold K3_readEscaped; exact ((if_pos c_6).trans ((if_neg c_10).trans (if_neg c_34))))) (fun x y H locs c_34 hM => ?_)
      have hg : gl S ≤ gl (K3_addOneSign 0 (K5_addKind ((K4_at 2 (S.1 8 3) S)) (ci S 8 3 ((S.1 8 3) + 1)))).2.2 := Nat.le_trans hg (gl_of (K3_addOneSign_R0 (tu := 0) (S := (K5_addKind ((K4_at 2 (S.1 8 3) S)) (ci S 8 3 ((S.1 8 3) + 1)))) hP).1.1)
      have k_33 := (K3_addOneSign_R0 (tu := 0) (S := (K5_addKind ((K4_at 2 (S.1 8 3) S)) (ci S 8 3 ((S.1 8 3) + 1)))) hP).1
      have hF : cFx 7 b (K3_addOneSign 0 (K5_addKind ((K4_at 2 (S.1 8 3) S)) (ci S 8 3 ((S.1 8 3) + 1)))).2.2 := cFx_of k_33.1 hF
      generalize hS_36 : (K3_addOneSign 0 (K5_addKind ((K4_at 2 (S.1 8 3) S)) (ci S 8 3 ((S.1 8 3) + 1)))).2.2 = S_36 at *
      generalize hv_35 : (K3_addOneSign 0 (K5_addKind ((K4_at 2 (S.1 8 3) S)) (ci S 8 3 ((S.1 8 3) + 1)))).2.1 = v_35 at *
      exact g_reti (S := S_36) B hM (by subst hS_36; subst hv_35; unfold K3_readEscaped; exact ((if_pos c_6).trans ((if_neg c_10).trans (if_pos c_34)))) dX3_readEscaped_125
  · --
    refine lv_iload_n B.1 B.2.1 dX3_readEscaped_28 rfl (lv_at hl 0 rfl) ?_
    refine z_bipush B.1 B.2.1 (by decide) dX3_readEscaped_29 ?_
    refine z_icmp_gt (tgt := 64) B.1 B.2.1 (zr_of (by omega) (by omega)) (zr_of (by decide) (by decide)) dX3_readEscaped_31 (by decide) (fun c_37 => ?_) (fun c_37 => ?_)
    · --
      refine va_ldcS B.1 B.2.1 B.2.2.2.1 (hG.1.1 16 (by decide)) dX3_readEscaped_64 ?_
      refine lv_iload_n B.1 B.2.1 dX3_readEscaped_66 rfl (lv_at hl 0 rfl) ?_
      refine j_callv (As := [.int (zI ((K4_at 2 (S.1 8 3) S)))]) (rest := []) B (j_env2 hG hM) (cJ0_indexOf_0f7a4_ok l V.1 (V.2 16) (V.2 27) 6 sB2 ((K4_at 2 (S.1 8 3) S)) (by omega) (by omega) (by decide) (by decide)) (cwC 1 B wC_mRX3_162 wC_im_yJ0_indexOf_0f7a4 wC_sl_yJ0_indexOf_0f7a4 wC_in_RJ0 wC_cd_yJ0_indexOf_0f7a4 rfl rfl (by decide +kernel) ⟨Nat.le_of_ble_eq_true rfl, Nat.le_of_ble_eq_true rfl⟩) rfl hl.1 rfl (Nat.le_of_ble_eq_true rfl) dX3_readEscaped_67 ⟨g_rc hR (Nat.le_refl _) (cFx_gl (S := (ci S 8 3 ((S.1 8 3) + 1))) hF), g_rs hR (Nat.le_refl _) (cFx_gl (S := (ci S 8 3 ((S.1 8 3) + 1))) hF)⟩ (fun z_38 hz_39 => ?_)
      have hz_39 : (K_ix2 ((K4_at 2 (S.1 8 3) S))) = z_38 := hz_39.symm
      subst hz_39
      have f_40 := K_ix2_bd ((K4_at 2 (S.1 8 3) S))
      refine z_if_lt (tgt := 84) B.1 B.2.1 (zr_of (by omega) (by omega)) dX3_readEscaped_70 (by decide) (fun c_41 => ?_) (fun c_41 => ?_)
      · --
        refine lv_iload_n B.1 B.2.1 dX3_readEscaped_84 rfl (lv_at hl 0 rfl) ?_
        refine z_bipush B.1 B.2.1 (by decide) dX3_readEscaped_85 ?_
        refine z_icmp_eq (tgt := 99) B.1 B.2.1 (zr_of (by omega) (by omega)) (zr_of (by decide) (by decide)) dX3_readEscaped_87 (by decide) (fun c_42 => ?_) (fun c_42 => ?_)
        · --
          refine lv_aload_n B.1 B.2.1 dX3_readEscaped_99 rfl (lv_at hl 1 rfl) ?_
          refine c_getr (q := (cq q x y)) (r := 9) B (iC3 _) hK hM 8 1 3 (by decide) rfl rfl (by decide) (by decide) rfl rfl rfl (cFx_r hF 8 1) (List.mem_cons_of_mem _ wC_fRX3_12) dX3_readEscaped_100 ?_
          refine lv_iload_n B.1 B.2.1 dX3_readEscaped_103 rfl (lv_at hl 0 rfl) ?_
          refine c_callv (q := (cq q x y)) (As := [.int (zI ((K4_at 2 (S.1 8 3) S)))]) (rest := []) B hK hM 9 (by decide) (by decide) rfl (cX5_add_ok l D cy (cq q x y) 7 b (ci S 8 3 ((S.1 8 3) + 1)) hF  ((K4_at 2 (S.1 8 3) S)) (by show 0 ≤ ((K4_at 2 (S.1 8 3) S)); omega) (by show ((K4_at 2 (S.1 8 3) S)) < 65536; omega)) (cwC 1 B wC_mRX3_167 wC_im_yX5_add wC_sl_yX5_add wC_in_RX5 wC_cd_yX5_add rfl rfl (by decide +kernel) ⟨Nat.le_of_ble_eq_true rfl, Nat.le_of_ble_eq_true rfl⟩) rfl hl.1 rfl (Nat.le_of_ble_eq_true rfl) dX3_readEscaped_104 ⟨g_rc hR (Nat.le_refl _) (cFx_gl (S := (ci S 8 3 ((S.1 8 3) + 1))) hF), g_rs hR (Nat.le_refl _) (cFx_gl (S := (ci S 8 3 ((S.1 8 3) + 1))) hF)⟩ (fun S_45 H locs hp_44 hM => ?_)
          have hp_44 := hp_44.symm
          subst hp_44
          have hg : gl S ≤ gl (K5_add ((K4_at 2 (S.1 8 3) S)) (ci S 8 3 ((S.1 8 3) + 1))) := Nat.le_trans (Nat.le_refl _) (gl_of (S := (ci S 8 3 ((S.1 8 3) + 1))) (S' := (K5_add ((K4_at 2 (S.1 8 3) S)) (ci S 8 3 ((S.1 8 3) + 1)))) K5_add_22)
          refine W.widen (k := gl (K5_add ((K4_at 2 (S.1 8 3) S)) (ci S 8 3 ((S.1 8 3) + 1))) - gl S) (n := 2 * (gl (K5_add ((K4_at 2 (S.1 8 3) S)) (ci S 8 3 ((S.1 8 3) + 1))) - gl S)) (Nat.sub_le_sub_right (gl_of (S := (ci S 8 3 ((S.1 8 3) + 1))) (S' := (K5_add ((K4_at 2 (S.1 8 3) S)) (ci S 8 3 ((S.1 8 3) + 1)))) K5_add_22) _) (Nat.mul_le_mul_left 2 (Nat.sub_le_sub_right (gl_of (S := (ci S 8 3 ((S.1 8 3) + 1))) (S' := (K5_add ((K4_at 2 (S.1 8 3) S)) (ci S 8 3 ((S.1 8 3) + 1)))) K5_add_22) _)) ?_
          have hF : cFx 7 b (K5_add ((K4_at 2 (S.1 8 3) S)) (ci S 8 3 ((S.1 8 3) + 1))) := cFx_of K5_add_22 hF
          have hP : pB 7 (K5_add ((K4_at 2 (S.1 8 3) S)) (ci S 8 3 ((S.1 8 3) + 1))) := pB_of (congrFun K5_add_1 _) (fun j hj => congrFun K5_add_1 _) hP
          refine lv_goto (tgt := 120) B.1 B.2.1 dX3_readEscaped_107 (by decide) ?_
          refine lv_aload_n B.1 B.2.1 dX3_readEscaped_120 rfl (lv_at hl 1 rfl) ?_
          refine z_iconst B.1 B.2.1 dX3_readEscaped_121 ?_
          refine g_calli (E := "java/lang/IllegalArgumentException") (As := [.int (zI 0)]) (rest := []) B hK hG hM 8 (by decide) (by decide) rfl (cX3_addOneSign_ok l hl0 D cy q V n0 x y b (K5_add ((K4_at 2 (S.1 8 3) S)) (ci S 8 3 ((S.1 8 3) + 1))) hF  0 hP (by show 0 = 0 ∨ 0 = 1; omega)) (cwC 1 B wC_mRX3_156 wC_im_yX3_addOneSign wC_sl_yX3_addOneSign wC_in_RX3 wC_cd_yX3_addOneSign rfl rfl (by decide +kernel) ⟨Nat.le_of_ble_eq_true rfl, Nat.le_of_ble_eq_true rfl⟩) rfl hl.1 rfl (Nat.le_of_ble_eq_true rfl) dX3_readEscaped_122 hR hg (cFx_gl hF) (gl_of (K3_addOneSign_R0 (tu := 0) (S := (K5_add ((K4_at 2 (S.1 8 3) S)) (ci S 8 3 ((S.1 8 3) + 1)))) hP).1.1) (fun c_47 => (by unfold K3_readEscaped; exact ((if_neg c_6).trans ((if_pos c_37).trans ((if_pos c_41).trans ((if_pos c_42).trans (if_neg c_47))))))) (fun x y H locs c_47 hM => ?_)
          have hg : gl S ≤ gl (K3_addOneSign 0 (K5_add ((K4_at 2 (S.1 8 3) S)) (ci S 8 3 ((S.1 8 3) + 1)))).2.2 := Nat.le_trans hg (gl_of (K3_addOneSign_R0 (tu := 0) (S := (K5_add ((K4_at 2 (S.1 8 3) S)) (ci S 8 3 ((S.1 8 3) + 1)))) hP).1.1)
          have k_46 := (K3_addOneSign_R0 (tu := 0) (S := (K5_add ((K4_at 2 (S.1 8 3) S)) (ci S 8 3 ((S.1 8 3) + 1)))) hP).1
          have hF : cFx 7 b (K3_addOneSign 0 (K5_add ((K4_at 2 (S.1 8 3) S)) (ci S 8 3 ((S.1 8 3) + 1)))).2.2 := cFx_of k_46.1 hF
          generalize hS_49 : (K3_addOneSign 0 (K5_add ((K4_at 2 (S.1 8 3) S)) (ci S 8 3 ((S.1 8 3) + 1)))).2.2 = S_49 at *
          generalize hv_48 : (K3_addOneSign 0 (K5_add ((K4_at 2 (S.1 8 3) S)) (ci S 8 3 ((S.1 8 3) + 1)))).2.1 = v_48 at *
          exact g_reti (S := S_49) B hM (by subst hS_49; subst hv_48; unfold K3_readEscaped; exact ((if_neg c_6).trans ((if_pos c_37).trans ((if_pos c_41).trans ((if_pos c_42).trans (if_pos c_47)))))) dX3_readEscaped_125
        · --
          refine va_ldcS B.1 B.2.1 B.2.2.2.1 (hG.1.1 15 (by decide)) dX3_readEscaped_90 ?_
          refine lv_iload_n B.1 B.2.1 dX3_readEscaped_92 rfl (lv_at hl 0 rfl) ?_
          refine j_callv (As := [.int (zI ((K4_at 2 (S.1 8 3) S)))]) (rest := []) B (j_env1 hG hM) (cJ0_indexOf_0f7a4_ok l V.1 (V.2 15) (V.2 26) 14 sB1 ((K4_at 2 (S.1 8 3) S)) (by omega) (by omega) (by decide) (by decide)) (cwC 1 B wC_mRX3_162 wC_im_yJ0_indexOf_0f7a4 wC_sl_yJ0_indexOf_0f7a4 wC_in_RJ0 wC_cd_yJ0_indexOf_0f7a4 rfl rfl (by decide +kernel) ⟨Nat.le_of_ble_eq_true rfl, Nat.le_of_ble_eq_true rfl⟩) rfl hl.1 rfl (Nat.le_of_ble_eq_true rfl) dX3_readEscaped_93 ⟨g_rc hR (Nat.le_refl _) (cFx_gl (S := (ci S 8 3 ((S.1 8 3) + 1))) hF), g_rs hR (Nat.le_refl _) (cFx_gl (S := (ci S 8 3 ((S.1 8 3) + 1))) hF)⟩ (fun z_50 hz_51 => ?_)
          have hz_51 : (K_ix1 ((K4_at 2 (S.1 8 3) S))) = z_50 := hz_51.symm
          subst hz_51
          have f_52 := K_ix1_bd ((K4_at 2 (S.1 8 3) S))
          refine z_if_lt (tgt := 110) B.1 B.2.1 (zr_of (by omega) (by omega)) dX3_readEscaped_96 (by decide) (fun c_53 => ?_) (fun c_53 => ?_)
          · --
            exact g_throw (S := (ci S 8 3 ((S.1 8 3) + 1))) (E := "java/lang/IllegalArgumentException") (ik := 49) (is := 194) (ic := 53) 17 (by decide) hl0 B hG hM rfl sX_java_lang_IllegalArgumentException (by decide +kernel) (List.mem_cons_of_mem _ wC_cRX3_49) (List.mem_cons_of_mem _ wC_in__java_lang_IllegalArgumentException_) (tC_RX3_53 _) tN_RX3_53 hl.1 (Nat.le_of_ble_eq_true rfl) hR (Nat.le_of_ble_eq_true rfl) (Nat.le_of_ble_eq_true rfl) (Nat.le_refl _) (cFx_gl hF) (tO_RX3_53 _) dX3_readEscaped_110 dX3_readEscaped_113 dX3_readEscaped_114 dX3_readEscaped_116 dX3_readEscaped_119 (by unfold K3_readEscaped; exact ((if_neg c_6).trans ((if_pos c_37).trans ((if_pos c_41).trans ((if_neg c_42).trans (if_pos c_53))))))
          · --
            refine lv_aload_n B.1 B.2.1 dX3_readEscaped_99 rfl (lv_at hl 1 rfl) ?_
            refine c_getr (q := (cq q x y)) (r := 9) B (iC3 _) hK hM 8 1 3 (by decide) rfl rfl (by decide) (by decide) rfl rfl rfl (cFx_r hF 8 1) (List.mem_cons_of_mem _ wC_fRX3_12) dX3_readEscaped_100 ?_
            refine lv_iload_n B.1 B.2.1 dX3_readEscaped_103 rfl (lv_at hl 0 rfl) ?_
            refine c_callv (q := (cq q x y)) (As := [.int (zI ((K4_at 2 (S.1 8 3) S)))]) (rest := []) B hK hM 9 (by decide) (by decide) rfl (cX5_add_ok l D cy (cq q x y) 7 b (ci S 8 3 ((S.1 8 3) + 1)) hF  ((K4_at 2 (S.1 8 3) S)) (by show 0 ≤ ((K4_at 2 (S.1 8 3) S)); omega) (by show ((K4_at 2 (S.1 8 3) S)) < 65536; omega)) (cwC 1 B wC_mRX3_167 wC_im_yX5_add wC_sl_yX5_add wC_in_RX5 wC_cd_yX5_add rfl rfl (by decide +kernel) ⟨Nat.le_of_ble_eq_true rfl, Nat.le_of_ble_eq_true rfl⟩) rfl hl.1 rfl (Nat.le_of_ble_eq_true rfl) dX3_readEscaped_104 ⟨g_rc hR (Nat.le_refl _) (cFx_gl (S := (ci S 8 3 ((S.1 8 3) + 1))) hF), g_rs hR (Nat.le_refl _) (cFx_gl (S := (ci S 8 3 ((S.1 8 3) + 1))) hF)⟩ (fun S_56 H locs hp_55 hM => ?_)
            have hp_55 := hp_55.symm
            subst hp_55
            have hg : gl S ≤ gl (K5_add ((K4_at 2 (S.1 8 3) S)) (ci S 8 3 ((S.1 8 3) + 1))) := Nat.le_trans (Nat.le_refl _) (gl_of (S := (ci S 8 3 ((S.1 8 3) + 1))) (S' := (K5_add ((K4_at 2 (S.1 8 3) S)) (ci S 8 3 ((S.1 8 3) + 1)))) K5_add_22)
            refine W.widen (k := gl (K5_add ((K4_at 2 (S.1 8 3) S)) (ci S 8 3 ((S.1 8 3) + 1))) - gl S) (n := 2 * (gl (K5_add ((K4_at 2 (S.1 8 3) S)) (ci S 8 3 ((S.1 8 3) + 1))) - gl S)) (Nat.sub_le_sub_right (gl_of (S := (ci S 8 3 ((S.1 8 3) + 1))) (S' := (K5_add ((K4_at 2 (S.1 8 3) S)) (ci S 8 3 ((S.1 8 3) + 1)))) K5_add_22) _) (Nat.mul_le_mul_left 2 (Nat.sub_le_sub_right (gl_of (S := (ci S 8 3 ((S.1 8 3) + 1))) (S' := (K5_add ((K4_at 2 (S.1 8 3) S)) (ci S 8 3 ((S.1 8 3) + 1)))) K5_add_22) _)) ?_
            have hF : cFx 7 b (K5_add ((K4_at 2 (S.1 8 3) S)) (ci S 8 3 ((S.1 8 3) + 1))) := cFx_of K5_add_22 hF
            have hP : pB 7 (K5_add ((K4_at 2 (S.1 8 3) S)) (ci S 8 3 ((S.1 8 3) + 1))) := pB_of (congrFun K5_add_1 _) (fun j hj => congrFun K5_add_1 _) hP
            refine lv_goto (tgt := 120) B.1 B.2.1 dX3_readEscaped_107 (by decide) ?_
            refine lv_aload_n B.1 B.2.1 dX3_readEscaped_120 rfl (lv_at hl 1 rfl) ?_
            refine z_iconst B.1 B.2.1 dX3_readEscaped_121 ?_
            refine g_calli (E := "java/lang/IllegalArgumentException") (As := [.int (zI 0)]) (rest := []) B hK hG hM 8 (by decide) (by decide) rfl (cX3_addOneSign_ok l hl0 D cy q V n0 x y b (K5_add ((K4_at 2 (S.1 8 3) S)) (ci S 8 3 ((S.1 8 3) + 1))) hF  0 hP (by show 0 = 0 ∨ 0 = 1; omega)) (cwC 1 B wC_mRX3_156 wC_im_yX3_addOneSign wC_sl_yX3_addOneSign wC_in_RX3 wC_cd_yX3_addOneSign rfl rfl (by decide +kernel) ⟨Nat.le_of_ble_eq_true rfl, Nat.le_of_ble_eq_true rfl⟩) rfl hl.1 rfl (Nat.le_of_ble_eq_true rfl) dX3_readEscaped_122 hR hg (cFx_gl hF) (gl_of (K3_addOneSign_R0 (tu := 0) (S := (K5_add ((K4_at 2 (S.1 8 3) S)) (ci S 8 3 ((S.1 8 3) + 1)))) hP).1.1) (fun c_58 => (by unfold K3_readEscaped; exact ((if_neg c_6).trans ((if_pos c_37).trans ((if_pos c_41).trans ((if_neg c_42).trans ((if_neg c_53).trans (if_neg c_58)))))))) (fun x y H locs c_58 hM => ?_)
            have hg : gl S ≤ gl (K3_addOneSign 0 (K5_add ((K4_at 2 (S.1 8 3) S)) (ci S 8 3 ((S.1 8 3) + 1)))).2.2 := Nat.le_trans hg (gl_of (K3_addOneSign_R0 (tu := 0) (S := (K5_add ((K4_at 2 (S.1 8 3) S)) (ci S 8 3 ((S.1 8 3) + 1)))) hP).1.1)
            have k_57 := (K3_addOneSign_R0 (tu := 0) (S := (K5_add ((K4_at 2 (S.1 8 3) S)) (ci S 8 3 ((S.1 8 3) + 1)))) hP).1
            have hF : cFx 7 b (K3_addOneSign 0 (K5_add ((K4_at 2 (S.1 8 3) S)) (ci S 8 3 ((S.1 8 3) + 1)))).2.2 := cFx_of k_57.1 hF
            generalize hS_60 : (K3_addOneSign 0 (K5_add ((K4_at 2 (S.1 8 3) S)) (ci S 8 3 ((S.1 8 3) + 1)))).2.2 = S_60 at *
            generalize hv_59 : (K3_addOneSign 0 (K5_add ((K4_at 2 (S.1 8 3) S)) (ci S 8 3 ((S.1 8 3) + 1)))).2.1 = v_59 at *
            exact g_reti (S := S_60) B hM (by subst hS_60; subst hv_59; unfold K3_readEscaped; exact ((if_neg c_6).trans ((if_pos c_37).trans ((if_pos c_41).trans ((if_neg c_42).trans ((if_neg c_53).trans (if_pos c_58))))))) dX3_readEscaped_125
      · --
        refine lv_aload_n B.1 B.2.1 dX3_readEscaped_73 rfl (lv_at hl 1 rfl) ?_
        refine c_getr (q := (cq q x y)) (r := 9) B (iC3 _) hK hM 8 1 3 (by decide) rfl rfl (by decide) (by decide) rfl rfl rfl (cFx_r hF 8 1) (List.mem_cons_of_mem _ wC_fRX3_12) dX3_readEscaped_74 ?_
        refine lv_iload_n B.1 B.2.1 dX3_readEscaped_77 rfl (lv_at hl 0 rfl) ?_
        refine c_callv (q := (cq q x y)) (As := [.int (zI ((K4_at 2 (S.1 8 3) S)))]) (rest := []) B hK hM 9 (by decide) (by decide) rfl (cX5_addKind_ok l D cy (cq q x y) 7 b (ci S 8 3 ((S.1 8 3) + 1)) hF  ((K4_at 2 (S.1 8 3) S)) (by show 0 ≤ ((K4_at 2 (S.1 8 3) S)); omega) (by show ((K4_at 2 (S.1 8 3) S)) < 65536; omega)) (cwC 1 B wC_mRX3_190 wC_im_yX5_addKind wC_sl_yX5_addKind wC_in_RX5 wC_cd_yX5_addKind rfl rfl (by decide +kernel) ⟨Nat.le_of_ble_eq_true rfl, Nat.le_of_ble_eq_true rfl⟩) rfl hl.1 rfl (Nat.le_of_ble_eq_true rfl) dX3_readEscaped_78 ⟨g_rc hR (Nat.le_refl _) (cFx_gl (S := (ci S 8 3 ((S.1 8 3) + 1))) hF), g_rs hR (Nat.le_refl _) (cFx_gl (S := (ci S 8 3 ((S.1 8 3) + 1))) hF)⟩ (fun S_63 H locs hp_62 hM => ?_)
        have hp_62 := hp_62.symm
        subst hp_62
        have hg : gl S ≤ gl (K5_addKind ((K4_at 2 (S.1 8 3) S)) (ci S 8 3 ((S.1 8 3) + 1))) := Nat.le_trans (Nat.le_refl _) (gl_of (S := (ci S 8 3 ((S.1 8 3) + 1))) (S' := (K5_addKind ((K4_at 2 (S.1 8 3) S)) (ci S 8 3 ((S.1 8 3) + 1)))) K5_addKind_22)
        refine W.widen (k := gl (K5_addKind ((K4_at 2 (S.1 8 3) S)) (ci S 8 3 ((S.1 8 3) + 1))) - gl S) (n := 2 * (gl (K5_addKind ((K4_at 2 (S.1 8 3) S)) (ci S 8 3 ((S.1 8 3) + 1))) - gl S)) (Nat.sub_le_sub_right (gl_of (S := (ci S 8 3 ((S.1 8 3) + 1))) (S' := (K5_addKind ((K4_at 2 (S.1 8 3) S)) (ci S 8 3 ((S.1 8 3) + 1)))) K5_addKind_22) _) (Nat.mul_le_mul_left 2 (Nat.sub_le_sub_right (gl_of (S := (ci S 8 3 ((S.1 8 3) + 1))) (S' := (K5_addKind ((K4_at 2 (S.1 8 3) S)) (ci S 8 3 ((S.1 8 3) + 1)))) K5_addKind_22) _)) ?_
        have hF : cFx 7 b (K5_addKind ((K4_at 2 (S.1 8 3) S)) (ci S 8 3 ((S.1 8 3) + 1))) := cFx_of K5_addKind_22 hF
        have hP : pB 7 (K5_addKind ((K4_at 2 (S.1 8 3) S)) (ci S 8 3 ((S.1 8 3) + 1))) := pB_of (congrFun K5_addKind_1 _) (fun j hj => congrFun K5_addKind_1 _) hP
        refine lv_goto (tgt := 120) B.1 B.2.1 dX3_readEscaped_81 (by decide) ?_
        refine lv_aload_n B.1 B.2.1 dX3_readEscaped_120 rfl (lv_at hl 1 rfl) ?_
        refine z_iconst B.1 B.2.1 dX3_readEscaped_121 ?_
        refine g_calli (E := "java/lang/IllegalArgumentException") (As := [.int (zI 0)]) (rest := []) B hK hG hM 8 (by decide) (by decide) rfl (cX3_addOneSign_ok l hl0 D cy q V n0 x y b (K5_addKind ((K4_at 2 (S.1 8 3) S)) (ci S 8 3 ((S.1 8 3) + 1))) hF  0 hP (by show 0 = 0 ∨ 0 = 1; omega)) (cwC 1 B wC_mRX3_156 wC_im_yX3_addOneSign wC_sl_yX3_addOneSign wC_in_RX3 wC_cd_yX3_addOneSign rfl rfl (by decide +kernel) ⟨Nat.le_of_ble_eq_true rfl, Nat.le_of_ble_eq_true rfl⟩) rfl hl.1 rfl (Nat.le_of_ble_eq_true rfl) dX3_readEscaped_122 hR hg (cFx_gl hF) (gl_of (K3_addOneSign_R0 (tu := 0) (S := (K5_addKind ((K4_at 2 (S.1 8 3) S)) (ci S 8 3 ((S.1 8 3) + 1)))) hP).1.1) (fun c_65 => (by unfold K3_readEscaped; exact ((if_neg c_6).trans ((if_pos c_37).trans ((if_neg c_41).trans (if_neg c_65)))))) (fun x y H locs c_65 hM => ?_)
        have hg : gl S ≤ gl (K3_addOneSign 0 (K5_addKind ((K4_at 2 (S.1 8 3) S)) (ci S 8 3 ((S.1 8 3) + 1)))).2.2 := Nat.le_trans hg (gl_of (K3_addOneSign_R0 (tu := 0) (S := (K5_addKind ((K4_at 2 (S.1 8 3) S)) (ci S 8 3 ((S.1 8 3) + 1)))) hP).1.1)
        have k_64 := (K3_addOneSign_R0 (tu := 0) (S := (K5_addKind ((K4_at 2 (S.1 8 3) S)) (ci S 8 3 ((S.1 8 3) + 1)))) hP).1
        have hF : cFx 7 b (K3_addOneSign 0 (K5_addKind ((K4_at 2 (S.1 8 3) S)) (ci S 8 3 ((S.1 8 3) + 1)))).2.2 := cFx_of k_64.1 hF
        generalize hS_67 : (K3_addOneSign 0 (K5_addKind ((K4_at 2 (S.1 8 3) S)) (ci S 8 3 ((S.1 8 3) + 1)))).2.2 = S_67 at *
        generalize hv_66 : (K3_addOneSign 0 (K5_addKind ((K4_at 2 (S.1 8 3) S)) (ci S 8 3 ((S.1 8 3) + 1)))).2.1 = v_66 at *
        exact g_reti (S := S_67) B hM (by subst hS_67; subst hv_66; unfold K3_readEscaped; exact ((if_neg c_6).trans ((if_pos c_37).trans ((if_neg c_41).trans (if_pos c_65))))) dX3_readEscaped_125
    · --
      refine lv_iload_n B.1 B.2.1 dX3_readEscaped_34 rfl (lv_at hl 0 rfl) ?_
      refine z_bipush B.1 B.2.1 (by decide) dX3_readEscaped_35 ?_
      refine z_isub (x := ((K4_at 2 (S.1 8 3) S)) - 48) B.1 B.2.1 rfl dX3_readEscaped_37 ?_
      refine lv_istore_n (lv' := [(2, .int (zI (((K4_at 2 (S.1 8 3) S)) - 48))), (1, .int (zI ((K4_at 2 (S.1 8 3) S)))), (0, .ref (q 8))]) B.1 B.2.1 dX3_readEscaped_38 rfl hl (by decide) rfl (fun ls hl => ?_)
      refine lv_aload_n B.1 B.2.1 dX3_readEscaped_39 rfl (lv_at hl 2 rfl) ?_
      refine lv_aload_n B.1 B.2.1 dX3_readEscaped_40 rfl (lv_at hl 2 rfl) ?_
      refine c_geti (q := (cq q x y)) (x := S.1 8 4) B (iC3 _) hK hM 8 4 3 (by decide) rfl rfl (by decide) (by decide) rfl rfl (by decide) rfl (List.mem_cons_of_mem _ wC_fRX3_36) dX3_readEscaped_41 ?_
      refine lv_iload_n B.1 B.2.1 dX3_readEscaped_44 rfl (lv_at hl 0 rfl) ?_
      refine z_mmax (x := S.1 8 4) (y := ((K4_at 2 (S.1 8 3) S)) - 48) B (List.mem_cons_of_mem _ wC_mRX3_136) (List.mem_cons_of_mem _ wC_st_Lib_Math_max_name) (List.mem_cons_of_mem _ wC_in__java_lang_Math_) (List.mem_cons_of_mem _ wC_cd_Lib_Math_max_name) hl.1 (zr_of (by omega) (by omega)) (zr_of (by omega) (by omega)) (Nat.le_of_ble_eq_true rfl) (Nat.le_of_ble_eq_true rfl) ⟨g_rc hR (Nat.le_refl _) (cFx_gl (S := (ci S 8 3 ((S.1 8 3) + 1))) hF), g_rs hR (Nat.le_refl _) (cFx_gl (S := (ci S 8 3 ((S.1 8 3) + 1))) hF)⟩ dX3_readEscaped_45 ?_
      refine c_puti (q := (cq q x y)) B (iC3 _) tyX3 tyX3_ok nmX3 hK hM 8 4 3 (by decide) rfl rfl (by decide) (by decide) rfl rfl rfl (by decide +kernel) (by decide) (List.mem_cons_of_mem _ wC_fRX3_36) dX3_readEscaped_48 (fun H locs hM => ?_)
      have hP : pB 7 (ci (ci S 8 3 ((S.1 8 3) + 1)) 8 4 ((if (S.1 8 4) < (((K4_at 2 (S.1 8 3) S)) - 48) then ((K4_at 2 (S.1 8 3) S)) - 48 else S.1 8 4 : Int))) := pB_ci (by decide) (by decide) hP
      refine lv_aload_n B.1 B.2.1 dX3_readEscaped_51 rfl (lv_at hl 2 rfl) ?_
      refine c_getr (q := (cq q x y)) (r := 7) B (iC3 _) hK hM 8 2 3 (by decide) rfl rfl (by decide) (by decide) rfl rfl rfl (cFx_r hF 8 2) (List.mem_cons_of_mem _ wC_fRX3_22) dX3_readEscaped_52 ?_
      refine z_iconst B.1 B.2.1 dX3_readEscaped_55 ?_
      refine z_iconst B.1 B.2.1 dX3_readEscaped_56 ?_
      refine lv_iload_n B.1 B.2.1 dX3_readEscaped_57 rfl (lv_at hl 0 rfl) ?_
      have hV : rV (ci (ci S 8 3 ((S.1 8 3) + 1)) 8 4 ((if (S.1 8 4) < (((K4_at 2 (S.1 8 3) S)) - 48) then ((K4_at 2 (S.1 8 3) S)) - 48 else S.1 8 4 : Int))) := ⟨hP, (by show 0 ≤ (S.1 2 1); omega), (by show (S.1 2 1) ≤ 40; omega), hcs, (by show 0 ≤ ((S.1 8 3) + 1); omega), (by show ((S.1 8 3) + 1) ≤ (S.1 2 1); omega), (by show 0 ≤ ((if (S.1 8 4) < (((K4_at 2 (S.1 8 3) S)) - 48) then ((K4_at 2 (S.1 8 3) S)) - 48 else S.1 8 4 : Int)); omega), (by show ((if (S.1 8 4) < (((K4_at 2 (S.1 8 3) S)) - 48) then ((K4_at 2 (S.1 8 3) S)) - 48 else S.1 8 4 : Int)) ≤ 9; omega), (by show 0 ≤ (S.1 8 5); omega), (by show (S.1 8 5) ≤ 9; omega), (by show 0 ≤ (S.1 8 6); omega), (by show (S.1 8 6) ≤ 9 ∨ (S.1 8 6) = 1000000; omega), (by show (S.1 8 7) = 0 ∨ (S.1 8 7) = 1; omega)⟩
      refine g_calli (E := "java/lang/IllegalArgumentException") (As := [.int (zI 4), .int (zI (-1)), .int (zI (((K4_at 2 (S.1 8 3) S)) - 48))]) (rest := []) B hK hG hM 7 (by decide) (by decide) rfl (cX2_add_ok l hl0 D cy q V n0 x y 7 b (ci (ci S 8 3 ((S.1 8 3) + 1)) 8 4 ((if (S.1 8 4) < (((K4_at 2 (S.1 8 3) S)) - 48) then ((K4_at 2 (S.1 8 3) S)) - 48 else S.1 8 4 : Int))) hF  4 (-1) (((K4_at 2 (S.1 8 3) S)) - 48) hV.1) (cwC 3 B wC_mRX3_64 wC_im_yX2_add wC_sl_yX2_add wC_in_RX2 wC_cd_yX2_add rfl rfl (by decide +kernel) ⟨Nat.le_of_ble_eq_true rfl, Nat.le_of_ble_eq_true rfl⟩) rfl hl.1 rfl (Nat.le_of_ble_eq_true rfl) dX3_readEscaped_58 hR (Nat.le_refl _) (cFx_gl hF) (gl_of (congrArg Prod.snd K2_add_2)) (fun c_69 => (by unfold K3_readEscaped; exact ((if_neg c_6).trans ((if_neg c_37).trans (if_neg c_69))))) (fun x y H locs c_69 hM => ?_)
      have hg : gl S ≤ gl (K2_add 4 (-1) (((K4_at 2 (S.1 8 3) S)) - 48) (ci (ci S 8 3 ((S.1 8 3) + 1)) 8 4 ((if (S.1 8 4) < (((K4_at 2 (S.1 8 3) S)) - 48) then ((K4_at 2 (S.1 8 3) S)) - 48 else S.1 8 4 : Int)))).2.2 := Nat.le_trans (Nat.le_refl _) (gl_of (congrArg Prod.snd K2_add_2))
      have hV := rV_add (kd := 4) (am := (-1)) (nb := ((K4_at 2 (S.1 8 3) S)) - 48) (S := (ci (ci S 8 3 ((S.1 8 3) + 1)) 8 4 ((if (S.1 8 4) < (((K4_at 2 (S.1 8 3) S)) - 48) then ((K4_at 2 (S.1 8 3) S)) - 48 else S.1 8 4 : Int)))) hV c_69 (by omega) (by omega) (by omega) (by omega) (by omega) (by omega)
      have hF : cFx 7 b (K2_add 4 (-1) (((K4_at 2 (S.1 8 3) S)) - 48) (ci (ci S 8 3 ((S.1 8 3) + 1)) 8 4 ((if (S.1 8 4) < (((K4_at 2 (S.1 8 3) S)) - 48) then ((K4_at 2 (S.1 8 3) S)) - 48 else S.1 8 4 : Int)))).2.2 := cFx_of (congrArg Prod.snd K2_add_2) hF
      obtain ⟨k_68f, k_68a, k_68b, -⟩ := K2_add_v c_69
      have k_68s := K2_add_s c_69
      have k_688 : (K2_add 4 (-1) (((K4_at 2 (S.1 8 3) S)) - 48) (ci (ci S 8 3 ((S.1 8 3) + 1)) 8 4 ((if (S.1 8 4) < (((K4_at 2 (S.1 8 3) S)) - 48) then ((K4_at 2 (S.1 8 3) S)) - 48 else S.1 8 4 : Int)))).2.2.1 8 3 = (ci (ci S 8 3 ((S.1 8 3) + 1)) 8 4 ((if (S.1 8 4) < (((K4_at 2 (S.1 8 3) S)) - 48) then ((K4_at 2 (S.1 8 3) S)) - 48 else S.1 8 4 : Int))).1 8 3 := congrFun (K2_add_1 (n := 8) (by decide)) 3
      have k_689 : (K2_add 4 (-1) (((K4_at 2 (S.1 8 3) S)) - 48) (ci (ci S 8 3 ((S.1 8 3) + 1)) 8 4 ((if (S.1 8 4) < (((K4_at 2 (S.1 8 3) S)) - 48) then ((K4_at 2 (S.1 8 3) S)) - 48 else S.1 8 4 : Int)))).2.2.1 8 4 = (ci (ci S 8 3 ((S.1 8 3) + 1)) 8 4 ((if (S.1 8 4) < (((K4_at 2 (S.1 8 3) S)) - 48) then ((K4_at 2 (S.1 8 3) S)) - 48 else S.1 8 4 : Int))).1 8 4 := congrFun (K2_add_1 (n := 8) (by decide)) 4
      have k_68g : (K2_add 4 (-1) (((K4_at 2 (S.1 8 3) S)) - 48) (ci (ci S 8 3 ((S.1 8 3) + 1)) 8 4 ((if (S.1 8 4) < (((K4_at 2 (S.1 8 3) S)) - 48) then ((K4_at 2 (S.1 8 3) S)) - 48 else S.1 8 4 : Int)))).2.2.1 7 12 = (ci (ci S 8 3 ((S.1 8 3) + 1)) 8 4 ((if (S.1 8 4) < (((K4_at 2 (S.1 8 3) S)) - 48) then ((K4_at 2 (S.1 8 3) S)) - 48 else S.1 8 4 : Int))).1 7 12 := K2_add_12
      generalize hS_71 : (K2_add 4 (-1) (((K4_at 2 (S.1 8 3) S)) - 48) (ci (ci S 8 3 ((S.1 8 3) + 1)) 8 4 ((if (S.1 8 4) < (((K4_at 2 (S.1 8 3) S)) - 48) then ((K4_at 2 (S.1 8 3) S)) - 48 else S.1 8 4 : Int)))).2.2 = S_71 at *
      generalize hv_70 : (K2_add 4 (-1) (((K4_at 2 (S.1 8 3) S)) - 48) (ci (ci S 8 3 ((S.1 8 3) + 1)) 8 4 ((if (S.1 8 4) < (((K4_at 2 (S.1 8 3) S)) - 48) then ((K4_at 2 (S.1 8 3) S)) - 48 else S.1 8 4 : Int)))).2.1 = v_70 at *
      obtain ⟨hP, hLa, hLb, hcs, ha0, ha1, hga, hgb, hna, hnb, hma, hmb, hzz⟩ := id hV
      obtain ⟨hPa, p5a, p5b, pla, plb, pka, pkb, pga, pgb, pfa, pfb⟩ := id hP
      refine lv_pop B.1 B.2.1 dX3_readEscaped_61 rfl ?_
      refine z_iconst B.1 B.2.1 dX3_readEscaped_62 ?_
      exact g_reti (S := S_71) B hM (by subst hS_71; subst hv_70; unfold K3_readEscaped; exact ((if_neg c_6).trans ((if_neg c_37).trans (if_pos c_69)))) dX3_readEscaped_63
def K3_readMark (S : CSt) : CR := (if ((K4_at 2 (S.1 8 3) S)) = 0 then (1, 0, (ci S 8 3 ((S.1 8 3) + 1))) else (if ((K4_at 2 (S.1 8 3) S)) = 92 then (if ((K_ix2 ((K4_at 2 ((S.1 8 3) + 1) (ci S 8 3 ((S.1 8 3) + 1)))))) < 0 then (if ((K4_at 2 ((S.1 8 3) + 1) (ci S 8 3 ((S.1 8 3) + 1)))) = 45 then (0, (K4_at 2 ((S.1 8 3) + 1) (ci S 8 3 ((S.1 8 3) + 1))), (K5_add ((K4_at 2 ((S.1 8 3) + 1) (ci S 8 3 ((S.1 8 3) + 1)))) (ci (ci S 8 3 ((S.1 8 3) + 1)) 8 3 (((S.1 8 3) + 1) + 1)))) else (if ((K4_at 2 ((S.1 8 3) + 1) (ci S 8 3 ((S.1 8 3) + 1)))) = 47 then (0, (K4_at 2 ((S.1 8 3) + 1) (ci S 8 3 ((S.1 8 3) + 1))), (K5_add ((K4_at 2 ((S.1 8 3) + 1) (ci S 8 3 ((S.1 8 3) + 1)))) (ci (ci S 8 3 ((S.1 8 3) + 1)) 8 3 (((S.1 8 3) + 1) + 1)))) else (if 0 ≤ ((K_ix1 ((K4_at 2 ((S.1 8 3) + 1) (ci S 8 3 ((S.1 8 3) + 1)))))) then (0, (K4_at 2 ((S.1 8 3) + 1) (ci S 8 3 ((S.1 8 3) + 1))), (K5_add ((K4_at 2 ((S.1 8 3) + 1) (ci S 8 3 ((S.1 8 3) + 1)))) (ci (ci S 8 3 ((S.1 8 3) + 1)) 8 3 (((S.1 8 3) + 1) + 1)))) else (1, 0, (ci (ci S 8 3 ((S.1 8 3) + 1)) 8 3 (((S.1 8 3) + 1) + 1)))))) else (0, (-1), (K5_addKind ((K4_at 2 ((S.1 8 3) + 1) (ci S 8 3 ((S.1 8 3) + 1)))) (ci (ci S 8 3 ((S.1 8 3) + 1)) 8 3 (((S.1 8 3) + 1) + 1))))) else (0, (K4_at 2 (S.1 8 3) S), (K5_add ((K4_at 2 (S.1 8 3) S)) (ci S 8 3 ((S.1 8 3) + 1))))))
set_option maxHeartbeats 1000000 in
set_option maxRecDepth 100000 in
theorem cX3_readMark_ok (l : Launch) (hl0 : l.stackTraces = false) (D : va_G) (cy : Nat → ClassId) (q : Nat → Nat) (V : Nat × (Nat → Nat)) (n0 x y b : Nat) (S : CSt) (hF : cFx 7 b S) (hV : rV S) : gMi l D cy q V n0 x y "java/lang/IllegalArgumentException" yX3_readMark (.code yX3_readMark cX3_readMark 3 (some .int) :: TBC) 6 151 S [.ref (q 8)] (K3_readMark S) := by
  refine g_of (cc := cX3_readMark) (maxL := 3) (ret := (some .int)) (by decide) rfl rfl (Nat.le_of_ble_eq_true rfl) ?_
  intro p e s m args below meth c ls B hK hG hM hl
  generalize gA (cq q x y) n0 = A at hG hM ⊢
  have hR : (headSpec (.code yX3_readMark cX3_readMark 3 (some .int) :: TBC) (gRm 6 151 S)).room.cells = (gK - gl S) + 1 ∧ (headSpec (.code yX3_readMark cX3_readMark 3 (some .int) :: TBC) (gRm 6 151 S)).room.slots = 2 * (gK - gl S) + 6 := ⟨rfl, rfl⟩
  have hl : lv_has ls 3 [(0, .ref (q 8))] := hl
  obtain ⟨hP, hLa, hLb, hcs, ha0, ha1, hga, hgb, hna, hnb, hma, hmb, hzz⟩ := id hV
  refine lv_aload_n B.1 B.2.1 dX3_readMark_0 rfl (lv_at hl 0 rfl) ?_
  refine c_getr (q := (cq q x y)) (r := 2) B (iC3 _) hK hM 8 0 3 (by decide) rfl rfl (by decide) (by decide) rfl rfl rfl (cFx_r hF 8 0) (List.mem_cons_of_mem _ wC_fRX3_18) dX3_readMark_1 ?_
  refine lv_aload_n B.1 B.2.1 dX3_readMark_4 rfl (lv_at hl 0 rfl) ?_
  refine c_geti (q := (cq q x y)) (x := S.1 8 3) B (iC3 _) hK hM 8 3 3 (by decide) rfl rfl (by decide) (by decide) rfl rfl (by decide) rfl (List.mem_cons_of_mem _ wC_fRX3_32) dX3_readMark_5 ?_
  refine c_calli (q := (cq q x y)) (As := [.int (zI (S.1 8 3))]) (rest := []) B hK hM 2 (by decide) (by decide) rfl (cX4_at_ok l D cy (cq q x y) 7 b S hF 2 (by decide) (S.1 8 3) (by show 0 ≤ (S.1 2 1); omega) (by show (S.1 2 1) ≤ 100000; omega) (by show -10000000 ≤ (S.1 8 3); omega) (by show (S.1 8 3) ≤ 10000000; omega) (hcs_of hcs)) (cwC 1 B wC_mRX3_70 wC_im_yX4_at wC_sl_yX4_at wC_in_RX4 wC_cd_yX4_at rfl rfl (by decide +kernel) ⟨Nat.le_of_ble_eq_true rfl, Nat.le_of_ble_eq_true rfl⟩) rfl hl.1 rfl (Nat.le_of_ble_eq_true rfl) dX3_readMark_8 ⟨g_rc hR (Nat.le_refl _) (cFx_gl (S := S) hF), g_rs hR (Nat.le_refl _) (cFx_gl (S := S) hF)⟩ (fun z_4 S_3 H locs hp_2 hM => ?_)
  obtain ⟨hp_2, he_hp_2⟩ := hp_2
  have he_hp_2 := he_hp_2.symm
  subst he_hp_2
  have hp_2 : (K4_at 2 (S.1 8 3) S) = z_4 := hp_2.symm
  subst hp_2
  have f_5 := K4_at_b2 (S := S) hcs (S.1 8 3)
  refine lv_istore_n (lv' := [(1, .int (zI ((K4_at 2 (S.1 8 3) S)))), (0, .ref (q 8))]) B.1 B.2.1 dX3_readMark_11 rfl hl (by decide) rfl (fun ls hl => ?_)
  refine lv_aload_n B.1 B.2.1 dX3_readMark_12 rfl (lv_at hl 1 rfl) ?_
  refine lv_dup B.1 B.2.1 dX3_readMark_13 rfl ?_
  refine c_geti (q := (cq q x y)) (x := S.1 8 3) B (iC3 _) hK hM 8 3 3 (by decide) rfl rfl (by decide) (by decide) rfl rfl (by decide) rfl (List.mem_cons_of_mem _ wC_fRX3_32) dX3_readMark_14 ?_
  refine z_iconst B.1 B.2.1 dX3_readMark_17 ?_
  refine z_iadd (x := (S.1 8 3) + 1) B.1 B.2.1 rfl dX3_readMark_18 ?_
  refine c_puti (q := (cq q x y)) B (iC3 _) tyX3 tyX3_ok nmX3 hK hM 8 3 3 (by decide) rfl rfl (by decide) (by decide) rfl rfl rfl (by decide +kernel) (by decide) (List.mem_cons_of_mem _ wC_fRX3_32) dX3_readMark_19 (fun H locs hM => ?_)
  have hP : pB 7 (ci S 8 3 ((S.1 8 3) + 1)) := pB_ci (by decide) (by decide) hP
  refine lv_iload_n B.1 B.2.1 dX3_readMark_22 rfl (lv_at hl 0 rfl) ?_
  refine z_if_ne (tgt := 36) B.1 B.2.1 (zr_of (by omega) (by omega)) dX3_readMark_23 (by decide) (fun c_6 => ?_) (fun c_6 => ?_)
  · --
    refine lv_iload_n B.1 B.2.1 dX3_readMark_36 rfl (lv_at hl 0 rfl) ?_
    refine z_bipush B.1 B.2.1 (by decide) dX3_readMark_37 ?_
    refine z_icmp_eq (tgt := 52) B.1 B.2.1 (zr_of (by omega) (by omega)) (zr_of (by decide) (by decide)) dX3_readMark_39 (by decide) (fun c_7 => ?_) (fun c_7 => ?_)
    · --
      refine lv_aload_n B.1 B.2.1 dX3_readMark_52 rfl (lv_at hl 1 rfl) ?_
      refine c_getr (q := (cq q x y)) (r := 2) B (iC3 _) hK hM 8 0 3 (by decide) rfl rfl (by decide) (by decide) rfl rfl rfl (cFx_r hF 8 0) (List.mem_cons_of_mem _ wC_fRX3_18) dX3_readMark_53 ?_
      refine lv_aload_n B.1 B.2.1 dX3_readMark_56 rfl (lv_at hl 1 rfl) ?_
      refine c_geti (q := (cq q x y)) (x := (S.1 8 3) + 1) B (iC3 _) hK hM 8 3 3 (by decide) rfl rfl (by decide) (by decide) rfl rfl (by decide) rfl (List.mem_cons_of_mem _ wC_fRX3_32) dX3_readMark_57 ?_
      refine c_calli (q := (cq q x y)) (As := [.int (zI ((S.1 8 3) + 1))]) (rest := []) B hK hM 2 (by decide) (by decide) rfl (cX4_at_ok l D cy (cq q x y) 7 b (ci S 8 3 ((S.1 8 3) + 1)) hF 2 (by decide) ((S.1 8 3) + 1) (by show 0 ≤ (S.1 2 1); omega) (by show (S.1 2 1) ≤ 100000; omega) (by show -10000000 ≤ ((S.1 8 3) + 1); omega) (by show ((S.1 8 3) + 1) ≤ 10000000; omega) (hcs_of hcs)) (cwC 1 B wC_mRX3_70 wC_im_yX4_at wC_sl_yX4_at wC_in_RX4 wC_cd_yX4_at rfl rfl (by decide +kernel) ⟨Nat.le_of_ble_eq_true rfl, Nat.le_of_ble_eq_true rfl⟩) rfl hl.1 rfl (Nat.le_of_ble_eq_true rfl) dX3_readMark_60 ⟨g_rc hR (Nat.le_refl _) (cFx_gl (S := (ci S 8 3 ((S.1 8 3) + 1))) hF), g_rs hR (Nat.le_refl _) (cFx_gl (S := (ci S 8 3 ((S.1 8 3) + 1))) hF)⟩ (fun z_11 S_10 H locs hp_9 hM => ?_)
      obtain ⟨hp_9, he_hp_9⟩ := hp_9
      have he_hp_9 := he_hp_9.symm
      subst he_hp_9
      have hp_9 : (K4_at 2 ((S.1 8 3) + 1) (ci S 8 3 ((S.1 8 3) + 1))) = z_11 := hp_9.symm
      subst hp_9
      have f_12 := K4_at_b2 (S := (ci S 8 3 ((S.1 8 3) + 1))) hcs ((S.1 8 3) + 1)
      refine lv_istore_n (lv' := [(2, .int (zI ((K4_at 2 ((S.1 8 3) + 1) (ci S 8 3 ((S.1 8 3) + 1)))))), (1, .int (zI ((K4_at 2 (S.1 8 3) S)))), (0, .ref (q 8))]) B.1 B.2.1 dX3_readMark_63 rfl hl (by decide) rfl (fun ls hl => ?_)
      refine lv_aload_n B.1 B.2.1 dX3_readMark_64 rfl (lv_at hl 2 rfl) ?_
      refine lv_dup B.1 B.2.1 dX3_readMark_65 rfl ?_
      refine c_geti (q := (cq q x y)) (x := (S.1 8 3) + 1) B (iC3 _) hK hM 8 3 3 (by decide) rfl rfl (by decide) (by decide) rfl rfl (by decide) rfl (List.mem_cons_of_mem _ wC_fRX3_32) dX3_readMark_66 ?_
      refine z_iconst B.1 B.2.1 dX3_readMark_69 ?_
      refine z_iadd (x := ((S.1 8 3) + 1) + 1) B.1 B.2.1 rfl dX3_readMark_70 ?_
      refine c_puti (q := (cq q x y)) B (iC3 _) tyX3 tyX3_ok nmX3 hK hM 8 3 3 (by decide) rfl rfl (by decide) (by decide) rfl rfl rfl (by decide +kernel) (by decide) (List.mem_cons_of_mem _ wC_fRX3_32) dX3_readMark_71 (fun H locs hM => ?_)
      have hP : pB 7 (ci (ci S 8 3 ((S.1 8 3) + 1)) 8 3 (((S.1 8 3) + 1) + 1)) := pB_ci (by decide) (by decide) hP
      refine va_ldcS B.1 B.2.1 B.2.2.2.1 (hG.1.1 16 (by decide)) dX3_readMark_74 ?_
      refine lv_iload_n B.1 B.2.1 dX3_readMark_76 rfl (lv_at hl 0 rfl) ?_
      refine j_callv (As := [.int (zI ((K4_at 2 ((S.1 8 3) + 1) (ci S 8 3 ((S.1 8 3) + 1)))))]) (rest := []) B (j_env2 hG hM) (cJ0_indexOf_0f7a4_ok l V.1 (V.2 16) (V.2 27) 6 sB2 ((K4_at 2 ((S.1 8 3) + 1) (ci S 8 3 ((S.1 8 3) + 1)))) (by omega) (by omega) (by decide) (by decide)) (cwC 1 B wC_mRX3_162 wC_im_yJ0_indexOf_0f7a4 wC_sl_yJ0_indexOf_0f7a4 wC_in_RJ0 wC_cd_yJ0_indexOf_0f7a4 rfl rfl (by decide +kernel) ⟨Nat.le_of_ble_eq_true rfl, Nat.le_of_ble_eq_true rfl⟩) rfl hl.1 rfl (Nat.le_of_ble_eq_true rfl) dX3_readMark_77 ⟨g_rc hR (Nat.le_refl _) (cFx_gl (S := (ci (ci S 8 3 ((S.1 8 3) + 1)) 8 3 (((S.1 8 3) + 1) + 1))) hF), g_rs hR (Nat.le_refl _) (cFx_gl (S := (ci (ci S 8 3 ((S.1 8 3) + 1)) 8 3 (((S.1 8 3) + 1) + 1))) hF)⟩ (fun z_13 hz_14 => ?_)
      have hz_14 : (K_ix2 ((K4_at 2 ((S.1 8 3) + 1) (ci S 8 3 ((S.1 8 3) + 1))))) = z_13 := hz_14.symm
      subst hz_14
      have f_15 := K_ix2_bd ((K4_at 2 ((S.1 8 3) + 1) (ci S 8 3 ((S.1 8 3) + 1))))
      refine z_if_lt (tgt := 93) B.1 B.2.1 (zr_of (by omega) (by omega)) dX3_readMark_80 (by decide) (fun c_16 => ?_) (fun c_16 => ?_)
      · --
        refine lv_iload_n B.1 B.2.1 dX3_readMark_93 rfl (lv_at hl 0 rfl) ?_
        refine z_bipush B.1 B.2.1 (by decide) dX3_readMark_94 ?_
        refine z_icmp_eq (tgt := 124) B.1 B.2.1 (zr_of (by omega) (by omega)) (zr_of (by decide) (by decide)) dX3_readMark_96 (by decide) (fun c_17 => ?_) (fun c_17 => ?_)
        · --
          refine lv_aload_n B.1 B.2.1 dX3_readMark_124 rfl (lv_at hl 2 rfl) ?_
          refine c_getr (q := (cq q x y)) (r := 9) B (iC3 _) hK hM 8 1 3 (by decide) rfl rfl (by decide) (by decide) rfl rfl rfl (cFx_r hF 8 1) (List.mem_cons_of_mem _ wC_fRX3_12) dX3_readMark_125 ?_
          refine lv_iload_n B.1 B.2.1 dX3_readMark_128 rfl (lv_at hl 0 rfl) ?_
          refine c_callv (q := (cq q x y)) (As := [.int (zI ((K4_at 2 ((S.1 8 3) + 1) (ci S 8 3 ((S.1 8 3) + 1)))))]) (rest := []) B hK hM 9 (by decide) (by decide) rfl (cX5_add_ok l D cy (cq q x y) 7 b (ci (ci S 8 3 ((S.1 8 3) + 1)) 8 3 (((S.1 8 3) + 1) + 1)) hF  ((K4_at 2 ((S.1 8 3) + 1) (ci S 8 3 ((S.1 8 3) + 1)))) (by show 0 ≤ ((K4_at 2 ((S.1 8 3) + 1) (ci S 8 3 ((S.1 8 3) + 1)))); omega) (by show ((K4_at 2 ((S.1 8 3) + 1) (ci S 8 3 ((S.1 8 3) + 1)))) < 65536; omega)) (cwC 1 B wC_mRX3_167 wC_im_yX5_add wC_sl_yX5_add wC_in_RX5 wC_cd_yX5_add rfl rfl (by decide +kernel) ⟨Nat.le_of_ble_eq_true rfl, Nat.le_of_ble_eq_true rfl⟩) rfl hl.1 rfl (Nat.le_of_ble_eq_true rfl) dX3_readMark_129 ⟨g_rc hR (Nat.le_refl _) (cFx_gl (S := (ci (ci S 8 3 ((S.1 8 3) + 1)) 8 3 (((S.1 8 3) + 1) + 1))) hF), g_rs hR (Nat.le_refl _) (cFx_gl (S := (ci (ci S 8 3 ((S.1 8 3) + 1)) 8 3 (((S.1 8 3) + 1) + 1))) hF)⟩ (fun S_20 H locs hp_19 hM => ?_)
          have hp_19 := hp_19.symm
          subst hp_19
          have hg : gl S ≤ gl (K5_add ((K4_at 2 ((S.1 8 3) + 1) (ci S 8 3 ((S.1 8 3) + 1)))) (ci (ci S 8 3 ((S.1 8 3) + 1)) 8 3 (((S.1 8 3) + 1) + 1))) := Nat.le_trans (Nat.le_refl _) (gl_of (S := (ci (ci S 8 3 ((S.1 8 3) + 1)) 8 3 (((S.1 8 3) + 1) + 1))) (S' := (K5_add ((K4_at 2 ((S.1 8 3) + 1) (ci S 8 3 ((S.1 8 3) + 1)))) (ci (ci S 8 3 ((S.1 8 3) + 1)) 8 3 (((S.1 8 3) + 1) + 1)))) K5_add_22)
          refine W.widen (k := gl (K5_add ((K4_at 2 ((S.1 8 3) + 1) (ci S 8 3 ((S.1 8 3) + 1)))) (ci (ci S 8 3 ((S.1 8 3) + 1)) 8 3 (((S.1 8 3) + 1) + 1))) - gl S) (n := 2 * (gl (K5_add ((K4_at 2 ((S.1 8 3) + 1) (ci S 8 3 ((S.1 8 3) + 1)))) (ci (ci S 8 3 ((S.1 8 3) + 1)) 8 3 (((S.1 8 3) + 1) + 1))) - gl S)) (Nat.sub_le_sub_right (gl_of (S := (ci (ci S 8 3 ((S.1 8 3) + 1)) 8 3 (((S.1 8 3) + 1) + 1))) (S' := (K5_add ((K4_at 2 ((S.1 8 3) + 1) (ci S 8 3 ((S.1 8 3) + 1)))) (ci (ci S 8 3 ((S.1 8 3) + 1)) 8 3 (((S.1 8 3) + 1) + 1)))) K5_add_22) _) (Nat.mul_le_mul_left 2 (Nat.sub_le_sub_right (gl_of (S := (ci (ci S 8 3 ((S.1 8 3) + 1)) 8 3 (((S.1 8 3) + 1) + 1))) (S' := (K5_add ((K4_at 2 ((S.1 8 3) + 1) (ci S 8 3 ((S.1 8 3) + 1)))) (ci (ci S 8 3 ((S.1 8 3) + 1)) 8 3 (((S.1 8 3) + 1) + 1)))) K5_add_22) _)) ?_
          have hF : cFx 7 b (K5_add ((K4_at 2 ((S.1 8 3) + 1) (ci S 8 3 ((S.1 8 3) + 1)))) (ci (ci S 8 3 ((S.1 8 3) + 1)) 8 3 (((S.1 8 3) + 1) + 1))) := cFx_of K5_add_22 hF
          have hP : pB 7 (K5_add ((K4_at 2 ((S.1 8 3) + 1) (ci S 8 3 ((S.1 8 3) + 1)))) (ci (ci S 8 3 ((S.1 8 3) + 1)) 8 3 (((S.1 8 3) + 1) + 1))) := pB_of (congrFun K5_add_1 _) (fun j hj => congrFun K5_add_1 _) hP
          refine lv_iload_n B.1 B.2.1 dX3_readMark_132 rfl (lv_at hl 0 rfl) ?_
          exact g_reti (S := (K5_add ((K4_at 2 ((S.1 8 3) + 1) (ci S 8 3 ((S.1 8 3) + 1)))) (ci (ci S 8 3 ((S.1 8 3) + 1)) 8 3 (((S.1 8 3) + 1) + 1)))) B hM (by unfold K3_readMark; exact ((if_neg c_6).trans ((if_pos c_7).trans ((if_pos c_16).trans (if_pos c_17))))) dX3_readMark_133
        · --
          refine lv_iload_n B.1 B.2.1 dX3_readMark_99 rfl (lv_at hl 0 rfl) ?_
          refine z_bipush B.1 B.2.1 (by decide) dX3_readMark_100 ?_
          refine z_icmp_eq (tgt := 124) B.1 B.2.1 (zr_of (by omega) (by omega)) (zr_of (by decide) (by decide)) dX3_readMark_102 (by decide) (fun c_21 => ?_) (fun c_21 => ?_)
          · --
            refine lv_aload_n B.1 B.2.1 dX3_readMark_124 rfl (lv_at hl 2 rfl) ?_
            refine c_getr (q := (cq q x y)) (r := 9) B (iC3 _) hK hM 8 1 3 (by decide) rfl rfl (by decide) (by decide) rfl rfl rfl (cFx_r hF 8 1) (List.mem_cons_of_mem _ wC_fRX3_12) dX3_readMark_125 ?_
            refine lv_iload_n B.1 B.2.1 dX3_readMark_128 rfl (lv_at hl 0 rfl) ?_
            refine c_callv (q := (cq q x y)) (As := [.int (zI ((K4_at 2 ((S.1 8 3) + 1) (ci S 8 3 ((S.1 8 3) + 1)))))]) (rest := []) B hK hM 9 (by decide) (by decide) rfl (cX5_add_ok l D cy (cq q x y) 7 b (ci (ci S 8 3 ((S.1 8 3) + 1)) 8 3 (((S.1 8 3) + 1) + 1)) hF  ((K4_at 2 ((S.1 8 3) + 1) (ci S 8 3 ((S.1 8 3) + 1)))) (by show 0 ≤ ((K4_at 2 ((S.1 8 3) + 1) (ci S 8 3 ((S.1 8 3) + 1)))); omega) (by show ((K4_at 2 ((S.1 8 3) + 1) (ci S 8 3 ((S.1 8 3) + 1)))) < 65536; omega)) (cwC 1 B wC_mRX3_167 wC_im_yX5_add wC_sl_yX5_add wC_in_RX5 wC_cd_yX5_add rfl rfl (by decide +kernel) ⟨Nat.le_of_ble_eq_true rfl, Nat.le_of_ble_eq_true rfl⟩) rfl hl.1 rfl (Nat.le_of_ble_eq_true rfl) dX3_readMark_129 ⟨g_rc hR (Nat.le_refl _) (cFx_gl (S := (ci (ci S 8 3 ((S.1 8 3) + 1)) 8 3 (((S.1 8 3) + 1) + 1))) hF), g_rs hR (Nat.le_refl _) (cFx_gl (S := (ci (ci S 8 3 ((S.1 8 3) + 1)) 8 3 (((S.1 8 3) + 1) + 1))) hF)⟩ (fun S_24 H locs hp_23 hM => ?_)
            have hp_23 := hp_23.symm
            subst hp_23
            have hg : gl S ≤ gl (K5_add ((K4_at 2 ((S.1 8 3) + 1) (ci S 8 3 ((S.1 8 3) + 1)))) (ci (ci S 8 3 ((S.1 8 3) + 1)) 8 3 (((S.1 8 3) + 1) + 1))) := Nat.le_trans (Nat.le_refl _) (gl_of (S := (ci (ci S 8 3 ((S.1 8 3) + 1)) 8 3 (((S.1 8 3) + 1) + 1))) (S' := (K5_add ((K4_at 2 ((S.1 8 3) + 1) (ci S 8 3 ((S.1 8 3) + 1)))) (ci (ci S 8 3 ((S.1 8 3) + 1)) 8 3 (((S.1 8 3) + 1) + 1)))) K5_add_22)
            refine W.widen (k := gl (K5_add ((K4_at 2 ((S.1 8 3) + 1) (ci S 8 3 ((S.1 8 3) + 1)))) (ci (ci S 8 3 ((S.1 8 3) + 1)) 8 3 (((S.1 8 3) + 1) + 1))) - gl S) (n := 2 * (gl (K5_add ((K4_at 2 ((S.1 8 3) + 1) (ci S 8 3 ((S.1 8 3) + 1)))) (ci (ci S 8 3 ((S.1 8 3) + 1)) 8 3 (((S.1 8 3) + 1) + 1))) - gl S)) (Nat.sub_le_sub_right (gl_of (S := (ci (ci S 8 3 ((S.1 8 3) + 1)) 8 3 (((S.1 8 3) + 1) + 1))) (S' := (K5_add ((K4_at 2 ((S.1 8 3) + 1) (ci S 8 3 ((S.1 8 3) + 1)))) (ci (ci S 8 3 ((S.1 8 3) + 1)) 8 3 (((S.1 8 3) + 1) + 1)))) K5_add_22) _) (Nat.mul_le_mul_left 2 (Nat.sub_le_sub_right (gl_of (S := (ci (ci S 8 3 ((S.1 8 3) + 1)) 8 3 (((S.1 8 3) + 1) + 1))) (S' := (K5_add ((K4_at 2 ((S.1 8 3) + 1) (ci S 8 3 ((S.1 8 3) + 1)))) (ci (ci S 8 3 ((S.1 8 3) + 1)) 8 3 (((S.1 8 3) + 1) + 1)))) K5_add_22) _)) ?_
            have hF : cFx 7 b (K5_add ((K4_at 2 ((S.1 8 3) + 1) (ci S 8 3 ((S.1 8 3) + 1)))) (ci (ci S 8 3 ((S.1 8 3) + 1)) 8 3 (((S.1 8 3) + 1) + 1))) := cFx_of K5_add_22 hF
            have hP : pB 7 (K5_add ((K4_at 2 ((S.1 8 3) + 1) (ci S 8 3 ((S.1 8 3) + 1)))) (ci (ci S 8 3 ((S.1 8 3) + 1)) 8 3 (((S.1 8 3) + 1) + 1))) := pB_of (congrFun K5_add_1 _) (fun j hj => congrFun K5_add_1 _) hP
            refine lv_iload_n B.1 B.2.1 dX3_readMark_132 rfl (lv_at hl 0 rfl) ?_
            exact g_reti (S := (K5_add ((K4_at 2 ((S.1 8 3) + 1) (ci S 8 3 ((S.1 8 3) + 1)))) (ci (ci S 8 3 ((S.1 8 3) + 1)) 8 3 (((S.1 8 3) + 1) + 1)))) B hM (by unfold K3_readMark; exact ((if_neg c_6).trans ((if_pos c_7).trans ((if_pos c_16).trans ((if_neg c_17).trans (if_pos c_21)))))) dX3_readMark_133
          · --
            refine va_ldcS B.1 B.2.1 B.2.2.2.1 (hG.1.1 15 (by decide)) dX3_readMark_105 ?_
            refine lv_iload_n B.1 B.2.1 dX3_readMark_107 rfl (lv_at hl 0 rfl) ?_
            refine j_callv (As := [.int (zI ((K4_at 2 ((S.1 8 3) + 1) (ci S 8 3 ((S.1 8 3) + 1)))))]) (rest := []) B (j_env1 hG hM) (cJ0_indexOf_0f7a4_ok l V.1 (V.2 15) (V.2 26) 14 sB1 ((K4_at 2 ((S.1 8 3) + 1) (ci S 8 3 ((S.1 8 3) + 1)))) (by omega) (by omega) (by decide) (by decide)) (cwC 1 B wC_mRX3_162 wC_im_yJ0_indexOf_0f7a4 wC_sl_yJ0_indexOf_0f7a4 wC_in_RJ0 wC_cd_yJ0_indexOf_0f7a4 rfl rfl (by decide +kernel) ⟨Nat.le_of_ble_eq_true rfl, Nat.le_of_ble_eq_true rfl⟩) rfl hl.1 rfl (Nat.le_of_ble_eq_true rfl) dX3_readMark_108 ⟨g_rc hR (Nat.le_refl _) (cFx_gl (S := (ci (ci S 8 3 ((S.1 8 3) + 1)) 8 3 (((S.1 8 3) + 1) + 1))) hF), g_rs hR (Nat.le_refl _) (cFx_gl (S := (ci (ci S 8 3 ((S.1 8 3) + 1)) 8 3 (((S.1 8 3) + 1) + 1))) hF)⟩ (fun z_25 hz_26 => ?_)
            have hz_26 : (K_ix1 ((K4_at 2 ((S.1 8 3) + 1) (ci S 8 3 ((S.1 8 3) + 1))))) = z_25 := hz_26.symm
            subst hz_26
            have f_27 := K_ix1_bd ((K4_at 2 ((S.1 8 3) + 1) (ci S 8 3 ((S.1 8 3) + 1))))
            refine z_if_ge (tgt := 124) B.1 B.2.1 (zr_of (by omega) (by omega)) dX3_readMark_111 (by decide) (fun c_28 => ?_) (fun c_28 => ?_)
            · --
              refine lv_aload_n B.1 B.2.1 dX3_readMark_124 rfl (lv_at hl 2 rfl) ?_
              refine c_getr (q := (cq q x y)) (r := 9) B (iC3 _) hK hM 8 1 3 (by decide) rfl rfl (by decide) (by decide) rfl rfl rfl (cFx_r hF 8 1) (List.mem_cons_of_mem _ wC_fRX3_12) dX3_readMark_125 ?_
              refine lv_iload_n B.1 B.2.1 dX3_readMark_128 rfl (lv_at hl 0 rfl) ?_
              refine c_callv (q := (cq q x y)) (As := [.int (zI ((K4_at 2 ((S.1 8 3) + 1) (ci S 8 3 ((S.1 8 3) + 1)))))]) (rest := []) B hK hM 9 (by decide) (by decide) rfl (cX5_add_ok l D cy (cq q x y) 7 b (ci (ci S 8 3 ((S.1 8 3) + 1)) 8 3 (((S.1 8 3) + 1) + 1)) hF  ((K4_at 2 ((S.1 8 3) + 1) (ci S 8 3 ((S.1 8 3) + 1)))) (by show 0 ≤ ((K4_at 2 ((S.1 8 3) + 1) (ci S 8 3 ((S.1 8 3) + 1)))); omega) (by show ((K4_at 2 ((S.1 8 3) + 1) (ci S 8 3 ((S.1 8 3) + 1)))) < 65536; omega)) (cwC 1 B wC_mRX3_167 wC_im_yX5_add wC_sl_yX5_add wC_in_RX5 wC_cd_yX5_add rfl rfl (by decide +kernel) ⟨Nat.le_of_ble_eq_true rfl, Nat.le_of_ble_eq_true rfl⟩) rfl hl.1 rfl (Nat.le_of_ble_eq_true rfl) dX3_readMark_129 ⟨g_rc hR (Nat.le_refl _) (cFx_gl (S := (ci (ci S 8 3 ((S.1 8 3) + 1)) 8 3 (((S.1 8 3) + 1) + 1))) hF), g_rs hR (Nat.le_refl _) (cFx_gl (S := (ci (ci S 8 3 ((S.1 8 3) + 1)) 8 3 (((S.1 8 3) + 1) + 1))) hF)⟩ (fun S_31 H locs hp_30 hM => ?_)
              have hp_30 := hp_30.symm
              subst hp_30
              have hg : gl S ≤ gl (K5_add ((K4_at 2 ((S.1 8 3) + 1) (ci S 8 3 ((S.1 8 3) + 1)))) (ci (ci S 8 3 ((S.1 8 3) + 1)) 8 3 (((S.1 8 3) + 1) + 1))) := Nat.le_trans (Nat.le_refl _) (gl_of (S := (ci (ci S 8 3 ((S.1 8 3) + 1)) 8 3 (((S.1 8 3) + 1) + 1))) (S' := (K5_add ((K4_at 2 ((S.1 8 3) + 1) (ci S 8 3 ((S.1 8 3) + 1)))) (ci (ci S 8 3 ((S.1 8 3) + 1)) 8 3 (((S.1 8 3) + 1) + 1)))) K5_add_22)
              refine W.widen (k := gl (K5_add ((K4_at 2 ((S.1 8 3) + 1) (ci S 8 3 ((S.1 8 3) + 1)))) (ci (ci S 8 3 ((S.1 8 3) + 1)) 8 3 (((S.1 8 3) + 1) + 1))) - gl S) (n := 2 * (gl (K5_add ((K4_at 2 ((S.1 8 3) + 1) (ci S 8 3 ((S.1 8 3) + 1)))) (ci (ci S 8 3 ((S.1 8 3) + 1)) 8 3 (((S.1 8 3) + 1) + 1))) - gl S)) (Nat.sub_le_sub_right (gl_of (S := (ci (ci S 8 3 ((S.1 8 3) + 1)) 8 3 (((S.1 8 3) + 1) + 1))) (S' := (K5_add ((K4_at 2 ((S.1 8 3) + 1) (ci S 8 3 ((S.1 8 3) + 1)))) (ci (ci S 8 3 ((S.1 8 3) + 1)) 8 3 (((S.1 8 3) + 1) + 1)))) K5_add_22) _) (Nat.mul_le_mul_left 2 (Nat.sub_le_sub_right (gl_of (S := (ci (ci S 8 3 ((S.1 8 3) + 1)) 8 3 (((S.1 8 3) + 1) + 1))) (S' := (K5_add ((K4_at 2 ((S.1 8 3) + 1) (ci S 8 3 ((S.1 8 3) + 1)))) (ci (ci S 8 3 ((S.1 8 3) + 1)) 8 3 (((S.1 8 3) + 1) + 1)))) K5_add_22) _)) ?_
              have hF : cFx 7 b (K5_add ((K4_at 2 ((S.1 8 3) + 1) (ci S 8 3 ((S.1 8 3) + 1)))) (ci (ci S 8 3 ((S.1 8 3) + 1)) 8 3 (((S.1 8 3) + 1) + 1))) := cFx_of K5_add_22 hF
              have hP : pB 7 (K5_add ((K4_at 2 ((S.1 8 3) + 1) (ci S 8 3 ((S.1 8 3) + 1)))) (ci (ci S 8 3 ((S.1 8 3) + 1)) 8 3 (((S.1 8 3) + 1) + 1))) := pB_of (congrFun K5_add_1 _) (fun j hj => congrFun K5_add_1 _) hP
              refine lv_iload_n B.1 B.2.1 dX3_readMark_132 rfl (lv_at hl 0 rfl) ?_
              exact g_reti (S := (K5_add ((K4_at 2 ((S.1 8 3) + 1) (ci S 8 3 ((S.1 8 3) + 1)))) (ci (ci S 8 3 ((S.1 8 3) + 1)) 8 3 (((S.1 8 3) + 1) + 1)))) B hM (by unfold K3_readMark; exact ((if_neg c_6).trans ((if_pos c_7).trans ((if_pos c_16).trans ((if_neg c_17).trans ((if_neg c_21).trans (if_pos c_28))))))) dX3_readMark_133
            · --
              exact g_throw (S := (ci (ci S 8 3 ((S.1 8 3) + 1)) 8 3 (((S.1 8 3) + 1) + 1))) (E := "java/lang/IllegalArgumentException") (ik := 49) (is := 194) (ic := 53) 17 (by decide) hl0 B hG hM rfl sX_java_lang_IllegalArgumentException (by decide +kernel) (List.mem_cons_of_mem _ wC_cRX3_49) (List.mem_cons_of_mem _ wC_in__java_lang_IllegalArgumentException_) (tC_RX3_53 _) tN_RX3_53 hl.1 (Nat.le_of_ble_eq_true rfl) hR (Nat.le_of_ble_eq_true rfl) (Nat.le_of_ble_eq_true rfl) (Nat.le_refl _) (cFx_gl hF) (tO_RX3_53 _) dX3_readMark_114 dX3_readMark_117 dX3_readMark_118 dX3_readMark_120 dX3_readMark_123 (by unfold K3_readMark; exact ((if_neg c_6).trans ((if_pos c_7).trans ((if_pos c_16).trans ((if_neg c_17).trans ((if_neg c_21).trans (if_neg c_28)))))))
      · --
        refine lv_aload_n B.1 B.2.1 dX3_readMark_83 rfl (lv_at hl 2 rfl) ?_
        refine c_getr (q := (cq q x y)) (r := 9) B (iC3 _) hK hM 8 1 3 (by decide) rfl rfl (by decide) (by decide) rfl rfl rfl (cFx_r hF 8 1) (List.mem_cons_of_mem _ wC_fRX3_12) dX3_readMark_84 ?_
        refine lv_iload_n B.1 B.2.1 dX3_readMark_87 rfl (lv_at hl 0 rfl) ?_
        refine c_callv (q := (cq q x y)) (As := [.int (zI ((K4_at 2 ((S.1 8 3) + 1) (ci S 8 3 ((S.1 8 3) + 1)))))]) (rest := []) B hK hM 9 (by decide) (by decide) rfl (cX5_addKind_ok l D cy (cq q x y) 7 b (ci (ci S 8 3 ((S.1 8 3) + 1)) 8 3 (((S.1 8 3) + 1) + 1)) hF  ((K4_at 2 ((S.1 8 3) + 1) (ci S 8 3 ((S.1 8 3) + 1)))) (by show 0 ≤ ((K4_at 2 ((S.1 8 3) + 1) (ci S 8 3 ((S.1 8 3) + 1)))); omega) (by show ((K4_at 2 ((S.1 8 3) + 1) (ci S 8 3 ((S.1 8 3) + 1)))) < 65536; omega)) (cwC 1 B wC_mRX3_190 wC_im_yX5_addKind wC_sl_yX5_addKind wC_in_RX5 wC_cd_yX5_addKind rfl rfl (by decide +kernel) ⟨Nat.le_of_ble_eq_true rfl, Nat.le_of_ble_eq_true rfl⟩) rfl hl.1 rfl (Nat.le_of_ble_eq_true rfl) dX3_readMark_88 ⟨g_rc hR (Nat.le_refl _) (cFx_gl (S := (ci (ci S 8 3 ((S.1 8 3) + 1)) 8 3 (((S.1 8 3) + 1) + 1))) hF), g_rs hR (Nat.le_refl _) (cFx_gl (S := (ci (ci S 8 3 ((S.1 8 3) + 1)) 8 3 (((S.1 8 3) + 1) + 1))) hF)⟩ (fun S_34 H locs hp_33 hM => ?_)
        have hp_33 := hp_33.symm
        subst hp_33
        have hg : gl S ≤ gl (K5_addKind ((K4_at 2 ((S.1 8 3) + 1) (ci S 8 3 ((S.1 8 3) + 1)))) (ci (ci S 8 3 ((S.1 8 3) + 1)) 8 3 (((S.1 8 3) + 1) + 1))) := Nat.le_trans (Nat.le_refl _) (gl_of (S := (ci (ci S 8 3 ((S.1 8 3) + 1)) 8 3 (((S.1 8 3) + 1) + 1))) (S' := (K5_addKind ((K4_at 2 ((S.1 8 3) + 1) (ci S 8 3 ((S.1 8 3) + 1)))) (ci (ci S 8 3 ((S.1 8 3) + 1)) 8 3 (((S.1 8 3) + 1) + 1)))) K5_addKind_22)
        refine W.widen (k := gl (K5_addKind ((K4_at 2 ((S.1 8 3) + 1) (ci S 8 3 ((S.1 8 3) + 1)))) (ci (ci S 8 3 ((S.1 8 3) + 1)) 8 3 (((S.1 8 3) + 1) + 1))) - gl S) (n := 2 * (gl (K5_addKind ((K4_at 2 ((S.1 8 3) + 1) (ci S 8 3 ((S.1 8 3) + 1)))) (ci (ci S 8 3 ((S.1 8 3) + 1)) 8 3 (((S.1 8 3) + 1) + 1))) - gl S)) (Nat.sub_le_sub_right (gl_of (S := (ci (ci S 8 3 ((S.1 8 3) + 1)) 8 3 (((S.1 8 3) + 1) + 1))) (S' := (K5_addKind ((K4_at 2 ((S.1 8 3) + 1) (ci S 8 3 ((S.1 8 3) + 1)))) (ci (ci S 8 3 ((S.1 8 3) + 1)) 8 3 (((S.1 8 3) + 1) + 1)))) K5_addKind_22) _) (Nat.mul_le_mul_left 2 (Nat.sub_le_sub_right (gl_of (S := (ci (ci S 8 3 ((S.1 8 3) + 1)) 8 3 (((S.1 8 3) + 1) + 1))) (S' := (K5_addKind ((K4_at 2 ((S.1 8 3) + 1) (ci S 8 3 ((S.1 8 3) + 1)))) (ci (ci S 8 3 ((S.1 8 3) + 1)) 8 3 (((S.1 8 3) + 1) + 1)))) K5_addKind_22) _)) ?_
        have hF : cFx 7 b (K5_addKind ((K4_at 2 ((S.1 8 3) + 1) (ci S 8 3 ((S.1 8 3) + 1)))) (ci (ci S 8 3 ((S.1 8 3) + 1)) 8 3 (((S.1 8 3) + 1) + 1))) := cFx_of K5_addKind_22 hF
        have hP : pB 7 (K5_addKind ((K4_at 2 ((S.1 8 3) + 1) (ci S 8 3 ((S.1 8 3) + 1)))) (ci (ci S 8 3 ((S.1 8 3) + 1)) 8 3 (((S.1 8 3) + 1) + 1))) := pB_of (congrFun K5_addKind_1 _) (fun j hj => congrFun K5_addKind_1 _) hP
        refine z_iconst B.1 B.2.1 dX3_readMark_91 ?_
        exact g_reti (S := (K5_addKind ((K4_at 2 ((S.1 8 3) + 1) (ci S 8 3 ((S.1 8 3) + 1)))) (ci (ci S 8 3 ((S.1 8 3) + 1)) 8 3 (((S.1 8 3) + 1) + 1)))) B hM (by unfold K3_readMark; exact ((if_neg c_6).trans ((if_pos c_7).trans (if_neg c_16)))) dX3_readMark_92
    · --
      refine lv_aload_n B.1 B.2.1 dX3_readMark_42 rfl (lv_at hl 1 rfl) ?_
      refine c_getr (q := (cq q x y)) (r := 9) B (iC3 _) hK hM 8 1 3 (by decide) rfl rfl (by decide) (by decide) rfl rfl rfl (cFx_r hF 8 1) (List.mem_cons_of_mem _ wC_fRX3_12) dX3_readMark_43 ?_
      refine lv_iload_n B.1 B.2.1 dX3_readMark_46 rfl (lv_at hl 0 rfl) ?_
      refine c_callv (q := (cq q x y)) (As := [.int (zI ((K4_at 2 (S.1 8 3) S)))]) (rest := []) B hK hM 9 (by decide) (by decide) rfl (cX5_add_ok l D cy (cq q x y) 7 b (ci S 8 3 ((S.1 8 3) + 1)) hF  ((K4_at 2 (S.1 8 3) S)) (by show 0 ≤ ((K4_at 2 (S.1 8 3) S)); omega) (by show ((K4_at 2 (S.1 8 3) S)) < 65536; omega)) (cwC 1 B wC_mRX3_167 wC_im_yX5_add wC_sl_yX5_add wC_in_RX5 wC_cd_yX5_add rfl rfl (by decide +kernel) ⟨Nat.le_of_ble_eq_true rfl, Nat.le_of_ble_eq_true rfl⟩) rfl hl.1 rfl (Nat.le_of_ble_eq_true rfl) dX3_readMark_47 ⟨g_rc hR (Nat.le_refl _) (cFx_gl (S := (ci S 8 3 ((S.1 8 3) + 1))) hF), g_rs hR (Nat.le_refl _) (cFx_gl (S := (ci S 8 3 ((S.1 8 3) + 1))) hF)⟩ (fun S_37 H locs hp_36 hM => ?_)
      have hp_36 := hp_36.symm
      subst hp_36
      have hg : gl S ≤ gl (K5_add ((K4_at 2 (S.1 8 3) S)) (ci S 8 3 ((S.1 8 3) + 1))) := Nat.le_trans (Nat.le_refl _) (gl_of (S := (ci S 8 3 ((S.1 8 3) + 1))) (S' := (K5_add ((K4_at 2 (S.1 8 3) S)) (ci S 8 3 ((S.1 8 3) + 1)))) K5_add_22)
      refine W.widen (k := gl (K5_add ((K4_at 2 (S.1 8 3) S)) (ci S 8 3 ((S.1 8 3) + 1))) - gl S) (n := 2 * (gl (K5_add ((K4_at 2 (S.1 8 3) S)) (ci S 8 3 ((S.1 8 3) + 1))) - gl S)) (Nat.sub_le_sub_right (gl_of (S := (ci S 8 3 ((S.1 8 3) + 1))) (S' := (K5_add ((K4_at 2 (S.1 8 3) S)) (ci S 8 3 ((S.1 8 3) + 1)))) K5_add_22) _) (Nat.mul_le_mul_left 2 (Nat.sub_le_sub_right (gl_of (S := (ci S 8 3 ((S.1 8 3) + 1))) (S' := (K5_add ((K4_at 2 (S.1 8 3) S)) (ci S 8 3 ((S.1 8 3) + 1)))) K5_add_22) _)) ?_
      have hF : cFx 7 b (K5_add ((K4_at 2 (S.1 8 3) S)) (ci S 8 3 ((S.1 8 3) + 1))) := cFx_of K5_add_22 hF
      have hP : pB 7 (K5_add ((K4_at 2 (S.1 8 3) S)) (ci S 8 3 ((S.1 8 3) + 1))) := pB_of (congrFun K5_add_1 _) (fun j hj => congrFun K5_add_1 _) hP
      refine lv_iload_n B.1 B.2.1 dX3_readMark_50 rfl (lv_at hl 0 rfl) ?_
      exact g_reti (S := (K5_add ((K4_at 2 (S.1 8 3) S)) (ci S 8 3 ((S.1 8 3) + 1)))) B hM (by unfold K3_readMark; exact ((if_neg c_6).trans (if_neg c_7))) dX3_readMark_51
  · --
    exact g_throw (S := (ci S 8 3 ((S.1 8 3) + 1))) (E := "java/lang/IllegalArgumentException") (ik := 49) (is := 205) (ic := 53) 19 (by decide) hl0 B hG hM rfl sX_java_lang_IllegalArgumentException (by decide +kernel) (List.mem_cons_of_mem _ wC_cRX3_49) (List.mem_cons_of_mem _ wC_in__java_lang_IllegalArgumentException_) (tC_RX3_53 _) tN_RX3_53 hl.1 (Nat.le_of_ble_eq_true rfl) hR (Nat.le_of_ble_eq_true rfl) (Nat.le_of_ble_eq_true rfl) (Nat.le_refl _) (cFx_gl hF) (tO_RX3_53 _) dX3_readMark_26 dX3_readMark_29 dX3_readMark_30 dX3_readMark_32 dX3_readMark_35 (by unfold K3_readMark; exact (if_pos c_6))
