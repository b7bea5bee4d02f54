theorem cFx_a7 {a b : Nat} {S : CSt} (hF : cFx a b S) : cFx 7 b (cr S 8 2 7) := by
  obtain ⟨h1, h2⟩ := hF
  refine ⟨?_, h2⟩
  funext n k
  by_cases hn : n = 8
  · subst hn
    rw [cr_eq, h1]
    dsimp only
    by_cases hk : k = 2
    · rw [if_pos hk, hk]; rfl
    · rw [if_neg hk]
      rcases k with _ | _ | _ | k
      · rfl
      · rfl
      · exact absurd rfl hk
      · rfl
  · rw [cr_ne hn, h1]
    unfold cRef
    (repeat' split) <;> first | rfl | contradiction
theorem pB_clr {S : CSt} {fl : Int} (hP : pB 7 S) (h0 : 0 ≤ fl) (h1 : fl ≤ 7) : pB 7 (ci (ci (ci (ci (ci S 7 5 0) 7 10 0) 7 11 0) 7 12 0) 7 13 fl) := by
  obtain ⟨hPa, -⟩ := hP
  refine ⟨fun j i hj => ?_, ?_⟩
  · have h7 : pA 7 j ≠ 7 := by unfold pA; omega
    rw [ci_ne h7, ci_ne h7, ci_ne h7, ci_ne h7, ci_ne h7]
    exact hPa j i hj
  · simp only [ci_eq]
    exact ⟨Int.le_refl _, by show (0 : Int) ≤ 96; decide, Int.le_refl _, by show (0 : Int) ≤ 20; decide, Int.le_refl _, by show (0 : Int) ≤ 10; decide, Int.le_refl _, by show (0 : Int) ≤ 9; decide, h0, h1⟩
def K3_read (fl : Int) (S : CSt) : CR := (gBd (K3_al 9 0 (ci (ci (ci (ci (ci (ci (ci (cr S 8 2 7) 7 5 0) 7 10 0) 7 11 0) 7 12 0) 7 13 fl) 8 3 0) 8 4 0)) (fun v_6 S_7 => (if (S_7.1 2 1) ≤ (S_7.1 8 3) then (if (S_7.1 8 4) ≤ (S_7.1 7 12) then (if (K3_checkWeight v_6 S_7).1 = 0 then (gBd (K2_add 0 (-1) (-1) S_7) (fun v_23 S_24 => (0, 0, S_24))) else (1, 0, (K3_checkWeight v_6 S_7).2.2)) else (1, 0, S_7)) else (1, 0, S_7))))
set_option maxHeartbeats 1000000 in
set_option maxRecDepth 100000 in
theorem cX3_read_ok (l : Launch) (hl0 : l.stackTraces = false) (D : va_G) (cy : Nat → ClassId) (q : Nat → Nat) (V : Nat × (Nat → Nat)) (n0 x y a b : Nat) (S : CSt) (hF : cFx a b S) (fl : Int) (hP : pB 7 S) (hLa : 0 ≤ S.1 2 1) (hLb : S.1 2 1 ≤ 40) (hcs : ∀ j, 0 ≤ S.1 13 j ∧ S.1 13 j ≤ 126) (hna : 0 ≤ S.1 8 5) (hnb : S.1 8 5 ≤ 9) (hma : 0 ≤ S.1 8 6) (hmb : S.1 8 6 ≤ 9 ∨ S.1 8 6 = 1000000) (hzz : S.1 8 7 = 0 ∨ S.1 8 7 = 1) (h0 : 0 ≤ fl) (h1 : fl ≤ 7) : gMv l D cy q V n0 x y "java/lang/IllegalArgumentException" yX3_read (.code yX3_read cX3_read 4 none :: TBC) 127 2843 S [.ref (q 8), .int (zI fl), .ref (q 7)] (K3_read fl S) := by
  refine g_of (cc := cX3_read) (maxL := 4) (ret := none) (by decide) rfl rfl (Nat.le_of_ble_eq_true rfl) ?_
  intro p e s m args below meth c ls B hK hG hM hl
  generalize gA (cq q x y) n0 = A at hG hM ⊢
  have hR : (headSpec (.code yX3_read cX3_read 4 none :: TBC) (gRm 127 2843 S)).room.cells = (gK - gl S) + 1 ∧ (headSpec (.code yX3_read cX3_read 4 none :: TBC) (gRm 127 2843 S)).room.slots = 2 * (gK - gl S) + 6 := ⟨rfl, rfl⟩
  have hl : lv_has ls 4 [(0, .ref (q 8)), (1, .int (zI fl)), (2, .ref (q 7))] := hl
  refine lv_aload_n B.1 B.2.1 dX3_read_0 rfl (lv_at hl 0 rfl) ?_
  refine lv_aload_n B.1 B.2.1 dX3_read_1 rfl (lv_at hl 2 rfl) ?_
  refine c_putr (r := 7) (q := (cq q x y)) B (iC3 _) tyX3 tyX3_ok nmX3 hK hM 8 2 3 (by decide) rfl rfl (by decide) (by decide) rfl rfl rfl (ty := tyX3 2) (by decide +kernel) rfl rfl rfl (List.mem_cons_of_mem _ wC_fRX3_22) dX3_read_2 (fun H locs hM => ?_)
  have hF : cFx 7 b (cr S 8 2 7) := cFx_a7 hF
  have hP : pB 7 (cr S 8 2 7) := hP
  refine lv_aload_n B.1 B.2.1 dX3_read_5 rfl (lv_at hl 0 rfl) ?_
  refine c_getr (q := (cq q x y)) (r := 7) B (iC3 _) hK hM 8 2 3 (by decide) rfl rfl (by decide) (by decide) rfl rfl rfl rfl (List.mem_cons_of_mem _ wC_fRX3_22) dX3_read_6 ?_
  refine lv_iload_n B.1 B.2.1 dX3_read_9 rfl (lv_at hl 1 rfl) ?_
  refine c_callv (q := (cq q x y)) (As := [.int (zI fl)]) (rest := []) B hK hM 7 (by decide) (by decide) rfl (cX2_clear_ok l D cy (cq q x y) 7 b (cr S 8 2 7) hF 7 (by decide) fl ) (cwC 1 B wC_mRX3_26 wC_im_yX2_clear wC_sl_yX2_clear wC_in_RX2 wC_cd_yX2_clear rfl rfl (by decide +kernel) ⟨Nat.le_of_ble_eq_true rfl, Nat.le_of_ble_eq_true rfl⟩) rfl hl.1 rfl (Nat.le_of_ble_eq_true rfl) dX3_read_10 ⟨g_rc hR (Nat.le_refl _) (cFx_gl (S := (cr S 8 2 7)) hF), g_rs hR (Nat.le_refl _) (cFx_gl (S := (cr S 8 2 7)) hF)⟩ (fun S_3 H locs hp_2 hM => ?_)
  have hp_2 := hp_2.symm
  subst hp_2
  have hP : pB 7 (ci (ci (ci (ci (ci (cr S 8 2 7) 7 5 0) 7 10 0) 7 11 0) 7 12 0) 7 13 fl) := pB_clr (S := (cr S 8 2 7)) hP h0 h1
  refine lv_aload_n B.1 B.2.1 dX3_read_13 rfl (lv_at hl 0 rfl) ?_
  refine z_iconst B.1 B.2.1 dX3_read_14 ?_
  refine c_puti (q := (cq q x y)) B (iC3 _) tyX3 tyX3_ok nmX3 hK hM 8 3 3 (by decide) rfl rfl (by decide) (by decide) rfl rfl rfl (by decide +kernel) (by decide) (List.mem_cons_of_mem _ wC_fRX3_32) dX3_read_15 (fun H locs hM => ?_)
  have hP : pB 7 (ci (ci (ci (ci (ci (ci (cr S 8 2 7) 7 5 0) 7 10 0) 7 11 0) 7 12 0) 7 13 fl) 8 3 0) := pB_ci (by decide) (by decide) hP
  refine lv_aload_n B.1 B.2.1 dX3_read_18 rfl (lv_at hl 0 rfl) ?_
  refine z_iconst B.1 B.2.1 dX3_read_19 ?_
  refine c_puti (q := (cq q x y)) B (iC3 _) tyX3 tyX3_ok nmX3 hK hM 8 4 3 (by decide) rfl rfl (by decide) (by decide) rfl rfl rfl (by decide +kernel) (by decide) (List.mem_cons_of_mem _ wC_fRX3_36) dX3_read_20 (fun H locs hM => ?_)
  have hP : pB 7 (ci (ci (ci (ci (ci (ci (ci (cr S 8 2 7) 7 5 0) 7 10 0) 7 11 0) 7 12 0) 7 13 fl) 8 3 0) 8 4 0) := pB_ci (by decide) (by decide) hP
  refine lv_aload_n B.1 B.2.1 dX3_read_23 rfl (lv_at hl 0 rfl) ?_
  refine z_iconst B.1 B.2.1 dX3_read_24 ?_
  have hV : rV (ci (ci (ci (ci (ci (ci (ci (cr S 8 2 7) 7 5 0) 7 10 0) 7 11 0) 7 12 0) 7 13 fl) 8 3 0) 8 4 0) := ⟨hP, (by show 0 ≤ (S.1 2 1); omega), (by show (S.1 2 1) ≤ 40; omega), hcs, (by show 0 ≤ 0; omega), (by show 0 ≤ (S.1 2 1); omega), (by show 0 ≤ 0; omega), (by show 0 ≤ 9; omega), (by show 0 ≤ (S.1 8 5); omega), (by show (S.1 8 5) ≤ 9; omega), (by show 0 ≤ (S.1 8 6); omega), (by show (S.1 8 6) ≤ 9 ∨ (S.1 8 6) = 1000000; omega), (by show (S.1 8 7) = 0 ∨ (S.1 8 7) = 1; omega)⟩
  refine g_calli (E := "java/lang/IllegalArgumentException") (As := [.int (zI 0)]) (rest := []) B hK hG hM 8 (by decide) (by decide) rfl (K3_al9_ok l hl0 D cy q V n0 x y b (ci (ci (ci (ci (ci (ci (ci (cr S 8 2 7) 7 5 0) 7 10 0) 7 11 0) 7 12 0) 7 13 fl) 8 3 0) 8 4 0) hF 0 hV (by decide) (by decide)) (cwC 1 B wC_mRX3_39 wC_im_yX3_readAlternatives wC_sl_yX3_readAlternatives wC_in_RX3 wC_cd_yX3_readAlternatives rfl rfl (by decide +kernel) ⟨Nat.le_of_ble_eq_true rfl, Nat.le_of_ble_eq_true rfl⟩) rfl hl.1 rfl (Nat.le_of_ble_eq_true rfl) dX3_read_25 hR (Nat.le_refl _) (cFx_gl hF) (gl_of (S := (ci (ci (ci (ci (ci (ci (ci (cr S 8 2 7) 7 5 0) 7 10 0) 7 11 0) 7 12 0) 7 13 fl) 8 3 0) 8 4 0)) (K3_al_R 9 (ci (ci (ci (ci (ci (ci (ci (cr S 8 2 7) 7 5 0) 7 10 0) 7 11 0) 7 12 0) 7 13 fl) 8 3 0) 8 4 0) 0 hV).1.1) (fun c_5 => (by unfold K3_read; exact (if_neg c_5))) (fun x y H locs c_5 hM => ?_)
  have hg : gl S ≤ gl (K3_al 9 0 (ci (ci (ci (ci (ci (ci (ci (cr S 8 2 7) 7 5 0) 7 10 0) 7 11 0) 7 12 0) 7 13 fl) 8 3 0) 8 4 0)).2.2 := Nat.le_trans (Nat.le_refl _) (gl_of (S := (ci (ci (ci (ci (ci (ci (ci (cr S 8 2 7) 7 5 0) 7 10 0) 7 11 0) 7 12 0) 7 13 fl) 8 3 0) 8 4 0)) (K3_al_R 9 (ci (ci (ci (ci (ci (ci (ci (cr S 8 2 7) 7 5 0) 7 10 0) 7 11 0) 7 12 0) 7 13 fl) 8 3 0) 8 4 0) 0 hV).1.1)
  obtain ⟨k_4, -, k_4v, -⟩ := K3_al_R 9 (ci (ci (ci (ci (ci (ci (ci (cr S 8 2 7) 7 5 0) 7 10 0) 7 11 0) 7 12 0) 7 13 fl) 8 3 0) 8 4 0) 0 hV
  obtain ⟨hV, k_4l, k_4p⟩ := k_4v c_5
  have hF : cFx 7 b (K3_al 9 0 (ci (ci (ci (ci (ci (ci (ci (cr S 8 2 7) 7 5 0) 7 10 0) 7 11 0) 7 12 0) 7 13 fl) 8 3 0) 8 4 0)).2.2 := cFx_of k_4.1 hF
  generalize hS_7 : (K3_al 9 0 (ci (ci (ci (ci (ci (ci (ci (cr S 8 2 7) 7 5 0) 7 10 0) 7 11 0) 7 12 0) 7 13 fl) 8 3 0) 8 4 0)).2.2 = S_7 at *
  generalize hv_6 : (K3_al 9 0 (ci (ci (ci (ci (ci (ci (ci (cr S 8 2 7) 7 5 0) 7 10 0) 7 11 0) 7 12 0) 7 13 fl) 8 3 0) 8 4 0)).2.1 = v_6 at *
  obtain ⟨hP, hLa, hLb, hcs, ha0, ha1, hga, hgb, hna, hnb, hma, hmb, hzz⟩ := id hV
  obtain ⟨hPa, p5a, p5b, pla, plb, pka, pkb, pga, pgb, pfa, pfb⟩ := id hP
  have hz83 : (ci (ci (ci (ci (ci (ci (ci (cr S 8 2 7) 7 5 0) 7 10 0) 7 11 0) 7 12 0) 7 13 fl) 8 3 0) 8 4 0).1 8 3 = 0 := rfl
  obtain ⟨k_4pa, k_4pb⟩ := k_4p
  refine lv_istore_n (lv' := [(3, .int (zI v_6)), (0, .ref (q 8)), (1, .int (zI fl)), (2, .ref (q 7))]) B.1 B.2.1 dX3_read_28 rfl hl (by decide) rfl (fun ls hl => ?_)
  refine lv_aload_n B.1 B.2.1 dX3_read_29 rfl (lv_at hl 1 rfl) ?_
  refine c_geti (q := (cq q x y)) (x := S_7.1 8 3) B (iC3 _) hK hM 8 3 3 (by decide) rfl rfl (by decide) (by decide) rfl rfl (by decide) rfl (List.mem_cons_of_mem _ wC_fRX3_32) dX3_read_30 ?_
  refine lv_aload_n B.1 B.2.1 dX3_read_33 rfl (lv_at hl 1 rfl) ?_
  refine c_getr (q := (cq q x y)) (r := 2) B (iC3 _) hK hM 8 0 3 (by decide) rfl rfl (by decide) (by decide) rfl rfl rfl (cFx_r hF 8 0) (List.mem_cons_of_mem _ wC_fRX3_18) dX3_read_34 ?_
  refine c_calli (q := (cq q x y)) (As := []) (rest := [.int (zI (S_7.1 8 3))]) B hK hM 2 (by decide) (by decide) rfl (cX4_length_ok l D cy (cq q x y) 7 b S_7 hF 2 (by decide)  ) (cwC 0 B wC_mRX3_43 wC_im_yX4_length wC_sl_yX4_length wC_in_RX4 wC_cd_yX4_length rfl rfl (by decide +kernel) ⟨Nat.le_of_ble_eq_true rfl, Nat.le_of_ble_eq_true rfl⟩) rfl hl.1 rfl (Nat.le_of_ble_eq_true rfl) dX3_read_37 ⟨g_rc hR hg (cFx_gl (S := S_7) hF), g_rs hR hg (cFx_gl (S := S_7) hF)⟩ (fun z_11 S_10 H locs hp_9 hM => ?_)
  obtain ⟨hp_9, he_hp_9⟩ := hp_9
  have he_hp_9 := he_hp_9.symm
  subst he_hp_9
  have hp_9 : S_7.1 2 1 = z_11 := hp_9.symm
  subst hp_9
  refine z_icmp_ge (tgt := 53) B.1 B.2.1 (zr_of (by omega) (by omega)) (zr_of (by omega) (by omega)) dX3_read_40 (by decide) (fun c_12 => ?_) (fun c_12 => ?_)
  · --
    refine lv_aload_n B.1 B.2.1 dX3_read_53 rfl (lv_at hl 1 rfl) ?_
    refine c_geti (q := (cq q x y)) (x := S_7.1 8 4) B (iC3 _) hK hM 8 4 3 (by decide) rfl rfl (by decide) (by decide) rfl rfl (by decide) rfl (List.mem_cons_of_mem _ wC_fRX3_36) dX3_read_54 ?_
    refine lv_aload_n B.1 B.2.1 dX3_read_57 rfl (lv_at hl 1 rfl) ?_
    refine c_getr (q := (cq q x y)) (r := 7) B (iC3 _) hK hM 8 2 3 (by decide) rfl rfl (by decide) (by decide) rfl rfl rfl (cFx_r hF 8 2) (List.mem_cons_of_mem _ wC_fRX3_22) dX3_read_58 ?_
    refine c_calli (q := (cq q x y)) (As := []) (rest := [.int (zI (S_7.1 8 4))]) B hK hM 7 (by decide) (by decide) rfl (cX2_groups_ok l D cy (cq q x y) 7 b S_7 hF 7 (by decide)  ) (cwC 0 B wC_mRX3_56 wC_im_yX2_groups wC_sl_yX2_groups wC_in_RX2 wC_cd_yX2_groups rfl rfl (by decide +kernel) ⟨Nat.le_of_ble_eq_true rfl, Nat.le_of_ble_eq_true rfl⟩) rfl hl.1 rfl (Nat.le_of_ble_eq_true rfl) dX3_read_61 ⟨g_rc hR hg (cFx_gl (S := S_7) hF), g_rs hR hg (cFx_gl (S := S_7) hF)⟩ (fun z_16 S_15 H locs hp_14 hM => ?_)
    obtain ⟨hp_14, he_hp_14⟩ := hp_14
    have he_hp_14 := he_hp_14.symm
    subst he_hp_14
    have hp_14 : S_7.1 7 12 = z_16 := hp_14.symm
    subst hp_14
    refine z_icmp_le (tgt := 77) B.1 B.2.1 (zr_of (by omega) (by omega)) (zr_of (by omega) (by omega)) dX3_read_64 (by decide) (fun c_17 => ?_) (fun c_17 => ?_)
    · --
      refine lv_iload_n B.1 B.2.1 dX3_read_77 rfl (lv_at hl 0 rfl) ?_
      refine g_scallv (E := "java/lang/IllegalArgumentException") (As := [.int (zI v_6)]) (rest := []) B hK hG hM (cX3_checkWeight_ok l hl0 D cy q V n0 x y b S_7 hF v_6 (by show -1000000 ≤ v_6; omega) (by show v_6 ≤ 1000000; omega)) (csC 1 B wC_mRX3_61 wC_st_yX3_checkWeight wC_in_RX3 wC_cd_yX3_checkWeight rfl rfl (by decide +kernel) ⟨Nat.le_of_ble_eq_true rfl, Nat.le_of_ble_eq_true rfl⟩) rfl hl.1 rfl (Nat.le_of_ble_eq_true rfl) dX3_read_78 hR hg (cFx_gl hF) (gl_of (congrArg (fun z : CSt => z.2.2) (K3_cw_22 (wt := v_6) (S := S_7)))) (fun c_19 => (by subst hS_7; subst hv_6; unfold K3_read; exact ((if_pos c_5).trans ((if_pos c_12).trans ((if_pos c_17).trans (if_neg c_19)))))) (fun x y H locs c_19 hM => ?_)
      rw [K3_cw c_19] at hM ⊢
      have f_20 := K3_cw_le c_19
      refine lv_aload_n B.1 B.2.1 dX3_read_81 rfl (lv_at hl 1 rfl) ?_
      refine c_getr (q := (cq q x y)) (r := 7) B (iC3 _) hK hM 8 2 3 (by decide) rfl rfl (by decide) (by decide) rfl rfl rfl (cFx_r hF 8 2) (List.mem_cons_of_mem _ wC_fRX3_22) dX3_read_82 ?_
      refine z_iconst B.1 B.2.1 dX3_read_85 ?_
      refine z_iconst B.1 B.2.1 dX3_read_86 ?_
      refine z_iconst B.1 B.2.1 dX3_read_87 ?_
      refine g_calli (E := "java/lang/IllegalArgumentException") (As := [.int (zI 0), .int (zI (-1)), .int (zI (-1))]) (rest := []) B hK hG hM 7 (by decide) (by decide) rfl (cX2_add_ok l hl0 D cy q V n0 x y 7 b S_7 hF  0 (-1) (-1) hV.1) (cwC 3 B wC_mRX3_64 wC_im_yX2_add wC_sl_yX2_add wC_in_RX2 wC_cd_yX2_add rfl rfl (by decide +kernel) ⟨Nat.le_of_ble_eq_true rfl, Nat.le_of_ble_eq_true rfl⟩) rfl hl.1 rfl (Nat.le_of_ble_eq_true rfl) dX3_read_88 hR hg (cFx_gl hF) (gl_of (congrArg Prod.snd K2_add_2)) (fun c_22 => (by subst hS_7; subst hv_6; unfold K3_read; exact ((if_pos c_5).trans ((if_pos c_12).trans ((if_pos c_17).trans ((if_pos c_19).trans (if_neg c_22))))))) (fun x y H locs c_22 hM => ?_)
      have hg : gl S ≤ gl (K2_add 0 (-1) (-1) S_7).2.2 := Nat.le_trans hg (gl_of (congrArg Prod.snd K2_add_2))
      have hV := rV_add (kd := 0) (am := (-1)) (nb := (-1)) (S := S_7) hV c_22 (by omega) (by omega) (by omega) (by omega) (by omega) (by omega)
      have hF : cFx 7 b (K2_add 0 (-1) (-1) S_7).2.2 := cFx_of (congrArg Prod.snd K2_add_2) hF
      obtain ⟨k_21f, k_21a, k_21b, -⟩ := K2_add_v c_22
      have k_21s := K2_add_s c_22
      have k_218 : (K2_add 0 (-1) (-1) S_7).2.2.1 8 3 = S_7.1 8 3 := congrFun (K2_add_1 (n := 8) (by decide)) 3
      have k_219 : (K2_add 0 (-1) (-1) S_7).2.2.1 8 4 = S_7.1 8 4 := congrFun (K2_add_1 (n := 8) (by decide)) 4
      have k_21g : (K2_add 0 (-1) (-1) S_7).2.2.1 7 12 = S_7.1 7 12 := K2_add_12
      have k_21t : (K2_add 0 (-1) (-1) S_7).2.2.1 2 = S_7.1 2 := K2_add_1 (by decide)
      have k_21u : (K2_add 0 (-1) (-1) S_7).2.2.1 13 = S_7.1 13 := K2_add_1 (by decide)
      generalize hS_24 : (K2_add 0 (-1) (-1) S_7).2.2 = S_24 at *
      generalize hv_23 : (K2_add 0 (-1) (-1) S_7).2.1 = v_23 at *
      obtain ⟨hP, hLa, hLb, hcs, ha0, ha1, hga, hgb, hna, hnb, hma, hmb, hzz⟩ := id hV
      obtain ⟨hPa, p5a, p5b, pla, plb, pka, pkb, pga, pgb, pfa, pfb⟩ := id hP
      refine lv_pop B.1 B.2.1 dX3_read_91 rfl ?_
      exact g_retv (S := S_24) B hM (by subst hS_7; subst hv_6; subst hS_24; subst hv_23; unfold K3_read; exact ((if_pos c_5).trans ((if_pos c_12).trans ((if_pos c_17).trans ((if_pos c_19).trans (if_pos c_22)))))) dX3_read_92
    · --
      exact g_throw (S := S_7) (E := "java/lang/IllegalArgumentException") (ik := 49) (is := 59) (ic := 53) 24 (by decide) hl0 B hG hM rfl sX_java_lang_IllegalArgumentException (by decide +kernel) (List.mem_cons_of_mem _ wC_cRX3_49) (List.mem_cons_of_mem _ wC_in__java_lang_IllegalArgumentException_) (tC_RX3_53 _) tN_RX3_53 hl.1 (Nat.le_of_ble_eq_true rfl) hR (Nat.le_of_ble_eq_true rfl) (Nat.le_of_ble_eq_true rfl) hg (cFx_gl hF) (tO_RX3_53 _) dX3_read_67 dX3_read_70 dX3_read_71 dX3_read_73 dX3_read_76 (by subst hS_7; subst hv_6; unfold K3_read; exact ((if_pos c_5).trans ((if_pos c_12).trans (if_neg c_17))))
  · --
    exact g_throw (S := S_7) (E := "java/lang/IllegalArgumentException") (ik := 49) (is := 51) (ic := 53) 23 (by decide) hl0 B hG hM rfl sX_java_lang_IllegalArgumentException (by decide +kernel) (List.mem_cons_of_mem _ wC_cRX3_49) (List.mem_cons_of_mem _ wC_in__java_lang_IllegalArgumentException_) (tC_RX3_53 _) tN_RX3_53 hl.1 (Nat.le_of_ble_eq_true rfl) hR (Nat.le_of_ble_eq_true rfl) (Nat.le_of_ble_eq_true rfl) hg (cFx_gl hF) (tO_RX3_53 _) dX3_read_43 dX3_read_46 dX3_read_47 dX3_read_49 dX3_read_52 (by subst hS_7; subst hv_6; unfold K3_read; exact ((if_pos c_5).trans (if_neg c_12)))
def K3_r0 (fl : Int) (S : CSt) : CSt := ci (ci (ci (ci (ci (ci (ci (cr S 8 2 7) 7 5 0) 7 10 0) 7 11 0) 7 12 0) 7 13 fl) 8 3 0) 8 4 0
theorem rV_r0 {fl : Int} {S : CSt} (hP : pB 7 S) (hLa : 0 ≤ S.1 2 1) (hLb : S.1 2 1 ≤ 40) (hcs : ∀ j, 0 ≤ S.1 13 j ∧ S.1 13 j ≤ 126) (hna : 0 ≤ S.1 8 5) (hnb : S.1 8 5 ≤ 9) (hma : 0 ≤ S.1 8 6) (hmb : S.1 8 6 ≤ 9 ∨ S.1 8 6 = 1000000) (hzz : S.1 8 7 = 0 ∨ S.1 8 7 = 1) (h0 : 0 ≤ fl) (h1 : fl ≤ 7) : rV (K3_r0 fl S) :=
  ⟨pB_ci (by decide) (by decide) (pB_ci (by decide) (by decide) (pB_clr (S := cr S 8 2 7) hP h0 h1)), hLa, hLb, hcs, Int.le_refl _, hLa, Int.le_refl _, by show (0 : Int) ≤ 9; decide, hna, hnb, hma, hmb, hzz⟩
theorem K3_read_eq {fl : Int} {S : CSt} : K3_read fl S = gBd (K3_al 9 0 (K3_r0 fl S)) (fun v T => if T.1 2 1 ≤ T.1 8 3 then (if T.1 8 4 ≤ T.1 7 12 then (if (K3_checkWeight v T).1 = 0 then gBd (K2_add 0 (-1) (-1) T) (fun _ U => (0, 0, U)) else (1, 0, (K3_checkWeight v T).2.2)) else (1, 0, T)) else (1, 0, T)) := rfl
theorem K3_read_R {fl : Int} {S : CSt} (hP : pB 7 S) (hLa : 0 ≤ S.1 2 1) (hLb : S.1 2 1 ≤ 40) (hcs : ∀ j, 0 ≤ S.1 13 j ∧ S.1 13 j ≤ 126) (hna : 0 ≤ S.1 8 5) (hnb : S.1 8 5 ≤ 9) (hma : 0 ≤ S.1 8 6) (hmb : S.1 8 6 ≤ 9 ∨ S.1 8 6 = 1000000) (hzz : S.1 8 7 = 0 ∨ S.1 8 7 = 1) (h0 : 0 ≤ fl) (h1 : fl ≤ 7) : rR (fun _ _ => True) (K3_r0 fl S) (K3_read fl S) := by
  have hV := rV_r0 hP hLa hLb hcs hna hnb hma hmb hzz h0 h1
  rw [K3_read_eq]
  generalize K3_r0 fl S = S0 at *
  refine rR.bd (K3_al_R 9 S0 0 hV) (fun _ h2 a2 hp => ?_)
  generalize (K3_al 9 0 S0).2.2 = T at *
  generalize (K3_al 9 0 S0).2.1 = v at *
  (repeat' split)
  · exact rR.ad h2 (by decide) (by decide) (by decide) (by decide) (by decide) (by decide) (fun _ h3 _ _ _ _ => rR.ret rK.rf h3 (Int.le_refl _) trivial)
  · rw [K3_cw_22]; exact rR.thr rK.rf h2.1
  · exact rR.thr rK.rf h2.1
  · exact rR.thr rK.rf h2.1
