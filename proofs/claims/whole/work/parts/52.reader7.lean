def K3_readCountedAtom (F : Int → CSt → CR) (dp : Int) (S : CSt) : CR := (gBd (K2_add 9 (-1) (-1) S) (fun v_7 S_8 => (gBd (K3_readAtom F dp S_8) (fun v_11 S_12 => (gBd (K3_readCount S_12) (fun v_15 S_16 => (if v_15 = 0 then (0, v_11, S_16) else (gBd (K2_addLoop (S_16.1 8 5) (S_16.1 8 6) ((S.1 7 12) + 1) S_16) (fun v_20 S_21 => (gBd (K2_add ((if (S_21.1 8 7) = 0 then 10 else 11 : Int)) (-1) v_20 S_21) (fun v_28 S_29 => (gBd (K2_add 12 (v_7 + 1) v_20 S_29) (fun v_32 S_33 => (if (K3_checkWeight ((v_11 * ((if (S_33.1 8 6) = 1000000 then (S_33.1 8 5) + 1 else (if 1 < (S_33.1 8 6) then S_33.1 8 6 else 1 : Int) : Int))) + 2) (K2_aimAt 7 v_7 v_28 S_33)).1 = 0 then (0, (v_11 * ((if (S_33.1 8 6) = 1000000 then (S_33.1 8 5) + 1 else (if 1 < (S_33.1 8 6) then S_33.1 8 6 else 1 : Int) : Int))) + 2, (K2_aimAt 7 v_7 v_28 S_33)) else (1, 0, (K3_checkWeight ((v_11 * ((if (S_33.1 8 6) = 1000000 then (S_33.1 8 5) + 1 else (if 1 < (S_33.1 8 6) then S_33.1 8 6 else 1 : Int) : Int))) + 2) (K2_aimAt 7 v_7 v_28 S_33)).2.2)))))))))))))))
set_option maxHeartbeats 1000000 in
set_option maxRecDepth 100000 in
theorem cX3_readCountedAtom_ok (l : Launch) (hl0 : l.stackTraces = false) (D : va_G) (cy : Nat → ClassId) (q : Nat → Nat) (V : Nat × (Nat → Nat)) (n0 x y b : Nat) (S : CSt) (hF : cFx 7 b S) (F : Int → CSt → CR) (fA loA : Nat) (L0 : Int) (hA : ∀ (x y : Nat) (S : CSt) (dp : Int), cFx 7 b S → rV S → L0 + 1 ≤ dp → dp ≤ 8 → 0 ≤ dp → gMi l D cy q V n0 x y "java/lang/IllegalArgumentException" yX3_readAlternatives (.code yX3_readAlternatives cX3_readAlternatives 7 (some .int) :: TBC) fA loA S [.ref (q 8), .int (zI dp)] (F dp S)) (hFR : ∀ (S : CSt) (dp : Int), rV S → rR (wP S) S (F dp S)) (dp : Int) (hV : rV S) (hd0 : L0 ≤ dp) (hd1 : dp ≤ 8) (hd2 : 0 ≤ dp) (hs : ¬ K4_at 2 (S.1 8 3) S = 0)  : gMi l D cy q V n0 x y "java/lang/IllegalArgumentException" yX3_readCountedAtom (.code yX3_readCountedAtom cX3_readCountedAtom 9 (some .int) :: TBC) (fA + 11) (loA + 241) S [.ref (q 8), .int (zI dp)] (K3_readCountedAtom F dp S) := by
  refine g_of (cc := cX3_readCountedAtom) (maxL := 9) (ret := (some .int)) (by decide) rfl rfl (Nat.le_of_ble_eq_true rfl) ?_
  intro p e s m args below meth c ls B hK hG hM hl
  generalize gA (cq q x y) n0 = A at hG hM ⊢
  have hR : (headSpec (.code yX3_readCountedAtom cX3_readCountedAtom 9 (some .int) :: TBC) (gRm (fA + 11) (loA + 241) S)).room.cells = (gK - gl S) + 1 ∧ (headSpec (.code yX3_readCountedAtom cX3_readCountedAtom 9 (some .int) :: TBC) (gRm (fA + 11) (loA + 241) S)).room.slots = 2 * (gK - gl S) + 6 := ⟨rfl, rfl⟩
  have hl : lv_has ls 9 [(0, .ref (q 8)), (1, .int (zI dp))] := hl
  obtain ⟨hP, hLa, hLb, hcs, ha0, ha1, hga, hgb, hna, hnb, hma, hmb, hzz⟩ := id hV
  obtain ⟨hPa, p5a, p5b, pla, plb, pka, pkb, pga, pgb, pfa, pfb⟩ := id hP
  refine lv_aload_n B.1 B.2.1 dX3_readCountedAtom_0 rfl (lv_at hl 0 rfl) ?_
  refine c_getr (q := (cq q x y)) (r := 7) B (iC3 _) hK hM 8 2 3 (by decide) rfl rfl (by decide) (by decide) rfl rfl rfl (cFx_r hF 8 2) (List.mem_cons_of_mem _ wC_fRX3_22) dX3_readCountedAtom_1 ?_
  refine c_calli (q := (cq q x y)) (As := []) (rest := []) B hK hM 7 (by decide) (by decide) rfl (cX2_groups_ok l D cy (cq q x y) 7 b S hF 7 (by decide)  ) (cwC 0 B wC_mRX3_56 wC_im_yX2_groups wC_sl_yX2_groups wC_in_RX2 wC_cd_yX2_groups rfl rfl (by decide +kernel) ⟨by show 0 + 1 ≤ fA + 11; omega, by show 8 + (1 + 11) + 0 ≤ loA + 241; omega⟩) rfl hl.1 rfl (Nat.le_of_ble_eq_true rfl) dX3_readCountedAtom_4 ⟨g_rc hR (Nat.le_refl _) (cFx_gl (S := S) hF), g_rs hR (Nat.le_refl _) (cFx_gl (S := S) hF)⟩ (fun z_4 S_3 H locs hp_2 hM => ?_)
  obtain ⟨hp_2, he_hp_2⟩ := hp_2
  have he_hp_2 := he_hp_2.symm
  subst he_hp_2
  have hp_2 : S.1 7 12 = z_4 := hp_2.symm
  subst hp_2
  refine lv_istore_n (lv' := [(2, .int (zI (S.1 7 12))), (0, .ref (q 8)), (1, .int (zI dp))]) B.1 B.2.1 dX3_readCountedAtom_7 rfl hl (by decide) rfl (fun ls hl => ?_)
  refine lv_aload_n B.1 B.2.1 dX3_readCountedAtom_8 rfl (lv_at hl 1 rfl) ?_
  refine c_getr (q := (cq q x y)) (r := 7) B (iC3 _) hK hM 8 2 3 (by decide) rfl rfl (by decide) (by decide) rfl rfl rfl (cFx_r hF 8 2) (List.mem_cons_of_mem _ wC_fRX3_22) dX3_readCountedAtom_9 ?_
  refine z_bipush B.1 B.2.1 (by decide) dX3_readCountedAtom_12 ?_
  refine z_iconst B.1 B.2.1 dX3_readCountedAtom_14 ?_
  refine z_iconst B.1 B.2.1 dX3_readCountedAtom_15 ?_
  refine g_calli (E := "java/lang/IllegalArgumentException") (As := [.int (zI 9), .int (zI (-1)), .int (zI (-1))]) (rest := []) B hK hG hM 7 (by decide) (by decide) rfl (cX2_add_ok l hl0 D cy q V n0 x y 7 b S hF  9 (-1) (-1) hV.1) (cwC 3 B wC_mRX3_64 wC_im_yX2_add wC_sl_yX2_add wC_in_RX2 wC_cd_yX2_add rfl rfl (by decide +kernel) ⟨by show 6 + 1 ≤ fA + 11; omega, by show 8 + (4 + 11) + 90 ≤ loA + 241; omega⟩) rfl hl.1 rfl (Nat.le_of_ble_eq_true rfl) dX3_readCountedAtom_16 hR (Nat.le_refl _) (cFx_gl hF) (gl_of (congrArg Prod.snd K2_add_2)) (fun c_6 => (by unfold K3_readCountedAtom; exact (if_neg c_6))) (fun x y H locs c_6 hM => ?_)
  have hg : gl S ≤ gl (K2_add 9 (-1) (-1) S).2.2 := Nat.le_trans (Nat.le_refl _) (gl_of (congrArg Prod.snd K2_add_2))
  have hV := rV_add (kd := 9) (am := (-1)) (nb := (-1)) (S := S) hV c_6 (by omega) (by omega) (by omega) (by omega) (by omega) (by omega)
  have hF : cFx 7 b (K2_add 9 (-1) (-1) S).2.2 := cFx_of (congrArg Prod.snd K2_add_2) hF
  obtain ⟨k_5f, k_5a, k_5b, -⟩ := K2_add_v c_6
  have k_5s := K2_add_s c_6
  have k_58 : (K2_add 9 (-1) (-1) S).2.2.1 8 3 = S.1 8 3 := congrFun (K2_add_1 (n := 8) (by decide)) 3
  have k_59 : (K2_add 9 (-1) (-1) S).2.2.1 8 4 = S.1 8 4 := congrFun (K2_add_1 (n := 8) (by decide)) 4
  have k_5g : (K2_add 9 (-1) (-1) S).2.2.1 7 12 = S.1 7 12 := K2_add_12
  have k_5t : (K2_add 9 (-1) (-1) S).2.2.1 2 = S.1 2 := K2_add_1 (by decide)
  have k_5u : (K2_add 9 (-1) (-1) S).2.2.1 13 = S.1 13 := K2_add_1 (by decide)
  generalize hS_8 : (K2_add 9 (-1) (-1) S).2.2 = S_8 at *
  generalize hv_7 : (K2_add 9 (-1) (-1) S).2.1 = v_7 at *
  obtain ⟨hP, hLa, hLb, hcs, ha0, ha1, hga, hgb, hna, hnb, hma, hmb, hzz⟩ := id hV
  obtain ⟨hPa, p5a, p5b, pla, plb, pka, pkb, pga, pgb, pfa, pfb⟩ := id hP
  have k_5z : ¬ K4_at 2 (S_8.1 8 3) S_8 = 0 := by rw [k_58, K4_at_cong k_5t k_5u]; exact hs
  refine lv_istore_n (lv' := [(3, .int (zI v_7)), (2, .int (zI (S.1 7 12))), (0, .ref (q 8)), (1, .int (zI dp))]) B.1 B.2.1 dX3_readCountedAtom_19 rfl hl (by decide) rfl (fun ls hl => ?_)
  refine lv_aload_n B.1 B.2.1 dX3_readCountedAtom_20 rfl (lv_at hl 2 rfl) ?_
  refine lv_iload_n B.1 B.2.1 dX3_readCountedAtom_21 rfl (lv_at hl 3 rfl) ?_
  refine g_calli (E := "java/lang/IllegalArgumentException") (As := [.int (zI dp)]) (rest := []) B hK hG hM 8 (by decide) (by decide) rfl (cX3_readAtom_ok l hl0 D cy q V n0 x y b S_8 hF F fA loA L0 hA hFR dp hV (by show L0 ≤ dp; omega) (by show dp ≤ 8; omega) (by show 0 ≤ dp; omega)) (cwC 1 B wC_mRX3_116 wC_im_yX3_readAtom wC_sl_yX3_readAtom wC_in_RX3 wC_cd_yX3_readAtom rfl rfl (by decide +kernel) ⟨by show (fA + 10) + 1 ≤ fA + 11; omega, by show 8 + (3 + 11) + (loA + 219) ≤ loA + 241; omega⟩) rfl hl.1 rfl (Nat.le_of_ble_eq_true rfl) dX3_readCountedAtom_22 hR hg (cFx_gl hF) (gl_of (K3_readAtom_R (F := F) hFR (dp := dp) (S := S_8) hV k_5z).1.1) (fun c_10 => (by subst hS_8; subst hv_7; unfold K3_readCountedAtom; exact ((if_pos c_6).trans (if_neg c_10)))) (fun x y H locs c_10 hM => ?_)
  have hg : gl S ≤ gl (K3_readAtom F dp S_8).2.2 := Nat.le_trans hg (gl_of (K3_readAtom_R (F := F) hFR (dp := dp) (S := S_8) hV k_5z).1.1)
  obtain ⟨k_9, -, k_9v, -⟩ := K3_readAtom_R (F := F) hFR (dp := dp) (S := S_8) hV k_5z
  obtain ⟨hV, k_9l, k_9p⟩ := k_9v c_10
  have hF : cFx 7 b (K3_readAtom F dp S_8).2.2 := cFx_of k_9.1 hF
  generalize hS_12 : (K3_readAtom F dp S_8).2.2 = S_12 at *
  generalize hv_11 : (K3_readAtom F dp S_8).2.1 = v_11 at *
  obtain ⟨hP, hLa, hLb, hcs, ha0, ha1, hga, hgb, hna, hnb, hma, hmb, hzz⟩ := id hV
  obtain ⟨⟨k_9pa, k_9pb⟩, k_9pc⟩ := k_9p
  refine lv_istore (lv' := [(4, .int (zI v_11)), (3, .int (zI v_7)), (2, .int (zI (S.1 7 12))), (0, .ref (q 8)), (1, .int (zI dp))]) B.1 B.2.1 dX3_readCountedAtom_25 hl (by decide) rfl (fun ls hl => ?_)
  refine lv_aload_n B.1 B.2.1 dX3_readCountedAtom_27 rfl (lv_at hl 3 rfl) ?_
  refine g_calli (E := "java/lang/IllegalArgumentException") (As := []) (rest := []) B hK hG hM 8 (by decide) (by decide) rfl (cX3_readCount_ok l hl0 D cy q V n0 x y b S_12 hF   hV) (cwC 0 B wC_mRX3_119 wC_im_yX3_readCount wC_sl_yX3_readCount wC_in_RX3 wC_cd_yX3_readCount rfl rfl (by decide +kernel) ⟨by show 8 + 1 ≤ fA + 11; omega, by show 8 + (1 + 11) + 131 ≤ loA + 241; omega⟩) rfl hl.1 rfl (Nat.le_of_ble_eq_true rfl) dX3_readCountedAtom_28 hR hg (cFx_gl hF) (gl_of (K3_readCount_R  (S := S_12) hV ).1.1) (fun c_14 => (by subst hS_8; subst hv_7; subst hS_12; subst hv_11; unfold K3_readCountedAtom; exact ((if_pos c_6).trans ((if_pos c_10).trans (if_neg c_14))))) (fun x y H locs c_14 hM => ?_)
  have hg : gl S ≤ gl (K3_readCount S_12).2.2 := Nat.le_trans hg (gl_of (K3_readCount_R  (S := S_12) hV ).1.1)
  obtain ⟨k_13, -, k_13v, -⟩ := K3_readCount_R  (S := S_12) hV 
  obtain ⟨hV, k_13l, k_13p⟩ := k_13v c_14
  have hF : cFx 7 b (K3_readCount S_12).2.2 := cFx_of k_13.1 hF
  generalize hS_16 : (K3_readCount S_12).2.2 = S_16 at *
  generalize hv_15 : (K3_readCount S_12).2.1 = v_15 at *
  obtain ⟨hP, hLa, hLb, hcs, ha0, ha1, hga, hgb, hna, hnb, hma, hmb, hzz⟩ := id hV
  obtain ⟨hPa, p5a, p5b, pla, plb, pka, pkb, pga, pgb, pfa, pfb⟩ := id hP
  refine z_if_ne (tgt := 37) B.1 B.2.1 (zr_of (by omega) (by omega)) dX3_readCountedAtom_31 (by decide) (fun c_17 => ?_) (fun c_17 => ?_)
  · --
    refine lv_aload_n B.1 B.2.1 dX3_readCountedAtom_37 rfl (lv_at hl 3 rfl) ?_
    refine c_getr (q := (cq q x y)) (r := 7) B (iC3 _) hK hM 8 2 3 (by decide) rfl rfl (by decide) (by decide) rfl rfl rfl (cFx_r hF 8 2) (List.mem_cons_of_mem _ wC_fRX3_22) dX3_readCountedAtom_38 ?_
    refine lv_aload_n B.1 B.2.1 dX3_readCountedAtom_41 rfl (lv_at hl 3 rfl) ?_
    refine c_geti (q := (cq q x y)) (x := S_16.1 8 5) B (iC3 _) hK hM 8 5 3 (by decide) rfl rfl (by decide) (by decide) rfl rfl (by decide) rfl (List.mem_cons_of_mem _ wC_fRX3_122) dX3_readCountedAtom_42 ?_
    refine lv_aload_n B.1 B.2.1 dX3_readCountedAtom_45 rfl (lv_at hl 3 rfl) ?_
    refine c_geti (q := (cq q x y)) (x := S_16.1 8 6) B (iC3 _) hK hM 8 6 3 (by decide) rfl rfl (by decide) (by decide) rfl rfl (by decide) rfl (List.mem_cons_of_mem _ wC_fRX3_125) dX3_readCountedAtom_46 ?_
    refine lv_iload_n B.1 B.2.1 dX3_readCountedAtom_49 rfl (lv_at hl 2 rfl) ?_
    refine z_iconst B.1 B.2.1 dX3_readCountedAtom_50 ?_
    refine z_iadd (x := (S.1 7 12) + 1) B.1 B.2.1 rfl dX3_readCountedAtom_51 ?_
    refine g_calli (E := "java/lang/IllegalArgumentException") (As := [.int (zI (S_16.1 8 5)), .int (zI (S_16.1 8 6)), .int (zI ((S.1 7 12) + 1))]) (rest := []) B hK hG hM 7 (by decide) (by decide) rfl (cX2_addLoop_ok l hl0 D cy q V n0 x y 7 b S_16 hF  (S_16.1 8 5) (S_16.1 8 6) ((S.1 7 12) + 1) hV.1) (cwC 3 B wC_mRX3_128 wC_im_yX2_addLoop wC_sl_yX2_addLoop wC_in_RX2 wC_cd_yX2_addLoop rfl rfl (by decide +kernel) ⟨by show 6 + 1 ≤ fA + 11; omega, by show 8 + (4 + 11) + 90 ≤ loA + 241; omega⟩) rfl hl.1 rfl (Nat.le_of_ble_eq_true rfl) dX3_readCountedAtom_52 hR hg (cFx_gl hF) (gl_of (congrArg Prod.snd K2_addLoop_2)) (fun c_19 => (by subst hS_8; subst hv_7; subst hS_12; subst hv_11; subst hS_16; subst hv_15; unfold K3_readCountedAtom; exact ((if_pos c_6).trans ((if_pos c_10).trans ((if_pos c_14).trans ((if_neg c_17).trans (if_neg c_19))))))) (fun x y H locs c_19 hM => ?_)
    have hg : gl S ≤ gl (K2_addLoop (S_16.1 8 5) (S_16.1 8 6) ((S.1 7 12) + 1) S_16).2.2 := Nat.le_trans hg (gl_of (congrArg Prod.snd K2_addLoop_2))
    have hV := rV_of hV (pB_addLoop hV.1 c_19 (by omega) (by omega) (by omega) (by omega) (by omega) (by omega)) (K2_addLoop_1 (by decide)) (K2_addLoop_1 (by decide)) (K2_addLoop_1 (by decide))
    have hF : cFx 7 b (K2_addLoop (S_16.1 8 5) (S_16.1 8 6) ((S.1 7 12) + 1) S_16).2.2 := cFx_of (congrArg Prod.snd K2_addLoop_2) hF
    obtain ⟨k_18a, k_18b, k_18f, -⟩ := K2_addLoop_v c_19
    have k_183 : (K2_addLoop (S_16.1 8 5) (S_16.1 8 6) ((S.1 7 12) + 1) S_16).2.2.1 8 3 = S_16.1 8 3 := congrFun (K2_addLoop_1 (n := 8) (by decide)) 3
    have k_185 : (K2_addLoop (S_16.1 8 5) (S_16.1 8 6) ((S.1 7 12) + 1) S_16).2.2.1 8 5 = S_16.1 8 5 := congrFun (K2_addLoop_1 (n := 8) (by decide)) 5
    have k_186 : (K2_addLoop (S_16.1 8 5) (S_16.1 8 6) ((S.1 7 12) + 1) S_16).2.2.1 8 6 = S_16.1 8 6 := congrFun (K2_addLoop_1 (n := 8) (by decide)) 6
    have k_187 : (K2_addLoop (S_16.1 8 5) (S_16.1 8 6) ((S.1 7 12) + 1) S_16).2.2.1 8 7 = S_16.1 8 7 := congrFun (K2_addLoop_1 (n := 8) (by decide)) 7
    generalize hS_21 : (K2_addLoop (S_16.1 8 5) (S_16.1 8 6) ((S.1 7 12) + 1) S_16).2.2 = S_21 at *
    generalize hv_20 : (K2_addLoop (S_16.1 8 5) (S_16.1 8 6) ((S.1 7 12) + 1) S_16).2.1 = v_20 at *
    obtain ⟨hP, hLa, hLb, hcs, ha0, ha1, hga, hgb, hna, hnb, hma, hmb, hzz⟩ := id hV
    obtain ⟨hPa, p5a, p5b, pla, plb, pka, pkb, pga, pgb, pfa, pfb⟩ := id hP
    refine lv_istore (lv' := [(5, .int (zI v_20)), (4, .int (zI v_11)), (3, .int (zI v_7)), (2, .int (zI (S.1 7 12))), (0, .ref (q 8)), (1, .int (zI dp))]) B.1 B.2.1 dX3_readCountedAtom_55 hl (by decide) rfl (fun ls hl => ?_)
    refine lv_aload_n B.1 B.2.1 dX3_readCountedAtom_57 rfl (lv_at hl 4 rfl) ?_
    refine c_getr (q := (cq q x y)) (r := 7) B (iC3 _) hK hM 8 2 3 (by decide) rfl rfl (by decide) (by decide) rfl rfl rfl (cFx_r hF 8 2) (List.mem_cons_of_mem _ wC_fRX3_22) dX3_readCountedAtom_58 ?_
    refine lv_aload_n B.1 B.2.1 dX3_readCountedAtom_61 rfl (lv_at hl 4 rfl) ?_
    refine c_geti (q := (cq q x y)) (x := S_21.1 8 7) B (iC3 _) hK hM 8 7 3 (by decide) rfl rfl (by decide) (by decide) rfl rfl (by decide) rfl (List.mem_cons_of_mem _ wC_fRX3_131) dX3_readCountedAtom_62 ?_
    refine z_joinH (P := fun v H' locs' => v = (if (S_21.1 8 7) = 0 then 10 else 11 : Int) ∧ cH D cy (cq q x y) A s.heap S_21 H' locs') (pcJ := 75) (lsJ := ls) (stJ := [.ref (q 7)]) (fun v_22 H locs hv_23 => ?_) (fun hJ_24 => ?_)
    · --
      obtain ⟨hv_23, hM⟩ := hv_23
      have hb_25 : (if (S_21.1 8 7) = 0 then 10 else 11 : Int) = 10 ∨ (if (S_21.1 8 7) = 0 then 10 else 11 : Int) = 11 := by (repeat' split) <;> simp
      have hv_23 := hv_23.symm
      subst hv_23
      refine z_iconst B.1 B.2.1 dX3_readCountedAtom_75 ?_
      refine lv_iload B.1 B.2.1 dX3_readCountedAtom_76 (lv_at hl 0 rfl) ?_
      refine g_calli (E := "java/lang/IllegalArgumentException") (As := [.int (zI ((if (S_21.1 8 7) = 0 then 10 else 11 : Int))), .int (zI (-1)), .int (zI v_20)]) (rest := []) B hK hG hM 7 (by decide) (by decide) rfl (cX2_add_ok l hl0 D cy q V n0 x y 7 b S_21 hF  ((if (S_21.1 8 7) = 0 then 10 else 11 : Int)) (-1) v_20 hV.1) (cwC 3 B wC_mRX3_64 wC_im_yX2_add wC_sl_yX2_add wC_in_RX2 wC_cd_yX2_add rfl rfl (by decide +kernel) ⟨by show 6 + 1 ≤ fA + 11; omega, by show 8 + (4 + 11) + 90 ≤ loA + 241; omega⟩) rfl hl.1 rfl (Nat.le_of_ble_eq_true rfl) dX3_readCountedAtom_78 hR hg (cFx_gl hF) (gl_of (congrArg Prod.snd K2_add_2)) (fun c_27 => (by subst hS_8; subst hv_7; subst hS_12; subst hv_11; subst hS_16; subst hv_15; subst hS_21; subst hv_20; unfold K3_readCountedAtom; exact ((if_pos c_6).trans ((if_pos c_10).trans ((if_pos c_14).trans ((if_neg c_17).trans ((if_pos c_19).trans (if_neg c_27)))))))) (fun x y H locs c_27 hM => ?_)
      have hg : gl S ≤ gl (K2_add ((if (S_21.1 8 7) = 0 then 10 else 11 : Int)) (-1) v_20 S_21).2.2 := Nat.le_trans hg (gl_of (congrArg Prod.snd K2_add_2))
      have hV := rV_add (kd := (if (S_21.1 8 7) = 0 then 10 else 11 : Int)) (am := (-1)) (nb := v_20) (S := S_21) hV c_27 (by omega) (by omega) (by omega) (by omega) (by omega) (by omega)
      have hF : cFx 7 b (K2_add ((if (S_21.1 8 7) = 0 then 10 else 11 : Int)) (-1) v_20 S_21).2.2 := cFx_of (congrArg Prod.snd K2_add_2) hF
      obtain ⟨k_26f, k_26a, k_26b, -⟩ := K2_add_v c_27
      have k_26s := K2_add_s c_27
      have k_268 : (K2_add ((if (S_21.1 8 7) = 0 then 10 else 11 : Int)) (-1) v_20 S_21).2.2.1 8 3 = S_21.1 8 3 := congrFun (K2_add_1 (n := 8) (by decide)) 3
      have k_269 : (K2_add ((if (S_21.1 8 7) = 0 then 10 else 11 : Int)) (-1) v_20 S_21).2.2.1 8 4 = S_21.1 8 4 := congrFun (K2_add_1 (n := 8) (by decide)) 4
      have k_26g : (K2_add ((if (S_21.1 8 7) = 0 then 10 else 11 : Int)) (-1) v_20 S_21).2.2.1 7 12 = S_21.1 7 12 := K2_add_12
      have k_26t : (K2_add ((if (S_21.1 8 7) = 0 then 10 else 11 : Int)) (-1) v_20 S_21).2.2.1 2 = S_21.1 2 := K2_add_1 (by decide)
      have k_26u : (K2_add ((if (S_21.1 8 7) = 0 then 10 else 11 : Int)) (-1) v_20 S_21).2.2.1 13 = S_21.1 13 := K2_add_1 (by decide)
      generalize hS_29 : (K2_add ((if (S_21.1 8 7) = 0 then 10 else 11 : Int)) (-1) v_20 S_21).2.2 = S_29 at *
      generalize hv_28 : (K2_add ((if (S_21.1 8 7) = 0 then 10 else 11 : Int)) (-1) v_20 S_21).2.1 = v_28 at *
      obtain ⟨hP, hLa, hLb, hcs, ha0, ha1, hga, hgb, hna, hnb, hma, hmb, hzz⟩ := id hV
      obtain ⟨hPa, p5a, p5b, pla, plb, pka, pkb, pga, pgb, pfa, pfb⟩ := id hP
      refine lv_istore (lv' := [(6, .int (zI v_28)), (5, .int (zI v_20)), (4, .int (zI v_11)), (3, .int (zI v_7)), (2, .int (zI (S.1 7 12))), (0, .ref (q 8)), (1, .int (zI dp))]) B.1 B.2.1 dX3_readCountedAtom_81 hl (by decide) rfl (fun ls hl => ?_)
      refine lv_aload_n B.1 B.2.1 dX3_readCountedAtom_83 rfl (lv_at hl 5 rfl) ?_
      refine c_getr (q := (cq q x y)) (r := 7) B (iC3 _) hK hM 8 2 3 (by decide) rfl rfl (by decide) (by decide) rfl rfl rfl (cFx_r hF 8 2) (List.mem_cons_of_mem _ wC_fRX3_22) dX3_readCountedAtom_84 ?_
      refine z_bipush B.1 B.2.1 (by decide) dX3_readCountedAtom_87 ?_
      refine lv_iload_n B.1 B.2.1 dX3_readCountedAtom_89 rfl (lv_at hl 3 rfl) ?_
      refine z_iconst B.1 B.2.1 dX3_readCountedAtom_90 ?_
      refine z_iadd (x := v_7 + 1) B.1 B.2.1 rfl dX3_readCountedAtom_91 ?_
      refine lv_iload B.1 B.2.1 dX3_readCountedAtom_92 (lv_at hl 1 rfl) ?_
      refine g_calli (E := "java/lang/IllegalArgumentException") (As := [.int (zI 12), .int (zI (v_7 + 1)), .int (zI v_20)]) (rest := []) B hK hG hM 7 (by decide) (by decide) rfl (cX2_add_ok l hl0 D cy q V n0 x y 7 b S_29 hF  12 (v_7 + 1) v_20 hV.1) (cwC 3 B wC_mRX3_64 wC_im_yX2_add wC_sl_yX2_add wC_in_RX2 wC_cd_yX2_add rfl rfl (by decide +kernel) ⟨by show 6 + 1 ≤ fA + 11; omega, by show 8 + (4 + 11) + 90 ≤ loA + 241; omega⟩) rfl hl.1 rfl (Nat.le_of_ble_eq_true rfl) dX3_readCountedAtom_94 hR hg (cFx_gl hF) (gl_of (congrArg Prod.snd K2_add_2)) (fun c_31 => (by subst hS_8; subst hv_7; subst hS_12; subst hv_11; subst hS_16; subst hv_15; subst hS_21; subst hv_20; subst hS_29; subst hv_28; unfold K3_readCountedAtom; exact ((if_pos c_6).trans ((if_pos c_10).trans ((if_pos c_14).trans ((if_neg c_17).trans ((if_pos c_19).trans ((if_pos c_27).trans (if_neg c_31))))))))) (fun x y H locs c_31 hM => ?_)
      have hg : gl S ≤ gl (K2_add 12 (v_7 + 1) v_20 S_29).2.2 := Nat.le_trans hg (gl_of (congrArg Prod.snd K2_add_2))
      have hV := rV_add (kd := 12) (am := v_7 + 1) (nb := v_20) (S := S_29) hV c_31 (by omega) (by omega) (by omega) (by omega) (by omega) (by omega)
      have hF : cFx 7 b (K2_add 12 (v_7 + 1) v_20 S_29).2.2 := cFx_of (congrArg Prod.snd K2_add_2) hF
      obtain ⟨k_30f, k_30a, k_30b, -⟩ := K2_add_v c_31
      have k_30s := K2_add_s c_31
      have k_308 : (K2_add 12 (v_7 + 1) v_20 S_29).2.2.1 8 3 = S_29.1 8 3 := congrFun (K2_add_1 (n := 8) (by decide)) 3
      have k_309 : (K2_add 12 (v_7 + 1) v_20 S_29).2.2.1 8 4 = S_29.1 8 4 := congrFun (K2_add_1 (n := 8) (by decide)) 4
      have k_30g : (K2_add 12 (v_7 + 1) v_20 S_29).2.2.1 7 12 = S_29.1 7 12 := K2_add_12
      have k_30t : (K2_add 12 (v_7 + 1) v_20 S_29).2.2.1 2 = S_29.1 2 := K2_add_1 (by decide)
      have k_30u : (K2_add 12 (v_7 + 1) v_20 S_29).2.2.1 13 = S_29.1 13 := K2_add_1 (by decide)
      generalize hS_33 : (K2_add 12 (v_7 + 1) v_20 S_29).2.2 = S_33 at *
      generalize hv_32 : (K2_add 12 (v_7 + 1) v_20 S_29).2.1 = v_32 at *
      obtain ⟨hP, hLa, hLb, hcs, ha0, ha1, hga, hgb, hna, hnb, hma, hmb, hzz⟩ := id hV
      obtain ⟨hPa, p5a, p5b, pla, plb, pka, pkb, pga, pgb, pfa, pfb⟩ := id hP
      refine lv_pop B.1 B.2.1 dX3_readCountedAtom_97 rfl ?_
      refine lv_aload_n B.1 B.2.1 dX3_readCountedAtom_98 rfl (lv_at hl 5 rfl) ?_
      refine c_getr (q := (cq q x y)) (r := 7) B (iC3 _) hK hM 8 2 3 (by decide) rfl rfl (by decide) (by decide) rfl rfl rfl (cFx_r hF 8 2) (List.mem_cons_of_mem _ wC_fRX3_22) dX3_readCountedAtom_99 ?_
      refine lv_iload_n B.1 B.2.1 dX3_readCountedAtom_102 rfl (lv_at hl 3 rfl) ?_
      refine lv_iload B.1 B.2.1 dX3_readCountedAtom_103 (lv_at hl 0 rfl) ?_
      refine c_callv (q := (cq q x y)) (As := [.int (zI v_7), .int (zI v_28)]) (rest := []) B hK hM 7 (by decide) (by decide) rfl (cX2_aimAt_ok l D cy (cq q x y) 7 b S_33 hF 7 (by decide) v_7 v_28 hP (by show -1000000000 ≤ v_7; omega) (by show v_7 ≤ 1000000000; omega)) (cwC 2 B wC_mRX3_80 wC_im_yX2_aimAt wC_sl_yX2_aimAt wC_in_RX2 wC_cd_yX2_aimAt rfl rfl (by decide +kernel) ⟨by show 1 + 1 ≤ fA + 11; omega, by show 8 + (3 + 11) + 21 ≤ loA + 241; omega⟩) rfl hl.1 rfl (Nat.le_of_ble_eq_true rfl) dX3_readCountedAtom_105 ⟨g_rc hR hg (cFx_gl (S := S_33) hF), g_rs hR hg (cFx_gl (S := S_33) hF)⟩ (fun S_36 H locs hp_35 hM => ?_)
      have hp_35 := hp_35.symm
      subst hp_35
      have hg : gl S ≤ gl (K2_aimAt 7 v_7 v_28 S_33) := Nat.le_trans hg (gl_of (S := S_33) (S' := (K2_aimAt 7 v_7 v_28 S_33)) (congrArg Prod.snd K2_aimAt_2))
      refine W.widen (k := gl (K2_aimAt 7 v_7 v_28 S_33) - gl S) (n := 2 * (gl (K2_aimAt 7 v_7 v_28 S_33) - gl S)) (Nat.sub_le_sub_right (gl_of (S := S_33) (S' := (K2_aimAt 7 v_7 v_28 S_33)) (congrArg Prod.snd K2_aimAt_2)) _) (Nat.mul_le_mul_left 2 (Nat.sub_le_sub_right (gl_of (S := S_33) (S' := (K2_aimAt 7 v_7 v_28 S_33)) (congrArg Prod.snd K2_aimAt_2)) _)) ?_
      have hP : pB 7 (K2_aimAt 7 v_7 v_28 S_33) := pB_aimAt (by decide) hP (by omega) (by omega)
      have hF : cFx 7 b (K2_aimAt 7 v_7 v_28 S_33) := cFx_of (congrArg Prod.snd K2_aimAt_2) hF
      refine lv_aload_n B.1 B.2.1 dX3_readCountedAtom_108 rfl (lv_at hl 5 rfl) ?_
      refine c_geti (q := (cq q x y)) (x := S_33.1 8 6) B (iC3 _) hK hM 8 6 3 (by decide) rfl rfl (by decide) (by decide) rfl rfl (by decide) (by simp only [K2_aimAt_1 (t := 7) (n := 8) (by decide) (by decide)]) (List.mem_cons_of_mem _ wC_fRX3_125) dX3_readCountedAtom_109 ?_
      refine lv_ldc (v := zI 1000000) B.1 B.2.1 B.2.2.2.1 (B.2.2.2.2.1 _ (List.mem_cons_of_mem _ wC_kRX3_135)) dX3_readCountedAtom_112 ?_
      refine z_joinH (P := fun v H' locs' => v = (if (S_33.1 8 6) = 1000000 then (S_33.1 8 5) + 1 else (if 1 < (S_33.1 8 6) then S_33.1 8 6 else 1 : Int) : Int) ∧ cH D cy (cq q x y) A s.heap (K2_aimAt 7 v_7 v_28 S_33) H' locs') (pcJ := 134) (lsJ := ls) (stJ := []) (fun v_37 H locs hv_38 => ?_) (fun hJ_39 => ?_)
      · --
        obtain ⟨hv_38, hM⟩ := hv_38
        have hv_38 := hv_38.symm
        subst hv_38
        have hcp : 1 ≤ (if (S_33.1 8 6) = 1000000 then (S_33.1 8 5) + 1 else (if 1 < (S_33.1 8 6) then S_33.1 8 6 else 1 : Int) : Int) ∧ (if (S_33.1 8 6) = 1000000 then (S_33.1 8 5) + 1 else (if 1 < (S_33.1 8 6) then S_33.1 8 6 else 1 : Int) : Int) ≤ 10 := by (repeat' split) <;> omega
        refine lv_istore (lv' := [(7, .int (zI ((if (S_33.1 8 6) = 1000000 then (S_33.1 8 5) + 1 else (if 1 < (S_33.1 8 6) then S_33.1 8 6 else 1 : Int) : Int)))), (6, .int (zI v_28)), (5, .int (zI v_20)), (4, .int (zI v_11)), (3, .int (zI v_7)), (2, .int (zI (S.1 7 12))), (0, .ref (q 8)), (1, .int (zI dp))]) B.1 B.2.1 dX3_readCountedAtom_134 hl (by decide) rfl (fun ls hl => ?_)
        refine lv_iload B.1 B.2.1 dX3_readCountedAtom_136 (lv_at hl 3 rfl) ?_
        refine lv_iload B.1 B.2.1 dX3_readCountedAtom_138 (lv_at hl 0 rfl) ?_
        refine z_imul (x := v_11 * ((if (S_33.1 8 6) = 1000000 then (S_33.1 8 5) + 1 else (if 1 < (S_33.1 8 6) then S_33.1 8 6 else 1 : Int) : Int))) B.1 B.2.1 rfl dX3_readCountedAtom_140 ?_
        refine z_iconst B.1 B.2.1 dX3_readCountedAtom_141 ?_
        refine z_iadd (x := (v_11 * ((if (S_33.1 8 6) = 1000000 then (S_33.1 8 5) + 1 else (if 1 < (S_33.1 8 6) then S_33.1 8 6 else 1 : Int) : Int))) + 2) B.1 B.2.1 rfl dX3_readCountedAtom_142 ?_
        refine lv_istore (lv' := [(8, .int (zI ((v_11 * ((if (S_33.1 8 6) = 1000000 then (S_33.1 8 5) + 1 else (if 1 < (S_33.1 8 6) then S_33.1 8 6 else 1 : Int) : Int))) + 2))), (7, .int (zI ((if (S_33.1 8 6) = 1000000 then (S_33.1 8 5) + 1 else (if 1 < (S_33.1 8 6) then S_33.1 8 6 else 1 : Int) : Int)))), (6, .int (zI v_28)), (5, .int (zI v_20)), (4, .int (zI v_11)), (3, .int (zI v_7)), (2, .int (zI (S.1 7 12))), (0, .ref (q 8)), (1, .int (zI dp))]) B.1 B.2.1 dX3_readCountedAtom_143 hl (by decide) rfl (fun ls hl => ?_)
        have hmul := zmulb (a := v_11) (b := (if (S_33.1 8 6) = 1000000 then (S_33.1 8 5) + 1 else (if 1 < (S_33.1 8 6) then S_33.1 8 6 else 1 : Int) : Int)) (by omega) (by omega) hcp.1 hcp.2
        refine lv_iload B.1 B.2.1 dX3_readCountedAtom_145 (lv_at hl 0 rfl) ?_
        refine g_scallv (E := "java/lang/IllegalArgumentException") (As := [.int (zI ((v_11 * ((if (S_33.1 8 6) = 1000000 then (S_33.1 8 5) + 1 else (if 1 < (S_33.1 8 6) then S_33.1 8 6 else 1 : Int) : Int))) + 2))]) (rest := []) B hK hG hM (cX3_checkWeight_ok l hl0 D cy q V n0 x y b (K2_aimAt 7 v_7 v_28 S_33) hF ((v_11 * ((if (S_33.1 8 6) = 1000000 then (S_33.1 8 5) + 1 else (if 1 < (S_33.1 8 6) then S_33.1 8 6 else 1 : Int) : Int))) + 2) (by show -1000000 ≤ ((v_11 * ((if (S_33.1 8 6) = 1000000 then (S_33.1 8 5) + 1 else (if 1 < (S_33.1 8 6) then S_33.1 8 6 else 1 : Int) : Int))) + 2); omega) (by show ((v_11 * ((if (S_33.1 8 6) = 1000000 then (S_33.1 8 5) + 1 else (if 1 < (S_33.1 8 6) then S_33.1 8 6 else 1 : Int) : Int))) + 2) ≤ 1000000; omega)) (csC 1 B wC_mRX3_61 wC_st_yX3_checkWeight wC_in_RX3 wC_cd_yX3_checkWeight rfl rfl (by decide +kernel) ⟨by show 6 + 1 ≤ fA + 11; omega, by show 8 + (1 + 11) + 90 ≤ loA + 241; omega⟩) rfl hl.1 rfl (Nat.le_of_ble_eq_true rfl) dX3_readCountedAtom_147 hR hg (cFx_gl hF) (gl_of (congrArg (fun z : CSt => z.2.2) (K3_cw_22 (wt := (v_11 * ((if (S_33.1 8 6) = 1000000 then (S_33.1 8 5) + 1 else (if 1 < (S_33.1 8 6) then S_33.1 8 6 else 1 : Int) : Int))) + 2) (S := (K2_aimAt 7 v_7 v_28 S_33))))) (fun c_41 => (by subst hS_8; subst hv_7; subst hS_12; subst hv_11; subst hS_16; subst hv_15; subst hS_21; subst hv_20; subst hS_29; subst hv_28; subst hS_33; subst hv_32; unfold K3_readCountedAtom; exact ((if_pos c_6).trans ((if_pos c_10).trans ((if_pos c_14).trans ((if_neg c_17).trans ((if_pos c_19).trans ((if_pos c_27).trans ((if_pos c_31).trans (if_neg c_41)))))))))) (fun x y H locs c_41 hM => ?_)
        rw [K3_cw c_41] at hM ⊢
        have f_42 := K3_cw_le c_41
        refine lv_iload B.1 B.2.1 dX3_readCountedAtom_150 (lv_at hl 0 rfl) ?_
        exact g_reti (S := (K2_aimAt 7 v_7 v_28 S_33)) B hM (by subst hS_8; subst hv_7; subst hS_12; subst hv_11; subst hS_16; subst hv_15; subst hS_21; subst hv_20; subst hS_29; subst hv_28; subst hS_33; subst hv_32; unfold K3_readCountedAtom; exact ((if_pos c_6).trans ((if_pos c_10).trans ((if_pos c_14).trans ((if_neg c_17).trans ((if_pos c_19).trans ((if_pos c_27).trans ((if_pos c_31).trans (if_pos c_41))))))))) dX3_readCountedAtom_152
      · --
        refine z_icmp_ne (tgt := 126) B.1 B.2.1 (zr_of (by omega) (by omega)) (zr_of (by decide) (by decide)) dX3_readCountedAtom_114 (by decide) (fun c_43 => ?_) (fun c_43 => ?_)
        · --
          refine z_iconst B.1 B.2.1 dX3_readCountedAtom_126 ?_
          refine lv_aload_n B.1 B.2.1 dX3_readCountedAtom_127 rfl (lv_at hl 5 rfl) ?_
          refine c_geti (q := (cq q x y)) (x := S_33.1 8 6) B (iC3 _) hK hM 8 6 3 (by decide) rfl rfl (by decide) (by decide) rfl rfl (by decide) (by simp only [K2_aimAt_1 (t := 7) (n := 8) (by decide) (by decide)]) (List.mem_cons_of_mem _ wC_fRX3_125) dX3_readCountedAtom_128 ?_
          refine z_mmax (x := 1) (y := S_33.1 8 6) B (List.mem_cons_of_mem _ wC_mRX3_136) (List.mem_cons_of_mem _ wC_st_Lib_Math_max_name) (List.mem_cons_of_mem _ wC_in__java_lang_Math_) (List.mem_cons_of_mem _ wC_cd_Lib_Math_max_name) hl.1 (zr_of (by decide) (by decide)) (zr_of (by omega) (by omega)) (by show 0 < fA + 11; omega) (by show 13 ≤ loA + 241; omega) ⟨g_rc hR hg (cFx_gl (S := (K2_aimAt 7 v_7 v_28 S_33)) hF), g_rs hR hg (cFx_gl (S := (K2_aimAt 7 v_7 v_28 S_33)) hF)⟩ dX3_readCountedAtom_131 ?_
          exact hJ_39 _ _ _ ⟨(if_neg c_43).symm, hM⟩
        · --
          refine lv_aload_n B.1 B.2.1 dX3_readCountedAtom_117 rfl (lv_at hl 5 rfl) ?_
          refine c_geti (q := (cq q x y)) (x := S_33.1 8 5) B (iC3 _) hK hM 8 5 3 (by decide) rfl rfl (by decide) (by decide) rfl rfl (by decide) (by simp only [K2_aimAt_1 (t := 7) (n := 8) (by decide) (by decide)]) (List.mem_cons_of_mem _ wC_fRX3_122) dX3_readCountedAtom_118 ?_
          refine z_iconst B.1 B.2.1 dX3_readCountedAtom_121 ?_
          refine z_iadd (x := (S_33.1 8 5) + 1) B.1 B.2.1 rfl dX3_readCountedAtom_122 ?_
          refine lv_goto (tgt := 134) B.1 B.2.1 dX3_readCountedAtom_123 (by decide) ?_
          exact hJ_39 _ _ _ ⟨(if_pos c_43).symm, hM⟩
    · --
      refine z_if_eq (tgt := 73) B.1 B.2.1 (zr_of (by omega) (by omega)) dX3_readCountedAtom_65 (by decide) (fun c_44 => ?_) (fun c_44 => ?_)
      · --
        refine z_bipush B.1 B.2.1 (by decide) dX3_readCountedAtom_73 ?_
        exact hJ_24 _ _ _ ⟨(if_pos c_44).symm, hM⟩
      · --
        refine z_bipush B.1 B.2.1 (by decide) dX3_readCountedAtom_68 ?_
        refine lv_goto (tgt := 75) B.1 B.2.1 dX3_readCountedAtom_70 (by decide) ?_
        exact hJ_24 _ _ _ ⟨(if_neg c_44).symm, hM⟩
  · --
    refine lv_iload B.1 B.2.1 dX3_readCountedAtom_34 (lv_at hl 0 rfl) ?_
    exact g_reti (S := S_16) B hM (by subst hS_8; subst hv_7; subst hS_12; subst hv_11; subst hS_16; subst hv_15; unfold K3_readCountedAtom; exact ((if_pos c_6).trans ((if_pos c_10).trans ((if_pos c_14).trans (if_pos c_17))))) dX3_readCountedAtom_36
def K3_readLook (F : Int → CSt → CR) (bk : Int) (ek : Int) (dp : Int) (S : CSt) : CR := (gBd (K2_addLook S) (fun v_3 S_4 => (gBd (K2_add bk (-1) v_3 S_4) (fun v_7 S_8 => (gBd (K3_readInside F dp S_8) (fun v_11 S_12 => (gBd (K2_add ek (-1) v_3 S_12) (fun v_15 S_16 => (0, v_11, (K2_aimAt 7 v_7 (S_16.1 7 5) S_16))))))))))
set_option maxHeartbeats 1000000 in
set_option maxRecDepth 100000 in
theorem cX3_readLook_ok (l : Launch) (hl0 : l.stackTraces = false) (D : va_G) (cy : Nat → ClassId) (q : Nat → Nat) (V : Nat × (Nat → Nat)) (n0 x y b : Nat) (S : CSt) (hF : cFx 7 b S) (F : Int → CSt → CR) (fA loA : Nat) (L0 : Int) (hA : ∀ (x y : Nat) (S : CSt) (dp : Int), cFx 7 b S → rV S → L0 + 1 ≤ dp → dp ≤ 8 → 0 ≤ dp → gMi l D cy q V n0 x y "java/lang/IllegalArgumentException" yX3_readAlternatives (.code yX3_readAlternatives cX3_readAlternatives 7 (some .int) :: TBC) fA loA S [.ref (q 8), .int (zI dp)] (F dp S)) (hFR : ∀ (S : CSt) (dp : Int), rV S → rR (wP S) S (F dp S)) (bk : Int) (ek : Int) (dp : Int) (hbk0 : 0 ≤ bk) (hbk1 : bk ≤ 100) (hek0 : 0 ≤ ek) (hek1 : ek ≤ 100) (hV : rV S) (hd0 : L0 ≤ dp) (hd1 : dp ≤ 8) (hd2 : 0 ≤ dp)  : gMi l D cy q V n0 x y "java/lang/IllegalArgumentException" yX3_readLook (.code yX3_readLook cX3_readLook 7 (some .int) :: TBC) (fA + 7) (loA + 113) S [.ref (q 8), .int (zI bk), .int (zI ek), .int (zI dp)] (K3_readLook F bk ek dp S) := by
  refine g_of (cc := cX3_readLook) (maxL := 7) (ret := (some .int)) (by decide) rfl rfl (Nat.le_of_ble_eq_true rfl) ?_
  intro p e s m args below meth c ls B hK hG hM hl
  generalize gA (cq q x y) n0 = A at hG hM ⊢
  have hR : (headSpec (.code yX3_readLook cX3_readLook 7 (some .int) :: TBC) (gRm (fA + 7) (loA + 113) S)).room.cells = (gK - gl S) + 1 ∧ (headSpec (.code yX3_readLook cX3_readLook 7 (some .int) :: TBC) (gRm (fA + 7) (loA + 113) S)).room.slots = 2 * (gK - gl S) + 6 := ⟨rfl, rfl⟩
  have hl : lv_has ls 7 [(0, .ref (q 8)), (1, .int (zI bk)), (2, .int (zI ek)), (3, .int (zI dp))] := hl
  obtain ⟨hP, hLa, hLb, hcs, ha0, ha1, hga, hgb, hna, hnb, hma, hmb, hzz⟩ := id hV
  obtain ⟨hPa, p5a, p5b, pla, plb, pka, pkb, pga, pgb, pfa, pfb⟩ := id hP
  refine lv_aload_n B.1 B.2.1 dX3_readLook_0 rfl (lv_at hl 0 rfl) ?_
  refine c_getr (q := (cq q x y)) (r := 7) B (iC3 _) hK hM 8 2 3 (by decide) rfl rfl (by decide) (by decide) rfl rfl rfl (cFx_r hF 8 2) (List.mem_cons_of_mem _ wC_fRX3_22) dX3_readLook_1 ?_
  obtain ⟨hPa, p5a, p5b, pla, plb, pka, pkb, pga, pgb, pfa, pfb⟩ := id hP
  refine g_calli (E := "java/lang/IllegalArgumentException") (As := []) (rest := []) B hK hG hM 7 (by decide) (by decide) rfl (cX2_addLook_ok l hl0 D cy q V n0 x y 7 b S hF   hV.1) (cwC 0 B wC_mRX3_106 wC_im_yX2_addLook wC_sl_yX2_addLook wC_in_RX2 wC_cd_yX2_addLook rfl rfl (by decide +kernel) ⟨by show 6 + 1 ≤ fA + 7; omega, by show 8 + (1 + 11) + 90 ≤ loA + 113; omega⟩) rfl hl.1 rfl (Nat.le_of_ble_eq_true rfl) dX3_readLook_4 hR (Nat.le_refl _) (cFx_gl hF) (gl_of (congrArg Prod.snd K2_addLook_2)) (fun c_2 => (by unfold K3_readLook; exact (if_neg c_2))) (fun x y H locs c_2 hM => ?_)
  have hg : gl S ≤ gl (K2_addLook S).2.2 := Nat.le_trans (Nat.le_refl _) (gl_of (congrArg Prod.snd K2_addLook_2))
  have hV := rV_of hV (pB_addLook hV.1 c_2) (K2_addLook_1 (by decide)) (K2_addLook_1 (by decide)) (K2_addLook_1 (by decide))
  have hF : cFx 7 b (K2_addLook S).2.2 := cFx_of (congrArg Prod.snd K2_addLook_2) hF
  obtain ⟨k_1f, k_1a, -⟩ := K2_addLook_v c_2
  have k_18 : (K2_addLook S).2.2.1 8 3 = S.1 8 3 := congrFun (K2_addLook_1 (n := 8) (by decide)) 3
  generalize hS_4 : (K2_addLook S).2.2 = S_4 at *
  generalize hv_3 : (K2_addLook S).2.1 = v_3 at *
  obtain ⟨hP, hLa, hLb, hcs, ha0, ha1, hga, hgb, hna, hnb, hma, hmb, hzz⟩ := id hV
  obtain ⟨hPa, p5a, p5b, pla, plb, pka, pkb, pga, pgb, pfa, pfb⟩ := id hP
  refine lv_istore (lv' := [(4, .int (zI v_3)), (0, .ref (q 8)), (1, .int (zI bk)), (2, .int (zI ek)), (3, .int (zI dp))]) B.1 B.2.1 dX3_readLook_7 hl (by decide) rfl (fun ls hl => ?_)
  refine lv_aload_n B.1 B.2.1 dX3_readLook_9 rfl (lv_at hl 1 rfl) ?_
  refine c_getr (q := (cq q x y)) (r := 7) B (iC3 _) hK hM 8 2 3 (by decide) rfl rfl (by decide) (by decide) rfl rfl rfl (cFx_r hF 8 2) (List.mem_cons_of_mem _ wC_fRX3_22) dX3_readLook_10 ?_
  refine lv_iload_n B.1 B.2.1 dX3_readLook_13 rfl (lv_at hl 2 rfl) ?_
  refine z_iconst B.1 B.2.1 dX3_readLook_14 ?_
  refine lv_iload B.1 B.2.1 dX3_readLook_15 (lv_at hl 0 rfl) ?_
  refine g_calli (E := "java/lang/IllegalArgumentException") (As := [.int (zI bk), .int (zI (-1)), .int (zI v_3)]) (rest := []) B hK hG hM 7 (by decide) (by decide) rfl (cX2_add_ok l hl0 D cy q V n0 x y 7 b S_4 hF  bk (-1) v_3 hV.1) (cwC 3 B wC_mRX3_64 wC_im_yX2_add wC_sl_yX2_add wC_in_RX2 wC_cd_yX2_add rfl rfl (by decide +kernel) ⟨by show 6 + 1 ≤ fA + 7; omega, by show 8 + (4 + 11) + 90 ≤ loA + 113; omega⟩) rfl hl.1 rfl (Nat.le_of_ble_eq_true rfl) dX3_readLook_17 hR hg (cFx_gl hF) (gl_of (congrArg Prod.snd K2_add_2)) (fun c_6 => (by subst hS_4; subst hv_3; unfold K3_readLook; exact ((if_pos c_2).trans (if_neg c_6)))) (fun x y H locs c_6 hM => ?_)
  have hg : gl S ≤ gl (K2_add bk (-1) v_3 S_4).2.2 := Nat.le_trans hg (gl_of (congrArg Prod.snd K2_add_2))
  have hV := rV_add (kd := bk) (am := (-1)) (nb := v_3) (S := S_4) hV c_6 (by omega) (by omega) (by omega) (by omega) (by omega) (by omega)
  have hF : cFx 7 b (K2_add bk (-1) v_3 S_4).2.2 := cFx_of (congrArg Prod.snd K2_add_2) hF
  obtain ⟨k_5f, k_5a, k_5b, -⟩ := K2_add_v c_6
  have k_5s := K2_add_s c_6
  have k_58 : (K2_add bk (-1) v_3 S_4).2.2.1 8 3 = S_4.1 8 3 := congrFun (K2_add_1 (n := 8) (by decide)) 3
  have k_59 : (K2_add bk (-1) v_3 S_4).2.2.1 8 4 = S_4.1 8 4 := congrFun (K2_add_1 (n := 8) (by decide)) 4
  have k_5g : (K2_add bk (-1) v_3 S_4).2.2.1 7 12 = S_4.1 7 12 := K2_add_12
  have k_5t : (K2_add bk (-1) v_3 S_4).2.2.1 2 = S_4.1 2 := K2_add_1 (by decide)
  have k_5u : (K2_add bk (-1) v_3 S_4).2.2.1 13 = S_4.1 13 := K2_add_1 (by decide)
  generalize hS_8 : (K2_add bk (-1) v_3 S_4).2.2 = S_8 at *
  generalize hv_7 : (K2_add bk (-1) v_3 S_4).2.1 = v_7 at *
  obtain ⟨hP, hLa, hLb, hcs, ha0, ha1, hga, hgb, hna, hnb, hma, hmb, hzz⟩ := id hV
  obtain ⟨hPa, p5a, p5b, pla, plb, pka, pkb, pga, pgb, pfa, pfb⟩ := id hP
  refine lv_istore (lv' := [(5, .int (zI v_7)), (4, .int (zI v_3)), (0, .ref (q 8)), (1, .int (zI bk)), (2, .int (zI ek)), (3, .int (zI dp))]) B.1 B.2.1 dX3_readLook_20 hl (by decide) rfl (fun ls hl => ?_)
  refine lv_aload_n B.1 B.2.1 dX3_readLook_22 rfl (lv_at hl 2 rfl) ?_
  refine lv_iload_n B.1 B.2.1 dX3_readLook_23 rfl (lv_at hl 5 rfl) ?_
  refine g_calli (E := "java/lang/IllegalArgumentException") (As := [.int (zI dp)]) (rest := []) B hK hG hM 8 (by decide) (by decide) rfl (cX3_readInside_ok l hl0 D cy q V n0 x y b S_8 hF F fA loA L0 hA hFR dp hV (by show L0 ≤ dp; omega) (by show dp ≤ 8; omega) (by show 0 ≤ dp; omega)) (cwC 1 B wC_mRX3_109 wC_im_yX3_readInside wC_sl_yX3_readInside wC_in_RX3 wC_cd_yX3_readInside rfl rfl (by decide +kernel) ⟨by show (fA + 6) + 1 ≤ fA + 7; omega, by show 8 + (3 + 11) + (loA + 90) ≤ loA + 113; omega⟩) rfl hl.1 rfl (Nat.le_of_ble_eq_true rfl) dX3_readLook_24 hR hg (cFx_gl hF) (gl_of (K3_readInside_R (F := F) hFR (dp := dp) (S := S_8) hV).1.1) (fun c_10 => (by subst hS_4; subst hv_3; subst hS_8; subst hv_7; unfold K3_readLook; exact ((if_pos c_2).trans ((if_pos c_6).trans (if_neg c_10))))) (fun x y H locs c_10 hM => ?_)
  have hg : gl S ≤ gl (K3_readInside F dp S_8).2.2 := Nat.le_trans hg (gl_of (K3_readInside_R (F := F) hFR (dp := dp) (S := S_8) hV).1.1)
  obtain ⟨k_9, -, k_9v, -⟩ := K3_readInside_R (F := F) hFR (dp := dp) (S := S_8) hV
  obtain ⟨hV, k_9l, k_9p⟩ := k_9v c_10
  have hF : cFx 7 b (K3_readInside F dp S_8).2.2 := cFx_of k_9.1 hF
  generalize hS_12 : (K3_readInside F dp S_8).2.2 = S_12 at *
  generalize hv_11 : (K3_readInside F dp S_8).2.1 = v_11 at *
  obtain ⟨hP, hLa, hLb, hcs, ha0, ha1, hga, hgb, hna, hnb, hma, hmb, hzz⟩ := id hV
  obtain ⟨k_9pa, k_9pb⟩ := k_9p
  refine lv_istore (lv' := [(6, .int (zI v_11)), (5, .int (zI v_7)), (4, .int (zI v_3)), (0, .ref (q 8)), (1, .int (zI bk)), (2, .int (zI ek)), (3, .int (zI dp))]) B.1 B.2.1 dX3_readLook_27 hl (by decide) rfl (fun ls hl => ?_)
  refine lv_aload_n B.1 B.2.1 dX3_readLook_29 rfl (lv_at hl 3 rfl) ?_
  refine c_getr (q := (cq q x y)) (r := 7) B (iC3 _) hK hM 8 2 3 (by decide) rfl rfl (by decide) (by decide) rfl rfl rfl (cFx_r hF 8 2) (List.mem_cons_of_mem _ wC_fRX3_22) dX3_readLook_30 ?_
  refine lv_iload_n B.1 B.2.1 dX3_readLook_33 rfl (lv_at hl 5 rfl) ?_
  refine z_iconst B.1 B.2.1 dX3_readLook_34 ?_
  refine lv_iload B.1 B.2.1 dX3_readLook_35 (lv_at hl 2 rfl) ?_
  refine g_calli (E := "java/lang/IllegalArgumentException") (As := [.int (zI ek), .int (zI (-1)), .int (zI v_3)]) (rest := []) B hK hG hM 7 (by decide) (by decide) rfl (cX2_add_ok l hl0 D cy q V n0 x y 7 b S_12 hF  ek (-1) v_3 hV.1) (cwC 3 B wC_mRX3_64 wC_im_yX2_add wC_sl_yX2_add wC_in_RX2 wC_cd_yX2_add rfl rfl (by decide +kernel) ⟨by show 6 + 1 ≤ fA + 7; omega, by show 8 + (4 + 11) + 90 ≤ loA + 113; omega⟩) rfl hl.1 rfl (Nat.le_of_ble_eq_true rfl) dX3_readLook_37 hR hg (cFx_gl hF) (gl_of (congrArg Prod.snd K2_add_2)) (fun c_14 => (by subst hS_4; subst hv_3; subst hS_8; subst hv_7; subst hS_12; subst hv_11; unfold K3_readLook; exact ((if_pos c_2).trans ((if_pos c_6).trans ((if_pos c_10).trans (if_neg c_14)))))) (fun x y H locs c_14 hM => ?_)
  have hg : gl S ≤ gl (K2_add ek (-1) v_3 S_12).2.2 := Nat.le_trans hg (gl_of (congrArg Prod.snd K2_add_2))
  have hV := rV_add (kd := ek) (am := (-1)) (nb := v_3) (S := S_12) hV c_14 (by omega) (by omega) (by omega) (by omega) (by omega) (by omega)
  have hF : cFx 7 b (K2_add ek (-1) v_3 S_12).2.2 := cFx_of (congrArg Prod.snd K2_add_2) hF
  obtain ⟨k_13f, k_13a, k_13b, -⟩ := K2_add_v c_14
  have k_13s := K2_add_s c_14
  have k_138 : (K2_add ek (-1) v_3 S_12).2.2.1 8 3 = S_12.1 8 3 := congrFun (K2_add_1 (n := 8) (by decide)) 3
  have k_139 : (K2_add ek (-1) v_3 S_12).2.2.1 8 4 = S_12.1 8 4 := congrFun (K2_add_1 (n := 8) (by decide)) 4
  have k_13g : (K2_add ek (-1) v_3 S_12).2.2.1 7 12 = S_12.1 7 12 := K2_add_12
  have k_13t : (K2_add ek (-1) v_3 S_12).2.2.1 2 = S_12.1 2 := K2_add_1 (by decide)
  have k_13u : (K2_add ek (-1) v_3 S_12).2.2.1 13 = S_12.1 13 := K2_add_1 (by decide)
  generalize hS_16 : (K2_add ek (-1) v_3 S_12).2.2 = S_16 at *
  generalize hv_15 : (K2_add ek (-1) v_3 S_12).2.1 = v_15 at *
  obtain ⟨hP, hLa, hLb, hcs, ha0, ha1, hga, hgb, hna, hnb, hma, hmb, hzz⟩ := id hV
  obtain ⟨hPa, p5a, p5b, pla, plb, pka, pkb, pga, pgb, pfa, pfb⟩ := id hP
  refine lv_pop B.1 B.2.1 dX3_readLook_40 rfl ?_
  refine lv_aload_n B.1 B.2.1 dX3_readLook_41 rfl (lv_at hl 3 rfl) ?_
  refine c_getr (q := (cq q x y)) (r := 7) B (iC3 _) hK hM 8 2 3 (by decide) rfl rfl (by decide) (by decide) rfl rfl rfl (cFx_r hF 8 2) (List.mem_cons_of_mem _ wC_fRX3_22) dX3_readLook_42 ?_
  refine lv_iload B.1 B.2.1 dX3_readLook_45 (lv_at hl 1 rfl) ?_
  refine lv_aload_n B.1 B.2.1 dX3_readLook_47 rfl (lv_at hl 3 rfl) ?_
  refine c_getr (q := (cq q x y)) (r := 7) B (iC3 _) hK hM 8 2 3 (by decide) rfl rfl (by decide) (by decide) rfl rfl rfl (cFx_r hF 8 2) (List.mem_cons_of_mem _ wC_fRX3_22) dX3_readLook_48 ?_
  refine c_calli (q := (cq q x y)) (As := []) (rest := [.int (zI v_7), .ref (q 7)]) B hK hM 7 (by decide) (by decide) rfl (cX2_size_ok l D cy (cq q x y) 7 b S_16 hF 7 (by decide)  ) (cwC 0 B wC_mRX3_84 wC_im_yX2_size wC_sl_yX2_size wC_in_RX2 wC_cd_yX2_size rfl rfl (by decide +kernel) ⟨by show 0 + 1 ≤ fA + 7; omega, by show 8 + (1 + 11) + 0 ≤ loA + 113; omega⟩) rfl hl.1 rfl (Nat.le_of_ble_eq_true rfl) dX3_readLook_51 ⟨g_rc hR hg (cFx_gl (S := S_16) hF), g_rs hR hg (cFx_gl (S := S_16) hF)⟩ (fun z_20 S_19 H locs hp_18 hM => ?_)
  obtain ⟨hp_18, he_hp_18⟩ := hp_18
  have he_hp_18 := he_hp_18.symm
  subst he_hp_18
  have hp_18 : S_16.1 7 5 = z_20 := hp_18.symm
  subst hp_18
  refine c_callv (q := (cq q x y)) (As := [.int (zI v_7), .int (zI (S_16.1 7 5))]) (rest := []) B hK hM 7 (by decide) (by decide) rfl (cX2_aimAt_ok l D cy (cq q x y) 7 b S_16 hF 7 (by decide) v_7 (S_16.1 7 5) hP (by show -1000000000 ≤ v_7; omega) (by show v_7 ≤ 1000000000; omega)) (cwC 2 B wC_mRX3_80 wC_im_yX2_aimAt wC_sl_yX2_aimAt wC_in_RX2 wC_cd_yX2_aimAt rfl rfl (by decide +kernel) ⟨by show 1 + 1 ≤ fA + 7; omega, by show 8 + (3 + 11) + 21 ≤ loA + 113; omega⟩) rfl hl.1 rfl (Nat.le_of_ble_eq_true rfl) dX3_readLook_54 ⟨g_rc hR hg (cFx_gl (S := S_16) hF), g_rs hR hg (cFx_gl (S := S_16) hF)⟩ (fun S_23 H locs hp_22 hM => ?_)
  have hp_22 := hp_22.symm
  subst hp_22
  have hg : gl S ≤ gl (K2_aimAt 7 v_7 (S_16.1 7 5) S_16) := Nat.le_trans hg (gl_of (S := S_16) (S' := (K2_aimAt 7 v_7 (S_16.1 7 5) S_16)) (congrArg Prod.snd K2_aimAt_2))
  refine W.widen (k := gl (K2_aimAt 7 v_7 (S_16.1 7 5) S_16) - gl S) (n := 2 * (gl (K2_aimAt 7 v_7 (S_16.1 7 5) S_16) - gl S)) (Nat.sub_le_sub_right (gl_of (S := S_16) (S' := (K2_aimAt 7 v_7 (S_16.1 7 5) S_16)) (congrArg Prod.snd K2_aimAt_2)) _) (Nat.mul_le_mul_left 2 (Nat.sub_le_sub_right (gl_of (S := S_16) (S' := (K2_aimAt 7 v_7 (S_16.1 7 5) S_16)) (congrArg Prod.snd K2_aimAt_2)) _)) ?_
  have hP : pB 7 (K2_aimAt 7 v_7 (S_16.1 7 5) S_16) := pB_aimAt (by decide) hP (by omega) (by omega)
  have hF : cFx 7 b (K2_aimAt 7 v_7 (S_16.1 7 5) S_16) := cFx_of (congrArg Prod.snd K2_aimAt_2) hF
  refine lv_iload B.1 B.2.1 dX3_readLook_57 (lv_at hl 0 rfl) ?_
  exact g_reti (S := (K2_aimAt 7 v_7 (S_16.1 7 5) S_16)) B hM (by subst hS_4; subst hv_3; subst hS_8; subst hv_7; subst hS_12; subst hv_11; subst hS_16; subst hv_15; unfold K3_readLook; exact ((if_pos c_2).trans ((if_pos c_6).trans ((if_pos c_10).trans (if_pos c_14))))) dX3_readLook_59
