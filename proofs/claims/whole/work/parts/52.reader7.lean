def K3_readCountedAtom (F : Int → CSt → CR) (dp : Int) (S : CSt) : CR := (gBd (K2_add 9 (-1) (-1) S) (fun v_7 S_8 => (gBd (K3_readAtom F dp S_8) (fun v_11 S_12 => (gBd (K3_readCount S_12) (fun v_15 S_16 => (if v_15 = 0 then (0, v_11, S_16) else (gBd (K2_addLoop (S_16.1 8 5) (S_16.1 8 6) ((S.1 7 12) + 1) S_16) (fun v_20 S_21 => (gBd (K2_add ((if (S_21.1 8 7) = 0 then 10 else 11 : Int)) (-1) v_20 S_21) (fun v_28 S_29 => (gBd (K2_add 12 (v_7 + 1) v_20 S_29) (fun v_32 S_33 => (if (K3_checkWeight ((v_11 * ((if (S_33.1 8 6) = 1000000 then (S_33.1 8 5) + 1 else (if 1 < (S_33.1 8 6) then S_33.1 8 6 else 1 : Int) : Int))) + 2) (K2_aimAt 7 v_7 v_28 S_33)).1 = 0 then (0, (v_11 * ((if (S_33.1 8 6) = 1000000 then (S_33.1 8 5) + 1 else (if 1 < (S_33.1 8 6) then S_33.1 8 6 else 1 : Int) : Int))) + 2, (K2_aimAt 7 v_7 v_28 S_33)) else (1, 0, (K3_checkWeight ((v_11 * ((if (S_33.1 8 6) = 1000000 then (S_33.1 8 5) + 1 else (if 1 < (S_33.1 8 6) then S_33.1 8 6 else 1 : Int) : Int))) + 2) (K2_aimAt 7 v_7 v_28 S_33)).2.2)))))))))))))))
set_option maxHeartbeats 1000000 in
set_option maxRecDepth 100000 in
theorem cX3_readCountedAtom_ok (l : Launch) (hl0 : l.stackTraces = false) (D : va_G) (cy : Nat → ClassId) (q : Nat → Nat) (V : Nat × (Nat → Nat)) (n0 x y b : Nat) (S : CSt) (hF : cFx 7 b S) (F : Int → CSt → CR) (fA loA : Nat) (L0 : Int) (hA : ∀ (x y : Nat) (S : CSt) (dp : Int), cFx 7 b S → rV S → L0 + 1 ≤ dp → dp ≤ 8 → 0 ≤ dp → gMi l D cy q V n0 x y "java/lang/IllegalArgumentException" yX3_readAlternatives (.code yX3_readAlternatives cX3_readAlternatives 7 (some .int) :: TBC) fA loA S [.ref (q 8), .int (zI dp)] (F dp S)) (hFR : ∀ (S : CSt) (dp : Int), rV S → rR (wP S) S (F dp S)) (dp : Int) (hV : rV S) (hd0 : L0 ≤ dp) (hd1 : dp ≤ 8) (hd2 : 0 ≤ dp) (hs : ¬ K4_at 2 (S.1 8 3) S = 0)  : gMi l D cy q V n0 x y "java/lang/IllegalArgumentException" yX3_readCountedAtom (.code yX3_readCountedAtom cX3_readCountedAtom 9 (some .int) :: TBC) (fA + 11) (loA + 241) S [.ref (q 8), .int (zI dp)] (K3_readCountedAtom F dp S) := by
  refine g_of (cc := cX3_readCountedAtom) (maxL := 9) (ret := (some .int)) (by decide) rfl rfl (Nat.le_of_ble_eq_true rfl) ?_
  intro p e s m args below meth c ls B hK hG hM hl
  generalize gA (cq q x y) n0 = A at hG hM ⊢
  have hR : (headSpec (.code yX3_readCountedAtom cX3_readCountedAtom 9 (some .int) :: TBC) (gRm (fA + 11) (loA + 241) S)).room.cells = (gK - gl S) + 1 ∧ (headSpec (.code yX3_readCountedAtom cX3_readCountedAtom 9 (some .int) :: TBC) (gRm (fA + 11) (loA + 241) S)).room.slots = 2 * (gK - gl S) + 6 := ⟨rfl, rfl⟩
  have hl : lv_has ls 9 [(0, .ref (q 8)), (1, .int (zI dp))] := hl
  obtain ⟨hP, hLa, hLb, hcs, ha0, ha1, hga, hgb, hna, hnb, hma, hmb, hzz⟩ := id hV
  obtain ⟨hPa, p5a, p5b, pla, plb, pka, pkb, pga, pgb, pfa, pfb⟩ := id hP
  refine lv_aload_n B.1 B.2.1 dX3_readCountedAtom_0 rfl (lv_at hl 0 rfl) ?_
  refine c_getr (q := (cq q x y)) (r := 7) B (iC3 _) hK hM 8 2 3 (by decide) rfl rfl (by decide) (by decide) rfl rfl rfl (cFx_r hF 8 2) (List.mem_cons_of_mem _ wC_fRX3_22) dX3_readCountedAtom_1 ?_
  refine c_calli (q := (cq q x y)) (As := []) (rest := []) B hK hM 7 (by decide) (by decide) rfl (cX2_groups_ok l D cy (cq q x y) 7 b S hF 7 (by decide)  ) (cwC 0 B wC_mRX3_56 wC_im_yX2_groups wC_sl_yX2_groups wC_in_RX2 wC_cd_yX2_groups rfl rfl (by decide +kernel) ⟨by show 0 + 1 ≤ fA + 11; omega, by show 8 + (1 + 11) + 0 ≤ loA + 241; omega⟩) rfl hl.1 rfl (Nat.le_of_ble_eq_true rfl) dX3_readCountedAtom_4 ⟨g_rc hR (Nat.le_refl _) (cFx_gl (S := S) hF), g_rs hR (Nat.le_refl _) (cFx_gl (S := S) hF)⟩ (fun z_4 S_3 H locs hp_2 hM => ?_)
  obtain ⟨hp_2, he_hp_2⟩ := hp_2
  have he_hp_2 := he_hp_2.symm
  subst he_hp_2
  have hp_2 : S.1 7 12 = z_4 := hp_2.symm
  subst hp_2
  refine lv_istore_n (lv' := [(2, .int (zI (S.1 7 12))), (0, .ref (q 8)), (1, .int (zI dp))]) B.1 B.2.1 dX3_readCountedAtom_7 rfl hl (by decide) rfl (fun ls hl => ?_)
  refine lv_aload_n B.1 B.2.1 dX3_readCountedAtom_8 rfl (lv_at hl 1 rfl) ?_
  refine c_getr (q := (cq q x y)) (r := 7) B (iC3 _) hK hM 8 2 3 (by decide) rfl rfl (by decide) (by decide) rfl rfl rfl (cFx_r hF 8 2) (List.mem_cons_of_mem _ wC_fRX3_22) dX3_readCountedAtom_9 ?_
  refine z_bipush B.1 B.2.1 (by decide) dX3_readCountedAtom_12 ?_
  refine z_iconst B.1 B.2.1 dX3_readCountedAtom_14 ?_
  refine z_iconst B.1 B.2.1 dX3_readCountedAtom_15 ?_
  refine g_calli (E := "java/lang/IllegalArgumentException") (As := [.int (zI 9), .int (zI (-1)), .int (zI (-1))]) (rest := []) B hK hG hM 7 (by decide) (by decide) rfl (cX2_add_ok l hl0 D cy q V n0 x y 7 b S hF  9 (-1) (-1) hV.1) (cwC 3 B wC_mRX3_64 wC_im_yX2_add wC_sl_yX2_add wC_in_RX2 wC_cd_yX2_add rfl rfl (by decide +kernel) ⟨by show 6 + 1 ≤ fA + 11; omega, by show 8 + (4 + 11) + 90 ≤ loA + 241; omega⟩) rfl hl.1 rfl (Nat.le_of_ble_eq_true rfl) dX3_readCountedAtom_16 hR (Nat.le_refl _) (cFx_gl hF) (gl_of (congrArg Prod.snd K2_add_2)) (fun c_6 => (by unfold K3_readCountedAtom; exact (if_neg c_6))) (fun x y H locs c_6 hM => ?_)
  have hg : gl S ≤ gl (K2_add 9 (-1) (-1) S).2.2 := Nat.le_trans (Nat.le_refl _) (gl_of (congrArg Prod.snd K2_add_2))
  have hV := rV_add (kd := 9) (am := (-1)) (nb := (-1)) (S := S) hV c_6 (by omega) (by omega) (by omega) (by omega) (by omega) (by omega)
  have hF : cFx 7 b (K2_add 9 (-1) (-1) S).2.2 := cFx_of (congrArg Prod.snd K2_add_2) hF
  obtain ⟨k_5f, k_5a, k_5b, -⟩ := K2_add_v c_6
  have k_5s := K2_add_s c_6
  have k_58 : (K2_add 9 (-1) (-1) S).2.2.1 8 3 = S.1 8 3 := congrFun (K2_add_1 (n := 8) (by decide)) 3
  have k_59 : (K2_add 9 (-1) (-1) S).2.2.1 8 4 = S.1 8 4 := congrFun (K2_add_1 (n := 8) (by decide)) 4
  have k_5g : (K2_add 9 (-1) (-1) S).2.2.1 7 12 = S.1 7 12 := K2_add_12
  have k_5t : (K2_add 9 (-1) (-1) S).2.2.1 2 = S.1 2 := K2_add_1 (by decide)
  have k_5u : (K2_add 9 (-1) (-1) S).2.2.1 13 = S.1 13 := K2_add_1 (by decide)
  generalize hS_8 : (K2_add 9 (-1) (-1) S).2.2 = S_8 at *
  generalize hv_7 : (K2_add 9 (-1) (-1) S).2.1 = v_7 at *
  obtain ⟨hP, hLa, hLb, hcs, ha0, ha1, hga, hgb, hna, hnb, hma, hmb, hzz⟩ := id hV
  obtain ⟨hPa, p5a, p5b, pla, plb, pka, pkb, pga, pgb, pfa, pfb⟩ := id hP
  have k_5z : ¬ K4_at 2 (S_8.1 8 3) S_8 = 0 := by rw [k_58, K4_at_cong k_5t k_5u]; exact hs
  refine lv_istore_n (lv' := [(3, .int (zI v_7)), (2, .int (zI (S.1 7 12))), (0, .ref (q 8)), (1, .int (zI dp))]) B.1 B.2.1 dX3_readCountedAtom_19 rfl hl (by decide) rfl (fun ls hl => ?_)
  refine lv_aload_n B.1 B.2.1 dX3_readCountedAtom_20 rfl (lv_at hl 2 rfl) ?_
  refine lv_iload_n B.1 B.2.1 dX3_readCountedAtom_21 rfl (lv_at hl 3 rfl) ?_
  refine g_calli (E := "java/lang/IllegalArgumentException") (As := [.int (zI dp)]) (rest := []) B hK hG hM 8 (by decide) (by decide) rfl (cX3_readAtom_ok l hl0 D cy q V n0 x y b S_8 hF F fA loA L0 hA hFR dp hV (by show L0 ≤ dp; omega) (by show dp ≤ 8; omega) (by show 0 ≤ dp; omega)) (cwC 1 B wC_mRX3_116 wC_im_yX3_readAtom wC_sl_yX3_readAtom wC_in_RX3 wC_cd_yX3_readAtom rfl rfl (by decide +kernel) ⟨by show (fA + 10) + 1 ≤ fA + 11; omega, by show 8 + (3 + 11) + (loA + 219) ≤ loA + 241; omega⟩) rfl hl.1 rfl (Nat.le_of_ble_eq_true rfl) dX3_readCountedAtom_22 hR hg (cFx_gl hF) (gl_of (K3_readAtom_R (F := F) hFR (dp := dp) (S := S_8) hV k_5z).1.1) (fun c_10 => (by subst hS_8; subst hv_7; unfold K3_readCountedAtom; exact ((if_pos c_6).trans (if_neg c_10)))) (fun x y H locs c_10 hM => ?_)
  have hg : gl S ≤ gl (K3_readAtom F dp S_8).2.2 := Nat.le_trans hg (gl_of (K3_readAtom_R (F := F) hFR (dp := dp) (S := S_8) hV k_5z).1.1)
  obtain ⟨k_9, -, k_9v, -⟩ := K3_readAtom_R (F := F) hFR (dp := dp) (S := S_8) hV k_5z
  obtain ⟨hV, k_9l, k_9p⟩ := k_9v c_10
  have hF : cFx 7 b (K3_readAtom F dp S_8).2.2 := cFx_of k_9.1 hF
  generalize hS_12 : (K3_readAtom F dp S_8).2.2 = S_12 at *
  generalize hv_11 : (K3_readAtom F dp S_8).2.1 = v_11 at *
  obtain ⟨hP, hLa, hLb, hcs, ha0, ha1, hga, hgb, hna, hnb, hma, hmb, hzz⟩ := id hV
  obtain ⟨⟨k_9pa, k_9pb⟩, k_9pc⟩ := k_9p
  refine lv_istore (lv' := [(4, .int (zI v_11)), (3, .int (zI v_7)), (2, .int (zI (S.1 7 12))), (0, .ref (q 8)), (1, .int (zI dp))]) B.1 B.2.1 dX3_readCountedAtom_25 hl (by decide) rfl (fun ls hl => ?_)
  refine lv_aload_n B.1 B.2.1 dX3_readCountedAtom_27 rfl (lv_at hl 3 rfl) ?_
  refine g_calli (E := "java/lang/IllegalArgumentException") (As := []) (rest := []) B hK hG hM 8 (by decide) (by decide) rfl (cX3_readCount_ok l hl0 D cy q V n0 x y b S_12 hF   hV) (cwC 0 B wC_mRX3_119 wC_im_yX3_readCount wC_sl_yX3_readCount wC_in_RX3 wC_cd_yX3_readCount rfl rfl (by decide +kernel) ⟨by show 8 + 1 ≤ fA + 11; omega, by show 8 + (1 + 11) + 131 ≤ loA + 241; omega⟩) rfl hl.1 rfl (Nat.le_of_ble_eq_true rfl) dX3_readCountedAtom_28 hR hg (cFx_gl hF) (gl_of (K3_readCount_R  (S := S_12) hV ).1.1) (fun c_14 => (by subst hS_8; subst hv_7; subst hS_12; subst hv_11; unfold K3_readCountedAtom; exact ((if_pos c_6).trans ((if_pos c_10).trans (if_neg c_14))))) (fun x y H locs c_14 hM => ?_)
  have hg : gl S ≤ gl (K3_readCount S_12).2.2 := Nat.le_trans hg (gl_of (K3_readCount_R  (S := S_12) hV ).1.1)
  obtain ⟨k_13, -, k_13v, -⟩ := K3_readCount_R  (S := S_12) hV 
  obtain ⟨hV, k_13l, k_13p⟩ := k_13v c_14
  have hF : cFx 7 b (K3_readCount S_12).2.2 := cFx_of k_13.1 hF
  generalize hS_16 : (K3_readCount S_12).2.2 = S_16 at *
  generalize hv_15 : (K3_readCount S_12).2.1 = v_15 at *
  obtain ⟨hP, hLa, hLb, hcs, ha0, ha1, hga, hgb, hna, hnb, hma, hmb, hzz⟩ := id hV
  obtain ⟨hPa, p5a, p5b, pla, plb, pka, pkb, pga, pgb, pfa, pfb⟩ := id hP
  refine z_if_ne (tgt := 37) B.1 B.2.1 (zr_of (by omega) (by omega)) dX3_readCountedAtom_31 (by decide) (fun c_17 => ?_) (fun c_17 => ?_)
  · --
    refine lv_aload_n B.1 B.2.1 dX3_readCountedAtom_37 rfl (lv_at hl 3 rfl) ?_
    refine c_getr (q := (cq q x y)) (r := 7) B (iC3 _) hK hM 8 2 3 (by decide) rfl rfl (by decide) (by decide) rfl rfl rfl (cFx_r hF 8 2) (List.mem_cons_of_mem _ wC_fRX3_22) dX3_readCountedAtom_38 ?_
    refine lv_aload_n B.1 B.2.1 dX3_readCountedAtom_41 rfl (lv_at hl 3 rfl) ?_
    refine c_geti (q := (cq q x y)) (x := S_16.1 8 5) B (iC3 _) hK hM 8 5 3 (by decide) rfl rfl (by decide) (by decide) rfl rfl (by decide) rfl (List.mem_cons_of_mem _ wC_fRX3_122) dX3_readCountedAtom_42 ?_
    refine lv_aload_n B.1 B.2.1 dX3_readCountedAtom_45 rfl (lv_at hl 3 rfl) ?_
    refine c_geti (q := (cq q x y)) (x := S_16.1 8 6) B (iC3 _) hK hM 8 6 3 (by decide) rfl rfl (by decide) (by decide) rfl rfl (by decide) rfl (List.mem_cons_of_mem _ wC_fRX3_125) dX3_readCountedAtom_46 ?_
    refine lv_iload_n B.1 B.2.1 dX3_readCountedAtom_49 rfl (lv_at hl 2 rfl) ?_
    refine z_iconst B.1 B.2.1 dX3_readCountedAtom_50 ?_
    refine z_iadd (x := (S.1 7 12) + 1) B.1 B.2.1 rfl dX3_readCountedAtom_51 ?_
    refine g_calli (E := "java/lang/IllegalArgumentException") (As := [.int (zI (S_16.1 8 5)), .int (zI (S_16.1 8 6)), .int (zI ((S.1 7 12) + 1))]) (rest := []) B hK hG hM 7 (by decide) (by decide) rfl (cX2_addLoop_ok l hl0 D cy q V n0 x y 7 b S_16 hF  (S_16.1 8 5) (S_16.1 8 6) ((S.1 7 12) + 1) hV.1) (cwC 3 B wC_mRX3_128 wC_im_yX2_addLoop wC_sl_yX2_addLoop wC_in_RX2 wC_cd_yX2_addLoop rfl rfl (by decide +kernel) ⟨by show 6 + 1 ≤ fA + 11; omega, by show 8 + (4 + 11) + 90 ≤ loA + 241; omega⟩) rfl hl.1 rfl (Nat.le_of_ble_eq_true rfl) dX3_readCountedAtom_52 hR hg (cFx_gl hF) (gl_of (congrArg Prod.snd K2_addLoop_2)) (fun c_19 => (by subst hS_8; subst hv_7; subst hS_12; subst hv_11; subst hS_16; subst hv_15; unfold K3_readCountedAtom; exact ((if_pos c_6).trans ((if_pos c_10).trans ((if_pos c_14).trans ((if_neg c_17).trans (if_neg c_19))))))) (fun x y H locs c_19 hM => ?_)
    have hg : gl S ≤ gl (K2_addLoop (S_16.1 8 5) (S_16.1 8 6) ((S.1 7 12) + 1) S_16).2.2 := Nat.le_trans hg (gl_of (congrArg Prod.snd K2_addLoop_2))
    have hV := rV_of hV (pB_addLoop hV.1 c_19 (by omega) (by omega) (by omega) (by omega) (by omega) (by omega)) (K2_addLoop_1 (by decide)) (K2_addLoop_1 (by decide)) (K2_addLoop_1 (by decide))
    have hF : cFx 7 b (K2_addLoop (S_16.1 8 5) (S_16.1 8 6) ((S.1 7 12) + 1) S_16).2.2 := cFx_of (congrArg Prod.snd K2_addLoop_2) hF
    obtain ⟨k_18a, k_18b, k_18f, -⟩ := K2_addLoop_v c_19
    have k_183 : (K2_addLoop (S_16.1 8 5) (S_16.1 8 6) ((S.1 7 12) + 1) S_16).2.2.1 8 3 = S_16.1 8 3 := congrFun (K2_addLoop_1 (n := 8) (by decide)) 3
    have k_185 : (K2_addLoop (S_16.1 8 5) (S_16.1 8 6) ((S.1 7 12) + 1) S_16).2.2.1 8 5 = S_16.1 8 5 := congrFun (K2_addLoop_1 (n := 8) (by decide)) 5
    have k_186 : (K2_addLoop (S_16.1 8 5) (S_16.1 8 6) ((S.1 7 12) + 1) S_16).2.2.1 8 6 = S_16.1 8 6 := congrFun (K2_addLoop_1 (n := 8) (by decide)) 6
    have k_187 : (K2_addLoop (S_16.1 8 5) (S_16.1 8 6) ((S.1 7 12) + 1) S_16).2.2.1 8 7 = S_16.1 8 7 := congrFun (K2_addLoop_1 (n := 8) (by decide)) 7
    generalize hS_21 : (K2_addLoop (S_16.1 8 5) (S_16.1 8 6) ((S.1 7 12) + 1) S_16).2.2 = S_21 at *
    generalize hv_20 : (K2_addLoop (S_16.1 8 5) (S_16.1 8 6) ((S.1 7 12) + 1) S_16).2.1 = v_20 at *
    obtain ⟨hP, hLa, hLb, hcs, ha0, ha1, hga, hgb, hna, hnb, hma, hmb, hzz⟩ := id hV
    obtain ⟨hPa, p5a, p5b, pla, plb, pka, pkb, pga, pgb, pfa, pfb⟩ := id hP
    refine lv_istore (lv' := [(5, .int (zI v_20)), (4, .int (zI v_11)), (3, .int (zI v_7)), (2, .int (zI (S.1 7 12))), (0, .ref (q 8)), (1, .int (zI dp))]) B.1 B.2.1 dX3_readCountedAtom_55 hl (by decide) rfl (fun ls hl => ?_)
    refine lv_aload_n B.1 B.2.1 dX3_readCountedAtom_57 rfl (lv_at hl 4 rfl) ?_
    refine c_getr (q := (cq q x y)) (r := 7) B (iC3 _) hK hM 8 2 3 (by decide) rfl rfl (by decide) (by decide) rfl rfl rfl (cFx_r hF 8 2) (List.mem_cons_of_mem _ wC_fRX3_22) dX3_readCountedAtom_58 ?_
    refine lv_aload_n B.1 B.2.1 dX3_readCountedAtom_61 rfl (lv_at hl 4 rfl) ?_
    refine c_geti (q := (cq q x y)) (x := S_21.1 8 7) B (iC3 _) hK hM 8 7 3 (by decide) rfl rfl (by decide) (by decide) rfl rfl (by decide) rfl (List.mem_cons_of_mem _ wC_fRX3_131) dX3_readCountedAtom_62 ?_
    refine z_joinH (P := fun v H' locs' => v = (if (S_21.1 8 7) = 0 then 10 else 11 : Int) ∧ cH D cy (cq q x y) A s.heap S_21 H' locs') (pcJ := 75) (lsJ := ls) (stJ := [.ref (q 7)]) (fun v_22 H locs hv_23 => ?_) (fun hJ_24 => ?_)
    · --
      obtain ⟨hv_23, hM⟩ := hv_23
      have hb_25 : (if (S_21.1 8 7) = 0 then 10 else 11 : Int) = 10 ∨ (if (S_21.1 8 7) = 0 then 10 else 11 : Int) = 11 := by (repeat' split) <;> simp
      have hv_23 := hv_23.symm
      subst hv_23
      refine z_iconst B.1 B.2.1 dX3_readCountedAtom_75 ?_
      refine lv_iload B.1 B.2.1 dX3_readCountedAtom_76 (lv_at hl 0 rfl) ?_
      refine g_calli (E := "java/lang/IllegalArgumentException") (As := [.int (zI ((if (S_21.1 8 7) = 0 then 10 else 11 : Int))), .int (zI (-1)), .int (zI v_20)]) (rest := []) B hK hG hM 7 (by decide) (by decide) rfl (cX2_add_ok l hl0 D cy q V n0 x y 7 b S_21 hF  ((if (S_21.1 8 7) = 0 then 10 else 11 : Int)) (-1) v_20 hV.1) (cwC 3 B wC_mRX3_64 wC_im_yX2_add wC_sl_yX2_add wC_in_RX2 wC_cd_yX2_add rfl rfl (by decide +kernel) ⟨by show 6 + 1 ≤ fA + 11; omega, by show 8 + (4 + 11) + 90 ≤ loA + 241; omega⟩) rfl hl.1 rfl (Nat.le_of_ble_eq_true rfl) dX3_readCountedAtom_78 hR hg (cFx_gl hF) (gl_of (congrArg Prod.snd K2_add_2)) (fun c_27 => (by subst hS_8; subst hv_7; subst hS_12; subst hv_11; subst hS_16; subst hv_15; subst hS_21; subst hv_20; unfold K3_readCountedAtom; exact ((if_pos c_6).trans ((if_pos c_10).trans ((if_pos c_14).trans ((if_neg c_17).trans ((if_pos c_19).trans (if_neg c_27)))))))) (fun x y H locs c_27 hM => ?_)
      have hg : gl S ≤ gl (K2_add ((if (S_21.1 8 7) = 0 then 10 else 11 : Int)) (-1) v_20 S_21).2.2 := Nat.le_trans hg (gl_of (congrArg Prod.snd K2_add_2))
      have hV := rV_add (kd := (if (S_21.1 8 7) = 0 then 10 else 11 : Int)) (am := (-1)) (nb := v_20) (S := S_21) hV c_27 (by omega) (by omega) (by omega) (by omega) (by omega) (by omega)
      have hF : cFx 7 b (K2_add ((if (S_21.1 8 7) = 0 then 10 else 11 : Int)) (-1) v_20 S_21).2.2 := cFx_of (congrArg Prod.snd K2_add_2) hF
      obtain ⟨k_26f, k_26a, k_26b, -⟩ := K2_add_v c_27
      have k_26s := K2_add_s c_27
      have k_268 : (K2_add ((if (S_21.1 8 7) = 0 then 10 else 11 : Int)) (-1) v_20 S_21).2.2.1 8 3 = S_21.1 8 3 := congrFun (K2_add_1 (n := 8) (by decide)) 3
      have k_269 : (K2_add ((if (S_21.1 8 7) = 0 then 10 else 11 : Int)) (-1) v_20 S_21).2.2.1 8 4 = S_21.1 8 4 := congrFun (K2_add_1 (n := 8) (by decide)) 4
      have k_26g : (K2_add ((if (S_21.1 8 7) = 0 then 10 else 11 : Int)) (-1) v_20 S_21).2.2.1 7 12 = S_21.1 7 12 := K2_add_12
      have k_26t : (K2_add ((if (S_21.1 8 7) = 0 then 10 else 11 : Int)) (-1) v_20 S_21).2.2.1 2 = S_21.1 2 := K2_add_1 (by decide)
      have k_26u : (K2_add ((if (S_21.1 8 7) = 0 then 10 else 11 : Int)) (-1) v_20 S_21).2.2.1 13 = S_21.1 13 := K2_add_1 (by decide)
      generalize hS_29 : (K2_add ((if (S_21.1 8 7) = 0 then 10 else 11 : Int)) (-1) v_20 S_21).2.2 = S_29 at *
      generalize hv_28 : (K2_add ((if (S_21.1 8 7) = 0 then 10 else 11 : Int)) (-1) v_20 S_21).2.1 = v_28 at *
      obtain ⟨hP, hLa, hLb, hcs, ha0, ha1, hga, hgb, hna, hnb, hma, hmb, hzz⟩ := id hV
      obtain ⟨hPa, p5a, p5b, pla, plb, pka, pkb, pga, pgb, pfa, pfb⟩ := id hP
      refine lv_istore (lv' := [(6, .int (zI v_28)), (5, .int (zI v_20)), (4, .int (zI v_11)), (3, .int (zI v_7)), (2, .int (zI (S.1 7 12))), (0, .ref (q 8)), (1, .int (zI dp))]) B.1 B.2.1 dX3_readCountedAtom_81 hl (by decide) rfl (fun ls hl => ?_)
      refine lv_aload_n B.1 B.2.1 dX3_readCountedAtom_83 rfl (lv_at hl 5 rfl) ?_
      refine c_getr (q := (cq q x y)) (r := 7) B (iC3 _) hK hM 8 2 3 (by decide) rfl rfl (by decide) (by decide) rfl rfl rfl (cFx_r hF 8 2) (List.mem_cons_of_mem _ wC_fRX3_22) dX3_readCountedAtom_84 ?_
      refine z_bipush B.1 B.2.1 (by decide) dX3_readCountedAtom_87 ?_
      refine lv_iload_n B.1 B.2.1 dX3_readCountedAtom_89 rfl (lv_at hl 3 rfl) ?_
      refine z_iconst B.1 B.2.1 dX3_readCountedAtom_90 ?_
      refine z_iadd (x := v_7 + 1) B.1 B.2.1 rfl dX3_readCountedAtom_91 ?_
      refine lv_iload B.1 B.2.1 dX3_readCountedAtom_92 (lv_at hl 1 rfl) ?_
      refine g_calli (E := "java/lang/IllegalArgumentException") (As := [.int (zI 12), .int (zI (v_7 + 1)), .int (zI v_20)]) (rest := []) B hK hG hM 7 (by decide) (by decide) rfl (cX2_add_ok l hl0 D cy q V n0 x y 7 b S_29 hF  12 (v_7 + 1) v_20 hV.1) (cwC 3 B wC_mRX3_64 wC_im_yX2_add wC_sl_yX2_add wC_in_RX2 wC_cd_yX2_add rfl rfl (by decide +kernel) ⟨by show 6 + 1 ≤ fA + 11; omega, by show 8 + (4 + 11) + 90 ≤ loA + 241; omega⟩) rfl hl.1 rfl (Nat.le_of_ble_eq_true rfl) dX3_readCountedAtom_94 hR hg (cFx_gl hF) (gl_of (congrArg Prod.snd K2_add_2)) (fun c_31 => (by subst hS_8; subst hv_7; subst hS_12; subst hv_11; subst hS_16; subst hv_15; subst hS_21; subst hv_20; subst hS_29; subst hv_28; unfold K3_readCountedAtom; exact ((if_pos c_6).trans ((if_pos c_10).trans ((if_pos c_14).trans ((if_neg c_17).trans ((if_pos c_19).trans ((if_pos c_27).trans (if_neg c_31))))))))) (fun x y H locs c_31 hM => ?_)
      have hg : gl S ≤ gl (K2_add 12 (v_7 + 1) v_20 S_29).2.2 := Nat.le_trans hg (gl_of (congrArg Prod.snd K2_add_2))
      have hV := rV_add (kd := 12) (am := v_7 + 1) (nb := v_20) (S := S_29) hV c_31 (by omega) (by omega) (by omega) (by omega) (by omega) (by omega)
      have hF : cFx 7 b (K2_add 12 (v_7 + 1) v_20 S_29).2.2 := cFx_of (congrArg Prod.snd K2_add_2) hF
      obtain ⟨k_30f, k_30a, k_30b, -⟩ := K2_add_v c_31
      have k_30s := K2_add_s c_31
      have k_308 : (K2_add 12 (v_7 + 1) v_20 S_29).2.2.1 8 3 = S_29.1 8 3 := congrFun (K2_add_1 (n := 8) (by decide)) 3
      have k_309 : (K2_add 12 (v_7 + 1) v_20 S_29).2.2.1 8 4 = S_29.1 8 4 := congrFun (K2_add_1 (n := 8) (by decide)) 4
      have k_30g : (K2_add 12 (v_7 + 1) v_20 S_29).2.2.1 7 12 = S_29.1 7 12 := K2_add_12
      have k_30t : (K2_add 12 (v_7 + 1) v_20 S_29).2.2.1 2 = S_29.1 2 := K2_add_1 (by decide)
      have k_30u : (K2_add 12 (v_7 + 1) v_20 S_29).2.2.1 13 = S_29.1 13 := K2_add_1 (by decide)
      generalize hS_33 : (K2_add 12 (v_7 + 1) v_20 S_29).2.2 = S_33 at *
      generalize hv_32 : (K2_add 12 (v_7 + 1) v_20 S_29).2.1 = v_32 at *
      obtain ⟨hP, hLa, hLb, hcs, ha0, ha1, hga, hgb, hna, hnb, hma, hmb, hzz⟩ := id hV
      obtain ⟨hPa, p5a, p5b, pla, plb, pka, pkb, pga, pgb, pfa, pfb⟩ := id hP
      refine lv_pop B.1 B.2.1 dX3_readCountedAtom_97 rfl ?_
      refine lv_aload_n B.1 B.2.1 dX3_readCountedAtom_98 rfl (lv_at hl 5 rfl) ?_
      refine c_getr (q := (cq q x y)) (r := 7) B (iC3 _) hK hM 8 2 3 (by decide) rfl rfl (by decide) (by decide) rfl rfl rfl (cFx_r hF 8 2) (List.mem_cons_of_mem _ wC_fRX3_22) dX3_readCountedAtom_99 ?_
      refine lv_iload_n B.1 B.2.1 dX3_readCountedAtom_102 rfl (lv_at hl 3 rfl) ?_
      refine lv_iload B.1 B.2.1 dX3_readCountedAtom_103 (lv_at hl 0 rfl) ?_
      refine c_callv (q := (cq q x y)) (As := [.int (zI v_7), .int (zI v_28)]) (rest := []) B hK hM 7 (by decide) (by decide) rfl (cX2_aimAt_ok l D cy (cq q x y) 7 b S_33 hF 7 (by decide) v_7 v_28 hP (by show -1000000000 ≤ v_7; omega) (by show v_7 ≤ 1000000000; omega)) (cwC 2 B wC_mRX3_80 wC_im_yX2_aimAt wC_sl_yX2_aimAt wC_in_RX2 wC_cd_yX2_aimAt rfl rfl (by decide +kernel) ⟨by show 1 + 1 ≤ fA + 11; omega, by show 8 + (3 + 11) + 21 ≤ loA + 241; omega⟩) rfl hl.1 rfl (Nat.le_of_ble_eq_true rfl) dX3_readCountedAtom_105 ⟨g_rc hR hg (cFx_gl (S := S_33) hF), g_rs hR hg (cFx_gl (S := S_33) hF)⟩ (fun S_36 H locs hp_35 hM => ?_)
      have hp_35 := hp_35.symm
      subst hp_35
      have hg : gl S ≤ gl (K2_aimAt 7 v_7 v_28 S_33) := Nat.le_trans hg (gl_of (S := S_33) (S' := (K2_aimAt 7 v_7 v_28 S_33)) (congrArg Prod.snd K2_aimAt_2))
      refine W.widen (k := gl (K2_aimAt 7 v_7 v_28 S_33) - gl S) (n := 2 * (gl (K2_aimAt 7 v_7 v_28 S_33) - gl S)) (Nat.sub_le_sub_right (gl_of (S := S_33) (S' := (K2_aimAt 7 v_7 v_28 S_33)) (congrArg Prod.snd K2_aimAt_2)) _) (Nat.mul_le_mul_left 2 (Nat.sub_le_sub_right (gl_of (S := S_33) (S' := (K2_aimAt 7 v_7 v_28 S_33)) (congrArg Prod.snd K2_aimAt_2)) _)) ?_
      have hP : pB 7 (K2_aimAt 7 v_7 v_28 S_33) := pB_aimAt (by decide) hP (by omega) (by omega)
      have hF : cFx 7 b (K2_aimAt 7 v_7 v_28 S_33) := cFx_of (congrArg Prod.snd K2_aimAt_2) hF
      refine lv_aload_n B.1 B.2.1 dX3_readCountedAtom_108 rfl (lv_at hl 5 rfl) ?_
      refine c_geti (q := (cq q x y)) (x := S_33.1 8 6) B (iC3 _) hK hM 8 6 3 (by decide) rfl rfl (by decide) (by decide) rfl rfl (by decide) (by simp only [K2_aimAt_1 (t := 7) (n := 8) (by decide) (by decide)]) (List.mem_cons_of_mem _ wC_fRX3_125) dX3_readCountedAtom_109 ?_
      refine lv_ldc (v := zI 1000000) B.1 B.2.1 B.2.2.2.1 (B.2.2.2.2.1 _ (List.mem_cons_of_mem _ wC_kRX3_135)) dX3_readCountedAtom_112 ?_
      refine z_joinH (P := fun v H' locs' => v = (if (S_33.1 8 6) = 1000000 then (S_33.1 8 5) + 1 else (if 1 < (S_33.1 8 6) then S_33.1 8 6 else 1 : Int) : Int) ∧ cH D cy (cq q x y) A s.heap (K2_aimAt 7 v_7 v_28 S_33) H' locs') (pcJ := 134) (lsJ := ls) (stJ := []) (fun v_37 H locs hv_38 => ?_) (fun hJ_39 => ?_)
      · --
        obtain ⟨hv_38, hM⟩ := hv_38
        have hv_38 := hv_38.symm
        subst hv_38
        have hcp : 1 ≤ (if (S_33.1 8 6) = 1000000 then (S_33.1 8 5) + 1 else (if 1 < (S_33.1 8 6) then S_33.1 8 6 else 1 : Int) : Int) ∧ (if (S_33.1 8 6) = 1000000 then (S_33.1 8 5) + 1 else (if 1 < (S_33.1 8 6) then S_33.1 8 6 else 1 : Int) : Int) ≤ 10 := by (repeat' split) <;> omega
        refine lv_istore (lv' := [(7, .int (zI ((if (S_33.1 8 6) = 1000000 then (S_33.1 8 5) + 1 else (if 1 < (S_33.1 8 6) then S_33.1 8 6 else 1 : Int) : Int)))), (6, .int (zI v_28)), (5, .int (zI v_20)), (4, .int (zI v_11)), (3, .int (zI v_7)), (2, .int (zI (S.1 7 12))), (0, .ref (q 8)), (1, .int (zI dp))]) B.1 B.2.1 dX3_readCountedAtom_134 hl (by decide) rfl (fun ls hl => ?_)
        refine lv_iload B.1 B.2.1 dX3_readCountedAtom_136 (lv_at hl 3 rfl) ?_
        refine lv_iload B.1 B.2.1 dX3_readCountedAtom_138 (lv_at hl 0 rfl) ?_
        refine z_imul (x := v_11 * ((if (S_33.1 8 6) = 1000000 then (S_33.1 8 5) + 1 else (if 1 < (S_33.1 8 6) then S_33.1 8 6 else 1 : Int) : Int))) B.1 B.2.1 rfl dX3_readCountedAtom_140 ?_
        refine z_iconst B.1 B.2.1 dX3_readCountedAtom_141 ?_
        refine z_iadd (x := (v_11 * ((if (S_33.1 8 6) = 1000000 then (S_33.1 8 5) + 1 else (if 1 < (S_33.1 8 6) then S_33.1 8 6 else 1 : Int) : Int))) + 2) B.1 B.2.1 rfl dX3_readCountedAtom_142 ?_
        refine lv_istore (lv' := [(8, .int (zI ((v_11 * ((if (S_33.1 8 6) = 1000000 then (S_33.1 8 5) + 1 else (if 1 < (S_33.1 8 6) then S_33.1 8 6 else 1 : Int) : Int))) + 2))), (7, .int (zI ((if (S_33.1 8 6) = 1000000 then (S_33.1 8 5) + 1 else (if 1 < (S_33.1 8 6) then S_33.1 8 6 else 1 : Int) : Int)))), (6, .int (zI v_28)), (5, .int (zI v_20)), (4, .int (zI v_11)), (3, .int (zI v_7)), (2, .int (zI (S.1 7 12))), (0, .ref (q 8)), (1, .int (zI dp))]) B.1 B.2.1 dX3_readCountedAtom_143 hl (by decide) rfl (fun ls hl => ?_)
        have hmul := zmulb (a := v_11) (b := (if (S_33.1 8 6) = 1000000 then (S_33.1 8 5) + 1 else (if 1 < (S_33.1 8 6) then S_33.1 8 6 else 1 : Int) : Int)) (by omega) (by omega) hcp.1 hcp.2
        refine lv_iload B.1 B.2.1 dX3_readCountedAtom_145 (lv_at hl 0 rfl) ?_
        refine g_scallv (E := "java/lang/IllegalArgumentException") (As := [.int (zI ((v_11 * ((if (S_33.1 8 6) = 1000000 then (S_33.1 8 5) + 1 else (if 1 < (S_33.1 8 6) then S_33.1 8 6 else 1 : Int) : Int))) + 2))]) (rest := []) B hK hG hM (cX3_checkWeight_ok l hl0 D cy q V n0 x y b (K2_aimAt 7 v_7 v_28 S_33) hF ((v_11 * ((if (S_33.1 8 6) = 1000000 then (S_33.1 8 5) + 1 else (if 1 < (S_33.1 8 6) then S_33.1 8 6 else 1 : Int) : Int))) + 2) (by show -1000000 ≤ ((v_11 * ((if (S_33.1 8 6) = 1000000 then (S_33.1 8 5) + 1 else (if 1 < (S_33.1 8 6) then S_33.1 8 6 else 1 : Int) : Int))) + 2); omega) (by show ((v_11 * ((if (S_33.1 8 6) = 1000000 then (S_33.1 8 5) + 1 else (if 1 < (S_33.1 8 6) then S_33.1 8 6 else 1 : Int) : Int))) + 2) ≤ 1000000; omega)) (csC 1 B wC_mRX3_61 wC_st_yX3_checkWeight wC_in_RX3 wC_cd_yX3_checkWeight rfl rfl (by decide +kernel) ⟨by show 6 + 1 ≤ fA + 11; omega, by show 8 + (1 + 11) + 90 ≤ loA + 241; omega⟩) rfl hl.1 rfl (Nat.le_of_ble_eq_true rfl) dX3_readCountedAtom_147 hR hg (cFx_gl hF) (gl_of (congrArg (fun z : CSt => z.2.2) (K3_cw_22 (wt := (v_11 * ((if (S_33.1 8 6) = 1000000 then (S_33.1 8 5) + 1 else (if 1 < (S_33.1 8 6) then S_33.1 8 6 else 1 : Int) : Int))) + 2) (S := (K2_aimAt 7 v_7 v_28 S_33))))) (fun c_41 => (by subst hS_8; subst hv_7; subst hS_12; subst hv_11; subst hS_16; subst hv_15; subst hS_21; subst hv_20; subst hS_29; subst hv_28; subst hS_33; subst hv_32; unfold K3_readCountedAtom; exact ((if_pos c_6).trans ((if_pos c_10).trans ((if_pos c_14).trans ((if_neg c_17).trans ((if_pos c_19).trans ((if_pos c_27).trans ((if_pos c_31).trans (if_neg c_41)))))))))) (fun x y H locs c_41 hM => ?_)
        rw [K3_cw c_41] at hM ⊢
        have f_42 := K3_cw_le c_41
        refine lv_iload B.1 B.2.1 dX3_readCountedAtom_150 (lv_at hl 0 rfl) ?_
        exact g_reti (S := (K2_aimAt 7 v_7 v_28 S_33)) B hM (by subst hS_8; subst hv_7; subst hS_12; subst hv_11; subst hS_16; subst hv_15; subst hS_21; subst hv_20; subst hS_29; subst hv_28; subst hS_33; subst hv_32; unfold K3_readCountedAtom; exact ((if_pos c_6).trans ((if_pos c_10).trans ((if_pos c_14).trans ((if_neg c_17).trans ((if_pos c_19).trans ((if_pos c_27).trans ((if_pos c_31).trans (if_pos c_41))))))))) dX3_readCountedAtom_152
      · --
        refine z_icmp_ne (tgt := 126) B.1 B.2.1 (zr_of (by omega) (by omega)) (zr_of (by decide) (by decide)) dX3_readCountedAtom_114 (by decide) (fun c_43 => ?_) (fun c_43 => ?_)
        · --
          refine z_iconst B.1 B.2.1 dX3_readCountedAtom_126 ?_
          refine lv_aload_n B.1 B.2.1 dX3_readCountedAtom_127 rfl (lv_at hl 5 rfl) ?_
          refine c_geti (q := (cq q x y)) (x := S_33.1 8 6) B (iC3 _) hK hM 8 6 3 (by decide) rfl rfl (by decide) (by decide) rfl rfl (by decide) (by simp only [K2_aimAt_1 (t := 7) (n := 8) (by decide) (by decide)]) (List.mem_cons_of_mem _ wC_fRX3_125) dX3_readCountedAtom_128 ?_
          refine z_mmax (x := 1) (y := S_33.1 8 6) B (List.mem_cons_of_mem _ wC_mRX3_136) (List.mem_cons_of_mem _ wC_st_Lib_Math_max_name) (List.mem_cons_of_mem _ wC_in__java_lang_Math_) (List.mem_cons_of_mem _ wC_cd_Lib_Math_max_name) hl.1 (zr_of (by decide) (by decide)) (zr_of (by omega) (by omega)) (by show 0 < fA + 11; omega) (by show 13 ≤ loA + 241; omega) ⟨g_rc hR hg (cFx_gl (S := (K2_aimAt 7 v_7 v_28 S_33)) hF), g_rs hR hg (cFx_gl (S := (K2_aimAt 7 v_7 v_28 S_33)) hF)⟩ dX3_readCountedAtom_131 ?_
          exact hJ_39 _ _ _ ⟨(if_neg c_43).symm, hM⟩
        · --
          refine lv_aload_n B.1 B.2.1 dX3_readCountedAtom_117 rfl (lv_at hl 5 rfl) ?_
          refine c_geti (q := (cq q x y)) (x := S_33.1 8 5) B (iC3 _) hK hM 8 5 3 (by decide) rfl rfl (by decide) (by decide) rfl rfl (by decide) (by simp only [K2_aimAt_1 (t := 7) (n := 8) (by decide) (by decide)]) (List.mem_cons_of_mem _ wC_fRX3_122) dX3_readCountedAtom_118 ?_
          refine z_iconst B.1 B.2.1 dX3_readCountedAtom_121 ?_
          refine z_iadd (x := (S_33.1 8 5) + 1) B.1 B.2.1 rfl dX3_readCountedAtom_122 ?_
          refine lv_goto (tgt := 134) B.1 B.2.1 dX3_readCountedAtom_123 (by decide) ?_
          exact hJ_39 _ _ _ ⟨(if_pos c_43).symm, hM⟩
    · --
      refine z_if_eq (tgt := 73) B.1 B.2.1 (zr_of (by omega) (by omega)) dX3_readCountedAtom_65 (by decide) (fun c_44 => ?_) (fun c_44 => ?_)
      · --
        refine z_bipush B.1 B.2.1 (by decide) dX3_readCountedAtom_73 ?_
        exact hJ_24 _ _ _ ⟨(if_pos c_44).symm, hM⟩
      · --
        refine z_bipush B.1 B.2.1 (by decide) dX3_readCountedAtom_68 ?_
        refine lv_goto (tgt := 75) B.1 B.2.1 dX3_readCountedAtom_70 (by decide) ?_
        exact hJ_24 _ _ _ ⟨(if_neg c_44).symm, hM⟩
  · --
    refine lv_iload B.1 B.2.1 dX3_readCountedAtom_34 (lv_at hl 0 rfl) ?_
    exact g_reti (S := S_16) B hM (by subst hS_8; subst hv_7; subst hS_12; subst hv_11; subst hS_16; subst hv_15; unfold K3_readCountedAtom; exact ((if_pos c_6).trans ((if_pos c_10).trans ((if_pos c_14).trans (if_pos c_17))))) dX3_readCountedAtom_36
def K3_readLook (F : Int → CSt → CR) (bk : Int) (ek : Int) (dp : Int) (S : CSt) : CR := (gBd (K2_addLook S) (fun v_3 S_4 => (gBd (K2_add bk (-1) v_3 S_4) (fun v_7 S_8 => (gBd (K3_readInside F dp S_8) (fun v_11 S_12 => (gBd (K2_add ek (-1) v_3 S_12) (fun v_15 S_16 => (0, v_11, (K2_aimAt 7 v_7 (S_16.1 7 5) S_16))))))))))
set_option maxHeartbeats 1000000 in
set_option maxRecDepth 100000 in
theorem cX3_readLook_ok (l : Launch) (hl0 : l.stackTraces = false) (D : va_G) (cy : Nat → ClassId) (q : Nat → Nat) (V : Nat × (Nat → Nat)) (n0 x y b : Nat) (S : CSt) (hF : cFx 7 b S) (F : Int → CSt → CR) (fA loA : Nat) (L0 : Int) (hA : ∀ (x y : Nat) (S : CSt) (dp : Int), cFx 7 b S → rV S → L0 + 1 ≤ dp → dp ≤ 8 → 0 ≤ dp → gMi l D cy q V n0 x y "java/lang/IllegalArgumentException" yX3_readAlternatives (.code yX3_readAlternatives cX3_readAlternatives 7 (some .int) :: TBC) fA loA S [.ref (q 8), .int (zI dp)] (F dp S)) (hFR : ∀ (S : CSt) (dp : Int), rV S → rR (wP S) S (F dp S)) (bk : Int) (ek : Int) (dp : Int) (hV : rV S) (hd0 : L0 ≤ dp) (hd1 : dp ≤ 8) (hd2 : 0 ≤ dp) (hbk0 : 0 ≤ bk) (hbk1 : bk ≤ 100) (hek0 : 0 ≤ ek) (hek1 : ek ≤ 100) : gMi l D cy q V n0 x y "java/lang/IllegalArgumentException" yX3_readLook (.code yX3_readLook cX3_readLook 7 (some .int) :: TBC) (fA + 7) (loA + 113) S [.ref (q 8), .int (zI bk), .int (zI ek), .int (zI dp)] (K3_readLook F bk ek dp S) := by
  refine g_of (cc := cX3_readLook) (maxL := 7) (ret := (some .int)) (by decide) rfl rfl (Nat.le_of_ble_eq_true rfl) ?_
  intro p e s m args below meth c ls B hK hG hM hl
  generalize gA (cq q x y) n0 = A at hG hM ⊢
  have hR : (headSpec (.code yX3_readLook cX3_readLook 7 (some .int) :: TBC) (gRm (fA + 7) (loA + 113) S)).room.cells = (gK - gl S) + 1 ∧ (headSpec (.code yX3_readLook cX3_readLook 7 (some .int) :: TBC) (gRm (fA + 7) (loA + 113) S)).room.slots = 2 * (gK - gl S) + 6 := ⟨rfl, rfl⟩
  have hl : lv_has ls 7 [(0, .ref (q 8)), (1, .int (zI bk)), (2, .int (zI ek)), (3, .int (zI dp))] := hl
  obtain ⟨hP, hLa, hLb, hcs, ha0, ha1, hga, hgb, hna, hnb, hma, hmb, hzz⟩ := id hV
  obtain ⟨hPa, p5a, p5b, pla, plb, pka, pkb, pga, pgb, pfa, pfb⟩ := id hP
  refine lv_aload_n B.1 B.2.1 dX3_readLook_0 rfl (lv_at hl 0 rfl) ?_
  refine c_getr (q := (cq q x y)) (r := 7) B (iC3 _) hK hM 8 2 3 (by decide) rfl rfl (by decide) (by decide) rfl rfl rfl (cFx_r hF 8 2) (List.mem_cons_of_mem _ wC_fRX3_22) dX3_readLook_1 ?_
  obtain ⟨hPa, p5a, p5b, pla, plb, pka, pkb, pga, pgb, pfa, pfb⟩ := id hP
  refine g_calli (E := "java/lang/IllegalArgumentException") (As := []) (rest := []) B hK hG hM 7 (by decide) (by decide) rfl (cX2_addLook_ok l hl0 D cy q V n0 x y 7 b S hF   hV.1) (cwC 0 B wC_mRX3_106 wC_im_yX2_addLook wC_sl_yX2_addLook wC_in_RX2 wC_cd_yX2_addLook rfl rfl (by decide +kernel) ⟨by show 6 + 1 ≤ fA + 7; omega, by show 8 + (1 + 11) + 90 ≤ loA + 113; omega⟩) rfl hl.1 rfl (Nat.le_of_ble_eq_true rfl) dX3_readLook_4 hR (Nat.le_refl _) (cFx_gl hF) (gl_of (congrArg Prod.snd K2_addLook_2)) (fun c_2 => (by unfold K3_readLook; exact (if_neg c_2))) (fun x y H locs c_2 hM => ?_)
  have hg : gl S ≤ gl (K2_addLook S).2.2 := Nat.le_trans (Nat.le_refl _) (gl_of (congrArg Prod.snd K2_addLook_2))
  have hV := rV_of hV (pB_addLook hV.1 c_2) (K2_addLook_1 (by decide)) (K2_addLook_1 (by decide)) (K2_addLook_1 (by decide))
  have hF : cFx 7 b (K2_addLook S).2.2 := cFx_of (congrArg Prod.snd K2_addLook_2) hF
  obtain ⟨k_1f, k_1a, -⟩ := K2_addLook_v c_2
  have k_18 : (K2_addLook S).2.2.1 8 3 = S.1 8 3 := congrFun (K2_addLook_1 (n := 8) (by decide)) 3
  generalize hS_4 : (K2_addLook S).2.2 = S_4 at *
  generalize hv_3 : (K2_addLook S).2.1 = v_3 at *
  obtain ⟨hP, hLa, hLb, hcs, ha0, ha1, hga, hgb, hna, hnb, hma, hmb, hzz⟩ := id hV
  obtain ⟨hPa, p5a, p5b, pla, plb, pka, pkb, pga, pgb, pfa, pfb⟩ := id hP
  refine lv_istore (lv' := [(4, .int (zI v_3)), (0, .ref (q 8)), (1, .int (zI bk)), (2, .int (zI ek)), (3, .int (zI dp))]) B.1 B.2.1 dX3_readLook_7 hl (by decide) rfl (fun ls hl => ?_)
  refine lv_aload_n B.1 B.2.1 dX3_readLook_9 rfl (lv_at hl 1 rfl) ?_
  refine c_getr (q := (cq q x y)) (r := 7) B (iC3 _) hK hM 8 2 3 (by decide) rfl rfl (by decide) (by decide) rfl rfl rfl (cFx_r hF 8 2) (List.mem_cons_of_mem _ wC_fRX3_22) dX3_readLook_10 ?_
  refine lv_iload_n B.1 B.2.1 dX3_readLook_13 rfl (lv_at hl 2 rfl) ?_
  refine z_iconst B.1 B.2.1 dX3_readLook_14 ?_
  refine lv_iload B.1 B.2.1 dX3_readLook_15 (lv_at hl 0 rfl) ?_
  refine g_calli (E := "java/lang/IllegalArgumentException") (As := [.int (zI bk), .int (zI (-1)), .int (zI v_3)]) (rest := []) B hK hG hM 7 (by decide) (by decide) rfl (cX2_add_ok l hl0 D cy q V n0 x y 7 b S_4 hF  bk (-1) v_3 hV.1) (cwC 3 B wC_mRX3_64 wC_im_yX2_add wC_sl_yX2_add wC_in_RX2 wC_cd_yX2_add rfl rfl (by decide +kernel) ⟨by show 6 + 1 ≤ fA + 7; omega, by show 8 + (4 + 11) + 90 ≤ loA + 113; omega⟩) rfl hl.1 rfl (Nat.le_of_ble_eq_true rfl) dX3_readLook_17 hR hg (cFx_gl hF) (gl_of (congrArg Prod.snd K2_add_2)) (fun c_6 => (by subst hS_4; subst hv_3; unfold K3_readLook; exact ((if_pos c_2).trans (if_neg c_6)))) (fun x y H locs c_6 hM => ?_)
  have hg : gl S ≤ gl (K2_add bk (-1) v_3 S_4).2.2 := Nat.le_trans hg (gl_of (congrArg Prod.snd K2_add_2))
  have hV := rV_add (kd := bk) (am := (-1)) (nb := v_3) (S := S_4) hV c_6 (by omega) (by omega) (by omega) (by omega) (by omega) (by omega)
  have hF : cFx 7 b (K2_add bk (-1) v_3 S_4).2.2 := cFx_of (congrArg Prod.snd K2_add_2) hF
  obtain ⟨k_5f, k_5a, k_5b, -⟩ := K2_add_v c_6
  have k_5s := K2_add_s c_6
  have k_58 : (K2_add bk (-1) v_3 S_4).2.2.1 8 3 = S_4.1 8 3 := congrFun (K2_add_1 (n := 8) (by decide)) 3
  have k_59 : (K2_add bk (-1) v_3 S_4).2.2.1 8 4 = S_4.1 8 4 := congrFun (K2_add_1 (n := 8) (by decide)) 4
  have k_5g : (K2_add bk (-1) v_3 S_4).2.2.1 7 12 = S_4.1 7 12 := K2_add_12
  have k_5t : (K2_add bk (-1) v_3 S_4).2.2.1 2 = S_4.1 2 := K2_add_1 (by decide)
  have k_5u : (K2_add bk (-1) v_3 S_4).2.2.1 13 = S_4.1 13 := K2_add_1 (by decide)
  generalize hS_8 : (K2_add bk (-1) v_3 S_4).2.2 = S_8 at *
  generalize hv_7 : (K2_add bk (-1) v_3 S_4).2.1 = v_7 at *
  obtain ⟨hP, hLa, hLb, hcs, ha0, ha1, hga, hgb, hna, hnb, hma, hmb, hzz⟩ := id hV
  obtain ⟨hPa, p5a, p5b, pla, plb, pka, pkb, pga, pgb, pfa, pfb⟩ := id hP
  refine lv_istore (lv' := [(5, .int (zI v_7)), (4, .int (zI v_3)), (0, .ref (q 8)), (1, .int (zI bk)), (2, .int (zI ek)), (3, .int (zI dp))]) B.1 B.2.1 dX3_readLook_20 hl (by decide) rfl (fun ls hl => ?_)
  refine lv_aload_n B.1 B.2.1 dX3_readLook_22 rfl (lv_at hl 2 rfl) ?_
  refine lv_iload_n B.1 B.2.1 dX3_readLook_23 rfl (lv_at hl 5 rfl) ?_
  refine g_calli (E := "java/lang/IllegalArgumentException") (As := [.int (zI dp)]) (rest := []) B hK hG hM 8 (by decide) (by decide) rfl (cX3_readInside_ok l hl0 D cy q V n0 x y b S_8 hF F fA loA L0 hA hFR dp hV (by show L0 ≤ dp; omega) (by show dp ≤ 8; omega) (by show 0 ≤ dp; omega)) (cwC 1 B wC_mRX3_109 wC_im_yX3_readInside wC_sl_yX3_readInside wC_in_RX3 wC_cd_yX3_readInside rfl rfl (by decide +kernel) ⟨by show (fA + 6) + 1 ≤ fA + 7; omega, by show 8 + (3 + 11) + (loA + 90) ≤ loA + 113; omega⟩) rfl hl.1 rfl (Nat.le_of_ble_eq_true rfl) dX3_readLook_24 hR hg (cFx_gl hF) (gl_of (K3_readInside_R (F := F) hFR (dp := dp) (S := S_8) hV).1.1) (fun c_10 => (by subst hS_4; subst hv_3; subst hS_8; subst hv_7; unfold K3_readLook; exact ((if_pos c_2).trans ((if_pos c_6).trans (if_neg c_10))))) (fun x y H locs c_10 hM => ?_)
  have hg : gl S ≤ gl (K3_readInside F dp S_8).2.2 := Nat.le_trans hg (gl_of (K3_readInside_R (F := F) hFR (dp := dp) (S := S_8) hV).1.1)
  obtain ⟨k_9, -, k_9v, -⟩ := K3_readInside_R (F := F) hFR (dp := dp) (S := S_8) hV
  obtain ⟨hV, k_9l, k_9p⟩ := k_9v c_10
  have hF : cFx 7 b (K3_readInside F dp S_8).2.2 := cFx_of k_9.1 hF
  generalize hS_12 : (K3_readInside F dp S_8).2.2 = S_12 at *
  generalize hv_11 : (K3_readInside F dp S_8).2.1 = v_11 at *
  obtain ⟨hP, hLa, hLb, hcs, ha0, ha1, hga, hgb, hna, hnb, hma, hmb, hzz⟩ := id hV
  obtain ⟨hPa, p5a, p5b, pla, plb, pka, pkb, pga, pgb, pfa, pfb⟩ := id hP
  obtain ⟨k_9pa, k_9pb⟩ := k_9p
  refine lv_istore (lv' := [(6, .int (zI v_11)), (5, .int (zI v_7)), (4, .int (zI v_3)), (0, .ref (q 8)), (1, .int (zI bk)), (2, .int (zI ek)), (3, .int (zI dp))]) B.1 B.2.1 dX3_readLook_27 hl (by decide) rfl (fun ls hl => ?_)
  refine lv_aload_n B.1 B.2.1 dX3_readLook_29 rfl (lv_at hl 3 rfl) ?_
  refine c_getr (q := (cq q x y)) (r := 7) B (iC3 _) hK hM 8 2 3 (by decide) rfl rfl (by decide) (by decide) rfl rfl rfl (cFx_r hF 8 2) (List.mem_cons_of_mem _ wC_fRX3_22) dX3_readLook_30 ?_
  refine lv_iload_n B.1 B.2.1 dX3_readLook_33 rfl (lv_at hl 5 rfl) ?_
  refine z_iconst B.1 B.2.1 dX3_readLook_34 ?_
  refine lv_iload B.1 B.2.1 dX3_readLook_35 (lv_at hl 2 rfl) ?_
  refine g_calli (E := "java/lang/IllegalArgumentException") (As := [.int (zI ek), .int (zI (-1)), .int (zI v_3)]) (rest := []) B hK hG hM 7 (by decide) (by decide) rfl (cX2_add_ok l hl0 D cy q V n0 x y 7 b S_12 hF  ek (-1) v_3 hV.1) (cwC 3 B wC_mRX3_64 wC_im_yX2_add wC_sl_yX2_add wC_in_RX2 wC_cd_yX2_add rfl rfl (by decide +kernel) ⟨by show 6 + 1 ≤ fA + 7; omega, by show 8 + (4 + 11) + 90 ≤ loA + 113; omega⟩) rfl hl.1 rfl (Nat.le_of_ble_eq_true rfl) dX3_readLook_37 hR hg (cFx_gl hF) (gl_of (congrArg Prod.snd K2_add_2)) (fun c_14 => (by subst hS_4; subst hv_3; subst hS_8; subst hv_7; subst hS_12; subst hv_11; unfold K3_readLook; exact ((if_pos c_2).trans ((if_pos c_6).trans ((if_pos c_10).trans (if_neg c_14)))))) (fun x y H locs c_14 hM => ?_)
  have hg : gl S ≤ gl (K2_add ek (-1) v_3 S_12).2.2 := Nat.le_trans hg (gl_of (congrArg Prod.snd K2_add_2))
  have hV := rV_add (kd := ek) (am := (-1)) (nb := v_3) (S := S_12) hV c_14 (by omega) (by omega) (by omega) (by omega) (by omega) (by omega)
  have hF : cFx 7 b (K2_add ek (-1) v_3 S_12).2.2 := cFx_of (congrArg Prod.snd K2_add_2) hF
  obtain ⟨k_13f, k_13a, k_13b, -⟩ := K2_add_v c_14
  have k_13s := K2_add_s c_14
  have k_138 : (K2_add ek (-1) v_3 S_12).2.2.1 8 3 = S_12.1 8 3 := congrFun (K2_add_1 (n := 8) (by decide)) 3
  have k_139 : (K2_add ek (-1) v_3 S_12).2.2.1 8 4 = S_12.1 8 4 := congrFun (K2_add_1 (n := 8) (by decide)) 4
  have k_13g : (K2_add ek (-1) v_3 S_12).2.2.1 7 12 = S_12.1 7 12 := K2_add_12
  have k_13t : (K2_add ek (-1) v_3 S_12).2.2.1 2 = S_12.1 2 := K2_add_1 (by decide)
  have k_13u : (K2_add ek (-1) v_3 S_12).2.2.1 13 = S_12.1 13 := K2_add_1 (by decide)
  generalize hS_16 : (K2_add ek (-1) v_3 S_12).2.2 = S_16 at *
  generalize hv_15 : (K2_add ek (-1) v_3 S_12).2.1 = v_15 at *
  obtain ⟨hP, hLa, hLb, hcs, ha0, ha1, hga, hgb, hna, hnb, hma, hmb, hzz⟩ := id hV
  obtain ⟨hPa, p5a, p5b, pla, plb, pka, pkb, pga, pgb, pfa, pfb⟩ := id hP
  refine lv_pop B.1 B.2.1 dX3_readLook_40 rfl ?_
  refine lv_aload_n B.1 B.2.1 dX3_readLook_41 rfl (lv_at hl 3 rfl) ?_
  refine c_getr (q := (cq q x y)) (r := 7) B (iC3 _) hK hM 8 2 3 (by decide) rfl rfl (by decide) (by decide) rfl rfl rfl (cFx_r hF 8 2) (List.mem_cons_of_mem _ wC_fRX3_22) dX3_readLook_42 ?_
  refine lv_iload B.1 B.2.1 dX3_readLook_45 (lv_at hl 1 rfl) ?_
  refine lv_aload_n B.1 B.2.1 dX3_readLook_47 rfl (lv_at hl 3 rfl) ?_
  refine c_getr (q := (cq q x y)) (r := 7) B (iC3 _) hK hM 8 2 3 (by decide) rfl rfl (by decide) (by decide) rfl rfl rfl (cFx_r hF 8 2) (List.mem_cons_of_mem _ wC_fRX3_22) dX3_readLook_48 ?_
  refine c_calli (q := (cq q x y)) (As := []) (rest := [.int (zI v_7), .ref (q 7)]) B hK hM 7 (by decide) (by decide) rfl (cX2_size_ok l D cy (cq q x y) 7 b S_16 hF 7 (by decide)  ) (cwC 0 B wC_mRX3_84 wC_im_yX2_size wC_sl_yX2_size wC_in_RX2 wC_cd_yX2_size rfl rfl (by decide +kernel) ⟨by show 0 + 1 ≤ fA + 7; omega, by show 8 + (1 + 11) + 0 ≤ loA + 113; omega⟩) rfl hl.1 rfl (Nat.le_of_ble_eq_true rfl) dX3_readLook_51 ⟨g_rc hR hg (cFx_gl (S := S_16) hF), g_rs hR hg (cFx_gl (S := S_16) hF)⟩ (fun z_20 S_19 H locs hp_18 hM => ?_)
  obtain ⟨hp_18, he_hp_18⟩ := hp_18
  have he_hp_18 := he_hp_18.symm
  subst he_hp_18
  have hp_18 : S_16.1 7 5 = z_20 := hp_18.symm
  subst hp_18
  refine c_callv (q := (cq q x y)) (As := [.int (zI v_7), .int (zI (S_16.1 7 5))]) (rest := []) B hK hM 7 (by decide) (by decide) rfl (cX2_aimAt_ok l D cy (cq q x y) 7 b S_16 hF 7 (by decide) v_7 (S_16.1 7 5) hP (by show -1000000000 ≤ v_7; omega) (by show v_7 ≤ 1000000000; omega)) (cwC 2 B wC_mRX3_80 wC_im_yX2_aimAt wC_sl_yX2_aimAt wC_in_RX2 wC_cd_yX2_aimAt rfl rfl (by decide +kernel) ⟨by show 1 + 1 ≤ fA + 7; omega, by show 8 + (3 + 11) + 21 ≤ loA + 113; omega⟩) rfl hl.1 rfl (Nat.le_of_ble_eq_true rfl) dX3_readLook_54 ⟨g_rc hR hg (cFx_gl (S := S_16) hF), g_rs hR hg (cFx_gl (S := S_16) hF)⟩ (fun S_23 H locs hp_22 hM => ?_)
  have hp_22 := hp_22.symm
  subst hp_22
  have hg : gl S ≤ gl (K2_aimAt 7 v_7 (S_16.1 7 5) S_16) := Nat.le_trans hg (gl_of (S := S_16) (S' := (K2_aimAt 7 v_7 (S_16.1 7 5) S_16)) (congrArg Prod.snd K2_aimAt_2))
  refine W.widen (k := gl (K2_aimAt 7 v_7 (S_16.1 7 5) S_16) - gl S) (n := 2 * (gl (K2_aimAt 7 v_7 (S_16.1 7 5) S_16) - gl S)) (Nat.sub_le_sub_right (gl_of (S := S_16) (S' := (K2_aimAt 7 v_7 (S_16.1 7 5) S_16)) (congrArg Prod.snd K2_aimAt_2)) _) (Nat.mul_le_mul_left 2 (Nat.sub_le_sub_right (gl_of (S := S_16) (S' := (K2_aimAt 7 v_7 (S_16.1 7 5) S_16)) (congrArg Prod.snd K2_aimAt_2)) _)) ?_
  have hP : pB 7 (K2_aimAt 7 v_7 (S_16.1 7 5) S_16) := pB_aimAt (by decide) hP (by omega) (by omega)
  have hF : cFx 7 b (K2_aimAt 7 v_7 (S_16.1 7 5) S_16) := cFx_of (congrArg Prod.snd K2_aimAt_2) hF
  refine lv_iload B.1 B.2.1 dX3_readLook_57 (lv_at hl 0 rfl) ?_
  exact g_reti (S := (K2_aimAt 7 v_7 (S_16.1 7 5) S_16)) B hM (by subst hS_4; subst hv_3; subst hS_8; subst hv_7; subst hS_12; subst hv_11; subst hS_16; subst hv_15; unfold K3_readLook; exact ((if_pos c_2).trans ((if_pos c_6).trans ((if_pos c_10).trans (if_pos c_14))))) dX3_readLook_59
theorem rV_aim {S : CSt} {i am : Int} (hV : rV S) (h0 : -1 ≤ am) (h1 : am ≤ 1000000) : rV (K2_aimAt 7 i am S) := rV_of hV (pB_aimAt (by decide) hV.1 h0 h1) (K2_aimAt_1 (by decide) (by decide)) (K2_aimAt_1 (by decide) (by decide)) (K2_aimAt_1 (by decide) (by decide))
theorem K2_aimAt_8 {S : CSt} {i am : Int} : (K2_aimAt 7 i am S).1 8 = S.1 8 := K2_aimAt_1 (by decide) (by decide)
theorem rR.lp {Q : Int → CSt → Prop} {S : CSt} {x z w : Int} {k : Int → CSt → CR} (hV : rV S) (h0 : -1 ≤ x) (h1 : x ≤ 1000000) (h2 : -1 ≤ z) (h3 : z ≤ 1000000) (h4 : -1 ≤ w) (h5 : w ≤ 1000000) (hk : rV (K2_addLoop x z w S).2.2 → (K2_addLoop x z w S).2.2.1 8 = S.1 8 → (K2_addLoop x z w S).2.1 = S.1 7 10 → 0 ≤ S.1 7 10 → S.1 7 10 < 20 → rR Q (K2_addLoop x z w S).2.2 (k (K2_addLoop x z w S).2.1 (K2_addLoop x z w S).2.2)) : rR Q S (gBd (K2_addLoop x z w S) k) := by
  have e8 : (K2_addLoop x z w S).2.2.1 8 = S.1 8 := K2_addLoop_1 (by decide)
  show rR Q S (if (K2_addLoop x z w S).1 = 0 then k (K2_addLoop x z w S).2.1 (K2_addLoop x z w S).2.2 else (1, 0, (K2_addLoop x z w S).2.2))
  by_cases c : (K2_addLoop x z w S).1 = 0
  · rw [if_pos c]
    obtain ⟨f1, f2, f3, f4⟩ := K2_addLoop_v c
    exact rR.mono rK.loop (by rw [e8]; exact Int.le_refl _) (hk (rV_of hV (pB_addLoop hV.1 c h0 h1 h2 h3 h4 h5) (K2_addLoop_1 (by decide)) (K2_addLoop_1 (by decide)) e8) e8 f3 f1 f2)
  · rw [if_neg c]
    have : (K2_addLoop x z w S).2.2 = S := by
      revert c
      unfold K2_addLoop
      (repeat' split) <;> intro c <;> first | rfl | exact absurd rfl c
    rw [this]
    exact rR.thr rK.rf hV.1
theorem K3_readCountedAtom_R {F : Int → CSt → CR} (hFR : ∀ (S : CSt) (dp : Int), rV S → rR (wP S) S (F dp S)) {dp : Int} {S : CSt} (hV : rV S) (hs : ¬ K4_at 2 (S.1 8 3) S = 0) : rR (fun v T => wP S v T ∧ S.1 8 3 < T.1 8 3) S (K3_readCountedAtom F dp S) := by
  have hg := hV.1.2.2.2.2.2.2.2
  unfold K3_readCountedAtom
  refine rR.ad hV (by decide) (by decide) (by decide) (by decide) (by decide) (by decide) (fun _ h1 e1 f1 f2 f3 => ?_)
  have hs1 : ¬ K4_at 2 ((K2_add 9 (-1) (-1) S).2.2.1 8 3) (K2_add 9 (-1) (-1) S).2.2 = 0 := by
    rw [e1, K4_at_cong (S := S) (K2_add_1 (by decide)) (K2_add_1 (by decide))]
    exact hs
  have h75 := hV.1.2.1
  generalize (K2_add 9 (-1) (-1) S).2.2 = S1 at *
  generalize (K2_add 9 (-1) (-1) S).2.1 = v1 at *
  refine rR.bd (K3_readAtom_R hFR h1 hs1) (fun _ h2 a2 hp2 => ?_)
  generalize (K3_readAtom F dp S1).2.2 = S2 at *
  generalize (K3_readAtom F dp S1).2.1 = v2 at *
  obtain ⟨⟨p0, p1⟩, p2⟩ := hp2
  rw [e1] at p1 p2
  refine rR.bd (K3_readCount_R h2) (fun _ h3 a3 hp3 => ?_)
  generalize (K3_readCount S2).2.2 = S3 at *
  generalize (K3_readCount S2).2.1 = v3 at *
  split
  · exact rR.ret rK.rf h3 (Int.le_refl _) ⟨⟨p0, by omega⟩, by omega⟩
  · obtain ⟨-, -, l40, -, -, at3, -, -, hna, hnb, hma, hmb, hz⟩ := id h3
    refine rR.lp h3 (by omega) (by omega) (by omega) (by omega) (by omega) (by omega) (fun h4 e4 f4 g4 g5 => ?_)
    generalize (K2_addLoop (S3.1 8 5) (S3.1 8 6) (S.1 7 12 + 1) S3).2.2 = S4 at *
    generalize (K2_addLoop (S3.1 8 5) (S3.1 8 6) (S.1 7 12 + 1) S3).2.1 = v4 at *
    refine rR.ad h4 (by split <;> decide) (by split <;> decide) (by decide) (by decide) (by omega) (by omega) (fun _ h5 e5 f5 g6 g7 => ?_)
    have h745 := h4.1.2.1
    generalize (K2_add (if S4.1 8 7 = 0 then 10 else 11) (-1) v4 S4).2.2 = S5 at *
    generalize (K2_add (if S4.1 8 7 = 0 then 10 else 11) (-1) v4 S4).2.1 = v5 at *
    refine rR.ad h5 (by decide) (by decide) (by omega) (by omega) (by omega) (by omega) (fun _ h6 e6 f6 g8 g9 => ?_)
    generalize (K2_add 12 (v1 + 1) v4 S5).2.2 = S6 at *
    generalize (K2_add 12 (v1 + 1) v4 S5).2.1 = v6 at *
    have h7 : rV (K2_aimAt 7 v1 v5 S6) := rV_aim h6 (by omega) (by omega)
    have e63 : ∀ k, S6.1 8 k = S3.1 8 k := fun k => by rw [e6, e5, e4]
    have hcp : 1 ≤ (if S6.1 8 6 = 1000000 then S6.1 8 5 + 1 else if 1 < S6.1 8 6 then S6.1 8 6 else 1 : Int) ∧ (if S6.1 8 6 = 1000000 then S6.1 8 5 + 1 else if 1 < S6.1 8 6 then S6.1 8 6 else 1 : Int) ≤ 10 := by
      rw [e63, e63]
      (repeat' split) <;> omega
    generalize (if S6.1 8 6 = 1000000 then S6.1 8 5 + 1 else if 1 < S6.1 8 6 then S6.1 8 6 else 1 : Int) = cp at *
    have hmul := zmulb (a := v2) (b := cp) p0 (by have := hV.2.2.2.2.1; omega) hcp.1 hcp.2
    have e8 := K2_aimAt_8 (S := S6) (i := v1) (am := v5)
    split
    · rename_i hc
      have hle := K3_cw_le hc
      refine rR.ret rK.aim h7 (by rw [e8]; exact Int.le_refl _) ?_
      unfold wP
      rw [e8, e63]
      omega
    · rw [K3_cw_22]
      exact rR.thr rK.aim h7.1
theorem K3_readLook_R {F : Int → CSt → CR} (hFR : ∀ (S : CSt) (dp : Int), rV S → rR (wP S) S (F dp S)) {bk ek dp : Int} {S : CSt} (hV : rV S) (hbk0 : 0 ≤ bk) (hbk1 : bk ≤ 100) (hek0 : 0 ≤ ek) (hek1 : ek ≤ 100) : rR (wP S) S (K3_readLook F bk ek dp S) := by
  have hg := hV.1.2.2.2.2.2
  unfold K3_readLook
  refine rR.lk hV (fun h1 e1 f1 f2 => ?_)
  generalize (K2_addLook S).2.2 = S1 at *
  generalize (K2_addLook S).2.1 = v1 at *
  refine rR.ad h1 (by omega) (by omega) (by decide) (by decide) (by omega) (by omega) (fun _ h2 e2 _ _ _ => ?_)
  generalize (K2_add bk (-1) v1 S1).2.2 = S2 at *
  generalize (K2_add bk (-1) v1 S1).2.1 = v2 at *
  refine rR.bd (K3_readInside_R hFR h2) (fun _ h3 a3 hp => ?_)
  generalize (K3_readInside F dp S2).2.2 = S3 at *
  generalize (K3_readInside F dp S2).2.1 = v3 at *
  refine rR.ad h3 (by omega) (by omega) (by decide) (by decide) (by omega) (by omega) (fun _ h4 e4 _ _ _ => ?_)
  generalize (K2_add ek (-1) v1 S3).2.2 = S4 at *
  have h45 := h4.1.2
  refine rR.ret rK.aim (rV_aim h4 (by omega) (by omega)) (by rw [K2_aimAt_8]; exact Int.le_refl _) ⟨hp.1, ?_⟩
  have h5 := hp.2
  rw [e2, e1] at h5
  rw [K2_aimAt_8, e4]
  exact h5
def K3_readTerm (F : Int → CSt → CR) (dp : Int) (S : CSt) : CR := (gLt (K3_take 94 S) (fun v_5 S_6 => (if v_5 = 0 then (gLt (K3_take 36 S_6) (fun v_12 S_13 => (if v_12 = 0 then (gLt (K3_takeOpening 61 S_13) (fun v_19 S_20 => (if v_19 = 0 then (gLt (K3_takeOpening 33 S_20) (fun v_26 S_27 => (if v_26 = 0 then (gBd (K3_readCountedAtom F dp S_27) (fun v_31 S_32 => (0, v_31, S_32))) else (gBd (K3_readLook F 15 16 dp S_27) (fun v_35 S_36 => (0, v_35, S_36)))))) else (gBd (K3_readLook F 13 14 dp S_20) (fun v_39 S_40 => (0, v_39, S_40)))))) else (gBd (K2_add 3 (-1) (-1) S_13) (fun v_43 S_44 => (0, 1, S_44)))))) else (gBd (K2_add 2 (-1) (-1) S_6) (fun v_47 S_48 => (0, 1, S_48))))))
set_option maxHeartbeats 1000000 in
set_option maxRecDepth 100000 in
theorem cX3_readTerm_ok (l : Launch) (hl0 : l.stackTraces = false) (D : va_G) (cy : Nat → ClassId) (q : Nat → Nat) (V : Nat × (Nat → Nat)) (n0 x y b : Nat) (S : CSt) (hF : cFx 7 b S) (F : Int → CSt → CR) (fA loA : Nat) (L0 : Int) (hA : ∀ (x y : Nat) (S : CSt) (dp : Int), cFx 7 b S → rV S → L0 + 1 ≤ dp → dp ≤ 8 → 0 ≤ dp → gMi l D cy q V n0 x y "java/lang/IllegalArgumentException" yX3_readAlternatives (.code yX3_readAlternatives cX3_readAlternatives 7 (some .int) :: TBC) fA loA S [.ref (q 8), .int (zI dp)] (F dp S)) (hFR : ∀ (S : CSt) (dp : Int), rV S → rR (wP S) S (F dp S)) (dp : Int) (hV : rV S) (hd0 : L0 ≤ dp) (hd1 : dp ≤ 8) (hd2 : 0 ≤ dp) (hs : ¬ K4_at 2 (S.1 8 3) S = 0)  : gMi l D cy q V n0 x y "java/lang/IllegalArgumentException" yX3_readTerm (.code yX3_readTerm cX3_readTerm 2 (some .int) :: TBC) (fA + 12) (loA + 269) S [.ref (q 8), .int (zI dp)] (K3_readTerm F dp S) := by
  refine g_of (cc := cX3_readTerm) (maxL := 2) (ret := (some .int)) (by decide) rfl rfl (Nat.le_of_ble_eq_true rfl) ?_
  intro p e s m args below meth c ls B hK hG hM hl
  generalize gA (cq q x y) n0 = A at hG hM ⊢
  have hR : (headSpec (.code yX3_readTerm cX3_readTerm 2 (some .int) :: TBC) (gRm (fA + 12) (loA + 269) S)).room.cells = (gK - gl S) + 1 ∧ (headSpec (.code yX3_readTerm cX3_readTerm 2 (some .int) :: TBC) (gRm (fA + 12) (loA + 269) S)).room.slots = 2 * (gK - gl S) + 6 := ⟨rfl, rfl⟩
  have hl : lv_has ls 2 [(0, .ref (q 8)), (1, .int (zI dp))] := hl
  obtain ⟨hP, hLa, hLb, hcs, ha0, ha1, hga, hgb, hna, hnb, hma, hmb, hzz⟩ := id hV
  obtain ⟨hPa, p5a, p5b, pla, plb, pka, pkb, pga, pgb, pfa, pfb⟩ := id hP
  refine lv_aload_n B.1 B.2.1 dX3_readTerm_0 rfl (lv_at hl 0 rfl) ?_
  refine z_bipush B.1 B.2.1 (by decide) dX3_readTerm_1 ?_
  refine c_calli (q := (cq q x y)) (As := [.int (zI 94)]) (rest := []) B hK hM 8 (by decide) (by decide) rfl (cX3_take_ok l D cy (cq q x y) b S hF  94 hV (by show 1 ≤ 94; omega) (by show 94 < 65536; omega)) (cwC 1 B wC_mRX3_76 wC_im_yX3_take wC_sl_yX3_take wC_in_RX3 wC_cd_yX3_take rfl rfl (by decide +kernel) ⟨by show 1 + 1 ≤ fA + 12; omega, by show 8 + (2 + 11) + 21 ≤ loA + 269; omega⟩) rfl hl.1 rfl (Nat.le_of_ble_eq_true rfl) dX3_readTerm_3 ⟨g_rc hR (Nat.le_refl _) (cFx_gl (S := S) hF), g_rs hR (Nat.le_refl _) (cFx_gl (S := S) hF)⟩ (fun z_4 S_3 H locs hp_2 hM => ?_)
  obtain ⟨hp_2, he_hp_2⟩ := hp_2
  have he_hp_2 := he_hp_2.symm
  subst he_hp_2
  have hp_2 : (K3_take 94 S).1 = z_4 := hp_2.symm
  subst hp_2
  have hg : gl S ≤ gl (K3_take 94 S).2 := Nat.le_trans (Nat.le_refl _) (gl_of (S := S) (S' := (K3_take 94 S).2) (congrArg Prod.snd K3_take_2))
  refine W.widen (k := gl (K3_take 94 S).2 - gl S) (n := 2 * (gl (K3_take 94 S).2 - gl S)) (Nat.sub_le_sub_right (gl_of (S := S) (S' := (K3_take 94 S).2) (congrArg Prod.snd K3_take_2)) _) (Nat.mul_le_mul_left 2 (Nat.sub_le_sub_right (gl_of (S := S) (S' := (K3_take 94 S).2) (congrArg Prod.snd K3_take_2)) _)) ?_
  have k_1v := K3_take_v (x := 94) hV (by omega)
  have k_1l : S.1 8 3 ≤ (K3_take 94 S).2.1 8 3 := by rcases k_1v with ⟨-, h9, -⟩ | ⟨-, h9, -⟩ <;> rw [h9] <;> first | exact Int.le_refl _ | (simp only [ci_eq, zu_eq]; omega)
  have hV := rV_take (x := 94) hV (by omega)
  have hF : cFx 7 b (K3_take 94 S).2 := cFx_of (congrArg Prod.snd K3_take_2) hF
  have k_1b : (K3_take 94 S).1 = 0 ∨ (K3_take 94 S).1 = 1 := by rcases k_1v with ⟨h9, -⟩ | ⟨h9, -⟩ <;> omega
  have k_1n : (K3_take 94 S).1 = 0 ∨ (K3_take 94 S).2.1 8 3 = S.1 8 3 + 1 := by rcases k_1v with ⟨h9, -⟩ | ⟨-, h9, -⟩ <;> first | exact Or.inl h9 | exact Or.inr (by rw [h9, ci_eq, zu_eq])
  generalize hS_6 : (K3_take 94 S).2 = S_6 at *
  generalize hv_5 : (K3_take 94 S).1 = v_5 at *
  obtain ⟨hP, hLa, hLb, hcs, ha0, ha1, hga, hgb, hna, hnb, hma, hmb, hzz⟩ := id hV
  obtain ⟨hPa, p5a, p5b, pla, plb, pka, pkb, pga, pgb, pfa, pfb⟩ := id hP
  have k_1s : v_5 = 0 → ¬ K4_at 2 (S_6.1 8 3) S_6 = 0 := fun h0 => by rcases k_1v with ⟨-, h9, -⟩ | ⟨h9, -⟩ <;> first | (rw [h9]; exact hs) | omega
  refine z_if_eq (tgt := 22) B.1 B.2.1 (zr_of (by omega) (by omega)) dX3_readTerm_6 (by decide) (fun c_7 => ?_) (fun c_7 => ?_)
  · --
    refine lv_aload_n B.1 B.2.1 dX3_readTerm_22 rfl (lv_at hl 0 rfl) ?_
    refine z_bipush B.1 B.2.1 (by decide) dX3_readTerm_23 ?_
    refine c_calli (q := (cq q x y)) (As := [.int (zI 36)]) (rest := []) B hK hM 8 (by decide) (by decide) rfl (cX3_take_ok l D cy (cq q x y) b S_6 hF  36 hV (by show 1 ≤ 36; omega) (by show 36 < 65536; omega)) (cwC 1 B wC_mRX3_76 wC_im_yX3_take wC_sl_yX3_take wC_in_RX3 wC_cd_yX3_take rfl rfl (by decide +kernel) ⟨by show 1 + 1 ≤ fA + 12; omega, by show 8 + (2 + 11) + 21 ≤ loA + 269; omega⟩) rfl hl.1 rfl (Nat.le_of_ble_eq_true rfl) dX3_readTerm_25 ⟨g_rc hR hg (cFx_gl (S := S_6) hF), g_rs hR hg (cFx_gl (S := S_6) hF)⟩ (fun z_11 S_10 H locs hp_9 hM => ?_)
    obtain ⟨hp_9, he_hp_9⟩ := hp_9
    have he_hp_9 := he_hp_9.symm
    subst he_hp_9
    have hp_9 : (K3_take 36 S_6).1 = z_11 := hp_9.symm
    subst hp_9
    have hg : gl S ≤ gl (K3_take 36 S_6).2 := Nat.le_trans hg (gl_of (S := S_6) (S' := (K3_take 36 S_6).2) (congrArg Prod.snd K3_take_2))
    refine W.widen (k := gl (K3_take 36 S_6).2 - gl S) (n := 2 * (gl (K3_take 36 S_6).2 - gl S)) (Nat.sub_le_sub_right (gl_of (S := S_6) (S' := (K3_take 36 S_6).2) (congrArg Prod.snd K3_take_2)) _) (Nat.mul_le_mul_left 2 (Nat.sub_le_sub_right (gl_of (S := S_6) (S' := (K3_take 36 S_6).2) (congrArg Prod.snd K3_take_2)) _)) ?_
    have k_8v := K3_take_v (x := 36) hV (by omega)
    have k_8l : S_6.1 8 3 ≤ (K3_take 36 S_6).2.1 8 3 := by rcases k_8v with ⟨-, h9, -⟩ | ⟨-, h9, -⟩ <;> rw [h9] <;> first | exact Int.le_refl _ | (simp only [ci_eq, zu_eq]; omega)
    have hV := rV_take (x := 36) hV (by omega)
    have hF : cFx 7 b (K3_take 36 S_6).2 := cFx_of (congrArg Prod.snd K3_take_2) hF
    have k_8b : (K3_take 36 S_6).1 = 0 ∨ (K3_take 36 S_6).1 = 1 := by rcases k_8v with ⟨h9, -⟩ | ⟨h9, -⟩ <;> omega
    have k_8n : (K3_take 36 S_6).1 = 0 ∨ (K3_take 36 S_6).2.1 8 3 = S_6.1 8 3 + 1 := by rcases k_8v with ⟨h9, -⟩ | ⟨-, h9, -⟩ <;> first | exact Or.inl h9 | exact Or.inr (by rw [h9, ci_eq, zu_eq])
    generalize hS_13 : (K3_take 36 S_6).2 = S_13 at *
    generalize hv_12 : (K3_take 36 S_6).1 = v_12 at *
    obtain ⟨hP, hLa, hLb, hcs, ha0, ha1, hga, hgb, hna, hnb, hma, hmb, hzz⟩ := id hV
    obtain ⟨hPa, p5a, p5b, pla, plb, pka, pkb, pga, pgb, pfa, pfb⟩ := id hP
    have k_8s : v_12 = 0 → ¬ K4_at 2 (S_13.1 8 3) S_13 = 0 := fun h0 => by rcases k_8v with ⟨-, h9, -⟩ | ⟨h9, -⟩ <;> first | (rw [h9]; exact (k_1s (by assumption))) | omega
    refine z_if_eq (tgt := 44) B.1 B.2.1 (zr_of (by omega) (by omega)) dX3_readTerm_28 (by decide) (fun c_14 => ?_) (fun c_14 => ?_)
    · --
      refine lv_aload_n B.1 B.2.1 dX3_readTerm_44 rfl (lv_at hl 0 rfl) ?_
      refine z_bipush B.1 B.2.1 (by decide) dX3_readTerm_45 ?_
      refine c_calli (q := (cq q x y)) (As := [.int (zI 61)]) (rest := []) B hK hM 8 (by decide) (by decide) rfl (cX3_takeOpening_ok l D cy (cq q x y) b S_13 hF  61 hV (by show 1 ≤ 61; omega) (by show 61 < 65536; omega)) (cwC 1 B wC_mRX3_97 wC_im_yX3_takeOpening wC_sl_yX3_takeOpening wC_in_RX3 wC_cd_yX3_takeOpening rfl rfl (by decide +kernel) ⟨by show 1 + 1 ≤ fA + 12; omega, by show 8 + (2 + 11) + 21 ≤ loA + 269; omega⟩) rfl hl.1 rfl (Nat.le_of_ble_eq_true rfl) dX3_readTerm_47 ⟨g_rc hR hg (cFx_gl (S := S_13) hF), g_rs hR hg (cFx_gl (S := S_13) hF)⟩ (fun z_18 S_17 H locs hp_16 hM => ?_)
      obtain ⟨hp_16, he_hp_16⟩ := hp_16
      have he_hp_16 := he_hp_16.symm
      subst he_hp_16
      have hp_16 : (K3_takeOpening 61 S_13).1 = z_18 := hp_16.symm
      subst hp_16
      have hg : gl S ≤ gl (K3_takeOpening 61 S_13).2 := Nat.le_trans hg (gl_of (S := S_13) (S' := (K3_takeOpening 61 S_13).2) (congrArg Prod.snd K3_takeOpening_2))
      refine W.widen (k := gl (K3_takeOpening 61 S_13).2 - gl S) (n := 2 * (gl (K3_takeOpening 61 S_13).2 - gl S)) (Nat.sub_le_sub_right (gl_of (S := S_13) (S' := (K3_takeOpening 61 S_13).2) (congrArg Prod.snd K3_takeOpening_2)) _) (Nat.mul_le_mul_left 2 (Nat.sub_le_sub_right (gl_of (S := S_13) (S' := (K3_takeOpening 61 S_13).2) (congrArg Prod.snd K3_takeOpening_2)) _)) ?_
      have k_15v := K3_takeOpening_v (x := 61) hV (by omega)
      have k_15l : S_13.1 8 3 ≤ (K3_takeOpening 61 S_13).2.1 8 3 := by rcases k_15v with ⟨-, h9, -⟩ | ⟨-, h9, -⟩ <;> rw [h9] <;> first | exact Int.le_refl _ | (simp only [ci_eq, zu_eq]; omega)
      have hV := rV_takeOpening (x := 61) hV (by omega)
      have hF : cFx 7 b (K3_takeOpening 61 S_13).2 := cFx_of (congrArg Prod.snd K3_takeOpening_2) hF
      have k_15b : (K3_takeOpening 61 S_13).1 = 0 ∨ (K3_takeOpening 61 S_13).1 = 1 := by rcases k_15v with ⟨h9, -⟩ | ⟨h9, -⟩ <;> omega
      have k_15n : (K3_takeOpening 61 S_13).1 = 0 ∨ (K3_takeOpening 61 S_13).2.1 8 3 = S_13.1 8 3 + 3 := by rcases k_15v with ⟨h9, -⟩ | ⟨-, h9, -⟩ <;> first | exact Or.inl h9 | exact Or.inr (by rw [h9, ci_eq, zu_eq])
      generalize hS_20 : (K3_takeOpening 61 S_13).2 = S_20 at *
      generalize hv_19 : (K3_takeOpening 61 S_13).1 = v_19 at *
      obtain ⟨hP, hLa, hLb, hcs, ha0, ha1, hga, hgb, hna, hnb, hma, hmb, hzz⟩ := id hV
      obtain ⟨hPa, p5a, p5b, pla, plb, pka, pkb, pga, pgb, pfa, pfb⟩ := id hP
      have k_15s : v_19 = 0 → ¬ K4_at 2 (S_20.1 8 3) S_20 = 0 := fun h0 => by rcases k_15v with ⟨-, h9, -⟩ | ⟨h9, -⟩ <;> first | (rw [h9]; exact (k_8s (by assumption))) | omega
      refine z_if_eq (tgt := 63) B.1 B.2.1 (zr_of (by omega) (by omega)) dX3_readTerm_50 (by decide) (fun c_21 => ?_) (fun c_21 => ?_)
      · --
        refine lv_aload_n B.1 B.2.1 dX3_readTerm_63 rfl (lv_at hl 0 rfl) ?_
        refine z_bipush B.1 B.2.1 (by decide) dX3_readTerm_64 ?_
        refine c_calli (q := (cq q x y)) (As := [.int (zI 33)]) (rest := []) B hK hM 8 (by decide) (by decide) rfl (cX3_takeOpening_ok l D cy (cq q x y) b S_20 hF  33 hV (by show 1 ≤ 33; omega) (by show 33 < 65536; omega)) (cwC 1 B wC_mRX3_97 wC_im_yX3_takeOpening wC_sl_yX3_takeOpening wC_in_RX3 wC_cd_yX3_takeOpening rfl rfl (by decide +kernel) ⟨by show 1 + 1 ≤ fA + 12; omega, by show 8 + (2 + 11) + 21 ≤ loA + 269; omega⟩) rfl hl.1 rfl (Nat.le_of_ble_eq_true rfl) dX3_readTerm_66 ⟨g_rc hR hg (cFx_gl (S := S_20) hF), g_rs hR hg (cFx_gl (S := S_20) hF)⟩ (fun z_25 S_24 H locs hp_23 hM => ?_)
        obtain ⟨hp_23, he_hp_23⟩ := hp_23
        have he_hp_23 := he_hp_23.symm
        subst he_hp_23
        have hp_23 : (K3_takeOpening 33 S_20).1 = z_25 := hp_23.symm
        subst hp_23
        have hg : gl S ≤ gl (K3_takeOpening 33 S_20).2 := Nat.le_trans hg (gl_of (S := S_20) (S' := (K3_takeOpening 33 S_20).2) (congrArg Prod.snd K3_takeOpening_2))
        refine W.widen (k := gl (K3_takeOpening 33 S_20).2 - gl S) (n := 2 * (gl (K3_takeOpening 33 S_20).2 - gl S)) (Nat.sub_le_sub_right (gl_of (S := S_20) (S' := (K3_takeOpening 33 S_20).2) (congrArg Prod.snd K3_takeOpening_2)) _) (Nat.mul_le_mul_left 2 (Nat.sub_le_sub_right (gl_of (S := S_20) (S' := (K3_takeOpening 33 S_20).2) (congrArg Prod.snd K3_takeOpening_2)) _)) ?_
        have k_22v := K3_takeOpening_v (x := 33) hV (by omega)
        have k_22l : S_20.1 8 3 ≤ (K3_takeOpening 33 S_20).2.1 8 3 := by rcases k_22v with ⟨-, h9, -⟩ | ⟨-, h9, -⟩ <;> rw [h9] <;> first | exact Int.le_refl _ | (simp only [ci_eq, zu_eq]; omega)
        have hV := rV_takeOpening (x := 33) hV (by omega)
        have hF : cFx 7 b (K3_takeOpening 33 S_20).2 := cFx_of (congrArg Prod.snd K3_takeOpening_2) hF
        have k_22b : (K3_takeOpening 33 S_20).1 = 0 ∨ (K3_takeOpening 33 S_20).1 = 1 := by rcases k_22v with ⟨h9, -⟩ | ⟨h9, -⟩ <;> omega
        have k_22n : (K3_takeOpening 33 S_20).1 = 0 ∨ (K3_takeOpening 33 S_20).2.1 8 3 = S_20.1 8 3 + 3 := by rcases k_22v with ⟨h9, -⟩ | ⟨-, h9, -⟩ <;> first | exact Or.inl h9 | exact Or.inr (by rw [h9, ci_eq, zu_eq])
        generalize hS_27 : (K3_takeOpening 33 S_20).2 = S_27 at *
        generalize hv_26 : (K3_takeOpening 33 S_20).1 = v_26 at *
        obtain ⟨hP, hLa, hLb, hcs, ha0, ha1, hga, hgb, hna, hnb, hma, hmb, hzz⟩ := id hV
        obtain ⟨hPa, p5a, p5b, pla, plb, pka, pkb, pga, pgb, pfa, pfb⟩ := id hP
        have k_22s : v_26 = 0 → ¬ K4_at 2 (S_27.1 8 3) S_27 = 0 := fun h0 => by rcases k_22v with ⟨-, h9, -⟩ | ⟨h9, -⟩ <;> first | (rw [h9]; exact (k_15s (by assumption))) | omega
        refine z_if_eq (tgt := 82) B.1 B.2.1 (zr_of (by omega) (by omega)) dX3_readTerm_69 (by decide) (fun c_28 => ?_) (fun c_28 => ?_)
        · --
          refine lv_aload_n B.1 B.2.1 dX3_readTerm_82 rfl (lv_at hl 0 rfl) ?_
          refine lv_iload_n B.1 B.2.1 dX3_readTerm_83 rfl (lv_at hl 1 rfl) ?_
          refine g_calli (E := "java/lang/IllegalArgumentException") (As := [.int (zI dp)]) (rest := []) B hK hG hM 8 (by decide) (by decide) rfl (cX3_readCountedAtom_ok l hl0 D cy q V n0 x y b S_27 hF F fA loA L0 hA hFR dp hV (by show L0 ≤ dp; omega) (by show dp ≤ 8; omega) (by show 0 ≤ dp; omega) (k_22s (by assumption))) (cwC 1 B wC_mRX3_103 wC_im_yX3_readCountedAtom wC_sl_yX3_readCountedAtom wC_in_RX3 wC_cd_yX3_readCountedAtom rfl rfl (by decide +kernel) ⟨by show (fA + 11) + 1 ≤ fA + 12; omega, by show 8 + (9 + 11) + (loA + 241) ≤ loA + 269; omega⟩) rfl hl.1 rfl (Nat.le_of_ble_eq_true rfl) dX3_readTerm_84 hR hg (cFx_gl hF) (gl_of (K3_readCountedAtom_R (F := F) hFR (dp := dp) (S := S_27) hV (k_22s (by assumption))).1.1) (fun c_30 => (by subst hS_6; subst hv_5; subst hS_13; subst hv_12; subst hS_20; subst hv_19; subst hS_27; subst hv_26; unfold K3_readTerm; exact ((if_pos c_7).trans ((if_pos c_14).trans ((if_pos c_21).trans ((if_pos c_28).trans (if_neg c_30))))))) (fun x y H locs c_30 hM => ?_)
          have hg : gl S ≤ gl (K3_readCountedAtom F dp S_27).2.2 := Nat.le_trans hg (gl_of (K3_readCountedAtom_R (F := F) hFR (dp := dp) (S := S_27) hV (k_22s (by assumption))).1.1)
          obtain ⟨k_29, -, k_29v, -⟩ := K3_readCountedAtom_R (F := F) hFR (dp := dp) (S := S_27) hV (k_22s (by assumption))
          obtain ⟨hV, k_29l, k_29p⟩ := k_29v c_30
          have hF : cFx 7 b (K3_readCountedAtom F dp S_27).2.2 := cFx_of k_29.1 hF
          generalize hS_32 : (K3_readCountedAtom F dp S_27).2.2 = S_32 at *
          generalize hv_31 : (K3_readCountedAtom F dp S_27).2.1 = v_31 at *
          obtain ⟨hP, hLa, hLb, hcs, ha0, ha1, hga, hgb, hna, hnb, hma, hmb, hzz⟩ := id hV
          obtain ⟨⟨k_29pa, k_29pb⟩, k_29pc⟩ := k_29p
          exact g_reti (S := S_32) B hM (by subst hS_6; subst hv_5; subst hS_13; subst hv_12; subst hS_20; subst hv_19; subst hS_27; subst hv_26; subst hS_32; subst hv_31; unfold K3_readTerm; exact ((if_pos c_7).trans ((if_pos c_14).trans ((if_pos c_21).trans ((if_pos c_28).trans (if_pos c_30)))))) dX3_readTerm_87
        · --
          refine lv_aload_n B.1 B.2.1 dX3_readTerm_72 rfl (lv_at hl 0 rfl) ?_
          refine z_bipush B.1 B.2.1 (by decide) dX3_readTerm_73 ?_
          refine z_bipush B.1 B.2.1 (by decide) dX3_readTerm_75 ?_
          refine lv_iload_n B.1 B.2.1 dX3_readTerm_77 rfl (lv_at hl 1 rfl) ?_
          refine g_calli (E := "java/lang/IllegalArgumentException") (As := [.int (zI 15), .int (zI 16), .int (zI dp)]) (rest := []) B hK hG hM 8 (by decide) (by decide) rfl (cX3_readLook_ok l hl0 D cy q V n0 x y b S_27 hF F fA loA L0 hA hFR 15 16 dp hV (by show L0 ≤ dp; omega) (by show dp ≤ 8; omega) (by show 0 ≤ dp; omega) (by show 0 ≤ 15; omega) (by show 15 ≤ 100; omega) (by show 0 ≤ 16; omega) (by show 16 ≤ 100; omega)) (cwC 3 B wC_mRX3_100 wC_im_yX3_readLook wC_sl_yX3_readLook wC_in_RX3 wC_cd_yX3_readLook rfl rfl (by decide +kernel) ⟨by show (fA + 7) + 1 ≤ fA + 12; omega, by show 8 + (7 + 11) + (loA + 113) ≤ loA + 269; omega⟩) rfl hl.1 rfl (Nat.le_of_ble_eq_true rfl) dX3_readTerm_78 hR hg (cFx_gl hF) (gl_of (K3_readLook_R (F := F) hFR (bk := 15) (ek := 16) (dp := dp) (S := S_27) hV (by decide) (by decide) (by decide) (by decide)).1.1) (fun c_34 => (by subst hS_6; subst hv_5; subst hS_13; subst hv_12; subst hS_20; subst hv_19; subst hS_27; subst hv_26; unfold K3_readTerm; exact ((if_pos c_7).trans ((if_pos c_14).trans ((if_pos c_21).trans ((if_neg c_28).trans (if_neg c_34))))))) (fun x y H locs c_34 hM => ?_)
          have hg : gl S ≤ gl (K3_readLook F 15 16 dp S_27).2.2 := Nat.le_trans hg (gl_of (K3_readLook_R (F := F) hFR (bk := 15) (ek := 16) (dp := dp) (S := S_27) hV (by decide) (by decide) (by decide) (by decide)).1.1)
          obtain ⟨k_33, -, k_33v, -⟩ := K3_readLook_R (F := F) hFR (bk := 15) (ek := 16) (dp := dp) (S := S_27) hV (by decide) (by decide) (by decide) (by decide)
          obtain ⟨hV, k_33l, k_33p⟩ := k_33v c_34
          have hF : cFx 7 b (K3_readLook F 15 16 dp S_27).2.2 := cFx_of k_33.1 hF
          generalize hS_36 : (K3_readLook F 15 16 dp S_27).2.2 = S_36 at *
          generalize hv_35 : (K3_readLook F 15 16 dp S_27).2.1 = v_35 at *
          obtain ⟨hP, hLa, hLb, hcs, ha0, ha1, hga, hgb, hna, hnb, hma, hmb, hzz⟩ := id hV
          obtain ⟨hPa, p5a, p5b, pla, plb, pka, pkb, pga, pgb, pfa, pfb⟩ := id hP
          obtain ⟨k_33pa, k_33pb⟩ := k_33p
          exact g_reti (S := S_36) B hM (by subst hS_6; subst hv_5; subst hS_13; subst hv_12; subst hS_20; subst hv_19; subst hS_27; subst hv_26; subst hS_36; subst hv_35; unfold K3_readTerm; exact ((if_pos c_7).trans ((if_pos c_14).trans ((if_pos c_21).trans ((if_neg c_28).trans (if_pos c_34)))))) dX3_readTerm_81
      · --
        refine lv_aload_n B.1 B.2.1 dX3_readTerm_53 rfl (lv_at hl 0 rfl) ?_
        refine z_bipush B.1 B.2.1 (by decide) dX3_readTerm_54 ?_
        refine z_bipush B.1 B.2.1 (by decide) dX3_readTerm_56 ?_
        refine lv_iload_n B.1 B.2.1 dX3_readTerm_58 rfl (lv_at hl 1 rfl) ?_
        refine g_calli (E := "java/lang/IllegalArgumentException") (As := [.int (zI 13), .int (zI 14), .int (zI dp)]) (rest := []) B hK hG hM 8 (by decide) (by decide) rfl (cX3_readLook_ok l hl0 D cy q V n0 x y b S_20 hF F fA loA L0 hA hFR 13 14 dp hV (by show L0 ≤ dp; omega) (by show dp ≤ 8; omega) (by show 0 ≤ dp; omega) (by show 0 ≤ 13; omega) (by show 13 ≤ 100; omega) (by show 0 ≤ 14; omega) (by show 14 ≤ 100; omega)) (cwC 3 B wC_mRX3_100 wC_im_yX3_readLook wC_sl_yX3_readLook wC_in_RX3 wC_cd_yX3_readLook rfl rfl (by decide +kernel) ⟨by show (fA + 7) + 1 ≤ fA + 12; omega, by show 8 + (7 + 11) + (loA + 113) ≤ loA + 269; omega⟩) rfl hl.1 rfl (Nat.le_of_ble_eq_true rfl) dX3_readTerm_59 hR hg (cFx_gl hF) (gl_of (K3_readLook_R (F := F) hFR (bk := 13) (ek := 14) (dp := dp) (S := S_20) hV (by decide) (by decide) (by decide) (by decide)).1.1) (fun c_38 => (by subst hS_6; subst hv_5; subst hS_13; subst hv_12; subst hS_20; subst hv_19; unfold K3_readTerm; exact ((if_pos c_7).trans ((if_pos c_14).trans ((if_neg c_21).trans (if_neg c_38)))))) (fun x y H locs c_38 hM => ?_)
        have hg : gl S ≤ gl (K3_readLook F 13 14 dp S_20).2.2 := Nat.le_trans hg (gl_of (K3_readLook_R (F := F) hFR (bk := 13) (ek := 14) (dp := dp) (S := S_20) hV (by decide) (by decide) (by decide) (by decide)).1.1)
        obtain ⟨k_37, -, k_37v, -⟩ := K3_readLook_R (F := F) hFR (bk := 13) (ek := 14) (dp := dp) (S := S_20) hV (by decide) (by decide) (by decide) (by decide)
        obtain ⟨hV, k_37l, k_37p⟩ := k_37v c_38
        have hF : cFx 7 b (K3_readLook F 13 14 dp S_20).2.2 := cFx_of k_37.1 hF
        generalize hS_40 : (K3_readLook F 13 14 dp S_20).2.2 = S_40 at *
        generalize hv_39 : (K3_readLook F 13 14 dp S_20).2.1 = v_39 at *
        obtain ⟨hP, hLa, hLb, hcs, ha0, ha1, hga, hgb, hna, hnb, hma, hmb, hzz⟩ := id hV
        obtain ⟨hPa, p5a, p5b, pla, plb, pka, pkb, pga, pgb, pfa, pfb⟩ := id hP
        obtain ⟨k_37pa, k_37pb⟩ := k_37p
        exact g_reti (S := S_40) B hM (by subst hS_6; subst hv_5; subst hS_13; subst hv_12; subst hS_20; subst hv_19; subst hS_40; subst hv_39; unfold K3_readTerm; exact ((if_pos c_7).trans ((if_pos c_14).trans ((if_neg c_21).trans (if_pos c_38))))) dX3_readTerm_62
    · --
      refine lv_aload_n B.1 B.2.1 dX3_readTerm_31 rfl (lv_at hl 0 rfl) ?_
      refine c_getr (q := (cq q x y)) (r := 7) B (iC3 _) hK hM 8 2 3 (by decide) rfl rfl (by decide) (by decide) rfl rfl rfl (cFx_r hF 8 2) (List.mem_cons_of_mem _ wC_fRX3_22) dX3_readTerm_32 ?_
      refine z_iconst B.1 B.2.1 dX3_readTerm_35 ?_
      refine z_iconst B.1 B.2.1 dX3_readTerm_36 ?_
      refine z_iconst B.1 B.2.1 dX3_readTerm_37 ?_
      refine g_calli (E := "java/lang/IllegalArgumentException") (As := [.int (zI 3), .int (zI (-1)), .int (zI (-1))]) (rest := []) B hK hG hM 7 (by decide) (by decide) rfl (cX2_add_ok l hl0 D cy q V n0 x y 7 b S_13 hF  3 (-1) (-1) hV.1) (cwC 3 B wC_mRX3_64 wC_im_yX2_add wC_sl_yX2_add wC_in_RX2 wC_cd_yX2_add rfl rfl (by decide +kernel) ⟨by show 6 + 1 ≤ fA + 12; omega, by show 8 + (4 + 11) + 90 ≤ loA + 269; omega⟩) rfl hl.1 rfl (Nat.le_of_ble_eq_true rfl) dX3_readTerm_38 hR hg (cFx_gl hF) (gl_of (congrArg Prod.snd K2_add_2)) (fun c_42 => (by subst hS_6; subst hv_5; subst hS_13; subst hv_12; unfold K3_readTerm; exact ((if_pos c_7).trans ((if_neg c_14).trans (if_neg c_42))))) (fun x y H locs c_42 hM => ?_)
      have hg : gl S ≤ gl (K2_add 3 (-1) (-1) S_13).2.2 := Nat.le_trans hg (gl_of (congrArg Prod.snd K2_add_2))
      have hV := rV_add (kd := 3) (am := (-1)) (nb := (-1)) (S := S_13) hV c_42 (by omega) (by omega) (by omega) (by omega) (by omega) (by omega)
      have hF : cFx 7 b (K2_add 3 (-1) (-1) S_13).2.2 := cFx_of (congrArg Prod.snd K2_add_2) hF
      obtain ⟨k_41f, k_41a, k_41b, -⟩ := K2_add_v c_42
      have k_41s := K2_add_s c_42
      have k_418 : (K2_add 3 (-1) (-1) S_13).2.2.1 8 3 = S_13.1 8 3 := congrFun (K2_add_1 (n := 8) (by decide)) 3
      have k_419 : (K2_add 3 (-1) (-1) S_13).2.2.1 8 4 = S_13.1 8 4 := congrFun (K2_add_1 (n := 8) (by decide)) 4
      have k_41g : (K2_add 3 (-1) (-1) S_13).2.2.1 7 12 = S_13.1 7 12 := K2_add_12
      have k_41t : (K2_add 3 (-1) (-1) S_13).2.2.1 2 = S_13.1 2 := K2_add_1 (by decide)
      have k_41u : (K2_add 3 (-1) (-1) S_13).2.2.1 13 = S_13.1 13 := K2_add_1 (by decide)
      generalize hS_44 : (K2_add 3 (-1) (-1) S_13).2.2 = S_44 at *
      generalize hv_43 : (K2_add 3 (-1) (-1) S_13).2.1 = v_43 at *
      obtain ⟨hP, hLa, hLb, hcs, ha0, ha1, hga, hgb, hna, hnb, hma, hmb, hzz⟩ := id hV
      obtain ⟨hPa, p5a, p5b, pla, plb, pka, pkb, pga, pgb, pfa, pfb⟩ := id hP
      refine lv_pop B.1 B.2.1 dX3_readTerm_41 rfl ?_
      refine z_iconst B.1 B.2.1 dX3_readTerm_42 ?_
      exact g_reti (S := S_44) B hM (by subst hS_6; subst hv_5; subst hS_13; subst hv_12; subst hS_44; subst hv_43; unfold K3_readTerm; exact ((if_pos c_7).trans ((if_neg c_14).trans (if_pos c_42)))) dX3_readTerm_43
  · --
    refine lv_aload_n B.1 B.2.1 dX3_readTerm_9 rfl (lv_at hl 0 rfl) ?_
    refine c_getr (q := (cq q x y)) (r := 7) B (iC3 _) hK hM 8 2 3 (by decide) rfl rfl (by decide) (by decide) rfl rfl rfl (cFx_r hF 8 2) (List.mem_cons_of_mem _ wC_fRX3_22) dX3_readTerm_10 ?_
    refine z_iconst B.1 B.2.1 dX3_readTerm_13 ?_
    refine z_iconst B.1 B.2.1 dX3_readTerm_14 ?_
    refine z_iconst B.1 B.2.1 dX3_readTerm_15 ?_
    refine g_calli (E := "java/lang/IllegalArgumentException") (As := [.int (zI 2), .int (zI (-1)), .int (zI (-1))]) (rest := []) B hK hG hM 7 (by decide) (by decide) rfl (cX2_add_ok l hl0 D cy q V n0 x y 7 b S_6 hF  2 (-1) (-1) hV.1) (cwC 3 B wC_mRX3_64 wC_im_yX2_add wC_sl_yX2_add wC_in_RX2 wC_cd_yX2_add rfl rfl (by decide +kernel) ⟨by show 6 + 1 ≤ fA + 12; omega, by show 8 + (4 + 11) + 90 ≤ loA + 269; omega⟩) rfl hl.1 rfl (Nat.le_of_ble_eq_true rfl) dX3_readTerm_16 hR hg (cFx_gl hF) (gl_of (congrArg Prod.snd K2_add_2)) (fun c_46 => (by subst hS_6; subst hv_5; unfold K3_readTerm; exact ((if_neg c_7).trans (if_neg c_46)))) (fun x y H locs c_46 hM => ?_)
    have hg : gl S ≤ gl (K2_add 2 (-1) (-1) S_6).2.2 := Nat.le_trans hg (gl_of (congrArg Prod.snd K2_add_2))
    have hV := rV_add (kd := 2) (am := (-1)) (nb := (-1)) (S := S_6) hV c_46 (by omega) (by omega) (by omega) (by omega) (by omega) (by omega)
    have hF : cFx 7 b (K2_add 2 (-1) (-1) S_6).2.2 := cFx_of (congrArg Prod.snd K2_add_2) hF
    obtain ⟨k_45f, k_45a, k_45b, -⟩ := K2_add_v c_46
    have k_45s := K2_add_s c_46
    have k_458 : (K2_add 2 (-1) (-1) S_6).2.2.1 8 3 = S_6.1 8 3 := congrFun (K2_add_1 (n := 8) (by decide)) 3
    have k_459 : (K2_add 2 (-1) (-1) S_6).2.2.1 8 4 = S_6.1 8 4 := congrFun (K2_add_1 (n := 8) (by decide)) 4
    have k_45g : (K2_add 2 (-1) (-1) S_6).2.2.1 7 12 = S_6.1 7 12 := K2_add_12
    have k_45t : (K2_add 2 (-1) (-1) S_6).2.2.1 2 = S_6.1 2 := K2_add_1 (by decide)
    have k_45u : (K2_add 2 (-1) (-1) S_6).2.2.1 13 = S_6.1 13 := K2_add_1 (by decide)
    generalize hS_48 : (K2_add 2 (-1) (-1) S_6).2.2 = S_48 at *
    generalize hv_47 : (K2_add 2 (-1) (-1) S_6).2.1 = v_47 at *
    obtain ⟨hP, hLa, hLb, hcs, ha0, ha1, hga, hgb, hna, hnb, hma, hmb, hzz⟩ := id hV
    obtain ⟨hPa, p5a, p5b, pla, plb, pka, pkb, pga, pgb, pfa, pfb⟩ := id hP
    refine lv_pop B.1 B.2.1 dX3_readTerm_19 rfl ?_
    refine z_iconst B.1 B.2.1 dX3_readTerm_20 ?_
    exact g_reti (S := S_48) B hM (by subst hS_6; subst hv_5; subst hS_48; subst hv_47; unfold K3_readTerm; exact ((if_neg c_7).trans (if_pos c_46))) dX3_readTerm_21
theorem K3_readTerm_R {F : Int → CSt → CR} (hFR : ∀ (S : CSt) (dp : Int), rV S → rR (wP S) S (F dp S)) {dp : Int} {S : CSt} (hV : rV S) (hs : ¬ K4_at 2 (S.1 8 3) S = 0) : rR (fun v T => wP S v T ∧ S.1 8 3 < T.1 8 3) S (K3_readTerm F dp S) := by
  have one : ∀ (kd : Int) (T : CSt), rV T → T.1 8 3 = S.1 8 3 + 1 → 0 ≤ kd → kd ≤ 100 → rR (fun v T => wP S v T ∧ S.1 8 3 < T.1 8 3) T (gBd (K2_add kd (-1) (-1) T) (fun _ T => (0, 1, T))) := by
    intro kd T hT e k0 k1
    refine rR.ad hT (by omega) (by omega) (by decide) (by decide) (by decide) (by decide) (fun _ h1 e1 _ _ _ => rR.ret rK.rf h1 (Int.le_refl _) ?_)
    unfold wP
    rw [e1, e]
    omega
  have lk : ∀ (bk ek : Int) (T : CSt), rV T → T.1 8 3 = S.1 8 3 + 3 → 0 ≤ bk → bk ≤ 100 → 0 ≤ ek → ek ≤ 100 → rR (fun v T => wP S v T ∧ S.1 8 3 < T.1 8 3) T (gBd (K3_readLook F bk ek dp T) (fun v T => (0, v, T))) := by
    intro bk ek T hT e k0 k1 k2 k3
    refine rR.bd (K3_readLook_R hFR hT k0 k1 k2 k3) (fun _ h1 a1 hp => rR.ret rK.rf h1 (Int.le_refl _) ?_)
    obtain ⟨p0, p1⟩ := hp
    unfold wP
    omega
  unfold K3_readTerm
  refine rR.tk hV (by decide) (fun _ => ?_) (fun _ _ h1 => ?_)
  · rw [if_pos rfl]
    refine rR.tk hV (by decide) (fun _ => ?_) (fun _ _ h1 => ?_)
    · rw [if_pos rfl]
      refine rR.to hV (by decide) (fun _ => ?_) (fun _ _ h1 => ?_)
      · rw [if_pos rfl]
        refine rR.to hV (by decide) (fun _ => ?_) (fun _ _ h1 => ?_)
        · rw [if_pos rfl]
          exact rR.bd (K3_readCountedAtom_R hFR hV hs) (fun _ h1 _ hp => rR.ret rK.rf h1 (Int.le_refl _) hp)
        · rw [if_neg z1n0]
          exact lk 15 16 _ h1 (by rw [ci_eq, zu_eq]) (by decide) (by decide) (by decide) (by decide)
      · rw [if_neg z1n0]
        exact lk 13 14 _ h1 (by rw [ci_eq, zu_eq]) (by decide) (by decide) (by decide) (by decide)
    · rw [if_neg z1n0]
      exact one 3 _ h1 (by rw [ci_eq, zu_eq]) (by decide) (by decide)
  · rw [if_neg z1n0]
    exact one 2 _ h1 (by rw [ci_eq, zu_eq]) (by decide) (by decide)
def K3_rowL (F : Int → CSt → CR) (dp : Int) : Nat → Int → Int → CSt → CR
  | 0, wt, i, T => (0, wt, T)
  | n + 1, wt, i, T => (if 40 ≤ i then (0, wt, T) else (if ((K3_rowGoesOn T)) = 0 then (0, wt, T) else (gBd (K3_readTerm F dp T) (fun v_10 S_11 => K3_rowL F dp n (wt + v_10) (i + 1) S_11))))
set_option maxHeartbeats 1000000 in
set_option maxRecDepth 100000 in
theorem lp3_row (l : Launch) (hl0 : l.stackTraces = false) (D : va_G) (cy : Nat → ClassId) (q : Nat → Nat) (V : Nat × (Nat → Nat)) (n0 b : Nat)  (F : Int → CSt → CR) (dp : Int) (fA loA : Nat) (L0 : Int) (hA : ∀ (x y : Nat) (S : CSt) (dp : Int), cFx 7 b S → rV S → L0 + 1 ≤ dp → dp ≤ 8 → 0 ≤ dp → gMi l D cy q V n0 x y "java/lang/IllegalArgumentException" yX3_readAlternatives (.code yX3_readAlternatives cX3_readAlternatives 7 (some .int) :: TBC) fA loA S [.ref (q 8), .int (zI dp)] (F dp S)) (hFR : ∀ (S : CSt) (dp : Int), rV S → rR (wP S) S (F dp S)) (hd0 : L0 ≤ dp) (hd1 : dp ≤ 8) (hd2 : 0 ≤ dp) (S0 : CSt) (rc : CR) {A : Nat → Prop} {p : Program} {e : Env} {s : State} {m : MethodId} {args : Array Value} {below : List Frame} {meth : Method} {c : Code} (B : zAt p s m args meth c RX3 cX3_readRow 4 (some .int) (.code yX3_readRow cX3_readRow 4 (some .int) :: TBC)) (hK : va_K D vwCl (zTY cy) s) (hG : gEn V n0 A s c) (hR : (headSpec (.code yX3_readRow cX3_readRow 4 (some .int) :: TBC) (gRm (fA + 13) (loA + 290) S0)).room.cells = (gK - gl S0) + 1 ∧ (headSpec (.code yX3_readRow cX3_readRow 4 (some .int) :: TBC) (gRm (fA + 13) (loA + 290) S0)).room.slots = 2 * (gK - gl S0) + 6) :
    ∀ (n : Nat) (wt : Int) (i : Int) (T : CSt) (x y : Nat) (H : Heap) (locs : List Loc) (ls : Array Slot), (cFx 7 b T) → (gl S0 ≤ gl T) → (rV T) → (0 ≤ wt) → (wt ≤ 120 * T.1 8 3) → (0 ≤ i) → (i ≤ 40) → (40 - i = n) → cH D cy (cq q x y) A s.heap T H locs → lv_has ls 4 [(0, .ref (q 8)), (1, .int (zI dp)), (2, .int (zI wt)), (3, .int (zI i))] → (rc = K3_rowL F dp n wt i T) → W p l e (headSpec (.code yX3_readRow cX3_readRow 4 (some .int) :: TBC) (gRm (fA + 13) (loA + 290) S0)).room s m args below meth c H locs (gl T - gl S0) (2 * (gl T - gl S0)) (vx_MQ below (gQi D cy q A rc) (gX D cy q A "java/lang/IllegalArgumentException" rc) args s (gc S0 rc) (gs S0 rc) A) (F0 m 4 ls []) := by
  intro n
  induction n with
  | zero =>
    intro wt i T x y H locs ls hF hg hV hw0 hw1 hi0 hi1 hn hM hl hpost
    obtain ⟨hP, hLa, hLb, hcs, ha0, ha1, hga, hgb, hna, hnb, hma, hmb, hzz⟩ := id hV
    refine lv_iload_n B.1 B.2.1 dX3_readRow_4 rfl (lv_at hl 3 rfl) ?_
    refine z_bipush B.1 B.2.1 (by decide) dX3_readRow_5 ?_
    refine z_icmp_ge (tgt := 31) B.1 B.2.1 (zr_of (by omega) (by omega)) (zr_of (by decide) (by decide)) dX3_readRow_7 (by decide) (fun c_1 => ?_) (fun c_1 => ?_)
    · --
      refine lv_iload_n B.1 B.2.1 dX3_readRow_31 rfl (lv_at hl 2 rfl) ?_
      exact g_reti (S := T) B hM (hpost.trans (by rw [K3_rowL])) dX3_readRow_32
    · exact absurd c_1 (by omega)
  | succ n ih =>
    intro wt i T x y H locs ls hF hg hV hw0 hw1 hi0 hi1 hn hM hl hpost
    obtain ⟨hP, hLa, hLb, hcs, ha0, ha1, hga, hgb, hna, hnb, hma, hmb, hzz⟩ := id hV
    refine lv_iload_n B.1 B.2.1 dX3_readRow_4 rfl (lv_at hl 3 rfl) ?_
    refine z_bipush B.1 B.2.1 (by decide) dX3_readRow_5 ?_
    refine z_icmp_ge (tgt := 31) B.1 B.2.1 (zr_of (by omega) (by omega)) (zr_of (by decide) (by decide)) dX3_readRow_7 (by decide) (fun c_1 => ?_) (fun c_1 => ?_)
    · --
      refine lv_iload_n B.1 B.2.1 dX3_readRow_31 rfl (lv_at hl 2 rfl) ?_
      exact g_reti (S := T) B hM (hpost.trans (by rw [K3_rowL]; exact (if_pos c_1))) dX3_readRow_32
    · --
      refine lv_aload_n B.1 B.2.1 dX3_readRow_10 rfl (lv_at hl 0 rfl) ?_
      refine c_calli (q := (cq q x y)) (As := []) (rest := []) B hK hM 8 (by decide) (by decide) rfl (cX3_rowGoesOn_ok l D cy (cq q x y) b T hF   hV) (cwC 0 B wC_mRX3_90 wC_im_yX3_rowGoesOn wC_sl_yX3_rowGoesOn wC_in_RX3 wC_cd_yX3_rowGoesOn rfl rfl (by decide +kernel) ⟨by show 1 + 1 ≤ fA + 13; omega, by show 8 + (2 + 11) + 21 ≤ loA + 290; omega⟩) rfl hl.1 rfl (Nat.le_of_ble_eq_true rfl) dX3_readRow_11 ⟨g_rc hR hg (cFx_gl (S := T) hF), g_rs hR hg (cFx_gl (S := T) hF)⟩ (fun z_5 S_4 H locs hp_3 hM => ?_)
      obtain ⟨hp_3, he_hp_3⟩ := hp_3
      have he_hp_3 := he_hp_3.symm
      subst he_hp_3
      have hp_3 : (K3_rowGoesOn T) = z_5 := hp_3.symm
      subst hp_3
      have f_6 := K3_rowGoesOn_v (S := T)
      refine z_if_eq (tgt := 31) B.1 B.2.1 (zr_of (by omega) (by omega)) dX3_readRow_14 (by decide) (fun c_7 => ?_) (fun c_7 => ?_)
      · --
        refine lv_iload_n B.1 B.2.1 dX3_readRow_31 rfl (lv_at hl 2 rfl) ?_
        exact g_reti (S := T) B hM (hpost.trans (by rw [K3_rowL]; exact ((if_neg c_1).trans (if_pos c_7)))) dX3_readRow_32
      · --
        have hs : ¬ K4_at 2 (T.1 8 3) T = 0 := by rcases K3_rowGoesOn_v (S := T) with h9 | ⟨-, h9⟩ <;> first | exact h9 | omega
        refine lv_iload_n B.1 B.2.1 dX3_readRow_17 rfl (lv_at hl 2 rfl) ?_
        refine lv_aload_n B.1 B.2.1 dX3_readRow_18 rfl (lv_at hl 0 rfl) ?_
        refine lv_iload_n B.1 B.2.1 dX3_readRow_19 rfl (lv_at hl 1 rfl) ?_
        refine g_calli (E := "java/lang/IllegalArgumentException") (As := [.int (zI dp)]) (rest := [.int (zI wt)]) B hK hG hM 8 (by decide) (by decide) rfl (cX3_readTerm_ok l hl0 D cy q V n0 x y b T hF F fA loA L0 hA hFR dp hV (by show L0 ≤ dp; omega) (by show dp ≤ 8; omega) (by show 0 ≤ dp; omega) hs) (cwC 1 B wC_mRX3_94 wC_im_yX3_readTerm wC_sl_yX3_readTerm wC_in_RX3 wC_cd_yX3_readTerm rfl rfl (by decide +kernel) ⟨by show (fA + 12) + 1 ≤ fA + 13; omega, by show 8 + (2 + 11) + (loA + 269) ≤ loA + 290; omega⟩) rfl hl.1 rfl (Nat.le_of_ble_eq_true rfl) dX3_readRow_20 hR hg (cFx_gl hF) (gl_of (K3_readTerm_R (F := F) hFR (dp := dp) (S := T) hV hs).1.1) (fun c_9 => (hpost.trans (by rw [K3_rowL]; exact ((if_neg c_1).trans ((if_neg c_7).trans (if_neg c_9)))))) (fun x y H locs c_9 hM => ?_)
        have hg : gl S0 ≤ gl (K3_readTerm F dp T).2.2 := Nat.le_trans hg (gl_of (K3_readTerm_R (F := F) hFR (dp := dp) (S := T) hV hs).1.1)
        obtain ⟨k_8, -, k_8v, -⟩ := K3_readTerm_R (F := F) hFR (dp := dp) (S := T) hV hs
        obtain ⟨hV, k_8l, k_8p⟩ := k_8v c_9
        have hF : cFx 7 b (K3_readTerm F dp T).2.2 := cFx_of k_8.1 hF
        generalize hS_11 : (K3_readTerm F dp T).2.2 = S_11 at *
        generalize hv_10 : (K3_readTerm F dp T).2.1 = v_10 at *
        obtain ⟨hP, hLa, hLb, hcs, ha0, ha1, hga, hgb, hna, hnb, hma, hmb, hzz⟩ := id hV
        obtain ⟨⟨k_8pa, k_8pb⟩, k_8pc⟩ := k_8p
        refine z_iadd (x := wt + v_10) B.1 B.2.1 rfl dX3_readRow_23 ?_
        refine lv_istore_n (lv' := [(2, .int (zI (wt + v_10))), (0, .ref (q 8)), (1, .int (zI dp)), (3, .int (zI i))]) B.1 B.2.1 dX3_readRow_24 rfl hl (by decide) rfl (fun ls hl => ?_)
        refine z_iinc (v := i + 1) (lv' := [(3, .int (zI (i + 1))), (2, .int (zI (wt + v_10))), (0, .ref (q 8)), (1, .int (zI dp))]) B.1 B.2.1 dX3_readRow_25 hl (k := 3) rfl rfl (by decide) rfl (fun ls hl => ?_)
        refine lv_goto (tgt := 4) B.1 B.2.1 dX3_readRow_28 (by decide) ?_
        have hq : K3_rowL F dp (n + 1) wt i T = K3_rowL F dp n (wt + v_10) (i + 1) S_11 := by subst hS_11; subst hv_10; rw [K3_rowL]; exact ((if_neg c_1).trans ((if_neg c_7).trans (if_pos c_9)))
        rw [hq] at hpost
        exact ih (wt + v_10) (i + 1) S_11 x y H locs ls hF hg hV (by omega) (by omega) (by omega) (by omega) (by omega) hM (lv_sub hl [2, 3, 1, 0] rfl) hpost
def K3_readRow (F : Int → CSt → CR) (dp : Int) (S : CSt) : CR := (K3_rowL F dp 40 0 0 S)
set_option maxHeartbeats 1000000 in
set_option maxRecDepth 100000 in
theorem cX3_readRow_ok (l : Launch) (hl0 : l.stackTraces = false) (D : va_G) (cy : Nat → ClassId) (q : Nat → Nat) (V : Nat × (Nat → Nat)) (n0 x y b : Nat) (S : CSt) (hF : cFx 7 b S) (F : Int → CSt → CR) (fA loA : Nat) (L0 : Int) (hA : ∀ (x y : Nat) (S : CSt) (dp : Int), cFx 7 b S → rV S → L0 + 1 ≤ dp → dp ≤ 8 → 0 ≤ dp → gMi l D cy q V n0 x y "java/lang/IllegalArgumentException" yX3_readAlternatives (.code yX3_readAlternatives cX3_readAlternatives 7 (some .int) :: TBC) fA loA S [.ref (q 8), .int (zI dp)] (F dp S)) (hFR : ∀ (S : CSt) (dp : Int), rV S → rR (wP S) S (F dp S)) (dp : Int) (hV : rV S) (hd0 : L0 ≤ dp) (hd1 : dp ≤ 8) (hd2 : 0 ≤ dp)  : gMi l D cy q V n0 x y "java/lang/IllegalArgumentException" yX3_readRow (.code yX3_readRow cX3_readRow 4 (some .int) :: TBC) (fA + 13) (loA + 290) S [.ref (q 8), .int (zI dp)] (K3_readRow F dp S) := by
  refine g_of (cc := cX3_readRow) (maxL := 4) (ret := (some .int)) (by decide) rfl rfl (Nat.le_of_ble_eq_true rfl) ?_
  intro p e s m args below meth c ls B hK hG hM hl
  generalize gA (cq q x y) n0 = A at hG hM ⊢
  have hR : (headSpec (.code yX3_readRow cX3_readRow 4 (some .int) :: TBC) (gRm (fA + 13) (loA + 290) S)).room.cells = (gK - gl S) + 1 ∧ (headSpec (.code yX3_readRow cX3_readRow 4 (some .int) :: TBC) (gRm (fA + 13) (loA + 290) S)).room.slots = 2 * (gK - gl S) + 6 := ⟨rfl, rfl⟩
  have hl : lv_has ls 4 [(0, .ref (q 8)), (1, .int (zI dp))] := hl
  obtain ⟨hP, hLa, hLb, hcs, ha0, ha1, hga, hgb, hna, hnb, hma, hmb, hzz⟩ := id hV
  obtain ⟨hPa, p5a, p5b, pla, plb, pka, pkb, pga, pgb, pfa, pfb⟩ := id hP
  refine z_iconst B.1 B.2.1 dX3_readRow_0 ?_
  refine lv_istore_n (lv' := [(2, .int (zI 0)), (0, .ref (q 8)), (1, .int (zI dp))]) B.1 B.2.1 dX3_readRow_1 rfl hl (by decide) rfl (fun ls hl => ?_)
  refine z_iconst B.1 B.2.1 dX3_readRow_2 ?_
  refine lv_istore_n (lv' := [(3, .int (zI 0)), (2, .int (zI 0)), (0, .ref (q 8)), (1, .int (zI dp))]) B.1 B.2.1 dX3_readRow_3 rfl hl (by decide) rfl (fun ls hl => ?_)
  exact lp3_row l hl0 D cy q V n0 b F dp fA loA L0 hA hFR hd0 hd1 hd2 S _ B hK hG hR 40 0 0 S x y _ _ ls hF (Nat.le_refl _) hV (by omega) (by omega) (by omega) (by omega) (by omega) hM (lv_sub hl [2, 3, 1, 0] rfl) (by unfold K3_readRow; rfl)
theorem K3_rowL_R {F : Int → CSt → CR} (hFR : ∀ (S : CSt) (dp : Int), rV S → rR (wP S) S (F dp S)) {dp : Int} : ∀ (n : Nat) (wt i : Int) (S S0 : CSt), rV S → S0.1 8 3 ≤ S.1 8 3 → wP S0 wt S → rR (wP S0) S (K3_rowL F dp n wt i S)
  | 0, wt, i, S, S0, hV, h0, hw => by
    rw [K3_rowL]
    exact rR.ret rK.rf hV (Int.le_refl _) hw
  | n + 1, wt, i, S, S0, hV, h0, hw => by
    rw [K3_rowL]
    split
    · exact rR.ret rK.rf hV (Int.le_refl _) hw
    · split
      · exact rR.ret rK.rf hV (Int.le_refl _) hw
      · have hs : ¬ K4_at 2 (S.1 8 3) S = 0 := by
          rcases K3_rowGoesOn_v (S := S) with h9 | ⟨-, h9⟩
          · contradiction
          · exact h9
        refine rR.bd (K3_readTerm_R hFR hV hs) (fun _ h1 a1 hp => ?_)
        obtain ⟨⟨p0, p1⟩, p2⟩ := hp
        obtain ⟨w0, w1⟩ := hw
        exact K3_rowL_R hFR n _ _ _ S0 h1 (by omega) ⟨by omega, by omega⟩
theorem K3_readRow_R {F : Int → CSt → CR} (hFR : ∀ (S : CSt) (dp : Int), rV S → rR (wP S) S (F dp S)) {dp : Int} {S : CSt} (hV : rV S) : rR (wP S) S (K3_readRow F dp S) := by
  unfold K3_readRow
  exact K3_rowL_R hFR _ _ _ _ S hV (Int.le_refl _) ⟨Int.le_refl _, by omega⟩
