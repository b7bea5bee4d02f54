def K0_beginAlternative (i : Int) (S : CSt) : CR := (if (K0_countStep S).1 = 0 then (if ((K2_aim 6 i (ci S 10 4 ((S.1 10 4) + 1)))) = (-1) then (0, i + 1, (ci S 10 4 ((S.1 10 4) + 1))) else (if (K1_choose ((K2_aim 6 i (ci S 10 4 ((S.1 10 4) + 1)))) (S.1 10 3) (ci S 10 4 ((S.1 10 4) + 1))).1 = 0 then (0, i + 1, (K1_choose ((K2_aim 6 i (ci S 10 4 ((S.1 10 4) + 1)))) (S.1 10 3) (ci S 10 4 ((S.1 10 4) + 1))).2.2) else (1, 0, (K1_choose ((K2_aim 6 i (ci S 10 4 ((S.1 10 4) + 1)))) (S.1 10 3) (ci S 10 4 ((S.1 10 4) + 1))).2.2))) else (1, 0, (K0_countStep S).2.2))
set_option maxHeartbeats 1000000 in
set_option maxRecDepth 100000 in
theorem cX0_beginAlternative_ok (l : Launch) (hl0 : l.stackTraces = false) (D : va_G) (cy : Nat → ClassId) (q : Nat → Nat) (V : Nat × (Nat → Nat)) (n0 x y a : Nat) (S : CSt) (hF : cFx a 6 S) (i : Int) (ha36 : a < 36) (hX : xV S) (h0 : 0 ≤ i) (h1 : i ≤ 1000)(hc4 : S.1 11 4 ≤ 11900) (hc3 : S.1 11 3 ≤ 8990) : gMi l D cy q V n0 x y "java/lang/UnsupportedOperationException" yX0_beginAlternative (.code yX0_beginAlternative cX0_beginAlternative 3 (some .int) :: TBC) 7 110 S [.ref (q 10), .int (zI i)] (K0_beginAlternative i S) := by
  refine g_of (cc := cX0_beginAlternative) (maxL := 3) (ret := (some .int)) (by decide) rfl rfl (Nat.le_of_ble_eq_true rfl) ?_
  intro p e s m args below meth c ls B hK hG hM hl
  generalize gA (cq q x y) n0 = A at hG hM ⊢
  have hR : (headSpec (.code yX0_beginAlternative cX0_beginAlternative 3 (some .int) :: TBC) (gRm 7 110 S)).room.cells = (gK - gl S) + 1 ∧ (headSpec (.code yX0_beginAlternative cX0_beginAlternative 3 (some .int) :: TBC) (gRm 7 110 S)).room.slots = 2 * (gK - gl S) + 6 := ⟨rfl, rfl⟩
  have hl : lv_has ls 3 [(0, .ref (q 10)), (1, .int (zI i))] := hl
  obtain ⟨hV, hP, ht0, ht1, hcs, hp0, hp1, hs0, hs1, h18, h24, h25, h35⟩ := id hX
  obtain ⟨hMk, hu30, hu31, hu40, hu41, hM6, hM7⟩ := id hV
  refine lv_aload_n B.1 B.2.1 dX0_beginAlternative_0 rfl (lv_at hl 0 rfl) ?_
  refine g_callv (E := "java/lang/UnsupportedOperationException") (As := []) (rest := []) B hK hG hM 10 (by decide) (by decide) rfl (cX0_countStep_ok l hl0 D cy q V n0 x y a S hF   hX) (cwC 0 B wC_mRX0_131 wC_im_yX0_countStep wC_sl_yX0_countStep wC_in_RX0 wC_cd_yX0_countStep rfl rfl (by decide +kernel) ⟨Nat.le_of_ble_eq_true rfl, Nat.le_of_ble_eq_true rfl⟩) rfl hl.1 rfl (Nat.le_of_ble_eq_true rfl) dX0_beginAlternative_1 hR (Nat.le_refl _) (cFx_gl hF) (gl_of (congrArg Prod.snd K0_cs_2)) (fun c_1 => (by unfold K0_beginAlternative; exact (if_neg c_1))) (fun x y H locs c_1 hM => ?_)
  rw [(K0_cs c_1).2] at hM ⊢
  have f_2 := (K0_cs c_1).1
  have hV : sV (ci S 10 4 ((S.1 10 4) + 1)) := sV_ci hV (by decide)
  have hP : pB 6 (ci S 10 4 ((S.1 10 4) + 1)) := pB_ci (by decide) (by decide) hP
  refine lv_aload_n B.1 B.2.1 dX0_beginAlternative_4 rfl (lv_at hl 0 rfl) ?_
  refine c_getr (q := (cq q x y)) (r := 6) B (iC0 _) hK hM 10 2 0 (by decide) rfl rfl (by decide) (by decide) rfl rfl rfl (cFx_r hF 10 2) (List.mem_cons_of_mem _ wC_fRX0_22) dX0_beginAlternative_5 ?_
  refine lv_iload_n B.1 B.2.1 dX0_beginAlternative_8 rfl (lv_at hl 1 rfl) ?_
  refine c_calli (q := (cq q x y)) (As := [.int (zI i)]) (rest := []) B hK hM 6 (by decide) (by decide) rfl (cX2_aim_ok l D cy (cq q x y) a 6 (ci S 10 4 ((S.1 10 4) + 1)) hF 6 (by decide) i hP (by show -1000000000 ≤ i; omega) (by show i ≤ 1000000000; omega)) (cwC 1 B wC_mRX0_94 wC_im_yX2_aim wC_sl_yX2_aim wC_in_RX2 wC_cd_yX2_aim rfl rfl (by decide +kernel) ⟨Nat.le_of_ble_eq_true rfl, Nat.le_of_ble_eq_true rfl⟩) rfl hl.1 rfl (Nat.le_of_ble_eq_true rfl) dX0_beginAlternative_9 ⟨g_rc hR (Nat.le_refl _) (cFx_gl hF), g_rs hR (Nat.le_refl _) (cFx_gl hF)⟩ (fun z_5 S_4 H locs hp_3 hM => ?_)
  obtain ⟨hp_3, he_hp_3⟩ := hp_3
  have he_hp_3 := he_hp_3.symm
  subst he_hp_3
  have hp_3 : (K2_aim 6 i (ci S 10 4 ((S.1 10 4) + 1))) = z_5 := hp_3.symm
  subst hp_3
  have f_6 := K2_aim_bd i hP
  have f_7 := K2_aim_b2 (S := (ci S 10 4 ((S.1 10 4) + 1))) i h18
  refine lv_istore_n (lv' := [(2, .int (zI ((K2_aim 6 i (ci S 10 4 ((S.1 10 4) + 1)))))), (0, .ref (q 10)), (1, .int (zI i))]) B.1 B.2.1 dX0_beginAlternative_12 rfl hl (by decide) rfl (fun ls hl => ?_)
  refine lv_iload_n B.1 B.2.1 dX0_beginAlternative_13 rfl (lv_at hl 0 rfl) ?_
  refine z_iconst B.1 B.2.1 dX0_beginAlternative_14 ?_
  refine z_icmp_eq (tgt := 30) B.1 B.2.1 (zr_of (by omega) (by omega)) (zr_of (by decide) (by decide)) dX0_beginAlternative_15 (by decide) (fun c_8 => ?_) (fun c_8 => ?_)
  · --
    refine lv_iload_n B.1 B.2.1 dX0_beginAlternative_30 rfl (lv_at hl 2 rfl) ?_
    refine z_iconst B.1 B.2.1 dX0_beginAlternative_31 ?_
    refine z_iadd (x := i + 1) B.1 B.2.1 rfl dX0_beginAlternative_32 ?_
    exact g_reti (S := (ci S 10 4 ((S.1 10 4) + 1))) B hM (by unfold K0_beginAlternative; exact ((if_pos c_1).trans (if_pos c_8))) dX0_beginAlternative_33
  · --
    refine lv_aload_n B.1 B.2.1 dX0_beginAlternative_18 rfl (lv_at hl 1 rfl) ?_
    refine c_getr (q := (cq q x y)) (r := 11) B (iC0 _) hK hM 10 1 0 (by decide) rfl rfl (by decide) (by decide) rfl rfl rfl (cFx_r hF 10 1) (List.mem_cons_of_mem _ wC_fRX0_12) dX0_beginAlternative_19 ?_
    refine lv_iload_n B.1 B.2.1 dX0_beginAlternative_22 rfl (lv_at hl 0 rfl) ?_
    refine lv_aload_n B.1 B.2.1 dX0_beginAlternative_23 rfl (lv_at hl 1 rfl) ?_
    refine c_geti (q := (cq q x y)) (x := S.1 10 3) B (iC0 _) hK hM 10 3 0 (by decide) rfl rfl (by decide) (by decide) rfl rfl (by decide) rfl (List.mem_cons_of_mem _ wC_fRX0_58) dX0_beginAlternative_24 ?_
    have hvo3 := hV.2.1
    refine g_callv (E := "java/lang/UnsupportedOperationException") (As := [.int (zI ((K2_aim 6 i (ci S 10 4 ((S.1 10 4) + 1))))), .int (zI (S.1 10 3))]) (rest := []) B hK hG hM 11 (by decide) (by decide) rfl (cX1_choose_ok l hl0 D cy q V n0 x y a 6 (ci S 10 4 ((S.1 10 4) + 1)) hF  ((K2_aim 6 i (ci S 10 4 ((S.1 10 4) + 1)))) (S.1 10 3) ha36 (by decide) "java/lang/UnsupportedOperationException" hV (by show (S.1 11 3) ≤ 9000; omega)) (cwC 2 B wC_mRX0_159 wC_im_yX1_choose wC_sl_yX1_choose wC_in_RX1 wC_cd_yX1_choose rfl rfl (by decide +kernel) ⟨Nat.le_of_ble_eq_true rfl, Nat.le_of_ble_eq_true rfl⟩) rfl hl.1 rfl (Nat.le_of_ble_eq_true rfl) dX0_beginAlternative_27 hR (Nat.le_refl _) (cFx_gl hF) (K1_choose_F (S := (ci S 10 4 ((S.1 10 4) + 1))) hF hvo3 (by show (S.1 11 3) ≤ 9000; omega)).2 (fun c_9 => (by unfold K0_beginAlternative; exact ((if_pos c_1).trans ((if_neg c_8).trans (if_neg c_9))))) (fun x y H locs c_9 hM => ?_)
    have hg : gl S ≤ gl (K1_choose ((K2_aim 6 i (ci S 10 4 ((S.1 10 4) + 1)))) (S.1 10 3) (ci S 10 4 ((S.1 10 4) + 1))).2.2 := Nat.le_trans (Nat.le_refl _) (K1_choose_F (S := (ci S 10 4 ((S.1 10 4) + 1))) hF hvo3 (by show (S.1 11 3) ≤ 9000; omega)).2
    have hFo : cFx a 6 (ci S 10 4 ((S.1 10 4) + 1)) := hF
    have f_10 := K1_choose_u (ow := (K2_aim 6 i (ci S 10 4 ((S.1 10 4) + 1)))) (pl := S.1 10 3) (S := (ci S 10 4 ((S.1 10 4) + 1))) hFo hV.2.1 hV.2.2.1
    have f_10b := K1_choose_4 (ow := (K2_aim 6 i (ci S 10 4 ((S.1 10 4) + 1)))) (pl := S.1 10 3) (S := (ci S 10 4 ((S.1 10 4) + 1)))
    have f_103 : (ci S 10 4 ((S.1 10 4) + 1)).1 11 3 = S.1 11 3 := rfl
    have f_104 : (ci S 10 4 ((S.1 10 4) + 1)).1 11 4 = S.1 11 4 := rfl
    have hV : sV (K1_choose ((K2_aim 6 i (ci S 10 4 ((S.1 10 4) + 1)))) (S.1 10 3) (ci S 10 4 ((S.1 10 4) + 1))).2.2 := sV_choose (ow := (K2_aim 6 i (ci S 10 4 ((S.1 10 4) + 1)))) (pl := S.1 10 3) (S := (ci S 10 4 ((S.1 10 4) + 1))) hFo hV (by omega) (by omega) (by omega) (by omega) (by show (S.1 11 4) ≤ 100000; omega)
    have hF : cFx a 6 (K1_choose ((K2_aim 6 i (ci S 10 4 ((S.1 10 4) + 1)))) (S.1 10 3) (ci S 10 4 ((S.1 10 4) + 1))).2.2 := (K1_choose_F (ow := (K2_aim 6 i (ci S 10 4 ((S.1 10 4) + 1)))) (pl := S.1 10 3) (S := (ci S 10 4 ((S.1 10 4) + 1))) hFo hvo3 (by show (S.1 11 3) ≤ 9000; omega)).1
    have hP := pB_choose (ow := (K2_aim 6 i (ci S 10 4 ((S.1 10 4) + 1)))) (pl := S.1 10 3) (S := (ci S 10 4 ((S.1 10 4) + 1))) hP
    refine lv_iload_n B.1 B.2.1 dX0_beginAlternative_30 rfl (lv_at hl 2 rfl) ?_
    refine z_iconst B.1 B.2.1 dX0_beginAlternative_31 ?_
    refine z_iadd (x := i + 1) B.1 B.2.1 rfl dX0_beginAlternative_32 ?_
    exact g_reti (S := (K1_choose ((K2_aim 6 i (ci S 10 4 ((S.1 10 4) + 1)))) (S.1 10 3) (ci S 10 4 ((S.1 10 4) + 1))).2.2) B hM (by unfold K0_beginAlternative; exact ((if_pos c_1).trans ((if_neg c_8).trans (if_pos c_9)))) dX0_beginAlternative_33
def K0_beginGroup (i : Int) (S : CSt) : CR := (if (K1_set (0 + ((K2_number 6 i S))) (S.1 10 3) S).1 = 0 then (0, i + 1, (K1_set (0 + ((K2_number 6 i S))) (S.1 10 3) S).2.2) else (1, 0, (K1_set (0 + ((K2_number 6 i S))) (S.1 10 3) S).2.2))
set_option maxHeartbeats 1000000 in
set_option maxRecDepth 100000 in
theorem cX0_beginGroup_ok (l : Launch) (hl0 : l.stackTraces = false) (D : va_G) (cy : Nat → ClassId) (q : Nat → Nat) (V : Nat × (Nat → Nat)) (n0 x y a : Nat) (S : CSt) (hF : cFx a 6 S) (i : Int) (ha36 : a < 36) (hX : xV S) (h0 : 0 ≤ i) (h1 : i ≤ 1000)(hc4 : S.1 11 4 ≤ 11900) (hc3 : S.1 11 3 ≤ 8990) : gMi l D cy q V n0 x y "java/lang/UnsupportedOperationException" yX0_beginGroup (.code yX0_beginGroup cX0_beginGroup 2 (some .int) :: TBC) 3 104 S [.ref (q 10), .int (zI i)] (K0_beginGroup i S) := by
  refine g_of (cc := cX0_beginGroup) (maxL := 2) (ret := (some .int)) (by decide) rfl rfl (Nat.le_of_ble_eq_true rfl) ?_
  intro p e s m args below meth c ls B hK hG hM hl
  generalize gA (cq q x y) n0 = A at hG hM ⊢
  have hR : (headSpec (.code yX0_beginGroup cX0_beginGroup 2 (some .int) :: TBC) (gRm 3 104 S)).room.cells = (gK - gl S) + 1 ∧ (headSpec (.code yX0_beginGroup cX0_beginGroup 2 (some .int) :: TBC) (gRm 3 104 S)).room.slots = 2 * (gK - gl S) + 6 := ⟨rfl, rfl⟩
  have hl : lv_has ls 2 [(0, .ref (q 10)), (1, .int (zI i))] := hl
  obtain ⟨hV, hP, ht0, ht1, hcs, hp0, hp1, hs0, hs1, h18, h24, h25, h35⟩ := id hX
  obtain ⟨hMk, hu30, hu31, hu40, hu41, hM6, hM7⟩ := id hV
  refine lv_aload_n B.1 B.2.1 dX0_beginGroup_0 rfl (lv_at hl 0 rfl) ?_
  refine c_getr (q := (cq q x y)) (r := 11) B (iC0 _) hK hM 10 1 0 (by decide) rfl rfl (by decide) (by decide) rfl rfl rfl (cFx_r hF 10 1) (List.mem_cons_of_mem _ wC_fRX0_12) dX0_beginGroup_1 ?_
  refine z_iconst B.1 B.2.1 dX0_beginGroup_4 ?_
  refine lv_aload_n B.1 B.2.1 dX0_beginGroup_5 rfl (lv_at hl 0 rfl) ?_
  refine c_getr (q := (cq q x y)) (r := 6) B (iC0 _) hK hM 10 2 0 (by decide) rfl rfl (by decide) (by decide) rfl rfl rfl (cFx_r hF 10 2) (List.mem_cons_of_mem _ wC_fRX0_22) dX0_beginGroup_6 ?_
  refine lv_iload_n B.1 B.2.1 dX0_beginGroup_9 rfl (lv_at hl 1 rfl) ?_
  refine c_calli (q := (cq q x y)) (As := [.int (zI i)]) (rest := [.int (zI 0), .ref (q 11)]) B hK hM 6 (by decide) (by decide) rfl (cX2_number_ok l D cy (cq q x y) a 6 S hF 6 (by decide) i hP (by show -1000000000 ≤ i; omega) (by show i ≤ 1000000000; omega)) (cwC 1 B wC_mRX0_142 wC_im_yX2_number wC_sl_yX2_number wC_in_RX2 wC_cd_yX2_number rfl rfl (by decide +kernel) ⟨Nat.le_of_ble_eq_true rfl, Nat.le_of_ble_eq_true rfl⟩) rfl hl.1 rfl (Nat.le_of_ble_eq_true rfl) dX0_beginGroup_10 ⟨g_rc hR (Nat.le_refl _) (cFx_gl hF), g_rs hR (Nat.le_refl _) (cFx_gl hF)⟩ (fun z_3 S_2 H locs hp_1 hM => ?_)
  obtain ⟨hp_1, he_hp_1⟩ := hp_1
  have he_hp_1 := he_hp_1.symm
  subst he_hp_1
  have hp_1 : (K2_number 6 i S) = z_3 := hp_1.symm
  subst hp_1
  have f_4 := K2_number_bd i hP
  refine z_iadd (x := 0 + ((K2_number 6 i S))) B.1 B.2.1 rfl dX0_beginGroup_13 ?_
  refine lv_aload_n B.1 B.2.1 dX0_beginGroup_14 rfl (lv_at hl 0 rfl) ?_
  refine c_geti (q := (cq q x y)) (x := S.1 10 3) B (iC0 _) hK hM 10 3 0 (by decide) rfl rfl (by decide) (by decide) rfl rfl (by decide) rfl (List.mem_cons_of_mem _ wC_fRX0_58) dX0_beginGroup_15 ?_
  have hvo4 := hV.2.2.2.1
  refine g_callv (E := "java/lang/UnsupportedOperationException") (As := [.int (zI (0 + ((K2_number 6 i S)))), .int (zI (S.1 10 3))]) (rest := []) B hK hG hM 11 (by decide) (by decide) rfl (cX1_set_ok l hl0 D cy q V n0 x y a 6 S hF  (0 + ((K2_number 6 i S))) (S.1 10 3) ha36 (by decide) "java/lang/UnsupportedOperationException" (by show -2000000 ≤ (0 + ((K2_number 6 i S))); omega) (by show (0 + ((K2_number 6 i S))) ≤ 2000000; omega) (by show -1 ≤ (S.1 10 3); omega) (by show (S.1 10 3) ≤ 100000; omega) hV (by show (S.1 11 4) ≤ 12000; omega)) (cwC 2 B wC_mRX0_65 wC_im_yX1_set wC_sl_yX1_set wC_in_RX1 wC_cd_yX1_set rfl rfl (by decide +kernel) ⟨Nat.le_of_ble_eq_true rfl, Nat.le_of_ble_eq_true rfl⟩) rfl hl.1 rfl (Nat.le_of_ble_eq_true rfl) dX0_beginGroup_18 hR (Nat.le_refl _) (cFx_gl hF) (K1_set_F (S := S) hF hvo4 (by show (S.1 11 4) ≤ 12000; omega)).2 (fun c_5 => (by unfold K0_beginGroup; exact (if_neg c_5))) (fun x y H locs c_5 hM => ?_)
  have hg : gl S ≤ gl (K1_set (0 + ((K2_number 6 i S))) (S.1 10 3) S).2.2 := Nat.le_trans (Nat.le_refl _) (K1_set_F (S := S) hF hvo4 (by show (S.1 11 4) ≤ 12000; omega)).2
  have hFo : cFx a 6 S := hF
  have f_6 := K1_set_u (i := 0 + ((K2_number 6 i S))) (v := S.1 10 3) (S := S) hFo hV.2.2.2.1 hV.2.2.2.2.1
  have f_6b := K1_set_3 (i := 0 + ((K2_number 6 i S))) (v := S.1 10 3) (S := S)
  have hV : sV (K1_set (0 + ((K2_number 6 i S))) (S.1 10 3) S).2.2 := sV_set (i := 0 + ((K2_number 6 i S))) (v := S.1 10 3) (S := S) hFo hV (by omega) (by omega)
  have hF : cFx a 6 (K1_set (0 + ((K2_number 6 i S))) (S.1 10 3) S).2.2 := (K1_set_F (i := 0 + ((K2_number 6 i S))) (v := S.1 10 3) (S := S) hFo hvo4 (by show (S.1 11 4) ≤ 12000; omega)).1
  have hP := pB_set (i := 0 + ((K2_number 6 i S))) (v := S.1 10 3) (S := S) hP
  refine lv_iload_n B.1 B.2.1 dX0_beginGroup_21 rfl (lv_at hl 1 rfl) ?_
  refine z_iconst B.1 B.2.1 dX0_beginGroup_22 ?_
  refine z_iadd (x := i + 1) B.1 B.2.1 rfl dX0_beginGroup_23 ?_
  exact g_reti (S := (K1_set (0 + ((K2_number 6 i S))) (S.1 10 3) S).2.2) B hM (by unfold K0_beginGroup; exact (if_pos c_5)) dX0_beginGroup_24
def K0_endGroup (i : Int) (S : CSt) : CR := (if (K1_set (10 + ((K2_number 6 i S))) ((K1_mark (0 + ((K2_number 6 i S))) S)) S).1 = 0 then (if (K1_set (20 + ((K2_number 6 i S))) (S.1 10 3) (K1_set (10 + ((K2_number 6 i S))) ((K1_mark (0 + ((K2_number 6 i S))) S)) S).2.2).1 = 0 then (0, i + 1, (K1_set (20 + ((K2_number 6 i S))) (S.1 10 3) (K1_set (10 + ((K2_number 6 i S))) ((K1_mark (0 + ((K2_number 6 i S))) S)) S).2.2).2.2) else (1, 0, (K1_set (20 + ((K2_number 6 i S))) (S.1 10 3) (K1_set (10 + ((K2_number 6 i S))) ((K1_mark (0 + ((K2_number 6 i S))) S)) S).2.2).2.2)) else (1, 0, (K1_set (10 + ((K2_number 6 i S))) ((K1_mark (0 + ((K2_number 6 i S))) S)) S).2.2))
set_option maxHeartbeats 1000000 in
set_option maxRecDepth 100000 in
theorem cX0_endGroup_ok (l : Launch) (hl0 : l.stackTraces = false) (D : va_G) (cy : Nat → ClassId) (q : Nat → Nat) (V : Nat × (Nat → Nat)) (n0 x y a : Nat) (S : CSt) (hF : cFx a 6 S) (i : Int) (ha36 : a < 36) (hX : xV S) (h0 : 0 ≤ i) (h1 : i ≤ 1000)(hc4 : S.1 11 4 ≤ 11900) (hc3 : S.1 11 3 ≤ 8990) : gMi l D cy q V n0 x y "java/lang/UnsupportedOperationException" yX0_endGroup (.code yX0_endGroup cX0_endGroup 3 (some .int) :: TBC) 3 104 S [.ref (q 10), .int (zI i)] (K0_endGroup i S) := by
  refine g_of (cc := cX0_endGroup) (maxL := 3) (ret := (some .int)) (by decide) rfl rfl (Nat.le_of_ble_eq_true rfl) ?_
  intro p e s m args below meth c ls B hK hG hM hl
  generalize gA (cq q x y) n0 = A at hG hM ⊢
  have hR : (headSpec (.code yX0_endGroup cX0_endGroup 3 (some .int) :: TBC) (gRm 3 104 S)).room.cells = (gK - gl S) + 1 ∧ (headSpec (.code yX0_endGroup cX0_endGroup 3 (some .int) :: TBC) (gRm 3 104 S)).room.slots = 2 * (gK - gl S) + 6 := ⟨rfl, rfl⟩
  have hl : lv_has ls 3 [(0, .ref (q 10)), (1, .int (zI i))] := hl
  obtain ⟨hV, hP, ht0, ht1, hcs, hp0, hp1, hs0, hs1, h18, h24, h25, h35⟩ := id hX
  obtain ⟨hMk, hu30, hu31, hu40, hu41, hM6, hM7⟩ := id hV
  refine lv_aload_n B.1 B.2.1 dX0_endGroup_0 rfl (lv_at hl 0 rfl) ?_
  refine c_getr (q := (cq q x y)) (r := 6) B (iC0 _) hK hM 10 2 0 (by decide) rfl rfl (by decide) (by decide) rfl rfl rfl (cFx_r hF 10 2) (List.mem_cons_of_mem _ wC_fRX0_22) dX0_endGroup_1 ?_
  refine lv_iload_n B.1 B.2.1 dX0_endGroup_4 rfl (lv_at hl 1 rfl) ?_
  refine c_calli (q := (cq q x y)) (As := [.int (zI i)]) (rest := []) B hK hM 6 (by decide) (by decide) rfl (cX2_number_ok l D cy (cq q x y) a 6 S hF 6 (by decide) i hP (by show -1000000000 ≤ i; omega) (by show i ≤ 1000000000; omega)) (cwC 1 B wC_mRX0_142 wC_im_yX2_number wC_sl_yX2_number wC_in_RX2 wC_cd_yX2_number rfl rfl (by decide +kernel) ⟨Nat.le_of_ble_eq_true rfl, Nat.le_of_ble_eq_true rfl⟩) rfl hl.1 rfl (Nat.le_of_ble_eq_true rfl) dX0_endGroup_5 ⟨g_rc hR (Nat.le_refl _) (cFx_gl hF), g_rs hR (Nat.le_refl _) (cFx_gl hF)⟩ (fun z_3 S_2 H locs hp_1 hM => ?_)
  obtain ⟨hp_1, he_hp_1⟩ := hp_1
  have he_hp_1 := he_hp_1.symm
  subst he_hp_1
  have hp_1 : (K2_number 6 i S) = z_3 := hp_1.symm
  subst hp_1
  have f_4 := K2_number_bd i hP
  refine lv_istore_n (lv' := [(2, .int (zI ((K2_number 6 i S)))), (0, .ref (q 10)), (1, .int (zI i))]) B.1 B.2.1 dX0_endGroup_8 rfl hl (by decide) rfl (fun ls hl => ?_)
  refine lv_aload_n B.1 B.2.1 dX0_endGroup_9 rfl (lv_at hl 1 rfl) ?_
  refine c_getr (q := (cq q x y)) (r := 11) B (iC0 _) hK hM 10 1 0 (by decide) rfl rfl (by decide) (by decide) rfl rfl rfl (cFx_r hF 10 1) (List.mem_cons_of_mem _ wC_fRX0_12) dX0_endGroup_10 ?_
  refine z_bipush B.1 B.2.1 (by decide) dX0_endGroup_13 ?_
  refine lv_iload_n B.1 B.2.1 dX0_endGroup_15 rfl (lv_at hl 0 rfl) ?_
  refine z_iadd (x := 10 + ((K2_number 6 i S))) B.1 B.2.1 rfl dX0_endGroup_16 ?_
  refine lv_aload_n B.1 B.2.1 dX0_endGroup_17 rfl (lv_at hl 1 rfl) ?_
  refine c_getr (q := (cq q x y)) (r := 11) B (iC0 _) hK hM 10 1 0 (by decide) rfl rfl (by decide) (by decide) rfl rfl rfl (cFx_r hF 10 1) (List.mem_cons_of_mem _ wC_fRX0_12) dX0_endGroup_18 ?_
  refine z_iconst B.1 B.2.1 dX0_endGroup_21 ?_
  refine lv_iload_n B.1 B.2.1 dX0_endGroup_22 rfl (lv_at hl 0 rfl) ?_
  refine z_iadd (x := 0 + ((K2_number 6 i S))) B.1 B.2.1 rfl dX0_endGroup_23 ?_
  refine c_calli (q := (cq q x y)) (As := [.int (zI (0 + ((K2_number 6 i S))))]) (rest := [.int (zI (10 + ((K2_number 6 i S)))), .ref (q 11)]) B hK hM 11 (by decide) (by decide) rfl (cX1_mark_ok l D cy (cq q x y) a 6 S hF  (0 + ((K2_number 6 i S))) (by show -2000000 ≤ (0 + ((K2_number 6 i S))); omega) (by show (0 + ((K2_number 6 i S))) ≤ 2000000; omega)) (cwC 1 B wC_mRX0_51 wC_im_yX1_mark wC_sl_yX1_mark wC_in_RX1 wC_cd_yX1_mark rfl rfl (by decide +kernel) ⟨Nat.le_of_ble_eq_true rfl, Nat.le_of_ble_eq_true rfl⟩) rfl hl.1 rfl (Nat.le_of_ble_eq_true rfl) dX0_endGroup_24 ⟨g_rc hR (Nat.le_refl _) (cFx_gl hF), g_rs hR (Nat.le_refl _) (cFx_gl hF)⟩ (fun z_7 S_6 H locs hp_5 hM => ?_)
  obtain ⟨hp_5, he_hp_5⟩ := hp_5
  have he_hp_5 := he_hp_5.symm
  subst he_hp_5
  have hp_5 : (K1_mark (0 + ((K2_number 6 i S))) S) = z_7 := hp_5.symm
  subst hp_5
  have f_8 := K1_mark_bd (S := S) (0 + ((K2_number 6 i S))) hV
  have hvo4 := hV.2.2.2.1
  refine g_callv (E := "java/lang/UnsupportedOperationException") (As := [.int (zI (10 + ((K2_number 6 i S)))), .int (zI ((K1_mark (0 + ((K2_number 6 i S))) S)))]) (rest := []) B hK hG hM 11 (by decide) (by decide) rfl (cX1_set_ok l hl0 D cy q V n0 x y a 6 S hF  (10 + ((K2_number 6 i S))) ((K1_mark (0 + ((K2_number 6 i S))) S)) ha36 (by decide) "java/lang/UnsupportedOperationException" (by show -2000000 ≤ (10 + ((K2_number 6 i S))); omega) (by show (10 + ((K2_number 6 i S))) ≤ 2000000; omega) (by show -1 ≤ ((K1_mark (0 + ((K2_number 6 i S))) S)); omega) (by show ((K1_mark (0 + ((K2_number 6 i S))) S)) ≤ 100000; omega) hV (by show (S.1 11 4) ≤ 12000; omega)) (cwC 2 B wC_mRX0_65 wC_im_yX1_set wC_sl_yX1_set wC_in_RX1 wC_cd_yX1_set rfl rfl (by decide +kernel) ⟨Nat.le_of_ble_eq_true rfl, Nat.le_of_ble_eq_true rfl⟩) rfl hl.1 rfl (Nat.le_of_ble_eq_true rfl) dX0_endGroup_27 hR (Nat.le_refl _) (cFx_gl hF) (K1_set_F (S := S) hF hvo4 (by show (S.1 11 4) ≤ 12000; omega)).2 (fun c_9 => (by unfold K0_endGroup; exact (if_neg c_9))) (fun x y H locs c_9 hM => ?_)
  have hg : gl S ≤ gl (K1_set (10 + ((K2_number 6 i S))) ((K1_mark (0 + ((K2_number 6 i S))) S)) S).2.2 := Nat.le_trans (Nat.le_refl _) (K1_set_F (S := S) hF hvo4 (by show (S.1 11 4) ≤ 12000; omega)).2
  have hFo : cFx a 6 S := hF
  have f_10 := K1_set_u (i := 10 + ((K2_number 6 i S))) (v := (K1_mark (0 + ((K2_number 6 i S))) S)) (S := S) hFo hV.2.2.2.1 hV.2.2.2.2.1
  have f_10b := K1_set_3 (i := 10 + ((K2_number 6 i S))) (v := (K1_mark (0 + ((K2_number 6 i S))) S)) (S := S)
  have hV : sV (K1_set (10 + ((K2_number 6 i S))) ((K1_mark (0 + ((K2_number 6 i S))) S)) S).2.2 := sV_set (i := 10 + ((K2_number 6 i S))) (v := (K1_mark (0 + ((K2_number 6 i S))) S)) (S := S) hFo hV (by omega) (by omega)
  have hF : cFx a 6 (K1_set (10 + ((K2_number 6 i S))) ((K1_mark (0 + ((K2_number 6 i S))) S)) S).2.2 := (K1_set_F (i := 10 + ((K2_number 6 i S))) (v := (K1_mark (0 + ((K2_number 6 i S))) S)) (S := S) hFo hvo4 (by show (S.1 11 4) ≤ 12000; omega)).1
  have hP := pB_set (i := 10 + ((K2_number 6 i S))) (v := (K1_mark (0 + ((K2_number 6 i S))) S)) (S := S) hP
  refine lv_aload_n B.1 B.2.1 dX0_endGroup_30 rfl (lv_at hl 1 rfl) ?_
  refine c_getr (q := (cq q x y)) (r := 11) B (iC0 _) hK hM 10 1 0 (by decide) rfl rfl (by decide) (by decide) rfl rfl rfl (cFx_r hF 10 1) (List.mem_cons_of_mem _ wC_fRX0_12) dX0_endGroup_31 ?_
  refine z_bipush B.1 B.2.1 (by decide) dX0_endGroup_34 ?_
  refine lv_iload_n B.1 B.2.1 dX0_endGroup_36 rfl (lv_at hl 0 rfl) ?_
  refine z_iadd (x := 20 + ((K2_number 6 i S))) B.1 B.2.1 rfl dX0_endGroup_37 ?_
  refine lv_aload_n B.1 B.2.1 dX0_endGroup_38 rfl (lv_at hl 1 rfl) ?_
  refine c_geti (q := (cq q x y)) (x := S.1 10 3) B (iC0 _) hK hM 10 3 0 (by decide) rfl rfl (by decide) (by decide) rfl rfl (by decide) (by simp only [K1_set_1 (m := 10) (by decide) (by decide) (by decide)]) (List.mem_cons_of_mem _ wC_fRX0_58) dX0_endGroup_39 ?_
  have hvo4 := hV.2.2.2.1
  refine g_callv (E := "java/lang/UnsupportedOperationException") (As := [.int (zI (20 + ((K2_number 6 i S)))), .int (zI (S.1 10 3))]) (rest := []) B hK hG hM 11 (by decide) (by decide) rfl (cX1_set_ok l hl0 D cy q V n0 x y a 6 (K1_set (10 + ((K2_number 6 i S))) ((K1_mark (0 + ((K2_number 6 i S))) S)) S).2.2 hF  (20 + ((K2_number 6 i S))) (S.1 10 3) ha36 (by decide) "java/lang/UnsupportedOperationException" (by show -2000000 ≤ (20 + ((K2_number 6 i S))); omega) (by show (20 + ((K2_number 6 i S))) ≤ 2000000; omega) (by show -1 ≤ (S.1 10 3); omega) (by show (S.1 10 3) ≤ 100000; omega) hV (by show ((K1_set (10 + ((K2_number 6 i S))) ((K1_mark (0 + ((K2_number 6 i S))) S)) S).2.2.1 11 4) ≤ 12000; omega)) (cwC 2 B wC_mRX0_65 wC_im_yX1_set wC_sl_yX1_set wC_in_RX1 wC_cd_yX1_set rfl rfl (by decide +kernel) ⟨Nat.le_of_ble_eq_true rfl, Nat.le_of_ble_eq_true rfl⟩) rfl hl.1 rfl (Nat.le_of_ble_eq_true rfl) dX0_endGroup_42 hR hg (cFx_gl hF) (K1_set_F (S := (K1_set (10 + ((K2_number 6 i S))) ((K1_mark (0 + ((K2_number 6 i S))) S)) S).2.2) hF hvo4 (by show ((K1_set (10 + ((K2_number 6 i S))) ((K1_mark (0 + ((K2_number 6 i S))) S)) S).2.2.1 11 4) ≤ 12000; omega)).2 (fun c_11 => (by unfold K0_endGroup; exact ((if_pos c_9).trans (if_neg c_11)))) (fun x y H locs c_11 hM => ?_)
  have hg : gl S ≤ gl (K1_set (20 + ((K2_number 6 i S))) (S.1 10 3) (K1_set (10 + ((K2_number 6 i S))) ((K1_mark (0 + ((K2_number 6 i S))) S)) S).2.2).2.2 := Nat.le_trans hg (K1_set_F (S := (K1_set (10 + ((K2_number 6 i S))) ((K1_mark (0 + ((K2_number 6 i S))) S)) S).2.2) hF hvo4 (by show ((K1_set (10 + ((K2_number 6 i S))) ((K1_mark (0 + ((K2_number 6 i S))) S)) S).2.2.1 11 4) ≤ 12000; omega)).2
  have hFo : cFx a 6 (K1_set (10 + ((K2_number 6 i S))) ((K1_mark (0 + ((K2_number 6 i S))) S)) S).2.2 := hF
  have f_12 := K1_set_u (i := 20 + ((K2_number 6 i S))) (v := S.1 10 3) (S := (K1_set (10 + ((K2_number 6 i S))) ((K1_mark (0 + ((K2_number 6 i S))) S)) S).2.2) hFo hV.2.2.2.1 hV.2.2.2.2.1
  have f_12b := K1_set_3 (i := 20 + ((K2_number 6 i S))) (v := S.1 10 3) (S := (K1_set (10 + ((K2_number 6 i S))) ((K1_mark (0 + ((K2_number 6 i S))) S)) S).2.2)
  have hV : sV (K1_set (20 + ((K2_number 6 i S))) (S.1 10 3) (K1_set (10 + ((K2_number 6 i S))) ((K1_mark (0 + ((K2_number 6 i S))) S)) S).2.2).2.2 := sV_set (i := 20 + ((K2_number 6 i S))) (v := S.1 10 3) (S := (K1_set (10 + ((K2_number 6 i S))) ((K1_mark (0 + ((K2_number 6 i S))) S)) S).2.2) hFo hV (by omega) (by omega)
  have hF : cFx a 6 (K1_set (20 + ((K2_number 6 i S))) (S.1 10 3) (K1_set (10 + ((K2_number 6 i S))) ((K1_mark (0 + ((K2_number 6 i S))) S)) S).2.2).2.2 := (K1_set_F (i := 20 + ((K2_number 6 i S))) (v := S.1 10 3) (S := (K1_set (10 + ((K2_number 6 i S))) ((K1_mark (0 + ((K2_number 6 i S))) S)) S).2.2) hFo hvo4 (by show ((K1_set (10 + ((K2_number 6 i S))) ((K1_mark (0 + ((K2_number 6 i S))) S)) S).2.2.1 11 4) ≤ 12000; omega)).1
  have hP := pB_set (i := 20 + ((K2_number 6 i S))) (v := S.1 10 3) (S := (K1_set (10 + ((K2_number 6 i S))) ((K1_mark (0 + ((K2_number 6 i S))) S)) S).2.2) hP
  refine lv_iload_n B.1 B.2.1 dX0_endGroup_45 rfl (lv_at hl 2 rfl) ?_
  refine z_iconst B.1 B.2.1 dX0_endGroup_46 ?_
  refine z_iadd (x := i + 1) B.1 B.2.1 rfl dX0_endGroup_47 ?_
  exact g_reti (S := (K1_set (20 + ((K2_number 6 i S))) (S.1 10 3) (K1_set (10 + ((K2_number 6 i S))) ((K1_mark (0 + ((K2_number 6 i S))) S)) S).2.2).2.2) B hM (by unfold K0_endGroup; exact ((if_pos c_9).trans (if_pos c_11))) dX0_endGroup_48
def K0_choosePass (i : Int) (S : CSt) : CR := (if ((K2_least 6 ((K2_number 6 i S)) S)) ≤ ((K1_mark (30 + ((K2_number 6 i S))) S)) then (if ((K1_mark (30 + ((K2_number 6 i S))) S)) < ((K2_most 6 ((K2_number 6 i S)) S)) then (if (K1_choose ((if ((if ((K2_kind 6 i S)) = 10 then 1 else 0 : Int)) = 0 then i + 1 else i + 2 : Int)) (S.1 10 3) S).1 = 0 then (0, (if ((if ((K2_kind 6 i S)) = 10 then 1 else 0 : Int)) = 0 then i + 2 else i + 1 : Int), (K1_choose ((if ((if ((K2_kind 6 i S)) = 10 then 1 else 0 : Int)) = 0 then i + 1 else i + 2 : Int)) (S.1 10 3) S).2.2) else (1, 0, (K1_choose ((if ((if ((K2_kind 6 i S)) = 10 then 1 else 0 : Int)) = 0 then i + 1 else i + 2 : Int)) (S.1 10 3) S).2.2)) else (0, i + 2, S)) else (0, i + 1, S))
set_option maxHeartbeats 1000000 in
set_option maxRecDepth 100000 in
theorem cX0_choosePass_ok (l : Launch) (hl0 : l.stackTraces = false) (D : va_G) (cy : Nat → ClassId) (q : Nat → Nat) (V : Nat × (Nat → Nat)) (n0 x y a : Nat) (S : CSt) (hF : cFx a 6 S) (i : Int) (ha36 : a < 36) (hV : sV S) (hP : pB 6 S) (hp0 : 0 ≤ S.1 10 3) (hp1 : S.1 10 3 ≤ 1000) (h0 : 0 ≤ i) (h1 : i ≤ 1000) (hc4 : S.1 11 4 ≤ 12000) (hc3 : S.1 11 3 ≤ 8990) : gMi l D cy q V n0 x y "java/lang/UnsupportedOperationException" yX0_choosePass (.code yX0_choosePass cX0_choosePass 7 (some .int) :: TBC) 3 104 S [.ref (q 10), .int (zI i)] (K0_choosePass i S) := by
  refine g_of (cc := cX0_choosePass) (maxL := 7) (ret := (some .int)) (by decide) rfl rfl (Nat.le_of_ble_eq_true rfl) ?_
  intro p e s m args below meth c ls B hK hG hM hl
  generalize gA (cq q x y) n0 = A at hG hM ⊢
  have hR : (headSpec (.code yX0_choosePass cX0_choosePass 7 (some .int) :: TBC) (gRm 3 104 S)).room.cells = (gK - gl S) + 1 ∧ (headSpec (.code yX0_choosePass cX0_choosePass 7 (some .int) :: TBC) (gRm 3 104 S)).room.slots = 2 * (gK - gl S) + 6 := ⟨rfl, rfl⟩
  have hl : lv_has ls 7 [(0, .ref (q 10)), (1, .int (zI i))] := hl
  refine lv_aload_n B.1 B.2.1 dX0_choosePass_0 rfl (lv_at hl 0 rfl) ?_
  refine c_getr (q := (cq q x y)) (r := 6) B (iC0 _) hK hM 10 2 0 (by decide) rfl rfl (by decide) (by decide) rfl rfl rfl (cFx_r hF 10 2) (List.mem_cons_of_mem _ wC_fRX0_22) dX0_choosePass_1 ?_
  refine lv_iload_n B.1 B.2.1 dX0_choosePass_4 rfl (lv_at hl 1 rfl) ?_
  refine c_calli (q := (cq q x y)) (As := [.int (zI i)]) (rest := []) B hK hM 6 (by decide) (by decide) rfl (cX2_number_ok l D cy (cq q x y) a 6 S hF 6 (by decide) i hP (by show -1000000000 ≤ i; omega) (by show i ≤ 1000000000; omega)) (cwC 1 B wC_mRX0_142 wC_im_yX2_number wC_sl_yX2_number wC_in_RX2 wC_cd_yX2_number rfl rfl (by decide +kernel) ⟨Nat.le_of_ble_eq_true rfl, Nat.le_of_ble_eq_true rfl⟩) rfl hl.1 rfl (Nat.le_of_ble_eq_true rfl) dX0_choosePass_5 ⟨g_rc hR (Nat.le_refl _) (cFx_gl hF), g_rs hR (Nat.le_refl _) (cFx_gl hF)⟩ (fun z_3 S_2 H locs hp_1 hM => ?_)
  obtain ⟨hp_1, he_hp_1⟩ := hp_1
  have he_hp_1 := he_hp_1.symm
  subst he_hp_1
  have hp_1 : (K2_number 6 i S) = z_3 := hp_1.symm
  subst hp_1
  have f_4 := K2_number_bd i hP
  refine lv_istore_n (lv' := [(2, .int (zI ((K2_number 6 i S)))), (0, .ref (q 10)), (1, .int (zI i))]) B.1 B.2.1 dX0_choosePass_8 rfl hl (by decide) rfl (fun ls hl => ?_)
  refine lv_aload_n B.1 B.2.1 dX0_choosePass_9 rfl (lv_at hl 1 rfl) ?_
  refine c_getr (q := (cq q x y)) (r := 11) B (iC0 _) hK hM 10 1 0 (by decide) rfl rfl (by decide) (by decide) rfl rfl rfl (cFx_r hF 10 1) (List.mem_cons_of_mem _ wC_fRX0_12) dX0_choosePass_10 ?_
  refine z_bipush B.1 B.2.1 (by decide) dX0_choosePass_13 ?_
  refine lv_iload_n B.1 B.2.1 dX0_choosePass_15 rfl (lv_at hl 0 rfl) ?_
  refine z_iadd (x := 30 + ((K2_number 6 i S))) B.1 B.2.1 rfl dX0_choosePass_16 ?_
  refine c_calli (q := (cq q x y)) (As := [.int (zI (30 + ((K2_number 6 i S))))]) (rest := []) B hK hM 11 (by decide) (by decide) rfl (cX1_mark_ok l D cy (cq q x y) a 6 S hF  (30 + ((K2_number 6 i S))) (by show -2000000 ≤ (30 + ((K2_number 6 i S))); omega) (by show (30 + ((K2_number 6 i S))) ≤ 2000000; omega)) (cwC 1 B wC_mRX0_51 wC_im_yX1_mark wC_sl_yX1_mark wC_in_RX1 wC_cd_yX1_mark rfl rfl (by decide +kernel) ⟨Nat.le_of_ble_eq_true rfl, Nat.le_of_ble_eq_true rfl⟩) rfl hl.1 rfl (Nat.le_of_ble_eq_true rfl) dX0_choosePass_17 ⟨g_rc hR (Nat.le_refl _) (cFx_gl hF), g_rs hR (Nat.le_refl _) (cFx_gl hF)⟩ (fun z_7 S_6 H locs hp_5 hM => ?_)
  obtain ⟨hp_5, he_hp_5⟩ := hp_5
  have he_hp_5 := he_hp_5.symm
  subst he_hp_5
  have hp_5 : (K1_mark (30 + ((K2_number 6 i S))) S) = z_7 := hp_5.symm
  subst hp_5
  have f_8 := K1_mark_bd (S := S) (30 + ((K2_number 6 i S))) hV
  refine lv_istore_n (lv' := [(3, .int (zI ((K1_mark (30 + ((K2_number 6 i S))) S)))), (2, .int (zI ((K2_number 6 i S)))), (0, .ref (q 10)), (1, .int (zI i))]) B.1 B.2.1 dX0_choosePass_20 rfl hl (by decide) rfl (fun ls hl => ?_)
  refine lv_iload_n B.1 B.2.1 dX0_choosePass_21 rfl (lv_at hl 3 rfl) ?_
  refine z_iconst B.1 B.2.1 dX0_choosePass_22 ?_
  refine z_iadd (x := i + 1) B.1 B.2.1 rfl dX0_choosePass_23 ?_
  refine lv_istore (lv' := [(4, .int (zI (i + 1))), (3, .int (zI ((K1_mark (30 + ((K2_number 6 i S))) S)))), (2, .int (zI ((K2_number 6 i S)))), (0, .ref (q 10)), (1, .int (zI i))]) B.1 B.2.1 dX0_choosePass_24 hl (by decide) rfl (fun ls hl => ?_)
  refine lv_iload_n B.1 B.2.1 dX0_choosePass_26 rfl (lv_at hl 4 rfl) ?_
  refine z_iconst B.1 B.2.1 dX0_choosePass_27 ?_
  refine z_iadd (x := i + 2) B.1 B.2.1 rfl dX0_choosePass_28 ?_
  refine lv_istore (lv' := [(5, .int (zI (i + 2))), (4, .int (zI (i + 1))), (3, .int (zI ((K1_mark (30 + ((K2_number 6 i S))) S)))), (2, .int (zI ((K2_number 6 i S)))), (0, .ref (q 10)), (1, .int (zI i))]) B.1 B.2.1 dX0_choosePass_29 hl (by decide) rfl (fun ls hl => ?_)
  refine lv_iload_n B.1 B.2.1 dX0_choosePass_31 rfl (lv_at hl 2 rfl) ?_
  refine lv_aload_n B.1 B.2.1 dX0_choosePass_32 rfl (lv_at hl 4 rfl) ?_
  refine c_getr (q := (cq q x y)) (r := 6) B (iC0 _) hK hM 10 2 0 (by decide) rfl rfl (by decide) (by decide) rfl rfl rfl (cFx_r hF 10 2) (List.mem_cons_of_mem _ wC_fRX0_22) dX0_choosePass_33 ?_
  refine lv_iload_n B.1 B.2.1 dX0_choosePass_36 rfl (lv_at hl 3 rfl) ?_
  refine c_calli (q := (cq q x y)) (As := [.int (zI ((K2_number 6 i S)))]) (rest := [.int (zI ((K1_mark (30 + ((K2_number 6 i S))) S)))]) B hK hM 6 (by decide) (by decide) rfl (cX2_least_ok l D cy (cq q x y) a 6 S hF 6 (by decide) ((K2_number 6 i S)) hP (by show -1000000000 ≤ ((K2_number 6 i S)); omega) (by show ((K2_number 6 i S)) ≤ 1000000000; omega)) (cwC 1 B wC_mRX0_165 wC_im_yX2_least wC_sl_yX2_least wC_in_RX2 wC_cd_yX2_least rfl rfl (by decide +kernel) ⟨Nat.le_of_ble_eq_true rfl, Nat.le_of_ble_eq_true rfl⟩) rfl hl.1 rfl (Nat.le_of_ble_eq_true rfl) dX0_choosePass_37 ⟨g_rc hR (Nat.le_refl _) (cFx_gl hF), g_rs hR (Nat.le_refl _) (cFx_gl hF)⟩ (fun z_11 S_10 H locs hp_9 hM => ?_)
  obtain ⟨hp_9, he_hp_9⟩ := hp_9
  have he_hp_9 := he_hp_9.symm
  subst he_hp_9
  have hp_9 : (K2_least 6 ((K2_number 6 i S)) S) = z_11 := hp_9.symm
  subst hp_9
  have f_12 := K2_least_bd ((K2_number 6 i S)) hP
  refine z_icmp_ge (tgt := 46) B.1 B.2.1 (zr_of (by omega) (by omega)) (zr_of (by omega) (by omega)) dX0_choosePass_40 (by decide) (fun c_13 => ?_) (fun c_13 => ?_)
  · --
    refine lv_iload_n B.1 B.2.1 dX0_choosePass_46 rfl (lv_at hl 2 rfl) ?_
    refine lv_aload_n B.1 B.2.1 dX0_choosePass_47 rfl (lv_at hl 4 rfl) ?_
    refine c_getr (q := (cq q x y)) (r := 6) B (iC0 _) hK hM 10 2 0 (by decide) rfl rfl (by decide) (by decide) rfl rfl rfl (cFx_r hF 10 2) (List.mem_cons_of_mem _ wC_fRX0_22) dX0_choosePass_48 ?_
    refine lv_iload_n B.1 B.2.1 dX0_choosePass_51 rfl (lv_at hl 3 rfl) ?_
    refine c_calli (q := (cq q x y)) (As := [.int (zI ((K2_number 6 i S)))]) (rest := [.int (zI ((K1_mark (30 + ((K2_number 6 i S))) S)))]) B hK hM 6 (by decide) (by decide) rfl (cX2_most_ok l D cy (cq q x y) a 6 S hF 6 (by decide) ((K2_number 6 i S)) hP (by show -1000000000 ≤ ((K2_number 6 i S)); omega) (by show ((K2_number 6 i S)) ≤ 1000000000; omega)) (cwC 1 B wC_mRX0_168 wC_im_yX2_most wC_sl_yX2_most wC_in_RX2 wC_cd_yX2_most rfl rfl (by decide +kernel) ⟨Nat.le_of_ble_eq_true rfl, Nat.le_of_ble_eq_true rfl⟩) rfl hl.1 rfl (Nat.le_of_ble_eq_true rfl) dX0_choosePass_52 ⟨g_rc hR (Nat.le_refl _) (cFx_gl hF), g_rs hR (Nat.le_refl _) (cFx_gl hF)⟩ (fun z_16 S_15 H locs hp_14 hM => ?_)
    obtain ⟨hp_14, he_hp_14⟩ := hp_14
    have he_hp_14 := he_hp_14.symm
    subst he_hp_14
    have hp_14 : (K2_most 6 ((K2_number 6 i S)) S) = z_16 := hp_14.symm
    subst hp_14
    have f_17 := K2_most_bd ((K2_number 6 i S)) hP
    refine z_icmp_lt (tgt := 61) B.1 B.2.1 (zr_of (by omega) (by omega)) (zr_of (by omega) (by omega)) dX0_choosePass_55 (by decide) (fun c_18 => ?_) (fun c_18 => ?_)
    · --
      refine lv_aload_n B.1 B.2.1 dX0_choosePass_61 rfl (lv_at hl 4 rfl) ?_
      refine c_getr (q := (cq q x y)) (r := 6) B (iC0 _) hK hM 10 2 0 (by decide) rfl rfl (by decide) (by decide) rfl rfl rfl (cFx_r hF 10 2) (List.mem_cons_of_mem _ wC_fRX0_22) dX0_choosePass_62 ?_
      refine lv_iload_n B.1 B.2.1 dX0_choosePass_65 rfl (lv_at hl 5 rfl) ?_
      refine c_calli (q := (cq q x y)) (As := [.int (zI i)]) (rest := []) B hK hM 6 (by decide) (by decide) rfl (cX2_kind_ok l D cy (cq q x y) a 6 S hF 6 (by decide) i hP (by show -1000000000 ≤ i; omega) (by show i ≤ 1000000000; omega)) (cwC 1 B wC_mRX0_75 wC_im_yX2_kind wC_sl_yX2_kind wC_in_RX2 wC_cd_yX2_kind rfl rfl (by decide +kernel) ⟨Nat.le_of_ble_eq_true rfl, Nat.le_of_ble_eq_true rfl⟩) rfl hl.1 rfl (Nat.le_of_ble_eq_true rfl) dX0_choosePass_66 ⟨g_rc hR (Nat.le_refl _) (cFx_gl hF), g_rs hR (Nat.le_refl _) (cFx_gl hF)⟩ (fun z_21 S_20 H locs hp_19 hM => ?_)
      obtain ⟨hp_19, he_hp_19⟩ := hp_19
      have he_hp_19 := he_hp_19.symm
      subst he_hp_19
      have hp_19 : (K2_kind 6 i S) = z_21 := hp_19.symm
      subst hp_19
      have f_22 := K2_kind_bd i hP
      refine z_bipush B.1 B.2.1 (by decide) dX0_choosePass_69 ?_
      refine z_joinH (P := fun v H' locs' => v = (if ((K2_kind 6 i S)) = 10 then 1 else 0 : Int) ∧ cH D cy (cq q x y) A s.heap S H' locs') (pcJ := 79) (lsJ := ls) (stJ := []) (fun v_23 H locs hv_24 => ?_) (fun hJ_25 => ?_)
      · --
        obtain ⟨hv_24, hM⟩ := hv_24
        have hb_26 : (if ((K2_kind 6 i S)) = 10 then 1 else 0 : Int) = 0 ∨ (if ((K2_kind 6 i S)) = 10 then 1 else 0 : Int) = 1 := by (repeat' split) <;> simp
        have hv_24 := hv_24.symm
        subst hv_24
        refine lv_istore (lv' := [(6, .int (zI ((if ((K2_kind 6 i S)) = 10 then 1 else 0 : Int)))), (5, .int (zI (i + 2))), (4, .int (zI (i + 1))), (3, .int (zI ((K1_mark (30 + ((K2_number 6 i S))) S)))), (2, .int (zI ((K2_number 6 i S)))), (0, .ref (q 10)), (1, .int (zI i))]) B.1 B.2.1 dX0_choosePass_79 hl (by decide) rfl (fun ls hl => ?_)
        refine lv_aload_n B.1 B.2.1 dX0_choosePass_81 rfl (lv_at hl 5 rfl) ?_
        refine c_getr (q := (cq q x y)) (r := 11) B (iC0 _) hK hM 10 1 0 (by decide) rfl rfl (by decide) (by decide) rfl rfl rfl (cFx_r hF 10 1) (List.mem_cons_of_mem _ wC_fRX0_12) dX0_choosePass_82 ?_
        refine lv_iload B.1 B.2.1 dX0_choosePass_85 (lv_at hl 0 rfl) ?_
        refine z_joinH (P := fun v H' locs' => v = (if ((if ((K2_kind 6 i S)) = 10 then 1 else 0 : Int)) = 0 then i + 1 else i + 2 : Int) ∧ cH D cy (cq q x y) A s.heap S H' locs') (pcJ := 97) (lsJ := ls) (stJ := [.ref (q 11)]) (fun v_27 H locs hv_28 => ?_) (fun hJ_29 => ?_)
        · --
          obtain ⟨hv_28, hM⟩ := hv_28
          have hv_28 := hv_28.symm
          subst hv_28
          refine lv_aload_n B.1 B.2.1 dX0_choosePass_97 rfl (lv_at hl 5 rfl) ?_
          refine c_geti (q := (cq q x y)) (x := S.1 10 3) B (iC0 _) hK hM 10 3 0 (by decide) rfl rfl (by decide) (by decide) rfl rfl (by decide) rfl (List.mem_cons_of_mem _ wC_fRX0_58) dX0_choosePass_98 ?_
          have hvo3 := hV.2.1
          refine g_callv (E := "java/lang/UnsupportedOperationException") (As := [.int (zI ((if ((if ((K2_kind 6 i S)) = 10 then 1 else 0 : Int)) = 0 then i + 1 else i + 2 : Int))), .int (zI (S.1 10 3))]) (rest := []) B hK hG hM 11 (by decide) (by decide) rfl (cX1_choose_ok l hl0 D cy q V n0 x y a 6 S hF  ((if ((if ((K2_kind 6 i S)) = 10 then 1 else 0 : Int)) = 0 then i + 1 else i + 2 : Int)) (S.1 10 3) ha36 (by decide) "java/lang/UnsupportedOperationException" hV (by show (S.1 11 3) ≤ 9000; omega)) (cwC 2 B wC_mRX0_159 wC_im_yX1_choose wC_sl_yX1_choose wC_in_RX1 wC_cd_yX1_choose rfl rfl (by decide +kernel) ⟨Nat.le_of_ble_eq_true rfl, Nat.le_of_ble_eq_true rfl⟩) rfl hl.1 rfl (Nat.le_of_ble_eq_true rfl) dX0_choosePass_101 hR (Nat.le_refl _) (cFx_gl hF) (K1_choose_F (S := S) hF hvo3 (by show (S.1 11 3) ≤ 9000; omega)).2 (fun c_30 => (by unfold K0_choosePass; exact ((if_pos c_13).trans ((if_pos c_18).trans (if_neg c_30))))) (fun x y H locs c_30 hM => ?_)
          have hg : gl S ≤ gl (K1_choose ((if ((if ((K2_kind 6 i S)) = 10 then 1 else 0 : Int)) = 0 then i + 1 else i + 2 : Int)) (S.1 10 3) S).2.2 := Nat.le_trans (Nat.le_refl _) (K1_choose_F (S := S) hF hvo3 (by show (S.1 11 3) ≤ 9000; omega)).2
          have hFo : cFx a 6 S := hF
          have f_31 := K1_choose_u (ow := (if ((if ((K2_kind 6 i S)) = 10 then 1 else 0 : Int)) = 0 then i + 1 else i + 2 : Int)) (pl := S.1 10 3) (S := S) hFo hV.2.1 hV.2.2.1
          have f_31b := K1_choose_4 (ow := (if ((if ((K2_kind 6 i S)) = 10 then 1 else 0 : Int)) = 0 then i + 1 else i + 2 : Int)) (pl := S.1 10 3) (S := S)
          have hV : sV (K1_choose ((if ((if ((K2_kind 6 i S)) = 10 then 1 else 0 : Int)) = 0 then i + 1 else i + 2 : Int)) (S.1 10 3) S).2.2 := sV_choose (ow := (if ((if ((K2_kind 6 i S)) = 10 then 1 else 0 : Int)) = 0 then i + 1 else i + 2 : Int)) (pl := S.1 10 3) (S := S) hFo hV (by omega) (by omega) (by omega) (by omega) (by show (S.1 11 4) ≤ 100000; omega)
          have hF : cFx a 6 (K1_choose ((if ((if ((K2_kind 6 i S)) = 10 then 1 else 0 : Int)) = 0 then i + 1 else i + 2 : Int)) (S.1 10 3) S).2.2 := (K1_choose_F (ow := (if ((if ((K2_kind 6 i S)) = 10 then 1 else 0 : Int)) = 0 then i + 1 else i + 2 : Int)) (pl := S.1 10 3) (S := S) hFo hvo3 (by show (S.1 11 3) ≤ 9000; omega)).1
          have hP := pB_choose (ow := (if ((if ((K2_kind 6 i S)) = 10 then 1 else 0 : Int)) = 0 then i + 1 else i + 2 : Int)) (pl := S.1 10 3) (S := S) hP
          refine lv_iload B.1 B.2.1 dX0_choosePass_104 (lv_at hl 0 rfl) ?_
          refine z_joinH (P := fun v H' locs' => v = (if ((if ((K2_kind 6 i S)) = 10 then 1 else 0 : Int)) = 0 then i + 2 else i + 1 : Int) ∧ cH D cy (cq q x y) A s.heap (K1_choose ((if ((if ((K2_kind 6 i S)) = 10 then 1 else 0 : Int)) = 0 then i + 1 else i + 2 : Int)) (S.1 10 3) S).2.2 H' locs') (pcJ := 116) (lsJ := ls) (stJ := []) (fun v_32 H locs hv_33 => ?_) (fun hJ_34 => ?_)
          · --
            obtain ⟨hv_33, hM⟩ := hv_33
            have hv_33 := hv_33.symm
            subst hv_33
            exact g_reti (S := (K1_choose ((if ((if ((K2_kind 6 i S)) = 10 then 1 else 0 : Int)) = 0 then i + 1 else i + 2 : Int)) (S.1 10 3) S).2.2) B hM (by unfold K0_choosePass; exact ((if_pos c_13).trans ((if_pos c_18).trans (if_pos c_30)))) dX0_choosePass_116
          · --
            refine z_if_eq (tgt := 114) B.1 B.2.1 (zr_of (by omega) (by omega)) dX0_choosePass_106 (by decide) (fun c_35 => ?_) (fun c_35 => ?_)
            · --
              refine lv_iload B.1 B.2.1 dX0_choosePass_114 (lv_at hl 1 rfl) ?_
              exact hJ_34 _ _ _ ⟨(if_pos c_35).symm, hM⟩
            · --
              refine lv_iload B.1 B.2.1 dX0_choosePass_109 (lv_at hl 2 rfl) ?_
              refine lv_goto (tgt := 116) B.1 B.2.1 dX0_choosePass_111 (by decide) ?_
              exact hJ_34 _ _ _ ⟨(if_neg c_35).symm, hM⟩
        · --
          refine z_if_eq (tgt := 95) B.1 B.2.1 (zr_of (by omega) (by omega)) dX0_choosePass_87 (by decide) (fun c_36 => ?_) (fun c_36 => ?_)
          · --
            refine lv_iload B.1 B.2.1 dX0_choosePass_95 (lv_at hl 2 rfl) ?_
            exact hJ_29 _ _ _ ⟨(if_pos c_36).symm, hM⟩
          · --
            refine lv_iload B.1 B.2.1 dX0_choosePass_90 (lv_at hl 1 rfl) ?_
            refine lv_goto (tgt := 97) B.1 B.2.1 dX0_choosePass_92 (by decide) ?_
            exact hJ_29 _ _ _ ⟨(if_neg c_36).symm, hM⟩
      · --
        refine z_icmp_ne (tgt := 78) B.1 B.2.1 (zr_of (by omega) (by omega)) (zr_of (by decide) (by decide)) dX0_choosePass_71 (by decide) (fun c_37 => ?_) (fun c_37 => ?_)
        · --
          refine z_iconst B.1 B.2.1 dX0_choosePass_78 ?_
          exact hJ_25 _ _ _ ⟨(if_neg c_37).symm, hM⟩
        · --
          refine z_iconst B.1 B.2.1 dX0_choosePass_74 ?_
          refine lv_goto (tgt := 79) B.1 B.2.1 dX0_choosePass_75 (by decide) ?_
          exact hJ_25 _ _ _ ⟨(if_pos c_37).symm, hM⟩
    · --
      refine lv_iload B.1 B.2.1 dX0_choosePass_58 (lv_at hl 0 rfl) ?_
      exact g_reti (S := S) B hM (by unfold K0_choosePass; exact ((if_pos c_13).trans (if_neg c_18))) dX0_choosePass_60
  · --
    refine lv_iload B.1 B.2.1 dX0_choosePass_43 (lv_at hl 1 rfl) ?_
    exact g_reti (S := S) B hM (by unfold K0_choosePass; exact (if_neg c_13)) dX0_choosePass_45
theorem K0_choosePass_F {i : Int} {S : CSt} {a b : Nat} (hF : cFx a b S) (h0 : 0 ≤ S.1 11 3) (h1 : S.1 11 3 ≤ 9000) : gl S ≤ gl (K0_choosePass i S).2.2 := by
  unfold K0_choosePass
  (repeat' split) <;> first | exact Nat.le_refl _ | exact (K1_choose_F hF h0 h1).2
theorem K0_choosePass_0 {i : Int} {S : CSt} : (K0_choosePass i S).1 = 0 := by
  unfold K0_choosePass
  (repeat' split) <;> first | rfl | (rename_i h; exact absurd K1_choose_0 h)
def K0_enterLoop (i : Int) (S : CSt) : CR := (if ((K2_aim 6 i S)) = (-1) then (0, i + 1, S) else (if (K1_set (30 + ((K2_number 6 ((K2_aim 6 i S)) S))) 0 S).1 = 0 then (if (K0_choosePass ((K2_aim 6 i S)) (K1_set (30 + ((K2_number 6 ((K2_aim 6 i S)) S))) 0 S).2.2).1 = 0 then (0, (K0_choosePass ((K2_aim 6 i S)) (K1_set (30 + ((K2_number 6 ((K2_aim 6 i S)) S))) 0 S).2.2).2.1, (K0_choosePass ((K2_aim 6 i S)) (K1_set (30 + ((K2_number 6 ((K2_aim 6 i S)) S))) 0 S).2.2).2.2) else (1, 0, (K0_choosePass ((K2_aim 6 i S)) (K1_set (30 + ((K2_number 6 ((K2_aim 6 i S)) S))) 0 S).2.2).2.2)) else (1, 0, (K1_set (30 + ((K2_number 6 ((K2_aim 6 i S)) S))) 0 S).2.2)))
set_option maxHeartbeats 1000000 in
set_option maxRecDepth 100000 in
theorem cX0_enterLoop_ok (l : Launch) (hl0 : l.stackTraces = false) (D : va_G) (cy : Nat → ClassId) (q : Nat → Nat) (V : Nat × (Nat → Nat)) (n0 x y a : Nat) (S : CSt) (hF : cFx a 6 S) (i : Int) (ha36 : a < 36) (hX : xV S) (h0 : 0 ≤ i) (h1 : i ≤ 1000)(hc4 : S.1 11 4 ≤ 11900) (hc3 : S.1 11 3 ≤ 8990) : gMi l D cy q V n0 x y "java/lang/UnsupportedOperationException" yX0_enterLoop (.code yX0_enterLoop cX0_enterLoop 3 (some .int) :: TBC) 4 130 S [.ref (q 10), .int (zI i)] (K0_enterLoop i S) := by
  refine g_of (cc := cX0_enterLoop) (maxL := 3) (ret := (some .int)) (by decide) rfl rfl (Nat.le_of_ble_eq_true rfl) ?_
  intro p e s m args below meth c ls B hK hG hM hl
  generalize gA (cq q x y) n0 = A at hG hM ⊢
  have hR : (headSpec (.code yX0_enterLoop cX0_enterLoop 3 (some .int) :: TBC) (gRm 4 130 S)).room.cells = (gK - gl S) + 1 ∧ (headSpec (.code yX0_enterLoop cX0_enterLoop 3 (some .int) :: TBC) (gRm 4 130 S)).room.slots = 2 * (gK - gl S) + 6 := ⟨rfl, rfl⟩
  have hl : lv_has ls 3 [(0, .ref (q 10)), (1, .int (zI i))] := hl
  obtain ⟨hV, hP, ht0, ht1, hcs, hp0, hp1, hs0, hs1, h18, h24, h25, h35⟩ := id hX
  obtain ⟨hMk, hu30, hu31, hu40, hu41, hM6, hM7⟩ := id hV
  refine lv_aload_n B.1 B.2.1 dX0_enterLoop_0 rfl (lv_at hl 0 rfl) ?_
  refine c_getr (q := (cq q x y)) (r := 6) B (iC0 _) hK hM 10 2 0 (by decide) rfl rfl (by decide) (by decide) rfl rfl rfl (cFx_r hF 10 2) (List.mem_cons_of_mem _ wC_fRX0_22) dX0_enterLoop_1 ?_
  refine lv_iload_n B.1 B.2.1 dX0_enterLoop_4 rfl (lv_at hl 1 rfl) ?_
  refine c_calli (q := (cq q x y)) (As := [.int (zI i)]) (rest := []) B hK hM 6 (by decide) (by decide) rfl (cX2_aim_ok l D cy (cq q x y) a 6 S hF 6 (by decide) i hP (by show -1000000000 ≤ i; omega) (by show i ≤ 1000000000; omega)) (cwC 1 B wC_mRX0_94 wC_im_yX2_aim wC_sl_yX2_aim wC_in_RX2 wC_cd_yX2_aim rfl rfl (by decide +kernel) ⟨Nat.le_of_ble_eq_true rfl, Nat.le_of_ble_eq_true rfl⟩) rfl hl.1 rfl (Nat.le_of_ble_eq_true rfl) dX0_enterLoop_5 ⟨g_rc hR (Nat.le_refl _) (cFx_gl hF), g_rs hR (Nat.le_refl _) (cFx_gl hF)⟩ (fun z_3 S_2 H locs hp_1 hM => ?_)
  obtain ⟨hp_1, he_hp_1⟩ := hp_1
  have he_hp_1 := he_hp_1.symm
  subst he_hp_1
  have hp_1 : (K2_aim 6 i S) = z_3 := hp_1.symm
  subst hp_1
  have f_4 := K2_aim_bd i hP
  have f_5 := K2_aim_b2 (S := S) i h18
  refine lv_istore_n (lv' := [(2, .int (zI ((K2_aim 6 i S)))), (0, .ref (q 10)), (1, .int (zI i))]) B.1 B.2.1 dX0_enterLoop_8 rfl hl (by decide) rfl (fun ls hl => ?_)
  refine lv_iload_n B.1 B.2.1 dX0_enterLoop_9 rfl (lv_at hl 0 rfl) ?_
  refine z_iconst B.1 B.2.1 dX0_enterLoop_10 ?_
  refine z_icmp_ne (tgt := 18) B.1 B.2.1 (zr_of (by omega) (by omega)) (zr_of (by decide) (by decide)) dX0_enterLoop_11 (by decide) (fun c_6 => ?_) (fun c_6 => ?_)
  · --
    refine lv_aload_n B.1 B.2.1 dX0_enterLoop_18 rfl (lv_at hl 1 rfl) ?_
    refine c_getr (q := (cq q x y)) (r := 11) B (iC0 _) hK hM 10 1 0 (by decide) rfl rfl (by decide) (by decide) rfl rfl rfl (cFx_r hF 10 1) (List.mem_cons_of_mem _ wC_fRX0_12) dX0_enterLoop_19 ?_
    refine z_bipush B.1 B.2.1 (by decide) dX0_enterLoop_22 ?_
    refine lv_aload_n B.1 B.2.1 dX0_enterLoop_24 rfl (lv_at hl 1 rfl) ?_
    refine c_getr (q := (cq q x y)) (r := 6) B (iC0 _) hK hM 10 2 0 (by decide) rfl rfl (by decide) (by decide) rfl rfl rfl (cFx_r hF 10 2) (List.mem_cons_of_mem _ wC_fRX0_22) dX0_enterLoop_25 ?_
    refine lv_iload_n B.1 B.2.1 dX0_enterLoop_28 rfl (lv_at hl 0 rfl) ?_
    refine c_calli (q := (cq q x y)) (As := [.int (zI ((K2_aim 6 i S)))]) (rest := [.int (zI 30), .ref (q 11)]) B hK hM 6 (by decide) (by decide) rfl (cX2_number_ok l D cy (cq q x y) a 6 S hF 6 (by decide) ((K2_aim 6 i S)) hP (by show -1000000000 ≤ ((K2_aim 6 i S)); omega) (by show ((K2_aim 6 i S)) ≤ 1000000000; omega)) (cwC 1 B wC_mRX0_142 wC_im_yX2_number wC_sl_yX2_number wC_in_RX2 wC_cd_yX2_number rfl rfl (by decide +kernel) ⟨Nat.le_of_ble_eq_true rfl, Nat.le_of_ble_eq_true rfl⟩) rfl hl.1 rfl (Nat.le_of_ble_eq_true rfl) dX0_enterLoop_29 ⟨g_rc hR (Nat.le_refl _) (cFx_gl hF), g_rs hR (Nat.le_refl _) (cFx_gl hF)⟩ (fun z_9 S_8 H locs hp_7 hM => ?_)
    obtain ⟨hp_7, he_hp_7⟩ := hp_7
    have he_hp_7 := he_hp_7.symm
    subst he_hp_7
    have hp_7 : (K2_number 6 ((K2_aim 6 i S)) S) = z_9 := hp_7.symm
    subst hp_7
    have f_10 := K2_number_bd ((K2_aim 6 i S)) hP
    refine z_iadd (x := 30 + ((K2_number 6 ((K2_aim 6 i S)) S))) B.1 B.2.1 rfl dX0_enterLoop_32 ?_
    refine z_iconst B.1 B.2.1 dX0_enterLoop_33 ?_
    have hvo4 := hV.2.2.2.1
    refine g_callv (E := "java/lang/UnsupportedOperationException") (As := [.int (zI (30 + ((K2_number 6 ((K2_aim 6 i S)) S)))), .int (zI 0)]) (rest := []) B hK hG hM 11 (by decide) (by decide) rfl (cX1_set_ok l hl0 D cy q V n0 x y a 6 S hF  (30 + ((K2_number 6 ((K2_aim 6 i S)) S))) 0 ha36 (by decide) "java/lang/UnsupportedOperationException" (by show -2000000 ≤ (30 + ((K2_number 6 ((K2_aim 6 i S)) S))); omega) (by show (30 + ((K2_number 6 ((K2_aim 6 i S)) S))) ≤ 2000000; omega) (by show -1 ≤ 0; omega) (by show 0 ≤ 100000; omega) hV (by show (S.1 11 4) ≤ 12000; omega)) (cwC 2 B wC_mRX0_65 wC_im_yX1_set wC_sl_yX1_set wC_in_RX1 wC_cd_yX1_set rfl rfl (by decide +kernel) ⟨Nat.le_of_ble_eq_true rfl, Nat.le_of_ble_eq_true rfl⟩) rfl hl.1 rfl (Nat.le_of_ble_eq_true rfl) dX0_enterLoop_34 hR (Nat.le_refl _) (cFx_gl hF) (K1_set_F (S := S) hF hvo4 (by show (S.1 11 4) ≤ 12000; omega)).2 (fun c_11 => (by unfold K0_enterLoop; exact ((if_neg c_6).trans (if_neg c_11)))) (fun x y H locs c_11 hM => ?_)
    have hg : gl S ≤ gl (K1_set (30 + ((K2_number 6 ((K2_aim 6 i S)) S))) 0 S).2.2 := Nat.le_trans (Nat.le_refl _) (K1_set_F (S := S) hF hvo4 (by show (S.1 11 4) ≤ 12000; omega)).2
    have hFo : cFx a 6 S := hF
    have f_12 := K1_set_u (i := 30 + ((K2_number 6 ((K2_aim 6 i S)) S))) (v := 0) (S := S) hFo hV.2.2.2.1 hV.2.2.2.2.1
    have f_12b := K1_set_3 (i := 30 + ((K2_number 6 ((K2_aim 6 i S)) S))) (v := 0) (S := S)
    have hV : sV (K1_set (30 + ((K2_number 6 ((K2_aim 6 i S)) S))) 0 S).2.2 := sV_set (i := 30 + ((K2_number 6 ((K2_aim 6 i S)) S))) (v := 0) (S := S) hFo hV (by omega) (by omega)
    have hF : cFx a 6 (K1_set (30 + ((K2_number 6 ((K2_aim 6 i S)) S))) 0 S).2.2 := (K1_set_F (i := 30 + ((K2_number 6 ((K2_aim 6 i S)) S))) (v := 0) (S := S) hFo hvo4 (by show (S.1 11 4) ≤ 12000; omega)).1
    have hP := pB_set (i := 30 + ((K2_number 6 ((K2_aim 6 i S)) S))) (v := 0) (S := S) hP
    refine lv_aload_n B.1 B.2.1 dX0_enterLoop_37 rfl (lv_at hl 1 rfl) ?_
    refine lv_iload_n B.1 B.2.1 dX0_enterLoop_38 rfl (lv_at hl 0 rfl) ?_
    refine g_calli (E := "java/lang/UnsupportedOperationException") (As := [.int (zI ((K2_aim 6 i S)))]) (rest := []) B hK hG hM 10 (by decide) (by decide) rfl (cX0_choosePass_ok l hl0 D cy q V n0 x y a (K1_set (30 + ((K2_number 6 ((K2_aim 6 i S)) S))) 0 S).2.2 hF  ((K2_aim 6 i S)) ha36 hV hP (by (try simp only [K1_set_1 (m := 10) (by decide) (by decide) (by decide)]); omega) (by (try simp only [K1_set_1 (m := 10) (by decide) (by decide) (by decide)]); omega) (by show 0 ≤ ((K2_aim 6 i S)); omega) (by show ((K2_aim 6 i S)) ≤ 1000; omega) (by show ((K1_set (30 + ((K2_number 6 ((K2_aim 6 i S)) S))) 0 S).2.2.1 11 4) ≤ 12000; omega) (by show ((K1_set (30 + ((K2_number 6 ((K2_aim 6 i S)) S))) 0 S).2.2.1 11 3) ≤ 8990; omega)) (cwC 1 B wC_mRX0_162 wC_im_yX0_choosePass wC_sl_yX0_choosePass wC_in_RX0 wC_cd_yX0_choosePass rfl rfl (by decide +kernel) ⟨Nat.le_of_ble_eq_true rfl, Nat.le_of_ble_eq_true rfl⟩) rfl hl.1 rfl (Nat.le_of_ble_eq_true rfl) dX0_enterLoop_39 hR hg (cFx_gl hF) (K0_choosePass_F (S := (K1_set (30 + ((K2_number 6 ((K2_aim 6 i S)) S))) 0 S).2.2) hF hV.2.1 (by show ((K1_set (30 + ((K2_number 6 ((K2_aim 6 i S)) S))) 0 S).2.2.1 11 3) ≤ 9000; omega)) (fun c_13 => (by unfold K0_enterLoop; exact ((if_neg c_6).trans ((if_pos c_11).trans (if_neg c_13))))) (fun x y H locs c_13 hM => ?_)
    have hg : gl S ≤ gl (K0_choosePass ((K2_aim 6 i S)) (K1_set (30 + ((K2_number 6 ((K2_aim 6 i S)) S))) 0 S).2.2).2.2 := Nat.le_trans hg (K0_choosePass_F (S := (K1_set (30 + ((K2_number 6 ((K2_aim 6 i S)) S))) 0 S).2.2) hF hV.2.1 (by show ((K1_set (30 + ((K2_number 6 ((K2_aim 6 i S)) S))) 0 S).2.2.1 11 3) ≤ 9000; omega))
    exact g_reti (S := (K0_choosePass ((K2_aim 6 i S)) (K1_set (30 + ((K2_number 6 ((K2_aim 6 i S)) S))) 0 S).2.2).2.2) B hM (by unfold K0_enterLoop; exact ((if_neg c_6).trans ((if_pos c_11).trans (if_pos c_13)))) dX0_enterLoop_42
  · --
    refine lv_iload_n B.1 B.2.1 dX0_enterLoop_14 rfl (lv_at hl 2 rfl) ?_
    refine z_iconst B.1 B.2.1 dX0_enterLoop_15 ?_
    refine z_iadd (x := i + 1) B.1 B.2.1 rfl dX0_enterLoop_16 ?_
    exact g_reti (S := S) B hM (by unfold K0_enterLoop; exact (if_pos c_6)) dX0_enterLoop_17
def K0_endPass (i : Int) (S : CSt) : CR := (if (((K1_mark (30 + ((K2_number 6 i S))) S)) + 1) ≤ ((K2_least 6 ((K2_number 6 i S)) S)) then (if (K1_set (30 + ((K2_number 6 i S))) (((K1_mark (30 + ((K2_number 6 i S))) S)) + 1) S).1 = 0 then (if (K0_choosePass i (K1_set (30 + ((K2_number 6 i S))) (((K1_mark (30 + ((K2_number 6 i S))) S)) + 1) S).2.2).1 = 0 then (0, (K0_choosePass i (K1_set (30 + ((K2_number 6 i S))) (((K1_mark (30 + ((K2_number 6 i S))) S)) + 1) S).2.2).2.1, (K0_choosePass i (K1_set (30 + ((K2_number 6 i S))) (((K1_mark (30 + ((K2_number 6 i S))) S)) + 1) S).2.2).2.2) else (1, 0, (K0_choosePass i (K1_set (30 + ((K2_number 6 i S))) (((K1_mark (30 + ((K2_number 6 i S))) S)) + 1) S).2.2).2.2)) else (1, 0, (K1_set (30 + ((K2_number 6 i S))) (((K1_mark (30 + ((K2_number 6 i S))) S)) + 1) S).2.2)) else (if ((K1_mark (50 + ((K2_number 6 i S))) S)) = (S.1 10 3) then (0, (-1), S) else (if (K1_set (30 + ((K2_number 6 i S))) (((K1_mark (30 + ((K2_number 6 i S))) S)) + 1) S).1 = 0 then (if (K0_choosePass i (K1_set (30 + ((K2_number 6 i S))) (((K1_mark (30 + ((K2_number 6 i S))) S)) + 1) S).2.2).1 = 0 then (0, (K0_choosePass i (K1_set (30 + ((K2_number 6 i S))) (((K1_mark (30 + ((K2_number 6 i S))) S)) + 1) S).2.2).2.1, (K0_choosePass i (K1_set (30 + ((K2_number 6 i S))) (((K1_mark (30 + ((K2_number 6 i S))) S)) + 1) S).2.2).2.2) else (1, 0, (K0_choosePass i (K1_set (30 + ((K2_number 6 i S))) (((K1_mark (30 + ((K2_number 6 i S))) S)) + 1) S).2.2).2.2)) else (1, 0, (K1_set (30 + ((K2_number 6 i S))) (((K1_mark (30 + ((K2_number 6 i S))) S)) + 1) S).2.2))))
set_option maxHeartbeats 1000000 in
set_option maxRecDepth 100000 in
theorem cX0_endPass_ok (l : Launch) (hl0 : l.stackTraces = false) (D : va_G) (cy : Nat → ClassId) (q : Nat → Nat) (V : Nat × (Nat → Nat)) (n0 x y a : Nat) (S : CSt) (hF : cFx a 6 S) (i : Int) (ha36 : a < 36) (hX : xV S) (h0 : 0 ≤ i) (h1 : i ≤ 1000)(hc4 : S.1 11 4 ≤ 11900) (hc3 : S.1 11 3 ≤ 8990) : gMi l D cy q V n0 x y "java/lang/UnsupportedOperationException" yX0_endPass (.code yX0_endPass cX0_endPass 4 (some .int) :: TBC) 4 130 S [.ref (q 10), .int (zI i)] (K0_endPass i S) := by
  refine g_of (cc := cX0_endPass) (maxL := 4) (ret := (some .int)) (by decide) rfl rfl (Nat.le_of_ble_eq_true rfl) ?_
  intro p e s m args below meth c ls B hK hG hM hl
  generalize gA (cq q x y) n0 = A at hG hM ⊢
  have hR : (headSpec (.code yX0_endPass cX0_endPass 4 (some .int) :: TBC) (gRm 4 130 S)).room.cells = (gK - gl S) + 1 ∧ (headSpec (.code yX0_endPass cX0_endPass 4 (some .int) :: TBC) (gRm 4 130 S)).room.slots = 2 * (gK - gl S) + 6 := ⟨rfl, rfl⟩
  have hl : lv_has ls 4 [(0, .ref (q 10)), (1, .int (zI i))] := hl
  obtain ⟨hV, hP, ht0, ht1, hcs, hp0, hp1, hs0, hs1, h18, h24, h25, h35⟩ := id hX
  obtain ⟨hMk, hu30, hu31, hu40, hu41, hM6, hM7⟩ := id hV
  refine lv_aload_n B.1 B.2.1 dX0_endPass_0 rfl (lv_at hl 0 rfl) ?_
  refine c_getr (q := (cq q x y)) (r := 6) B (iC0 _) hK hM 10 2 0 (by decide) rfl rfl (by decide) (by decide) rfl rfl rfl (cFx_r hF 10 2) (List.mem_cons_of_mem _ wC_fRX0_22) dX0_endPass_1 ?_
  refine lv_iload_n B.1 B.2.1 dX0_endPass_4 rfl (lv_at hl 1 rfl) ?_
  refine c_calli (q := (cq q x y)) (As := [.int (zI i)]) (rest := []) B hK hM 6 (by decide) (by decide) rfl (cX2_number_ok l D cy (cq q x y) a 6 S hF 6 (by decide) i hP (by show -1000000000 ≤ i; omega) (by show i ≤ 1000000000; omega)) (cwC 1 B wC_mRX0_142 wC_im_yX2_number wC_sl_yX2_number wC_in_RX2 wC_cd_yX2_number rfl rfl (by decide +kernel) ⟨Nat.le_of_ble_eq_true rfl, Nat.le_of_ble_eq_true rfl⟩) rfl hl.1 rfl (Nat.le_of_ble_eq_true rfl) dX0_endPass_5 ⟨g_rc hR (Nat.le_refl _) (cFx_gl hF), g_rs hR (Nat.le_refl _) (cFx_gl hF)⟩ (fun z_3 S_2 H locs hp_1 hM => ?_)
  obtain ⟨hp_1, he_hp_1⟩ := hp_1
  have he_hp_1 := he_hp_1.symm
  subst he_hp_1
  have hp_1 : (K2_number 6 i S) = z_3 := hp_1.symm
  subst hp_1
  have f_4 := K2_number_bd i hP
  refine lv_istore_n (lv' := [(2, .int (zI ((K2_number 6 i S)))), (0, .ref (q 10)), (1, .int (zI i))]) B.1 B.2.1 dX0_endPass_8 rfl hl (by decide) rfl (fun ls hl => ?_)
  refine lv_aload_n B.1 B.2.1 dX0_endPass_9 rfl (lv_at hl 1 rfl) ?_
  refine c_getr (q := (cq q x y)) (r := 11) B (iC0 _) hK hM 10 1 0 (by decide) rfl rfl (by decide) (by decide) rfl rfl rfl (cFx_r hF 10 1) (List.mem_cons_of_mem _ wC_fRX0_12) dX0_endPass_10 ?_
  refine z_bipush B.1 B.2.1 (by decide) dX0_endPass_13 ?_
  refine lv_iload_n B.1 B.2.1 dX0_endPass_15 rfl (lv_at hl 0 rfl) ?_
  refine z_iadd (x := 30 + ((K2_number 6 i S))) B.1 B.2.1 rfl dX0_endPass_16 ?_
  refine c_calli (q := (cq q x y)) (As := [.int (zI (30 + ((K2_number 6 i S))))]) (rest := []) B hK hM 11 (by decide) (by decide) rfl (cX1_mark_ok l D cy (cq q x y) a 6 S hF  (30 + ((K2_number 6 i S))) (by show -2000000 ≤ (30 + ((K2_number 6 i S))); omega) (by show (30 + ((K2_number 6 i S))) ≤ 2000000; omega)) (cwC 1 B wC_mRX0_51 wC_im_yX1_mark wC_sl_yX1_mark wC_in_RX1 wC_cd_yX1_mark rfl rfl (by decide +kernel) ⟨Nat.le_of_ble_eq_true rfl, Nat.le_of_ble_eq_true rfl⟩) rfl hl.1 rfl (Nat.le_of_ble_eq_true rfl) dX0_endPass_17 ⟨g_rc hR (Nat.le_refl _) (cFx_gl hF), g_rs hR (Nat.le_refl _) (cFx_gl hF)⟩ (fun z_7 S_6 H locs hp_5 hM => ?_)
  obtain ⟨hp_5, he_hp_5⟩ := hp_5
  have he_hp_5 := he_hp_5.symm
  subst he_hp_5
  have hp_5 : (K1_mark (30 + ((K2_number 6 i S))) S) = z_7 := hp_5.symm
  subst hp_5
  have f_8 := K1_mark_bd (S := S) (30 + ((K2_number 6 i S))) hV
  refine z_iconst B.1 B.2.1 dX0_endPass_20 ?_
  refine z_iadd (x := ((K1_mark (30 + ((K2_number 6 i S))) S)) + 1) B.1 B.2.1 rfl dX0_endPass_21 ?_
  refine lv_istore_n (lv' := [(3, .int (zI (((K1_mark (30 + ((K2_number 6 i S))) S)) + 1))), (2, .int (zI ((K2_number 6 i S)))), (0, .ref (q 10)), (1, .int (zI i))]) B.1 B.2.1 dX0_endPass_22 rfl hl (by decide) rfl (fun ls hl => ?_)
  have hmk := K1_mark_b2 (S := S) (30 + K2_number 6 i S) h35
  refine lv_iload_n B.1 B.2.1 dX0_endPass_23 rfl (lv_at hl 0 rfl) ?_
  refine lv_aload_n B.1 B.2.1 dX0_endPass_24 rfl (lv_at hl 2 rfl) ?_
  refine c_getr (q := (cq q x y)) (r := 6) B (iC0 _) hK hM 10 2 0 (by decide) rfl rfl (by decide) (by decide) rfl rfl rfl (cFx_r hF 10 2) (List.mem_cons_of_mem _ wC_fRX0_22) dX0_endPass_25 ?_
  refine lv_iload_n B.1 B.2.1 dX0_endPass_28 rfl (lv_at hl 1 rfl) ?_
  refine c_calli (q := (cq q x y)) (As := [.int (zI ((K2_number 6 i S)))]) (rest := [.int (zI (((K1_mark (30 + ((K2_number 6 i S))) S)) + 1))]) B hK hM 6 (by decide) (by decide) rfl (cX2_least_ok l D cy (cq q x y) a 6 S hF 6 (by decide) ((K2_number 6 i S)) hP (by show -1000000000 ≤ ((K2_number 6 i S)); omega) (by show ((K2_number 6 i S)) ≤ 1000000000; omega)) (cwC 1 B wC_mRX0_165 wC_im_yX2_least wC_sl_yX2_least wC_in_RX2 wC_cd_yX2_least rfl rfl (by decide +kernel) ⟨Nat.le_of_ble_eq_true rfl, Nat.le_of_ble_eq_true rfl⟩) rfl hl.1 rfl (Nat.le_of_ble_eq_true rfl) dX0_endPass_29 ⟨g_rc hR (Nat.le_refl _) (cFx_gl hF), g_rs hR (Nat.le_refl _) (cFx_gl hF)⟩ (fun z_11 S_10 H locs hp_9 hM => ?_)
  obtain ⟨hp_9, he_hp_9⟩ := hp_9
  have he_hp_9 := he_hp_9.symm
  subst he_hp_9
  have hp_9 : (K2_least 6 ((K2_number 6 i S)) S) = z_11 := hp_9.symm
  subst hp_9
  have f_12 := K2_least_bd ((K2_number 6 i S)) hP
  refine z_icmp_le (tgt := 55) B.1 B.2.1 (zr_of (by omega) (by omega)) (zr_of (by omega) (by omega)) dX0_endPass_32 (by decide) (fun c_13 => ?_) (fun c_13 => ?_)
  · --
    refine lv_aload_n B.1 B.2.1 dX0_endPass_55 rfl (lv_at hl 2 rfl) ?_
    refine c_getr (q := (cq q x y)) (r := 11) B (iC0 _) hK hM 10 1 0 (by decide) rfl rfl (by decide) (by decide) rfl rfl rfl (cFx_r hF 10 1) (List.mem_cons_of_mem _ wC_fRX0_12) dX0_endPass_56 ?_
    refine z_bipush B.1 B.2.1 (by decide) dX0_endPass_59 ?_
    refine lv_iload_n B.1 B.2.1 dX0_endPass_61 rfl (lv_at hl 1 rfl) ?_
    refine z_iadd (x := 30 + ((K2_number 6 i S))) B.1 B.2.1 rfl dX0_endPass_62 ?_
    refine lv_iload_n B.1 B.2.1 dX0_endPass_63 rfl (lv_at hl 0 rfl) ?_
    have hvo4 := hV.2.2.2.1
    refine g_callv (E := "java/lang/UnsupportedOperationException") (As := [.int (zI (30 + ((K2_number 6 i S)))), .int (zI (((K1_mark (30 + ((K2_number 6 i S))) S)) + 1))]) (rest := []) B hK hG hM 11 (by decide) (by decide) rfl (cX1_set_ok l hl0 D cy q V n0 x y a 6 S hF  (30 + ((K2_number 6 i S))) (((K1_mark (30 + ((K2_number 6 i S))) S)) + 1) ha36 (by decide) "java/lang/UnsupportedOperationException" (by show -2000000 ≤ (30 + ((K2_number 6 i S))); omega) (by show (30 + ((K2_number 6 i S))) ≤ 2000000; omega) (by show -1 ≤ (((K1_mark (30 + ((K2_number 6 i S))) S)) + 1); omega) (by show (((K1_mark (30 + ((K2_number 6 i S))) S)) + 1) ≤ 100000; omega) hV (by show (S.1 11 4) ≤ 12000; omega)) (cwC 2 B wC_mRX0_65 wC_im_yX1_set wC_sl_yX1_set wC_in_RX1 wC_cd_yX1_set rfl rfl (by decide +kernel) ⟨Nat.le_of_ble_eq_true rfl, Nat.le_of_ble_eq_true rfl⟩) rfl hl.1 rfl (Nat.le_of_ble_eq_true rfl) dX0_endPass_64 hR (Nat.le_refl _) (cFx_gl hF) (K1_set_F (S := S) hF hvo4 (by show (S.1 11 4) ≤ 12000; omega)).2 (fun c_14 => (by unfold K0_endPass; exact ((if_pos c_13).trans (if_neg c_14)))) (fun x y H locs c_14 hM => ?_)
    have hg : gl S ≤ gl (K1_set (30 + ((K2_number 6 i S))) (((K1_mark (30 + ((K2_number 6 i S))) S)) + 1) S).2.2 := Nat.le_trans (Nat.le_refl _) (K1_set_F (S := S) hF hvo4 (by show (S.1 11 4) ≤ 12000; omega)).2
    have hFo : cFx a 6 S := hF
    have f_15 := K1_set_u (i := 30 + ((K2_number 6 i S))) (v := ((K1_mark (30 + ((K2_number 6 i S))) S)) + 1) (S := S) hFo hV.2.2.2.1 hV.2.2.2.2.1
    have f_15b := K1_set_3 (i := 30 + ((K2_number 6 i S))) (v := ((K1_mark (30 + ((K2_number 6 i S))) S)) + 1) (S := S)
    have hV : sV (K1_set (30 + ((K2_number 6 i S))) (((K1_mark (30 + ((K2_number 6 i S))) S)) + 1) S).2.2 := sV_set (i := 30 + ((K2_number 6 i S))) (v := ((K1_mark (30 + ((K2_number 6 i S))) S)) + 1) (S := S) hFo hV (by omega) (by omega)
    have hF : cFx a 6 (K1_set (30 + ((K2_number 6 i S))) (((K1_mark (30 + ((K2_number 6 i S))) S)) + 1) S).2.2 := (K1_set_F (i := 30 + ((K2_number 6 i S))) (v := ((K1_mark (30 + ((K2_number 6 i S))) S)) + 1) (S := S) hFo hvo4 (by show (S.1 11 4) ≤ 12000; omega)).1
    have hP := pB_set (i := 30 + ((K2_number 6 i S))) (v := ((K1_mark (30 + ((K2_number 6 i S))) S)) + 1) (S := S) hP
    refine lv_aload_n B.1 B.2.1 dX0_endPass_67 rfl (lv_at hl 2 rfl) ?_
    refine lv_iload_n B.1 B.2.1 dX0_endPass_68 rfl (lv_at hl 3 rfl) ?_
    refine g_calli (E := "java/lang/UnsupportedOperationException") (As := [.int (zI i)]) (rest := []) B hK hG hM 10 (by decide) (by decide) rfl (cX0_choosePass_ok l hl0 D cy q V n0 x y a (K1_set (30 + ((K2_number 6 i S))) (((K1_mark (30 + ((K2_number 6 i S))) S)) + 1) S).2.2 hF  i ha36 hV hP (by (try simp only [K1_set_1 (m := 10) (by decide) (by decide) (by decide)]); omega) (by (try simp only [K1_set_1 (m := 10) (by decide) (by decide) (by decide)]); omega) (by show 0 ≤ i; omega) (by show i ≤ 1000; omega) (by show ((K1_set (30 + ((K2_number 6 i S))) (((K1_mark (30 + ((K2_number 6 i S))) S)) + 1) S).2.2.1 11 4) ≤ 12000; omega) (by show ((K1_set (30 + ((K2_number 6 i S))) (((K1_mark (30 + ((K2_number 6 i S))) S)) + 1) S).2.2.1 11 3) ≤ 8990; omega)) (cwC 1 B wC_mRX0_162 wC_im_yX0_choosePass wC_sl_yX0_choosePass wC_in_RX0 wC_cd_yX0_choosePass rfl rfl (by decide +kernel) ⟨Nat.le_of_ble_eq_true rfl, Nat.le_of_ble_eq_true rfl⟩) rfl hl.1 rfl (Nat.le_of_ble_eq_true rfl) dX0_endPass_69 hR hg (cFx_gl hF) (K0_choosePass_F (S := (K1_set (30 + ((K2_number 6 i S))) (((K1_mark (30 + ((K2_number 6 i S))) S)) + 1) S).2.2) hF hV.2.1 (by show ((K1_set (30 + ((K2_number 6 i S))) (((K1_mark (30 + ((K2_number 6 i S))) S)) + 1) S).2.2.1 11 3) ≤ 9000; omega)) (fun c_16 => (by unfold K0_endPass; exact ((if_pos c_13).trans ((if_pos c_14).trans (if_neg c_16))))) (fun x y H locs c_16 hM => ?_)
    have hg : gl S ≤ gl (K0_choosePass i (K1_set (30 + ((K2_number 6 i S))) (((K1_mark (30 + ((K2_number 6 i S))) S)) + 1) S).2.2).2.2 := Nat.le_trans hg (K0_choosePass_F (S := (K1_set (30 + ((K2_number 6 i S))) (((K1_mark (30 + ((K2_number 6 i S))) S)) + 1) S).2.2) hF hV.2.1 (by show ((K1_set (30 + ((K2_number 6 i S))) (((K1_mark (30 + ((K2_number 6 i S))) S)) + 1) S).2.2.1 11 3) ≤ 9000; omega))
    exact g_reti (S := (K0_choosePass i (K1_set (30 + ((K2_number 6 i S))) (((K1_mark (30 + ((K2_number 6 i S))) S)) + 1) S).2.2).2.2) B hM (by unfold K0_endPass; exact ((if_pos c_13).trans ((if_pos c_14).trans (if_pos c_16)))) dX0_endPass_72
  · --
    refine lv_aload_n B.1 B.2.1 dX0_endPass_35 rfl (lv_at hl 2 rfl) ?_
    refine c_getr (q := (cq q x y)) (r := 11) B (iC0 _) hK hM 10 1 0 (by decide) rfl rfl (by decide) (by decide) rfl rfl rfl (cFx_r hF 10 1) (List.mem_cons_of_mem _ wC_fRX0_12) dX0_endPass_36 ?_
    refine z_bipush B.1 B.2.1 (by decide) dX0_endPass_39 ?_
    refine lv_iload_n B.1 B.2.1 dX0_endPass_41 rfl (lv_at hl 1 rfl) ?_
    refine z_iadd (x := 50 + ((K2_number 6 i S))) B.1 B.2.1 rfl dX0_endPass_42 ?_
    refine c_calli (q := (cq q x y)) (As := [.int (zI (50 + ((K2_number 6 i S))))]) (rest := []) B hK hM 11 (by decide) (by decide) rfl (cX1_mark_ok l D cy (cq q x y) a 6 S hF  (50 + ((K2_number 6 i S))) (by show -2000000 ≤ (50 + ((K2_number 6 i S))); omega) (by show (50 + ((K2_number 6 i S))) ≤ 2000000; omega)) (cwC 1 B wC_mRX0_51 wC_im_yX1_mark wC_sl_yX1_mark wC_in_RX1 wC_cd_yX1_mark rfl rfl (by decide +kernel) ⟨Nat.le_of_ble_eq_true rfl, Nat.le_of_ble_eq_true rfl⟩) rfl hl.1 rfl (Nat.le_of_ble_eq_true rfl) dX0_endPass_43 ⟨g_rc hR (Nat.le_refl _) (cFx_gl hF), g_rs hR (Nat.le_refl _) (cFx_gl hF)⟩ (fun z_19 S_18 H locs hp_17 hM => ?_)
    obtain ⟨hp_17, he_hp_17⟩ := hp_17
    have he_hp_17 := he_hp_17.symm
    subst he_hp_17
    have hp_17 : (K1_mark (50 + ((K2_number 6 i S))) S) = z_19 := hp_17.symm
    subst hp_17
    have f_20 := K1_mark_bd (S := S) (50 + ((K2_number 6 i S))) hV
    refine lv_aload_n B.1 B.2.1 dX0_endPass_46 rfl (lv_at hl 2 rfl) ?_
    refine c_geti (q := (cq q x y)) (x := S.1 10 3) B (iC0 _) hK hM 10 3 0 (by decide) rfl rfl (by decide) (by decide) rfl rfl (by decide) rfl (List.mem_cons_of_mem _ wC_fRX0_58) dX0_endPass_47 ?_
    refine z_icmp_ne (tgt := 55) B.1 B.2.1 (zr_of (by omega) (by omega)) (zr_of (by omega) (by omega)) dX0_endPass_50 (by decide) (fun c_21 => ?_) (fun c_21 => ?_)
    · --
      refine lv_aload_n B.1 B.2.1 dX0_endPass_55 rfl (lv_at hl 2 rfl) ?_
      refine c_getr (q := (cq q x y)) (r := 11) B (iC0 _) hK hM 10 1 0 (by decide) rfl rfl (by decide) (by decide) rfl rfl rfl (cFx_r hF 10 1) (List.mem_cons_of_mem _ wC_fRX0_12) dX0_endPass_56 ?_
      refine z_bipush B.1 B.2.1 (by decide) dX0_endPass_59 ?_
      refine lv_iload_n B.1 B.2.1 dX0_endPass_61 rfl (lv_at hl 1 rfl) ?_
      refine z_iadd (x := 30 + ((K2_number 6 i S))) B.1 B.2.1 rfl dX0_endPass_62 ?_
      refine lv_iload_n B.1 B.2.1 dX0_endPass_63 rfl (lv_at hl 0 rfl) ?_
      have hvo4 := hV.2.2.2.1
      refine g_callv (E := "java/lang/UnsupportedOperationException") (As := [.int (zI (30 + ((K2_number 6 i S)))), .int (zI (((K1_mark (30 + ((K2_number 6 i S))) S)) + 1))]) (rest := []) B hK hG hM 11 (by decide) (by decide) rfl (cX1_set_ok l hl0 D cy q V n0 x y a 6 S hF  (30 + ((K2_number 6 i S))) (((K1_mark (30 + ((K2_number 6 i S))) S)) + 1) ha36 (by decide) "java/lang/UnsupportedOperationException" (by show -2000000 ≤ (30 + ((K2_number 6 i S))); omega) (by show (30 + ((K2_number 6 i S))) ≤ 2000000; omega) (by show -1 ≤ (((K1_mark (30 + ((K2_number 6 i S))) S)) + 1); omega) (by show (((K1_mark (30 + ((K2_number 6 i S))) S)) + 1) ≤ 100000; omega) hV (by show (S.1 11 4) ≤ 12000; omega)) (cwC 2 B wC_mRX0_65 wC_im_yX1_set wC_sl_yX1_set wC_in_RX1 wC_cd_yX1_set rfl rfl (by decide +kernel) ⟨Nat.le_of_ble_eq_true rfl, Nat.le_of_ble_eq_true rfl⟩) rfl hl.1 rfl (Nat.le_of_ble_eq_true rfl) dX0_endPass_64 hR (Nat.le_refl _) (cFx_gl hF) (K1_set_F (S := S) hF hvo4 (by show (S.1 11 4) ≤ 12000; omega)).2 (fun c_22 => (by unfold K0_endPass; exact ((if_neg c_13).trans ((if_neg c_21).trans (if_neg c_22))))) (fun x y H locs c_22 hM => ?_)
      have hg : gl S ≤ gl (K1_set (30 + ((K2_number 6 i S))) (((K1_mark (30 + ((K2_number 6 i S))) S)) + 1) S).2.2 := Nat.le_trans (Nat.le_refl _) (K1_set_F (S := S) hF hvo4 (by show (S.1 11 4) ≤ 12000; omega)).2
      have hFo : cFx a 6 S := hF
      have f_23 := K1_set_u (i := 30 + ((K2_number 6 i S))) (v := ((K1_mark (30 + ((K2_number 6 i S))) S)) + 1) (S := S) hFo hV.2.2.2.1 hV.2.2.2.2.1
      have f_23b := K1_set_3 (i := 30 + ((K2_number 6 i S))) (v := ((K1_mark (30 + ((K2_number 6 i S))) S)) + 1) (S := S)
      have hV : sV (K1_set (30 + ((K2_number 6 i S))) (((K1_mark (30 + ((K2_number 6 i S))) S)) + 1) S).2.2 := sV_set (i := 30 + ((K2_number 6 i S))) (v := ((K1_mark (30 + ((K2_number 6 i S))) S)) + 1) (S := S) hFo hV (by omega) (by omega)
      have hF : cFx a 6 (K1_set (30 + ((K2_number 6 i S))) (((K1_mark (30 + ((K2_number 6 i S))) S)) + 1) S).2.2 := (K1_set_F (i := 30 + ((K2_number 6 i S))) (v := ((K1_mark (30 + ((K2_number 6 i S))) S)) + 1) (S := S) hFo hvo4 (by show (S.1 11 4) ≤ 12000; omega)).1
      have hP := pB_set (i := 30 + ((K2_number 6 i S))) (v := ((K1_mark (30 + ((K2_number 6 i S))) S)) + 1) (S := S) hP
      refine lv_aload_n B.1 B.2.1 dX0_endPass_67 rfl (lv_at hl 2 rfl) ?_
      refine lv_iload_n B.1 B.2.1 dX0_endPass_68 rfl (lv_at hl 3 rfl) ?_
      refine g_calli (E := "java/lang/UnsupportedOperationException") (As := [.int (zI i)]) (rest := []) B hK hG hM 10 (by decide) (by decide) rfl (cX0_choosePass_ok l hl0 D cy q V n0 x y a (K1_set (30 + ((K2_number 6 i S))) (((K1_mark (30 + ((K2_number 6 i S))) S)) + 1) S).2.2 hF  i ha36 hV hP (by (try simp only [K1_set_1 (m := 10) (by decide) (by decide) (by decide)]); omega) (by (try simp only [K1_set_1 (m := 10) (by decide) (by decide) (by decide)]); omega) (by show 0 ≤ i; omega) (by show i ≤ 1000; omega) (by show ((K1_set (30 + ((K2_number 6 i S))) (((K1_mark (30 + ((K2_number 6 i S))) S)) + 1) S).2.2.1 11 4) ≤ 12000; omega) (by show ((K1_set (30 + ((K2_number 6 i S))) (((K1_mark (30 + ((K2_number 6 i S))) S)) + 1) S).2.2.1 11 3) ≤ 8990; omega)) (cwC 1 B wC_mRX0_162 wC_im_yX0_choosePass wC_sl_yX0_choosePass wC_in_RX0 wC_cd_yX0_choosePass rfl rfl (by decide +kernel) ⟨Nat.le_of_ble_eq_true rfl, Nat.le_of_ble_eq_true rfl⟩) rfl hl.1 rfl (Nat.le_of_ble_eq_true rfl) dX0_endPass_69 hR hg (cFx_gl hF) (K0_choosePass_F (S := (K1_set (30 + ((K2_number 6 i S))) (((K1_mark (30 + ((K2_number 6 i S))) S)) + 1) S).2.2) hF hV.2.1 (by show ((K1_set (30 + ((K2_number 6 i S))) (((K1_mark (30 + ((K2_number 6 i S))) S)) + 1) S).2.2.1 11 3) ≤ 9000; omega)) (fun c_24 => (by unfold K0_endPass; exact ((if_neg c_13).trans ((if_neg c_21).trans ((if_pos c_22).trans (if_neg c_24)))))) (fun x y H locs c_24 hM => ?_)
      have hg : gl S ≤ gl (K0_choosePass i (K1_set (30 + ((K2_number 6 i S))) (((K1_mark (30 + ((K2_number 6 i S))) S)) + 1) S).2.2).2.2 := Nat.le_trans hg (K0_choosePass_F (S := (K1_set (30 + ((K2_number 6 i S))) (((K1_mark (30 + ((K2_number 6 i S))) S)) + 1) S).2.2) hF hV.2.1 (by show ((K1_set (30 + ((K2_number 6 i S))) (((K1_mark (30 + ((K2_number 6 i S))) S)) + 1) S).2.2.1 11 3) ≤ 9000; omega))
      exact g_reti (S := (K0_choosePass i (K1_set (30 + ((K2_number 6 i S))) (((K1_mark (30 + ((K2_number 6 i S))) S)) + 1) S).2.2).2.2) B hM (by unfold K0_endPass; exact ((if_neg c_13).trans ((if_neg c_21).trans ((if_pos c_22).trans (if_pos c_24))))) dX0_endPass_72
    · --
      refine z_iconst B.1 B.2.1 dX0_endPass_53 ?_
      exact g_reti (S := S) B hM (by unfold K0_endPass; exact ((if_neg c_13).trans (if_pos c_21))) dX0_endPass_54
