def K3_checkWeight (wt : Int) (S : CSt) : CR := (if wt ≤ 120 then (0, 0, S) else (1, 0, S))
set_option maxHeartbeats 1000000 in
set_option maxRecDepth 100000 in
theorem cX3_checkWeight_ok (l : Launch) (hl0 : l.stackTraces = false) (D : va_G) (cy : Nat → ClassId) (q : Nat → Nat) (V : Nat × (Nat → Nat)) (n0 x y b : Nat) (S : CSt) (hF : cFx 7 b S) (wt : Int) (h0 : -1000000 ≤ wt) (h1 : wt ≤ 1000000) : gMv l D cy q V n0 x y "java/lang/IllegalArgumentException" yX3_checkWeight (.code yX3_checkWeight cX3_checkWeight 1 none :: TBC) 6 90 S [.int (zI wt)] (K3_checkWeight wt S) := by
  refine g_of (cc := cX3_checkWeight) (maxL := 1) (ret := none) (by decide) rfl rfl (Nat.le_of_ble_eq_true rfl) ?_
  intro p e s m args below meth c ls B hK hG hM hl
  generalize gA (cq q x y) n0 = A at hG hM ⊢
  have hR : (headSpec (.code yX3_checkWeight cX3_checkWeight 1 none :: TBC) (gRm 6 90 S)).room.cells = (gK - gl S) + 1 ∧ (headSpec (.code yX3_checkWeight cX3_checkWeight 1 none :: TBC) (gRm 6 90 S)).room.slots = 2 * (gK - gl S) + 6 := ⟨rfl, rfl⟩
  have hl : lv_has ls 1 [(0, .int (zI wt))] := hl
  refine lv_iload_n B.1 B.2.1 dX3_checkWeight_0 rfl (lv_at hl 0 rfl) ?_
  refine z_bipush B.1 B.2.1 (by decide) dX3_checkWeight_1 ?_
  refine z_icmp_le (tgt := 16) B.1 B.2.1 (zr_of (by omega) (by omega)) (zr_of (by decide) (by decide)) dX3_checkWeight_3 (by decide) (fun c_1 => ?_) (fun c_1 => ?_)
  · --
    exact g_retv (S := S) B hM (by unfold K3_checkWeight; exact (if_pos c_1)) dX3_checkWeight_16
  · --
    exact g_throw (S := S) (E := "java/lang/IllegalArgumentException") (ik := 49) (is := 68) (ic := 53) 25 (by decide) hl0 B hG hM rfl sX_java_lang_IllegalArgumentException (by decide +kernel) (List.mem_cons_of_mem _ wC_cRX3_49) (List.mem_cons_of_mem _ wC_in__java_lang_IllegalArgumentException_) (tC_RX3_53 _) tN_RX3_53 hl.1 (Nat.le_of_ble_eq_true rfl) hR (Nat.le_of_ble_eq_true rfl) (Nat.le_of_ble_eq_true rfl) (Nat.le_refl _) (cFx_gl hF) (tO_RX3_53 _) dX3_checkWeight_6 dX3_checkWeight_9 dX3_checkWeight_10 dX3_checkWeight_12 dX3_checkWeight_15 (by unfold K3_checkWeight; exact (if_neg c_1))
theorem K3_cw {wt : Int} {S : CSt} (h : (K3_checkWeight wt S).1 = 0) : (K3_checkWeight wt S).2.2 = S := by
  revert h
  unfold K3_checkWeight
  split <;> intro h <;> rfl
theorem K3_cw_le {wt : Int} {S : CSt} (h : (K3_checkWeight wt S).1 = 0) : wt ≤ 120 := by
  revert h
  unfold K3_checkWeight
  split
  · intro _; assumption
  · intro h; exact absurd h z1n0
theorem K3_cw_22 {wt : Int} {S : CSt} : (K3_checkWeight wt S).2.2 = S := by
  unfold K3_checkWeight
  split <;> rfl
theorem K4_at_cong {S S' : CSt} {i : Int} (h2 : S'.1 2 = S.1 2) (h13 : S'.1 13 = S.1 13) : K4_at 2 i S' = K4_at 2 i S := by
  unfold K4_at
  rw [h2, show S'.1 (11 + 2) = S.1 (11 + 2) from h13]
theorem zmulb {a b : Int} (h0 : 0 ≤ a) (h1 : a ≤ 4800) (h2 : 1 ≤ b) (h3 : b ≤ 10) : 0 ≤ a * b ∧ a * b ≤ 48000 := by
  refine ⟨Int.mul_nonneg h0 (by omega), ?_⟩
  have := Int.mul_le_mul h1 h3 (by omega) (by decide)
  omega
/-- a part's weight against the signs that it took -/
def wP (S : CSt) (v : Int) (T : CSt) : Prop := 0 ≤ v ∧ v ≤ 120 * (T.1 8 3 - S.1 8 3)
def K3_readInside (F : Int → CSt → CR) (dp : Int) (S : CSt) : CR := (if dp < 8 then (gBd (F (dp + 1) S) (fun v_4 S_5 => (gLt (K3_take 41 S_5) (fun v_10 S_11 => (if v_10 = 0 then (1, 0, S_11) else (0, v_4 + 1, S_11)))))) else (1, 0, S))
set_option maxHeartbeats 1000000 in
set_option maxRecDepth 100000 in
theorem cX3_readInside_ok (l : Launch) (hl0 : l.stackTraces = false) (D : va_G) (cy : Nat → ClassId) (q : Nat → Nat) (V : Nat × (Nat → Nat)) (n0 x y b : Nat) (S : CSt) (hF : cFx 7 b S) (F : Int → CSt → CR) (fA loA : Nat) (L0 : Int) (hA : ∀ (x y : Nat) (S : CSt) (dp : Int), cFx 7 b S → rV S → L0 + 1 ≤ dp → dp ≤ 8 → 0 ≤ dp → gMi l D cy q V n0 x y "java/lang/IllegalArgumentException" yX3_readAlternatives (.code yX3_readAlternatives cX3_readAlternatives 7 (some .int) :: TBC) fA loA S [.ref (q 8), .int (zI dp)] (F dp S)) (hFR : ∀ (S : CSt) (dp : Int), rV S → rR (wP S) S (F dp S)) (dp : Int) (hV : rV S) (hd0 : L0 ≤ dp) (hd1 : dp ≤ 8) (hd2 : 0 ≤ dp)  : gMi l D cy q V n0 x y "java/lang/IllegalArgumentException" yX3_readInside (.code yX3_readInside cX3_readInside 3 (some .int) :: TBC) (fA + 6) (loA + 90) S [.ref (q 8), .int (zI dp)] (K3_readInside F dp S) := by
  refine g_of (cc := cX3_readInside) (maxL := 3) (ret := (some .int)) (by decide) rfl rfl (Nat.le_of_ble_eq_true rfl) ?_
  intro p e s m args below meth c ls B hK hG hM hl
  generalize gA (cq q x y) n0 = A at hG hM ⊢
  have hR : (headSpec (.code yX3_readInside cX3_readInside 3 (some .int) :: TBC) (gRm (fA + 6) (loA + 90) S)).room.cells = (gK - gl S) + 1 ∧ (headSpec (.code yX3_readInside cX3_readInside 3 (some .int) :: TBC) (gRm (fA + 6) (loA + 90) S)).room.slots = 2 * (gK - gl S) + 6 := ⟨rfl, rfl⟩
  have hl : lv_has ls 3 [(0, .ref (q 8)), (1, .int (zI dp))] := hl
  obtain ⟨hP, hLa, hLb, hcs, ha0, ha1, hga, hgb, hna, hnb, hma, hmb, hzz⟩ := id hV
  obtain ⟨hPa, p5a, p5b, pla, plb, pka, pkb, pga, pgb, pfa, pfb⟩ := id hP
  refine lv_iload_n B.1 B.2.1 dX3_readInside_0 rfl (lv_at hl 1 rfl) ?_
  refine z_bipush B.1 B.2.1 (by decide) dX3_readInside_1 ?_
  refine z_icmp_lt (tgt := 16) B.1 B.2.1 (zr_of (by omega) (by omega)) (zr_of (by decide) (by decide)) dX3_readInside_3 (by decide) (fun c_1 => ?_) (fun c_1 => ?_)
  · --
    refine lv_aload_n B.1 B.2.1 dX3_readInside_16 rfl (lv_at hl 0 rfl) ?_
    refine lv_iload_n B.1 B.2.1 dX3_readInside_17 rfl (lv_at hl 1 rfl) ?_
    refine z_iconst B.1 B.2.1 dX3_readInside_18 ?_
    refine z_iadd (x := dp + 1) B.1 B.2.1 rfl dX3_readInside_19 ?_
    refine g_calli (E := "java/lang/IllegalArgumentException") (As := [.int (zI (dp + 1))]) (rest := []) B hK hG hM 8 (by decide) (by decide) rfl (hA x y S (dp + 1) hF hV (by omega) (by omega) (by omega)) (cwC 1 B wC_mRX3_39 wC_im_yX3_readAlternatives wC_sl_yX3_readAlternatives wC_in_RX3 wC_cd_yX3_readAlternatives rfl rfl (by decide +kernel) ⟨by show (fA + 0) + 1 ≤ fA + 6; omega, by show 8 + (7 + 11) + (loA + 0) ≤ loA + 90; omega⟩) rfl hl.1 rfl (Nat.le_of_ble_eq_true rfl) dX3_readInside_20 hR (Nat.le_refl _) (cFx_gl hF) (gl_of (hFR S (dp + 1) hV).1.1) (fun c_3 => (by unfold K3_readInside; exact ((if_pos c_1).trans (if_neg c_3)))) (fun x y H locs c_3 hM => ?_)
    have hg : gl S ≤ gl (F (dp + 1) S).2.2 := Nat.le_trans (Nat.le_refl _) (gl_of (hFR S (dp + 1) hV).1.1)
    obtain ⟨k_2, -, k_2v, -⟩ := hFR S (dp + 1) hV
    obtain ⟨hV, k_2l, k_2p⟩ := k_2v c_3
    have hF : cFx 7 b (F (dp + 1) S).2.2 := cFx_of k_2.1 hF
    generalize hS_5 : (F (dp + 1) S).2.2 = S_5 at *
    generalize hv_4 : (F (dp + 1) S).2.1 = v_4 at *
    obtain ⟨hP, hLa, hLb, hcs, ha0, ha1, hga, hgb, hna, hnb, hma, hmb, hzz⟩ := id hV
    obtain ⟨k_2pa, k_2pb⟩ := k_2p
    refine lv_istore_n (lv' := [(2, .int (zI v_4)), (0, .ref (q 8)), (1, .int (zI dp))]) B.1 B.2.1 dX3_readInside_23 rfl hl (by decide) rfl (fun ls hl => ?_)
    refine lv_aload_n B.1 B.2.1 dX3_readInside_24 rfl (lv_at hl 1 rfl) ?_
    refine z_bipush B.1 B.2.1 (by decide) dX3_readInside_25 ?_
    refine c_calli (q := (cq q x y)) (As := [.int (zI 41)]) (rest := []) B hK hM 8 (by decide) (by decide) rfl (cX3_take_ok l D cy (cq q x y) b S_5 hF  41 hV (by show 1 ≤ 41; omega) (by show 41 < 65536; omega)) (cwC 1 B wC_mRX3_76 wC_im_yX3_take wC_sl_yX3_take wC_in_RX3 wC_cd_yX3_take rfl rfl (by decide +kernel) ⟨by show 1 + 1 ≤ fA + 6; omega, by show 8 + (2 + 11) + 21 ≤ loA + 90; omega⟩) rfl hl.1 rfl (Nat.le_of_ble_eq_true rfl) dX3_readInside_27 ⟨g_rc hR hg (cFx_gl (S := S_5) hF), g_rs hR hg (cFx_gl (S := S_5) hF)⟩ (fun z_9 S_8 H locs hp_7 hM => ?_)
    obtain ⟨hp_7, he_hp_7⟩ := hp_7
    have he_hp_7 := he_hp_7.symm
    subst he_hp_7
    have hp_7 : (K3_take 41 S_5).1 = z_9 := hp_7.symm
    subst hp_7
    have hg : gl S ≤ gl (K3_take 41 S_5).2 := Nat.le_trans hg (gl_of (S := S_5) (S' := (K3_take 41 S_5).2) (congrArg Prod.snd K3_take_2))
    refine W.widen (k := gl (K3_take 41 S_5).2 - gl S) (n := 2 * (gl (K3_take 41 S_5).2 - gl S)) (Nat.sub_le_sub_right (gl_of (S := S_5) (S' := (K3_take 41 S_5).2) (congrArg Prod.snd K3_take_2)) _) (Nat.mul_le_mul_left 2 (Nat.sub_le_sub_right (gl_of (S := S_5) (S' := (K3_take 41 S_5).2) (congrArg Prod.snd K3_take_2)) _)) ?_
    have k_6v := K3_take_v (x := 41) hV (by omega)
    have k_6l : S_5.1 8 3 ≤ (K3_take 41 S_5).2.1 8 3 := by rcases k_6v with ⟨-, h9, -⟩ | ⟨-, h9, -⟩ <;> rw [h9] <;> first | exact Int.le_refl _ | (simp only [ci_eq, zu_eq]; omega)
    have hV := rV_take (x := 41) hV (by omega)
    have hF : cFx 7 b (K3_take 41 S_5).2 := cFx_of (congrArg Prod.snd K3_take_2) hF
    have k_6b : (K3_take 41 S_5).1 = 0 ∨ (K3_take 41 S_5).1 = 1 := by rcases k_6v with ⟨h9, -⟩ | ⟨h9, -⟩ <;> omega
    have k_6n : (K3_take 41 S_5).1 = 0 ∨ (K3_take 41 S_5).2.1 8 3 = S_5.1 8 3 + 1 := by rcases k_6v with ⟨h9, -⟩ | ⟨-, h9, -⟩ <;> first | exact Or.inl h9 | exact Or.inr (by rw [h9, ci_eq, zu_eq])
    generalize hS_11 : (K3_take 41 S_5).2 = S_11 at *
    generalize hv_10 : (K3_take 41 S_5).1 = v_10 at *
    obtain ⟨hP, hLa, hLb, hcs, ha0, ha1, hga, hgb, hna, hnb, hma, hmb, hzz⟩ := id hV
    obtain ⟨hPa, p5a, p5b, pla, plb, pka, pkb, pga, pgb, pfa, pfb⟩ := id hP
    refine z_if_ne (tgt := 43) B.1 B.2.1 (zr_of (by omega) (by omega)) dX3_readInside_30 (by decide) (fun c_12 => ?_) (fun c_12 => ?_)
    · --
      refine lv_iload_n B.1 B.2.1 dX3_readInside_43 rfl (lv_at hl 0 rfl) ?_
      refine z_iconst B.1 B.2.1 dX3_readInside_44 ?_
      refine z_iadd (x := v_4 + 1) B.1 B.2.1 rfl dX3_readInside_45 ?_
      exact g_reti (S := S_11) B hM (by subst hS_5; subst hv_4; subst hS_11; subst hv_10; unfold K3_readInside; exact ((if_pos c_1).trans ((if_pos c_3).trans (if_neg c_12)))) dX3_readInside_46
    · --
      exact g_throw (S := S_11) (E := "java/lang/IllegalArgumentException") (ik := 49) (is := 114) (ic := 53) 14 (by decide) hl0 B hG hM rfl sX_java_lang_IllegalArgumentException (by decide +kernel) (List.mem_cons_of_mem _ wC_cRX3_49) (List.mem_cons_of_mem _ wC_in__java_lang_IllegalArgumentException_) (tC_RX3_53 _) tN_RX3_53 hl.1 (Nat.le_of_ble_eq_true rfl) hR (by show 5 < fA + 6; omega) (by show 90 ≤ loA + 90; omega) hg (cFx_gl hF) (tO_RX3_53 _) dX3_readInside_33 dX3_readInside_36 dX3_readInside_37 dX3_readInside_39 dX3_readInside_42 (by subst hS_5; subst hv_4; subst hS_11; subst hv_10; unfold K3_readInside; exact ((if_pos c_1).trans ((if_pos c_3).trans (if_pos c_12))))
  · --
    exact g_throw (S := S) (E := "java/lang/IllegalArgumentException") (ik := 49) (is := 112) (ic := 53) 13 (by decide) hl0 B hG hM rfl sX_java_lang_IllegalArgumentException (by decide +kernel) (List.mem_cons_of_mem _ wC_cRX3_49) (List.mem_cons_of_mem _ wC_in__java_lang_IllegalArgumentException_) (tC_RX3_53 _) tN_RX3_53 hl.1 (Nat.le_of_ble_eq_true rfl) hR (by show 5 < fA + 6; omega) (by show 90 ≤ loA + 90; omega) (Nat.le_refl _) (cFx_gl hF) (tO_RX3_53 _) dX3_readInside_6 dX3_readInside_9 dX3_readInside_10 dX3_readInside_12 dX3_readInside_15 (by unfold K3_readInside; exact (if_neg c_1))
theorem K3_readInside_R {F : Int → CSt → CR} (hFR : ∀ (S : CSt) (dp : Int), rV S → rR (wP S) S (F dp S)) {dp : Int} {S : CSt} (hV : rV S) : rR (wP S) S (K3_readInside F dp S) := by
  unfold K3_readInside
  split
  · refine rR.bd (hFR S (dp + 1) hV) (fun _ h1 ha hp => ?_)
    obtain ⟨p0, p1⟩ := hp
    refine rR.tk h1 (by decide) (fun _ => ?_) (fun _ _ h2 => ?_)
    · rw [if_pos rfl]; exact rR.thr rK.rf h1.1
    · rw [if_neg z1n0]
      refine rR.ret rK.rf h2 (Int.le_refl _) ⟨by omega, ?_⟩
      rw [ci_eq, zu_eq]
      omega
  · exact rR.thr rK.rf hV.1
def K3_readGroup (F : Int → CSt → CR) (dp : Int) (S : CSt) : CR := (gBd (K2_addGroup S) (fun v_3 S_4 => (gBd (K2_add 7 (-1) v_3 S_4) (fun v_7 S_8 => (gBd (K3_readInside F dp S_8) (fun v_11 S_12 => (gBd (K2_add 8 (-1) v_3 S_12) (fun v_15 S_16 => (0, v_11, S_16)))))))))
set_option maxHeartbeats 1000000 in
set_option maxRecDepth 100000 in
theorem cX3_readGroup_ok (l : Launch) (hl0 : l.stackTraces = false) (D : va_G) (cy : Nat → ClassId) (q : Nat → Nat) (V : Nat × (Nat → Nat)) (n0 x y b : Nat) (S : CSt) (hF : cFx 7 b S) (F : Int → CSt → CR) (fA loA : Nat) (L0 : Int) (hA : ∀ (x y : Nat) (S : CSt) (dp : Int), cFx 7 b S → rV S → L0 + 1 ≤ dp → dp ≤ 8 → 0 ≤ dp → gMi l D cy q V n0 x y "java/lang/IllegalArgumentException" yX3_readAlternatives (.code yX3_readAlternatives cX3_readAlternatives 7 (some .int) :: TBC) fA loA S [.ref (q 8), .int (zI dp)] (F dp S)) (hFR : ∀ (S : CSt) (dp : Int), rV S → rR (wP S) S (F dp S)) (dp : Int) (hV : rV S) (hd0 : L0 ≤ dp) (hd1 : dp ≤ 8) (hd2 : 0 ≤ dp)  : gMi l D cy q V n0 x y "java/lang/IllegalArgumentException" yX3_readGroup (.code yX3_readGroup cX3_readGroup 4 (some .int) :: TBC) (fA + 7) (loA + 113) S [.ref (q 8), .int (zI dp)] (K3_readGroup F dp S) := by
  refine g_of (cc := cX3_readGroup) (maxL := 4) (ret := (some .int)) (by decide) rfl rfl (Nat.le_of_ble_eq_true rfl) ?_
  intro p e s m args below meth c ls B hK hG hM hl
  generalize gA (cq q x y) n0 = A at hG hM ⊢
  have hR : (headSpec (.code yX3_readGroup cX3_readGroup 4 (some .int) :: TBC) (gRm (fA + 7) (loA + 113) S)).room.cells = (gK - gl S) + 1 ∧ (headSpec (.code yX3_readGroup cX3_readGroup 4 (some .int) :: TBC) (gRm (fA + 7) (loA + 113) S)).room.slots = 2 * (gK - gl S) + 6 := ⟨rfl, rfl⟩
  have hl : lv_has ls 4 [(0, .ref (q 8)), (1, .int (zI dp))] := hl
  obtain ⟨hP, hLa, hLb, hcs, ha0, ha1, hga, hgb, hna, hnb, hma, hmb, hzz⟩ := id hV
  obtain ⟨hPa, p5a, p5b, pla, plb, pka, pkb, pga, pgb, pfa, pfb⟩ := id hP
  refine lv_aload_n B.1 B.2.1 dX3_readGroup_0 rfl (lv_at hl 0 rfl) ?_
  refine c_getr (q := (cq q x y)) (r := 7) B (iC3 _) hK hM 8 2 3 (by decide) rfl rfl (by decide) (by decide) rfl rfl rfl (cFx_r hF 8 2) (List.mem_cons_of_mem _ wC_fRX3_22) dX3_readGroup_1 ?_
  obtain ⟨hPa, p5a, p5b, pla, plb, pka, pkb, pga, pgb, pfa, pfb⟩ := id hP
  refine g_calli (E := "java/lang/IllegalArgumentException") (As := []) (rest := []) B hK hG hM 7 (by decide) (by decide) rfl (cX2_addGroup_ok l hl0 D cy q V n0 x y 7 b S hF   hV.1) (cwC 0 B wC_mRX3_169 wC_im_yX2_addGroup wC_sl_yX2_addGroup wC_in_RX2 wC_cd_yX2_addGroup rfl rfl (by decide +kernel) ⟨by show 6 + 1 ≤ fA + 7; omega, by show 8 + (1 + 11) + 90 ≤ loA + 113; omega⟩) rfl hl.1 rfl (Nat.le_of_ble_eq_true rfl) dX3_readGroup_4 hR (Nat.le_refl _) (cFx_gl hF) (gl_of (congrArg Prod.snd K2_addGroup_2)) (fun c_2 => (by unfold K3_readGroup; exact (if_neg c_2))) (fun x y H locs c_2 hM => ?_)
  have hg : gl S ≤ gl (K2_addGroup S).2.2 := Nat.le_trans (Nat.le_refl _) (gl_of (congrArg Prod.snd K2_addGroup_2))
  have hV := rV_of hV (pB_addGroup hV.1 c_2) (K2_addGroup_1 (by decide)) (K2_addGroup_1 (by decide)) (K2_addGroup_1 (by decide))
  have hF : cFx 7 b (K2_addGroup S).2.2 := cFx_of (congrArg Prod.snd K2_addGroup_2) hF
  obtain ⟨k_1f, k_1a, -⟩ := K2_addGroup_v c_2
  have k_18 : (K2_addGroup S).2.2.1 8 3 = S.1 8 3 := congrFun (K2_addGroup_1 (n := 8) (by decide)) 3
  generalize hS_4 : (K2_addGroup S).2.2 = S_4 at *
  generalize hv_3 : (K2_addGroup S).2.1 = v_3 at *
  obtain ⟨hP, hLa, hLb, hcs, ha0, ha1, hga, hgb, hna, hnb, hma, hmb, hzz⟩ := id hV
  obtain ⟨hPa, p5a, p5b, pla, plb, pka, pkb, pga, pgb, pfa, pfb⟩ := id hP
  refine lv_istore_n (lv' := [(2, .int (zI v_3)), (0, .ref (q 8)), (1, .int (zI dp))]) B.1 B.2.1 dX3_readGroup_7 rfl hl (by decide) rfl (fun ls hl => ?_)
  refine lv_aload_n B.1 B.2.1 dX3_readGroup_8 rfl (lv_at hl 1 rfl) ?_
  refine c_getr (q := (cq q x y)) (r := 7) B (iC3 _) hK hM 8 2 3 (by decide) rfl rfl (by decide) (by decide) rfl rfl rfl (cFx_r hF 8 2) (List.mem_cons_of_mem _ wC_fRX3_22) dX3_readGroup_9 ?_
  refine z_bipush B.1 B.2.1 (by decide) dX3_readGroup_12 ?_
  refine z_iconst B.1 B.2.1 dX3_readGroup_14 ?_
  refine lv_iload_n B.1 B.2.1 dX3_readGroup_15 rfl (lv_at hl 0 rfl) ?_
  refine g_calli (E := "java/lang/IllegalArgumentException") (As := [.int (zI 7), .int (zI (-1)), .int (zI v_3)]) (rest := []) B hK hG hM 7 (by decide) (by decide) rfl (cX2_add_ok l hl0 D cy q V n0 x y 7 b S_4 hF  7 (-1) v_3 hV.1) (cwC 3 B wC_mRX3_64 wC_im_yX2_add wC_sl_yX2_add wC_in_RX2 wC_cd_yX2_add rfl rfl (by decide +kernel) ⟨by show 6 + 1 ≤ fA + 7; omega, by show 8 + (4 + 11) + 90 ≤ loA + 113; omega⟩) rfl hl.1 rfl (Nat.le_of_ble_eq_true rfl) dX3_readGroup_16 hR hg (cFx_gl hF) (gl_of (congrArg Prod.snd K2_add_2)) (fun c_6 => (by subst hS_4; subst hv_3; unfold K3_readGroup; exact ((if_pos c_2).trans (if_neg c_6)))) (fun x y H locs c_6 hM => ?_)
  have hg : gl S ≤ gl (K2_add 7 (-1) v_3 S_4).2.2 := Nat.le_trans hg (gl_of (congrArg Prod.snd K2_add_2))
  have hV := rV_add (kd := 7) (am := (-1)) (nb := v_3) (S := S_4) hV c_6 (by omega) (by omega) (by omega) (by omega) (by omega) (by omega)
  have hF : cFx 7 b (K2_add 7 (-1) v_3 S_4).2.2 := cFx_of (congrArg Prod.snd K2_add_2) hF
  obtain ⟨k_5f, k_5a, k_5b, -⟩ := K2_add_v c_6
  have k_5s := K2_add_s c_6
  have k_58 : (K2_add 7 (-1) v_3 S_4).2.2.1 8 3 = S_4.1 8 3 := congrFun (K2_add_1 (n := 8) (by decide)) 3
  have k_59 : (K2_add 7 (-1) v_3 S_4).2.2.1 8 4 = S_4.1 8 4 := congrFun (K2_add_1 (n := 8) (by decide)) 4
  have k_5g : (K2_add 7 (-1) v_3 S_4).2.2.1 7 12 = S_4.1 7 12 := K2_add_12
  have k_5t : (K2_add 7 (-1) v_3 S_4).2.2.1 2 = S_4.1 2 := K2_add_1 (by decide)
  have k_5u : (K2_add 7 (-1) v_3 S_4).2.2.1 13 = S_4.1 13 := K2_add_1 (by decide)
  generalize hS_8 : (K2_add 7 (-1) v_3 S_4).2.2 = S_8 at *
  generalize hv_7 : (K2_add 7 (-1) v_3 S_4).2.1 = v_7 at *
  obtain ⟨hP, hLa, hLb, hcs, ha0, ha1, hga, hgb, hna, hnb, hma, hmb, hzz⟩ := id hV
  obtain ⟨hPa, p5a, p5b, pla, plb, pka, pkb, pga, pgb, pfa, pfb⟩ := id hP
  refine lv_pop B.1 B.2.1 dX3_readGroup_19 rfl ?_
  refine lv_aload_n B.1 B.2.1 dX3_readGroup_20 rfl (lv_at hl 1 rfl) ?_
  refine lv_iload_n B.1 B.2.1 dX3_readGroup_21 rfl (lv_at hl 2 rfl) ?_
  refine g_calli (E := "java/lang/IllegalArgumentException") (As := [.int (zI dp)]) (rest := []) B hK hG hM 8 (by decide) (by decide) rfl (cX3_readInside_ok l hl0 D cy q V n0 x y b S_8 hF F fA loA L0 hA hFR dp hV (by show L0 ≤ dp; omega) (by show dp ≤ 8; omega) (by show 0 ≤ dp; omega)) (cwC 1 B wC_mRX3_109 wC_im_yX3_readInside wC_sl_yX3_readInside wC_in_RX3 wC_cd_yX3_readInside rfl rfl (by decide +kernel) ⟨by show (fA + 6) + 1 ≤ fA + 7; omega, by show 8 + (3 + 11) + (loA + 90) ≤ loA + 113; omega⟩) rfl hl.1 rfl (Nat.le_of_ble_eq_true rfl) dX3_readGroup_22 hR hg (cFx_gl hF) (gl_of (K3_readInside_R (F := F) hFR (dp := dp) (S := S_8) hV).1.1) (fun c_10 => (by subst hS_4; subst hv_3; subst hS_8; subst hv_7; unfold K3_readGroup; exact ((if_pos c_2).trans ((if_pos c_6).trans (if_neg c_10))))) (fun x y H locs c_10 hM => ?_)
  have hg : gl S ≤ gl (K3_readInside F dp S_8).2.2 := Nat.le_trans hg (gl_of (K3_readInside_R (F := F) hFR (dp := dp) (S := S_8) hV).1.1)
  obtain ⟨k_9, -, k_9v, -⟩ := K3_readInside_R (F := F) hFR (dp := dp) (S := S_8) hV
  obtain ⟨hV, k_9l, k_9p⟩ := k_9v c_10
  have hF : cFx 7 b (K3_readInside F dp S_8).2.2 := cFx_of k_9.1 hF
  generalize hS_12 : (K3_readInside F dp S_8).2.2 = S_12 at *
  generalize hv_11 : (K3_readInside F dp S_8).2.1 = v_11 at *
  obtain ⟨hP, hLa, hLb, hcs, ha0, ha1, hga, hgb, hna, hnb, hma, hmb, hzz⟩ := id hV
  obtain ⟨hPa, p5a, p5b, pla, plb, pka, pkb, pga, pgb, pfa, pfb⟩ := id hP
  obtain ⟨k_9pa, k_9pb⟩ := k_9p
  refine lv_istore_n (lv' := [(3, .int (zI v_11)), (2, .int (zI v_3)), (0, .ref (q 8)), (1, .int (zI dp))]) B.1 B.2.1 dX3_readGroup_25 rfl hl (by decide) rfl (fun ls hl => ?_)
  refine lv_aload_n B.1 B.2.1 dX3_readGroup_26 rfl (lv_at hl 2 rfl) ?_
  refine c_getr (q := (cq q x y)) (r := 7) B (iC3 _) hK hM 8 2 3 (by decide) rfl rfl (by decide) (by decide) rfl rfl rfl (cFx_r hF 8 2) (List.mem_cons_of_mem _ wC_fRX3_22) dX3_readGroup_27 ?_
  refine z_bipush B.1 B.2.1 (by decide) dX3_readGroup_30 ?_
  refine z_iconst B.1 B.2.1 dX3_readGroup_32 ?_
  refine lv_iload_n B.1 B.2.1 dX3_readGroup_33 rfl (lv_at hl 1 rfl) ?_
  refine g_calli (E := "java/lang/IllegalArgumentException") (As := [.int (zI 8), .int (zI (-1)), .int (zI v_3)]) (rest := []) B hK hG hM 7 (by decide) (by decide) rfl (cX2_add_ok l hl0 D cy q V n0 x y 7 b S_12 hF  8 (-1) v_3 hV.1) (cwC 3 B wC_mRX3_64 wC_im_yX2_add wC_sl_yX2_add wC_in_RX2 wC_cd_yX2_add rfl rfl (by decide +kernel) ⟨by show 6 + 1 ≤ fA + 7; omega, by show 8 + (4 + 11) + 90 ≤ loA + 113; omega⟩) rfl hl.1 rfl (Nat.le_of_ble_eq_true rfl) dX3_readGroup_34 hR hg (cFx_gl hF) (gl_of (congrArg Prod.snd K2_add_2)) (fun c_14 => (by subst hS_4; subst hv_3; subst hS_8; subst hv_7; subst hS_12; subst hv_11; unfold K3_readGroup; exact ((if_pos c_2).trans ((if_pos c_6).trans ((if_pos c_10).trans (if_neg c_14)))))) (fun x y H locs c_14 hM => ?_)
  have hg : gl S ≤ gl (K2_add 8 (-1) v_3 S_12).2.2 := Nat.le_trans hg (gl_of (congrArg Prod.snd K2_add_2))
  have hV := rV_add (kd := 8) (am := (-1)) (nb := v_3) (S := S_12) hV c_14 (by omega) (by omega) (by omega) (by omega) (by omega) (by omega)
  have hF : cFx 7 b (K2_add 8 (-1) v_3 S_12).2.2 := cFx_of (congrArg Prod.snd K2_add_2) hF
  obtain ⟨k_13f, k_13a, k_13b, -⟩ := K2_add_v c_14
  have k_13s := K2_add_s c_14
  have k_138 : (K2_add 8 (-1) v_3 S_12).2.2.1 8 3 = S_12.1 8 3 := congrFun (K2_add_1 (n := 8) (by decide)) 3
  have k_139 : (K2_add 8 (-1) v_3 S_12).2.2.1 8 4 = S_12.1 8 4 := congrFun (K2_add_1 (n := 8) (by decide)) 4
  have k_13g : (K2_add 8 (-1) v_3 S_12).2.2.1 7 12 = S_12.1 7 12 := K2_add_12
  have k_13t : (K2_add 8 (-1) v_3 S_12).2.2.1 2 = S_12.1 2 := K2_add_1 (by decide)
  have k_13u : (K2_add 8 (-1) v_3 S_12).2.2.1 13 = S_12.1 13 := K2_add_1 (by decide)
  generalize hS_16 : (K2_add 8 (-1) v_3 S_12).2.2 = S_16 at *
  generalize hv_15 : (K2_add 8 (-1) v_3 S_12).2.1 = v_15 at *
  obtain ⟨hP, hLa, hLb, hcs, ha0, ha1, hga, hgb, hna, hnb, hma, hmb, hzz⟩ := id hV
  obtain ⟨hPa, p5a, p5b, pla, plb, pka, pkb, pga, pgb, pfa, pfb⟩ := id hP
  refine lv_pop B.1 B.2.1 dX3_readGroup_37 rfl ?_
  refine lv_iload_n B.1 B.2.1 dX3_readGroup_38 rfl (lv_at hl 0 rfl) ?_
  exact g_reti (S := S_16) B hM (by subst hS_4; subst hv_3; subst hS_8; subst hv_7; subst hS_12; subst hv_11; subst hS_16; subst hv_15; unfold K3_readGroup; exact ((if_pos c_2).trans ((if_pos c_6).trans ((if_pos c_10).trans (if_pos c_14))))) dX3_readGroup_39
theorem rR.gr {Q : Int → CSt → Prop} {S : CSt} {k : Int → CSt → CR} (hV : rV S) (hk : rV (K2_addGroup S).2.2 → (K2_addGroup S).2.2.1 8 = S.1 8 → (K2_addGroup S).2.1 = S.1 7 12 + 1 → S.1 7 12 < 9 → rR Q (K2_addGroup S).2.2 (k (K2_addGroup S).2.1 (K2_addGroup S).2.2)) : rR Q S (gBd (K2_addGroup S) k) := by
  have e8 : (K2_addGroup S).2.2.1 8 = S.1 8 := K2_addGroup_1 (by decide)
  show rR Q S (if (K2_addGroup S).1 = 0 then k (K2_addGroup S).2.1 (K2_addGroup S).2.2 else (1, 0, (K2_addGroup S).2.2))
  by_cases c : (K2_addGroup S).1 = 0
  · rw [if_pos c]
    obtain ⟨f1, f2, f3⟩ := K2_addGroup_v c
    exact rR.mono rK.group (by rw [e8]; exact Int.le_refl _) (hk (rV_of hV (pB_addGroup hV.1 c) (K2_addGroup_1 (by decide)) (K2_addGroup_1 (by decide)) e8) e8 f2 f1)
  · rw [if_neg c]
    have : (K2_addGroup S).2.2 = S := by
      revert c
      unfold K2_addGroup
      (repeat' split) <;> intro c <;> first | rfl | exact absurd rfl c
    rw [this]
    exact rR.thr rK.rf hV.1
theorem rR.lk {Q : Int → CSt → Prop} {S : CSt} {k : Int → CSt → CR} (hV : rV S) (hk : rV (K2_addLook S).2.2 → (K2_addLook S).2.2.1 8 = S.1 8 → (K2_addLook S).2.1 = S.1 7 11 + 1 - 1 → S.1 7 11 < 10 → rR Q (K2_addLook S).2.2 (k (K2_addLook S).2.1 (K2_addLook S).2.2)) : rR Q S (gBd (K2_addLook S) k) := by
  have e8 : (K2_addLook S).2.2.1 8 = S.1 8 := K2_addLook_1 (by decide)
  show rR Q S (if (K2_addLook S).1 = 0 then k (K2_addLook S).2.1 (K2_addLook S).2.2 else (1, 0, (K2_addLook S).2.2))
  by_cases c : (K2_addLook S).1 = 0
  · rw [if_pos c]
    obtain ⟨f1, f2, f3⟩ := K2_addLook_v c
    exact rR.mono rK.look (by rw [e8]; exact Int.le_refl _) (hk (rV_of hV (pB_addLook hV.1 c) (K2_addLook_1 (by decide)) (K2_addLook_1 (by decide)) e8) e8 f2 f1)
  · rw [if_neg c]
    have : (K2_addLook S).2.2 = S := by
      revert c
      unfold K2_addLook
      (repeat' split) <;> intro c <;> first | rfl | exact absurd rfl c
    rw [this]
    exact rR.thr rK.rf hV.1
theorem K3_readGroup_R {F : Int → CSt → CR} (hFR : ∀ (S : CSt) (dp : Int), rV S → rR (wP S) S (F dp S)) {dp : Int} {S : CSt} (hV : rV S) : rR (wP S) S (K3_readGroup F dp S) := by
  have hg := hV.1.2.2.2.2.2.2.2
  unfold K3_readGroup
  refine rR.gr hV (fun h1 e1 f1 f2 => ?_)
  refine rR.ad h1 (by decide) (by decide) (by decide) (by decide) (by omega) (by omega) (fun _ h2 e2 _ _ _ => ?_)
  refine rR.bd (K3_readInside_R hFR h2) (fun _ h3 a3 hp => ?_)
  refine rR.ad h3 (by decide) (by decide) (by decide) (by decide) (by omega) (by omega) (fun _ h4 e4 _ _ _ => ?_)
  refine rR.ret rK.rf h4 (Int.le_refl _) ⟨hp.1, ?_⟩
  have h5 := hp.2
  rw [e2, e1] at h5
  rw [e4]
  exact h5
def K3_readAtom (F : Int → CSt → CR) (dp : Int) (S : CSt) : CR := (gLt (K3_takeOpening 58 S) (fun v_5 S_6 => (if v_5 = 0 then (gLt (K3_take 40 S_6) (fun v_12 S_13 => (if v_12 = 0 then (gLt (K3_take 92 (cj (cj S_13 9 0 0) 9 1 0)) (fun v_22 S_23 => (if v_22 = 0 then (gLt (K3_take 91 S_23) (fun v_29 S_30 => (if v_29 = 0 then (gLt (K3_take 46 S_30) (fun v_36 S_37 => (if v_36 = 0 then (if ((K_ix1 ((K4_at 2 (S_37.1 8 3) S_37)))) < 0 then (gBd (K3_addOneSign 0 (K5_add ((K4_at 2 (S_37.1 8 3) S_37)) (ci S_37 8 3 ((S_37.1 8 3) + 1)))) (fun v_53 S_54 => (0, v_53, S_54))) else (1, 0, S_37)) else (gBd (K3_addOneSign 0 (K3_addAnySign S_37)) (fun v_60 S_61 => (0, v_60, S_61)))))) else (gBd (K3_readSet S_30) (fun v_64 S_65 => (0, v_64, S_65)))))) else (gBd (K3_readEscaped S_23) (fun v_68 S_69 => (0, v_68, S_69)))))) else (gBd (K3_readGroup F dp S_13) (fun v_72 S_73 => (0, v_72, S_73)))))) else (gBd (K3_readInside F dp S_6) (fun v_76 S_77 => (0, v_76, S_77))))))
set_option maxHeartbeats 1000000 in
set_option maxRecDepth 100000 in
theorem cX3_readAtom_ok (l : Launch) (hl0 : l.stackTraces = false) (D : va_G) (cy : Nat → ClassId) (q : Nat → Nat) (V : Nat × (Nat → Nat)) (n0 x y b : Nat) (S : CSt) (hF : cFx 7 b S) (F : Int → CSt → CR) (fA loA : Nat) (L0 : Int) (hA : ∀ (x y : Nat) (S : CSt) (dp : Int), cFx 7 b S → rV S → L0 + 1 ≤ dp → dp ≤ 8 → 0 ≤ dp → gMi l D cy q V n0 x y "java/lang/IllegalArgumentException" yX3_readAlternatives (.code yX3_readAlternatives cX3_readAlternatives 7 (some .int) :: TBC) fA loA S [.ref (q 8), .int (zI dp)] (F dp S)) (hFR : ∀ (S : CSt) (dp : Int), rV S → rR (wP S) S (F dp S)) (dp : Int) (hV : rV S) (hd0 : L0 ≤ dp) (hd1 : dp ≤ 8) (hd2 : 0 ≤ dp)  : gMi l D cy q V n0 x y "java/lang/IllegalArgumentException" yX3_readAtom (.code yX3_readAtom cX3_readAtom 3 (some .int) :: TBC) (fA + 10) (loA + 219) S [.ref (q 8), .int (zI dp)] (K3_readAtom F dp S) := by
  refine g_of (cc := cX3_readAtom) (maxL := 3) (ret := (some .int)) (by decide) rfl rfl (Nat.le_of_ble_eq_true rfl) ?_
  intro p e s m args below meth c ls B hK hG hM hl
  generalize gA (cq q x y) n0 = A at hG hM ⊢
  have hR : (headSpec (.code yX3_readAtom cX3_readAtom 3 (some .int) :: TBC) (gRm (fA + 10) (loA + 219) S)).room.cells = (gK - gl S) + 1 ∧ (headSpec (.code yX3_readAtom cX3_readAtom 3 (some .int) :: TBC) (gRm (fA + 10) (loA + 219) S)).room.slots = 2 * (gK - gl S) + 6 := ⟨rfl, rfl⟩
  have hl : lv_has ls 3 [(0, .ref (q 8)), (1, .int (zI dp))] := hl
  obtain ⟨hP, hLa, hLb, hcs, ha0, ha1, hga, hgb, hna, hnb, hma, hmb, hzz⟩ := id hV
  obtain ⟨hPa, p5a, p5b, pla, plb, pka, pkb, pga, pgb, pfa, pfb⟩ := id hP
  refine lv_aload_n B.1 B.2.1 dX3_readAtom_0 rfl (lv_at hl 0 rfl) ?_
  refine z_bipush B.1 B.2.1 (by decide) dX3_readAtom_1 ?_
  refine c_calli (q := (cq q x y)) (As := [.int (zI 58)]) (rest := []) B hK hM 8 (by decide) (by decide) rfl (cX3_takeOpening_ok l D cy (cq q x y) b S hF  58 hV (by show 1 ≤ 58; omega) (by show 58 < 65536; omega)) (cwC 1 B wC_mRX3_97 wC_im_yX3_takeOpening wC_sl_yX3_takeOpening wC_in_RX3 wC_cd_yX3_takeOpening rfl rfl (by decide +kernel) ⟨by show 1 + 1 ≤ fA + 10; omega, by show 8 + (2 + 11) + 21 ≤ loA + 219; omega⟩) rfl hl.1 rfl (Nat.le_of_ble_eq_true rfl) dX3_readAtom_3 ⟨g_rc hR (Nat.le_refl _) (cFx_gl (S := S) hF), g_rs hR (Nat.le_refl _) (cFx_gl (S := S) hF)⟩ (fun z_4 S_3 H locs hp_2 hM => ?_)
  obtain ⟨hp_2, he_hp_2⟩ := hp_2
  have he_hp_2 := he_hp_2.symm
  subst he_hp_2
  have hp_2 : (K3_takeOpening 58 S).1 = z_4 := hp_2.symm
  subst hp_2
  have hg : gl S ≤ gl (K3_takeOpening 58 S).2 := Nat.le_trans (Nat.le_refl _) (gl_of (S := S) (S' := (K3_takeOpening 58 S).2) (congrArg Prod.snd K3_takeOpening_2))
  refine W.widen (k := gl (K3_takeOpening 58 S).2 - gl S) (n := 2 * (gl (K3_takeOpening 58 S).2 - gl S)) (Nat.sub_le_sub_right (gl_of (S := S) (S' := (K3_takeOpening 58 S).2) (congrArg Prod.snd K3_takeOpening_2)) _) (Nat.mul_le_mul_left 2 (Nat.sub_le_sub_right (gl_of (S := S) (S' := (K3_takeOpening 58 S).2) (congrArg Prod.snd K3_takeOpening_2)) _)) ?_
  have k_1v := K3_takeOpening_v (x := 58) hV (by omega)
  have k_1l : S.1 8 3 ≤ (K3_takeOpening 58 S).2.1 8 3 := by rcases k_1v with ⟨-, h9, -⟩ | ⟨-, h9, -⟩ <;> rw [h9] <;> first | exact Int.le_refl _ | (simp only [ci_eq, zu_eq]; omega)
  have hV := rV_takeOpening (x := 58) hV (by omega)
  have hF : cFx 7 b (K3_takeOpening 58 S).2 := cFx_of (congrArg Prod.snd K3_takeOpening_2) hF
  have k_1b : (K3_takeOpening 58 S).1 = 0 ∨ (K3_takeOpening 58 S).1 = 1 := by rcases k_1v with ⟨h9, -⟩ | ⟨h9, -⟩ <;> omega
  have k_1n : (K3_takeOpening 58 S).1 = 0 ∨ (K3_takeOpening 58 S).2.1 8 3 = S.1 8 3 + 3 := by rcases k_1v with ⟨h9, -⟩ | ⟨-, h9, -⟩ <;> first | exact Or.inl h9 | exact Or.inr (by rw [h9, ci_eq, zu_eq])
  generalize hS_6 : (K3_takeOpening 58 S).2 = S_6 at *
  generalize hv_5 : (K3_takeOpening 58 S).1 = v_5 at *
  obtain ⟨hP, hLa, hLb, hcs, ha0, ha1, hga, hgb, hna, hnb, hma, hmb, hzz⟩ := id hV
  obtain ⟨hPa, p5a, p5b, pla, plb, pka, pkb, pga, pgb, pfa, pfb⟩ := id hP
  refine z_if_eq (tgt := 15) B.1 B.2.1 (zr_of (by omega) (by omega)) dX3_readAtom_6 (by decide) (fun c_7 => ?_) (fun c_7 => ?_)
  · --
    refine lv_aload_n B.1 B.2.1 dX3_readAtom_15 rfl (lv_at hl 0 rfl) ?_
    refine z_bipush B.1 B.2.1 (by decide) dX3_readAtom_16 ?_
    refine c_calli (q := (cq q x y)) (As := [.int (zI 40)]) (rest := []) B hK hM 8 (by decide) (by decide) rfl (cX3_take_ok l D cy (cq q x y) b S_6 hF  40 hV (by show 1 ≤ 40; omega) (by show 40 < 65536; omega)) (cwC 1 B wC_mRX3_76 wC_im_yX3_take wC_sl_yX3_take wC_in_RX3 wC_cd_yX3_take rfl rfl (by decide +kernel) ⟨by show 1 + 1 ≤ fA + 10; omega, by show 8 + (2 + 11) + 21 ≤ loA + 219; omega⟩) rfl hl.1 rfl (Nat.le_of_ble_eq_true rfl) dX3_readAtom_18 ⟨g_rc hR hg (cFx_gl (S := S_6) hF), g_rs hR hg (cFx_gl (S := S_6) hF)⟩ (fun z_11 S_10 H locs hp_9 hM => ?_)
    obtain ⟨hp_9, he_hp_9⟩ := hp_9
    have he_hp_9 := he_hp_9.symm
    subst he_hp_9
    have hp_9 : (K3_take 40 S_6).1 = z_11 := hp_9.symm
    subst hp_9
    have hg : gl S ≤ gl (K3_take 40 S_6).2 := Nat.le_trans hg (gl_of (S := S_6) (S' := (K3_take 40 S_6).2) (congrArg Prod.snd K3_take_2))
    refine W.widen (k := gl (K3_take 40 S_6).2 - gl S) (n := 2 * (gl (K3_take 40 S_6).2 - gl S)) (Nat.sub_le_sub_right (gl_of (S := S_6) (S' := (K3_take 40 S_6).2) (congrArg Prod.snd K3_take_2)) _) (Nat.mul_le_mul_left 2 (Nat.sub_le_sub_right (gl_of (S := S_6) (S' := (K3_take 40 S_6).2) (congrArg Prod.snd K3_take_2)) _)) ?_
    have k_8v := K3_take_v (x := 40) hV (by omega)
    have k_8l : S_6.1 8 3 ≤ (K3_take 40 S_6).2.1 8 3 := by rcases k_8v with ⟨-, h9, -⟩ | ⟨-, h9, -⟩ <;> rw [h9] <;> first | exact Int.le_refl _ | (simp only [ci_eq, zu_eq]; omega)
    have hV := rV_take (x := 40) hV (by omega)
    have hF : cFx 7 b (K3_take 40 S_6).2 := cFx_of (congrArg Prod.snd K3_take_2) hF
    have k_8b : (K3_take 40 S_6).1 = 0 ∨ (K3_take 40 S_6).1 = 1 := by rcases k_8v with ⟨h9, -⟩ | ⟨h9, -⟩ <;> omega
    have k_8n : (K3_take 40 S_6).1 = 0 ∨ (K3_take 40 S_6).2.1 8 3 = S_6.1 8 3 + 1 := by rcases k_8v with ⟨h9, -⟩ | ⟨-, h9, -⟩ <;> first | exact Or.inl h9 | exact Or.inr (by rw [h9, ci_eq, zu_eq])
    generalize hS_13 : (K3_take 40 S_6).2 = S_13 at *
    generalize hv_12 : (K3_take 40 S_6).1 = v_12 at *
    obtain ⟨hP, hLa, hLb, hcs, ha0, ha1, hga, hgb, hna, hnb, hma, hmb, hzz⟩ := id hV
    obtain ⟨hPa, p5a, p5b, pla, plb, pka, pkb, pga, pgb, pfa, pfb⟩ := id hP
    refine z_if_eq (tgt := 30) B.1 B.2.1 (zr_of (by omega) (by omega)) dX3_readAtom_21 (by decide) (fun c_14 => ?_) (fun c_14 => ?_)
    · --
      refine lv_aload_n B.1 B.2.1 dX3_readAtom_30 rfl (lv_at hl 0 rfl) ?_
      refine c_getr (q := (cq q x y)) (r := 9) B (iC3 _) hK hM 8 1 3 (by decide) rfl rfl (by decide) (by decide) rfl rfl rfl (cFx_r hF 8 1) (List.mem_cons_of_mem _ wC_fRX3_12) dX3_readAtom_31 ?_
      refine c_callv (q := (cq q x y)) (As := []) (rest := []) B hK hM 9 (by decide) (by decide) rfl (cX5_clear_ok l D cy (cq q x y) 7 b S_13 hF   ) (cwC 0 B wC_mRX3_145 wC_im_yX5_clear wC_sl_yX5_clear wC_in_RX5 wC_cd_yX5_clear rfl rfl (by decide +kernel) ⟨by show 0 + 1 ≤ fA + 10; omega, by show 8 + (1 + 11) + 0 ≤ loA + 219; omega⟩) rfl hl.1 rfl (Nat.le_of_ble_eq_true rfl) dX3_readAtom_34 ⟨g_rc hR hg (cFx_gl (S := S_13) hF), g_rs hR hg (cFx_gl (S := S_13) hF)⟩ (fun S_17 H locs hp_16 hM => ?_)
      have hp_16 := hp_16.symm
      subst hp_16
      have hP : pB 7 (cj (cj S_13 9 0 0) 9 1 0) := hP
      refine lv_aload_n B.1 B.2.1 dX3_readAtom_37 rfl (lv_at hl 0 rfl) ?_
      refine z_bipush B.1 B.2.1 (by decide) dX3_readAtom_38 ?_
      have hV : rV (cj (cj S_13 9 0 0) 9 1 0) := ⟨hP, (by show 0 ≤ (S_13.1 2 1); omega), (by show (S_13.1 2 1) ≤ 40; omega), hcs, (by show 0 ≤ (S_13.1 8 3); omega), (by show (S_13.1 8 3) ≤ (S_13.1 2 1); omega), (by show 0 ≤ (S_13.1 8 4); omega), (by show (S_13.1 8 4) ≤ 9; omega), (by show 0 ≤ (S_13.1 8 5); omega), (by show (S_13.1 8 5) ≤ 9; omega), (by show 0 ≤ (S_13.1 8 6); omega), (by show (S_13.1 8 6) ≤ 9 ∨ (S_13.1 8 6) = 1000000; omega), (by show (S_13.1 8 7) = 0 ∨ (S_13.1 8 7) = 1; omega)⟩
      refine c_calli (q := (cq q x y)) (As := [.int (zI 92)]) (rest := []) B hK hM 8 (by decide) (by decide) rfl (cX3_take_ok l D cy (cq q x y) b (cj (cj S_13 9 0 0) 9 1 0) hF  92 hV (by show 1 ≤ 92; omega) (by show 92 < 65536; omega)) (cwC 1 B wC_mRX3_76 wC_im_yX3_take wC_sl_yX3_take wC_in_RX3 wC_cd_yX3_take rfl rfl (by decide +kernel) ⟨by show 1 + 1 ≤ fA + 10; omega, by show 8 + (2 + 11) + 21 ≤ loA + 219; omega⟩) rfl hl.1 rfl (Nat.le_of_ble_eq_true rfl) dX3_readAtom_40 ⟨g_rc hR hg (cFx_gl (S := (cj (cj S_13 9 0 0) 9 1 0)) hF), g_rs hR hg (cFx_gl (S := (cj (cj S_13 9 0 0) 9 1 0)) hF)⟩ (fun z_21 S_20 H locs hp_19 hM => ?_)
      obtain ⟨hp_19, he_hp_19⟩ := hp_19
      have he_hp_19 := he_hp_19.symm
      subst he_hp_19
      have hp_19 : (K3_take 92 (cj (cj S_13 9 0 0) 9 1 0)).1 = z_21 := hp_19.symm
      subst hp_19
      have hg : gl S ≤ gl (K3_take 92 (cj (cj S_13 9 0 0) 9 1 0)).2 := Nat.le_trans hg (gl_of (S := (cj (cj S_13 9 0 0) 9 1 0)) (S' := (K3_take 92 (cj (cj S_13 9 0 0) 9 1 0)).2) (congrArg Prod.snd K3_take_2))
      refine W.widen (k := gl (K3_take 92 (cj (cj S_13 9 0 0) 9 1 0)).2 - gl S) (n := 2 * (gl (K3_take 92 (cj (cj S_13 9 0 0) 9 1 0)).2 - gl S)) (Nat.sub_le_sub_right (gl_of (S := (cj (cj S_13 9 0 0) 9 1 0)) (S' := (K3_take 92 (cj (cj S_13 9 0 0) 9 1 0)).2) (congrArg Prod.snd K3_take_2)) _) (Nat.mul_le_mul_left 2 (Nat.sub_le_sub_right (gl_of (S := (cj (cj S_13 9 0 0) 9 1 0)) (S' := (K3_take 92 (cj (cj S_13 9 0 0) 9 1 0)).2) (congrArg Prod.snd K3_take_2)) _)) ?_
      have k_18v := K3_take_v (x := 92) hV (by omega)
      have k_18l : (cj (cj S_13 9 0 0) 9 1 0).1 8 3 ≤ (K3_take 92 (cj (cj S_13 9 0 0) 9 1 0)).2.1 8 3 := by rcases k_18v with ⟨-, h9, -⟩ | ⟨-, h9, -⟩ <;> rw [h9] <;> first | exact Int.le_refl _ | (simp only [ci_eq, zu_eq]; omega)
      have hV := rV_take (x := 92) hV (by omega)
      have hF : cFx 7 b (K3_take 92 (cj (cj S_13 9 0 0) 9 1 0)).2 := cFx_of (congrArg Prod.snd K3_take_2) hF
      have k_18b : (K3_take 92 (cj (cj S_13 9 0 0) 9 1 0)).1 = 0 ∨ (K3_take 92 (cj (cj S_13 9 0 0) 9 1 0)).1 = 1 := by rcases k_18v with ⟨h9, -⟩ | ⟨h9, -⟩ <;> omega
      have k_18n : (K3_take 92 (cj (cj S_13 9 0 0) 9 1 0)).1 = 0 ∨ (K3_take 92 (cj (cj S_13 9 0 0) 9 1 0)).2.1 8 3 = (cj (cj S_13 9 0 0) 9 1 0).1 8 3 + 1 := by rcases k_18v with ⟨h9, -⟩ | ⟨-, h9, -⟩ <;> first | exact Or.inl h9 | exact Or.inr (by rw [h9, ci_eq, zu_eq])
      generalize hS_23 : (K3_take 92 (cj (cj S_13 9 0 0) 9 1 0)).2 = S_23 at *
      generalize hv_22 : (K3_take 92 (cj (cj S_13 9 0 0) 9 1 0)).1 = v_22 at *
      obtain ⟨hP, hLa, hLb, hcs, ha0, ha1, hga, hgb, hna, hnb, hma, hmb, hzz⟩ := id hV
      obtain ⟨hPa, p5a, p5b, pla, plb, pka, pkb, pga, pgb, pfa, pfb⟩ := id hP
      refine z_if_eq (tgt := 51) B.1 B.2.1 (zr_of (by omega) (by omega)) dX3_readAtom_43 (by decide) (fun c_24 => ?_) (fun c_24 => ?_)
      · --
        refine lv_aload_n B.1 B.2.1 dX3_readAtom_51 rfl (lv_at hl 0 rfl) ?_
        refine z_bipush B.1 B.2.1 (by decide) dX3_readAtom_52 ?_
        refine c_calli (q := (cq q x y)) (As := [.int (zI 91)]) (rest := []) B hK hM 8 (by decide) (by decide) rfl (cX3_take_ok l D cy (cq q x y) b S_23 hF  91 hV (by show 1 ≤ 91; omega) (by show 91 < 65536; omega)) (cwC 1 B wC_mRX3_76 wC_im_yX3_take wC_sl_yX3_take wC_in_RX3 wC_cd_yX3_take rfl rfl (by decide +kernel) ⟨by show 1 + 1 ≤ fA + 10; omega, by show 8 + (2 + 11) + 21 ≤ loA + 219; omega⟩) rfl hl.1 rfl (Nat.le_of_ble_eq_true rfl) dX3_readAtom_54 ⟨g_rc hR hg (cFx_gl (S := S_23) hF), g_rs hR hg (cFx_gl (S := S_23) hF)⟩ (fun z_28 S_27 H locs hp_26 hM => ?_)
        obtain ⟨hp_26, he_hp_26⟩ := hp_26
        have he_hp_26 := he_hp_26.symm
        subst he_hp_26
        have hp_26 : (K3_take 91 S_23).1 = z_28 := hp_26.symm
        subst hp_26
        have hg : gl S ≤ gl (K3_take 91 S_23).2 := Nat.le_trans hg (gl_of (S := S_23) (S' := (K3_take 91 S_23).2) (congrArg Prod.snd K3_take_2))
        refine W.widen (k := gl (K3_take 91 S_23).2 - gl S) (n := 2 * (gl (K3_take 91 S_23).2 - gl S)) (Nat.sub_le_sub_right (gl_of (S := S_23) (S' := (K3_take 91 S_23).2) (congrArg Prod.snd K3_take_2)) _) (Nat.mul_le_mul_left 2 (Nat.sub_le_sub_right (gl_of (S := S_23) (S' := (K3_take 91 S_23).2) (congrArg Prod.snd K3_take_2)) _)) ?_
        have k_25v := K3_take_v (x := 91) hV (by omega)
        have k_25l : S_23.1 8 3 ≤ (K3_take 91 S_23).2.1 8 3 := by rcases k_25v with ⟨-, h9, -⟩ | ⟨-, h9, -⟩ <;> rw [h9] <;> first | exact Int.le_refl _ | (simp only [ci_eq, zu_eq]; omega)
        have hV := rV_take (x := 91) hV (by omega)
        have hF : cFx 7 b (K3_take 91 S_23).2 := cFx_of (congrArg Prod.snd K3_take_2) hF
        have k_25b : (K3_take 91 S_23).1 = 0 ∨ (K3_take 91 S_23).1 = 1 := by rcases k_25v with ⟨h9, -⟩ | ⟨h9, -⟩ <;> omega
        have k_25n : (K3_take 91 S_23).1 = 0 ∨ (K3_take 91 S_23).2.1 8 3 = S_23.1 8 3 + 1 := by rcases k_25v with ⟨h9, -⟩ | ⟨-, h9, -⟩ <;> first | exact Or.inl h9 | exact Or.inr (by rw [h9, ci_eq, zu_eq])
        generalize hS_30 : (K3_take 91 S_23).2 = S_30 at *
        generalize hv_29 : (K3_take 91 S_23).1 = v_29 at *
        obtain ⟨hP, hLa, hLb, hcs, ha0, ha1, hga, hgb, hna, hnb, hma, hmb, hzz⟩ := id hV
        obtain ⟨hPa, p5a, p5b, pla, plb, pka, pkb, pga, pgb, pfa, pfb⟩ := id hP
        refine z_if_eq (tgt := 65) B.1 B.2.1 (zr_of (by omega) (by omega)) dX3_readAtom_57 (by decide) (fun c_31 => ?_) (fun c_31 => ?_)
        · --
          refine lv_aload_n B.1 B.2.1 dX3_readAtom_65 rfl (lv_at hl 0 rfl) ?_
          refine z_bipush B.1 B.2.1 (by decide) dX3_readAtom_66 ?_
          refine c_calli (q := (cq q x y)) (As := [.int (zI 46)]) (rest := []) B hK hM 8 (by decide) (by decide) rfl (cX3_take_ok l D cy (cq q x y) b S_30 hF  46 hV (by show 1 ≤ 46; omega) (by show 46 < 65536; omega)) (cwC 1 B wC_mRX3_76 wC_im_yX3_take wC_sl_yX3_take wC_in_RX3 wC_cd_yX3_take rfl rfl (by decide +kernel) ⟨by show 1 + 1 ≤ fA + 10; omega, by show 8 + (2 + 11) + 21 ≤ loA + 219; omega⟩) rfl hl.1 rfl (Nat.le_of_ble_eq_true rfl) dX3_readAtom_68 ⟨g_rc hR hg (cFx_gl (S := S_30) hF), g_rs hR hg (cFx_gl (S := S_30) hF)⟩ (fun z_35 S_34 H locs hp_33 hM => ?_)
          obtain ⟨hp_33, he_hp_33⟩ := hp_33
          have he_hp_33 := he_hp_33.symm
          subst he_hp_33
          have hp_33 : (K3_take 46 S_30).1 = z_35 := hp_33.symm
          subst hp_33
          have hg : gl S ≤ gl (K3_take 46 S_30).2 := Nat.le_trans hg (gl_of (S := S_30) (S' := (K3_take 46 S_30).2) (congrArg Prod.snd K3_take_2))
          refine W.widen (k := gl (K3_take 46 S_30).2 - gl S) (n := 2 * (gl (K3_take 46 S_30).2 - gl S)) (Nat.sub_le_sub_right (gl_of (S := S_30) (S' := (K3_take 46 S_30).2) (congrArg Prod.snd K3_take_2)) _) (Nat.mul_le_mul_left 2 (Nat.sub_le_sub_right (gl_of (S := S_30) (S' := (K3_take 46 S_30).2) (congrArg Prod.snd K3_take_2)) _)) ?_
          have k_32v := K3_take_v (x := 46) hV (by omega)
          have k_32l : S_30.1 8 3 ≤ (K3_take 46 S_30).2.1 8 3 := by rcases k_32v with ⟨-, h9, -⟩ | ⟨-, h9, -⟩ <;> rw [h9] <;> first | exact Int.le_refl _ | (simp only [ci_eq, zu_eq]; omega)
          have hV := rV_take (x := 46) hV (by omega)
          have hF : cFx 7 b (K3_take 46 S_30).2 := cFx_of (congrArg Prod.snd K3_take_2) hF
          have k_32b : (K3_take 46 S_30).1 = 0 ∨ (K3_take 46 S_30).1 = 1 := by rcases k_32v with ⟨h9, -⟩ | ⟨h9, -⟩ <;> omega
          have k_32n : (K3_take 46 S_30).1 = 0 ∨ (K3_take 46 S_30).2.1 8 3 = S_30.1 8 3 + 1 := by rcases k_32v with ⟨h9, -⟩ | ⟨-, h9, -⟩ <;> first | exact Or.inl h9 | exact Or.inr (by rw [h9, ci_eq, zu_eq])
          generalize hS_37 : (K3_take 46 S_30).2 = S_37 at *
          generalize hv_36 : (K3_take 46 S_30).1 = v_36 at *
          obtain ⟨hP, hLa, hLb, hcs, ha0, ha1, hga, hgb, hna, hnb, hma, hmb, hzz⟩ := id hV
          obtain ⟨hPa, p5a, p5b, pla, plb, pka, pkb, pga, pgb, pfa, pfb⟩ := id hP
          refine z_if_eq (tgt := 84) B.1 B.2.1 (zr_of (by omega) (by omega)) dX3_readAtom_71 (by decide) (fun c_38 => ?_) (fun c_38 => ?_)
          · --
            refine lv_aload_n B.1 B.2.1 dX3_readAtom_84 rfl (lv_at hl 0 rfl) ?_
            refine c_getr (q := (cq q x y)) (r := 2) B (iC3 _) hK hM 8 0 3 (by decide) rfl rfl (by decide) (by decide) rfl rfl rfl (cFx_r hF 8 0) (List.mem_cons_of_mem _ wC_fRX3_18) dX3_readAtom_85 ?_
            refine lv_aload_n B.1 B.2.1 dX3_readAtom_88 rfl (lv_at hl 0 rfl) ?_
            refine c_geti (q := (cq q x y)) (x := S_37.1 8 3) B (iC3 _) hK hM 8 3 3 (by decide) rfl rfl (by decide) (by decide) rfl rfl (by decide) rfl (List.mem_cons_of_mem _ wC_fRX3_32) dX3_readAtom_89 ?_
            refine c_calli (q := (cq q x y)) (As := [.int (zI (S_37.1 8 3))]) (rest := []) B hK hM 2 (by decide) (by decide) rfl (cX4_at_ok l D cy (cq q x y) 7 b S_37 hF 2 (by decide) (S_37.1 8 3) (by show 0 ≤ (S_37.1 2 1); omega) (by show (S_37.1 2 1) ≤ 100000; omega) (by show -10000000 ≤ (S_37.1 8 3); omega) (by show (S_37.1 8 3) ≤ 10000000; omega) (hcs_of hcs)) (cwC 1 B wC_mRX3_70 wC_im_yX4_at wC_sl_yX4_at wC_in_RX4 wC_cd_yX4_at rfl rfl (by decide +kernel) ⟨by show 0 + 1 ≤ fA + 10; omega, by show 8 + (2 + 11) + 0 ≤ loA + 219; omega⟩) rfl hl.1 rfl (Nat.le_of_ble_eq_true rfl) dX3_readAtom_92 ⟨g_rc hR hg (cFx_gl (S := S_37) hF), g_rs hR hg (cFx_gl (S := S_37) hF)⟩ (fun z_42 S_41 H locs hp_40 hM => ?_)
            obtain ⟨hp_40, he_hp_40⟩ := hp_40
            have he_hp_40 := he_hp_40.symm
            subst he_hp_40
            have hp_40 : (K4_at 2 (S_37.1 8 3) S_37) = z_42 := hp_40.symm
            subst hp_40
            have f_43 := K4_at_b2 (S := S_37) hcs (S_37.1 8 3)
            refine lv_istore_n (lv' := [(2, .int (zI ((K4_at 2 (S_37.1 8 3) S_37)))), (0, .ref (q 8)), (1, .int (zI dp))]) B.1 B.2.1 dX3_readAtom_95 rfl hl (by decide) rfl (fun ls hl => ?_)
            refine va_ldcS B.1 B.2.1 B.2.2.2.1 (hG.1.1 15 (by decide)) dX3_readAtom_96 ?_
            refine lv_iload_n B.1 B.2.1 dX3_readAtom_98 rfl (lv_at hl 0 rfl) ?_
            refine j_callv (As := [.int (zI ((K4_at 2 (S_37.1 8 3) S_37)))]) (rest := []) B (j_env1 hG hM) (cJ0_indexOf_0f7a4_ok l V.1 (V.2 15) (V.2 26) 14 sB1 ((K4_at 2 (S_37.1 8 3) S_37)) (by omega) (by omega) (by decide) (by decide)) (cwC 1 B wC_mRX3_162 wC_im_yJ0_indexOf_0f7a4 wC_sl_yJ0_indexOf_0f7a4 wC_in_RJ0 wC_cd_yJ0_indexOf_0f7a4 rfl rfl (by decide +kernel) ⟨by show 3 + 1 ≤ fA + 10; omega, by show 8 + (2 + 11) + 130 ≤ loA + 219; omega⟩) rfl hl.1 rfl (Nat.le_of_ble_eq_true rfl) dX3_readAtom_99 ⟨g_rc hR hg (cFx_gl (S := S_37) hF), g_rs hR hg (cFx_gl (S := S_37) hF)⟩ (fun z_44 hz_45 => ?_)
            have hz_45 : (K_ix1 ((K4_at 2 (S_37.1 8 3) S_37))) = z_44 := hz_45.symm
            subst hz_45
            have f_46 := K_ix1_bd ((K4_at 2 (S_37.1 8 3) S_37))
            refine z_if_lt (tgt := 115) B.1 B.2.1 (zr_of (by omega) (by omega)) dX3_readAtom_102 (by decide) (fun c_47 => ?_) (fun c_47 => ?_)
            · --
              refine lv_aload_n B.1 B.2.1 dX3_readAtom_115 rfl (lv_at hl 1 rfl) ?_
              refine lv_dup B.1 B.2.1 dX3_readAtom_116 rfl ?_
              refine c_geti (q := (cq q x y)) (x := S_37.1 8 3) B (iC3 _) hK hM 8 3 3 (by decide) rfl rfl (by decide) (by decide) rfl rfl (by decide) rfl (List.mem_cons_of_mem _ wC_fRX3_32) dX3_readAtom_117 ?_
              refine z_iconst B.1 B.2.1 dX3_readAtom_120 ?_
              refine z_iadd (x := (S_37.1 8 3) + 1) B.1 B.2.1 rfl dX3_readAtom_121 ?_
              refine c_puti (q := (cq q x y)) B (iC3 _) tyX3 tyX3_ok nmX3 hK hM 8 3 3 (by decide) rfl rfl (by decide) (by decide) rfl rfl rfl (by decide +kernel) (by decide) (List.mem_cons_of_mem _ wC_fRX3_32) dX3_readAtom_122 (fun H locs hM => ?_)
              have hP : pB 7 (ci S_37 8 3 ((S_37.1 8 3) + 1)) := pB_ci (by decide) (by decide) hP
              refine lv_aload_n B.1 B.2.1 dX3_readAtom_125 rfl (lv_at hl 1 rfl) ?_
              refine c_getr (q := (cq q x y)) (r := 9) B (iC3 _) hK hM 8 1 3 (by decide) rfl rfl (by decide) (by decide) rfl rfl rfl (cFx_r hF 8 1) (List.mem_cons_of_mem _ wC_fRX3_12) dX3_readAtom_126 ?_
              refine lv_iload_n B.1 B.2.1 dX3_readAtom_129 rfl (lv_at hl 0 rfl) ?_
              refine c_callv (q := (cq q x y)) (As := [.int (zI ((K4_at 2 (S_37.1 8 3) S_37)))]) (rest := []) B hK hM 9 (by decide) (by decide) rfl (cX5_add_ok l D cy (cq q x y) 7 b (ci S_37 8 3 ((S_37.1 8 3) + 1)) hF  ((K4_at 2 (S_37.1 8 3) S_37)) (by show 0 ≤ ((K4_at 2 (S_37.1 8 3) S_37)); omega) (by show ((K4_at 2 (S_37.1 8 3) S_37)) < 65536; omega)) (cwC 1 B wC_mRX3_167 wC_im_yX5_add wC_sl_yX5_add wC_in_RX5 wC_cd_yX5_add rfl rfl (by decide +kernel) ⟨by show 0 + 1 ≤ fA + 10; omega, by show 8 + (2 + 11) + 0 ≤ loA + 219; omega⟩) rfl hl.1 rfl (Nat.le_of_ble_eq_true rfl) dX3_readAtom_130 ⟨g_rc hR hg (cFx_gl (S := (ci S_37 8 3 ((S_37.1 8 3) + 1))) hF), g_rs hR hg (cFx_gl (S := (ci S_37 8 3 ((S_37.1 8 3) + 1))) hF)⟩ (fun S_50 H locs hp_49 hM => ?_)
              have hp_49 := hp_49.symm
              subst hp_49
              have hg : gl S ≤ gl (K5_add ((K4_at 2 (S_37.1 8 3) S_37)) (ci S_37 8 3 ((S_37.1 8 3) + 1))) := Nat.le_trans hg (gl_of (S := (ci S_37 8 3 ((S_37.1 8 3) + 1))) (S' := (K5_add ((K4_at 2 (S_37.1 8 3) S_37)) (ci S_37 8 3 ((S_37.1 8 3) + 1)))) K5_add_22)
              refine W.widen (k := gl (K5_add ((K4_at 2 (S_37.1 8 3) S_37)) (ci S_37 8 3 ((S_37.1 8 3) + 1))) - gl S) (n := 2 * (gl (K5_add ((K4_at 2 (S_37.1 8 3) S_37)) (ci S_37 8 3 ((S_37.1 8 3) + 1))) - gl S)) (Nat.sub_le_sub_right (gl_of (S := (ci S_37 8 3 ((S_37.1 8 3) + 1))) (S' := (K5_add ((K4_at 2 (S_37.1 8 3) S_37)) (ci S_37 8 3 ((S_37.1 8 3) + 1)))) K5_add_22) _) (Nat.mul_le_mul_left 2 (Nat.sub_le_sub_right (gl_of (S := (ci S_37 8 3 ((S_37.1 8 3) + 1))) (S' := (K5_add ((K4_at 2 (S_37.1 8 3) S_37)) (ci S_37 8 3 ((S_37.1 8 3) + 1)))) K5_add_22) _)) ?_
              have hF : cFx 7 b (K5_add ((K4_at 2 (S_37.1 8 3) S_37)) (ci S_37 8 3 ((S_37.1 8 3) + 1))) := cFx_of K5_add_22 hF
              have hP : pB 7 (K5_add ((K4_at 2 (S_37.1 8 3) S_37)) (ci S_37 8 3 ((S_37.1 8 3) + 1))) := pB_of (congrFun K5_add_1 _) (fun j hj => congrFun K5_add_1 _) hP
              refine lv_aload_n B.1 B.2.1 dX3_readAtom_133 rfl (lv_at hl 1 rfl) ?_
              refine z_iconst B.1 B.2.1 dX3_readAtom_134 ?_
              refine g_calli (E := "java/lang/IllegalArgumentException") (As := [.int (zI 0)]) (rest := []) B hK hG hM 8 (by decide) (by decide) rfl (cX3_addOneSign_ok l hl0 D cy q V n0 x y b (K5_add ((K4_at 2 (S_37.1 8 3) S_37)) (ci S_37 8 3 ((S_37.1 8 3) + 1))) hF  0 hP (by show 0 = 0 ∨ 0 = 1; omega)) (cwC 1 B wC_mRX3_156 wC_im_yX3_addOneSign wC_sl_yX3_addOneSign wC_in_RX3 wC_cd_yX3_addOneSign rfl rfl (by decide +kernel) ⟨by show 8 + 1 ≤ fA + 10; omega, by show 8 + (2 + 11) + 135 ≤ loA + 219; omega⟩) rfl hl.1 rfl (Nat.le_of_ble_eq_true rfl) dX3_readAtom_135 hR hg (cFx_gl hF) (gl_of (K3_addOneSign_R0 (tu := 0) (S := (K5_add ((K4_at 2 (S_37.1 8 3) S_37)) (ci S_37 8 3 ((S_37.1 8 3) + 1)))) hP).1.1) (fun c_52 => (by subst hS_6; subst hv_5; subst hS_13; subst hv_12; subst hS_23; subst hv_22; subst hS_30; subst hv_29; subst hS_37; subst hv_36; unfold K3_readAtom; exact ((if_pos c_7).trans ((if_pos c_14).trans ((if_pos c_24).trans ((if_pos c_31).trans ((if_pos c_38).trans ((if_pos c_47).trans (if_neg c_52))))))))) (fun x y H locs c_52 hM => ?_)
              have hg : gl S ≤ gl (K3_addOneSign 0 (K5_add ((K4_at 2 (S_37.1 8 3) S_37)) (ci S_37 8 3 ((S_37.1 8 3) + 1)))).2.2 := Nat.le_trans hg (gl_of (K3_addOneSign_R0 (tu := 0) (S := (K5_add ((K4_at 2 (S_37.1 8 3) S_37)) (ci S_37 8 3 ((S_37.1 8 3) + 1)))) hP).1.1)
              have k_51 := (K3_addOneSign_R0 (tu := 0) (S := (K5_add ((K4_at 2 (S_37.1 8 3) S_37)) (ci S_37 8 3 ((S_37.1 8 3) + 1)))) hP).1
              have hF : cFx 7 b (K3_addOneSign 0 (K5_add ((K4_at 2 (S_37.1 8 3) S_37)) (ci S_37 8 3 ((S_37.1 8 3) + 1)))).2.2 := cFx_of k_51.1 hF
              generalize hS_54 : (K3_addOneSign 0 (K5_add ((K4_at 2 (S_37.1 8 3) S_37)) (ci S_37 8 3 ((S_37.1 8 3) + 1)))).2.2 = S_54 at *
              generalize hv_53 : (K3_addOneSign 0 (K5_add ((K4_at 2 (S_37.1 8 3) S_37)) (ci S_37 8 3 ((S_37.1 8 3) + 1)))).2.1 = v_53 at *
              exact g_reti (S := S_54) B hM (by subst hS_6; subst hv_5; subst hS_13; subst hv_12; subst hS_23; subst hv_22; subst hS_30; subst hv_29; subst hS_37; subst hv_36; subst hS_54; subst hv_53; unfold K3_readAtom; exact ((if_pos c_7).trans ((if_pos c_14).trans ((if_pos c_24).trans ((if_pos c_31).trans ((if_pos c_38).trans ((if_pos c_47).trans (if_pos c_52)))))))) dX3_readAtom_138
            · --
              exact g_throw (S := S_37) (E := "java/lang/IllegalArgumentException") (ik := 49) (is := 51) (ic := 53) 23 (by decide) hl0 B hG hM rfl sX_java_lang_IllegalArgumentException (by decide +kernel) (List.mem_cons_of_mem _ wC_cRX3_49) (List.mem_cons_of_mem _ wC_in__java_lang_IllegalArgumentException_) (tC_RX3_53 _) tN_RX3_53 hl.1 (Nat.le_of_ble_eq_true rfl) hR (by show 5 < fA + 10; omega) (by show 90 ≤ loA + 219; omega) hg (cFx_gl hF) (tO_RX3_53 _) dX3_readAtom_105 dX3_readAtom_108 dX3_readAtom_109 dX3_readAtom_111 dX3_readAtom_114 (by subst hS_6; subst hv_5; subst hS_13; subst hv_12; subst hS_23; subst hv_22; subst hS_30; subst hv_29; subst hS_37; subst hv_36; unfold K3_readAtom; exact ((if_pos c_7).trans ((if_pos c_14).trans ((if_pos c_24).trans ((if_pos c_31).trans ((if_pos c_38).trans (if_neg c_47)))))))
          · --
            refine lv_aload_n B.1 B.2.1 dX3_readAtom_74 rfl (lv_at hl 0 rfl) ?_
            refine c_callv (q := (cq q x y)) (As := []) (rest := []) B hK hM 8 (by decide) (by decide) rfl (cX3_addAnySign_ok l D cy (cq q x y) b S_37 hF   hP) (cwC 0 B wC_mRX3_153 wC_im_yX3_addAnySign wC_sl_yX3_addAnySign wC_in_RX3 wC_cd_yX3_addAnySign rfl rfl (by decide +kernel) ⟨by show 2 + 1 ≤ fA + 10; omega, by show 8 + (1 + 11) + 44 ≤ loA + 219; omega⟩) rfl hl.1 rfl (Nat.le_of_ble_eq_true rfl) dX3_readAtom_75 ⟨g_rc hR hg (cFx_gl (S := S_37) hF), g_rs hR hg (cFx_gl (S := S_37) hF)⟩ (fun S_57 H locs hp_56 hM => ?_)
            have hp_56 := hp_56.symm
            subst hp_56
            have hg : gl S ≤ gl (K3_addAnySign S_37) := Nat.le_trans hg (gl_of (S := S_37) (S' := (K3_addAnySign S_37)) K3_addAnySign_22)
            refine W.widen (k := gl (K3_addAnySign S_37) - gl S) (n := 2 * (gl (K3_addAnySign S_37) - gl S)) (Nat.sub_le_sub_right (gl_of (S := S_37) (S' := (K3_addAnySign S_37)) K3_addAnySign_22) _) (Nat.mul_le_mul_left 2 (Nat.sub_le_sub_right (gl_of (S := S_37) (S' := (K3_addAnySign S_37)) K3_addAnySign_22) _)) ?_
            have hF : cFx 7 b (K3_addAnySign S_37) := cFx_of K3_addAnySign_22 hF
            have hP : pB 7 (K3_addAnySign S_37) := pB_of (congrFun K3_addAnySign_1 _) (fun j hj => congrFun K3_addAnySign_1 _) hP
            refine lv_aload_n B.1 B.2.1 dX3_readAtom_78 rfl (lv_at hl 0 rfl) ?_
            refine z_iconst B.1 B.2.1 dX3_readAtom_79 ?_
            refine g_calli (E := "java/lang/IllegalArgumentException") (As := [.int (zI 0)]) (rest := []) B hK hG hM 8 (by decide) (by decide) rfl (cX3_addOneSign_ok l hl0 D cy q V n0 x y b (K3_addAnySign S_37) hF  0 hP (by show 0 = 0 ∨ 0 = 1; omega)) (cwC 1 B wC_mRX3_156 wC_im_yX3_addOneSign wC_sl_yX3_addOneSign wC_in_RX3 wC_cd_yX3_addOneSign rfl rfl (by decide +kernel) ⟨by show 8 + 1 ≤ fA + 10; omega, by show 8 + (2 + 11) + 135 ≤ loA + 219; omega⟩) rfl hl.1 rfl (Nat.le_of_ble_eq_true rfl) dX3_readAtom_80 hR hg (cFx_gl hF) (gl_of (K3_addOneSign_R0 (tu := 0) (S := (K3_addAnySign S_37)) hP).1.1) (fun c_59 => (by subst hS_6; subst hv_5; subst hS_13; subst hv_12; subst hS_23; subst hv_22; subst hS_30; subst hv_29; subst hS_37; subst hv_36; unfold K3_readAtom; exact ((if_pos c_7).trans ((if_pos c_14).trans ((if_pos c_24).trans ((if_pos c_31).trans ((if_neg c_38).trans (if_neg c_59)))))))) (fun x y H locs c_59 hM => ?_)
            have hg : gl S ≤ gl (K3_addOneSign 0 (K3_addAnySign S_37)).2.2 := Nat.le_trans hg (gl_of (K3_addOneSign_R0 (tu := 0) (S := (K3_addAnySign S_37)) hP).1.1)
            have k_58 := (K3_addOneSign_R0 (tu := 0) (S := (K3_addAnySign S_37)) hP).1
            have hF : cFx 7 b (K3_addOneSign 0 (K3_addAnySign S_37)).2.2 := cFx_of k_58.1 hF
            generalize hS_61 : (K3_addOneSign 0 (K3_addAnySign S_37)).2.2 = S_61 at *
            generalize hv_60 : (K3_addOneSign 0 (K3_addAnySign S_37)).2.1 = v_60 at *
            exact g_reti (S := S_61) B hM (by subst hS_6; subst hv_5; subst hS_13; subst hv_12; subst hS_23; subst hv_22; subst hS_30; subst hv_29; subst hS_37; subst hv_36; subst hS_61; subst hv_60; unfold K3_readAtom; exact ((if_pos c_7).trans ((if_pos c_14).trans ((if_pos c_24).trans ((if_pos c_31).trans ((if_neg c_38).trans (if_pos c_59))))))) dX3_readAtom_83
        · --
          refine lv_aload_n B.1 B.2.1 dX3_readAtom_60 rfl (lv_at hl 0 rfl) ?_
          refine g_calli (E := "java/lang/IllegalArgumentException") (As := []) (rest := []) B hK hG hM 8 (by decide) (by decide) rfl (cX3_readSet_ok l hl0 D cy q V n0 x y b S_30 hF   hV) (cwC 0 B wC_mRX3_150 wC_im_yX3_readSet wC_sl_yX3_readSet wC_in_RX3 wC_cd_yX3_readSet rfl rfl (by decide +kernel) ⟨by show 9 + 1 ≤ fA + 10; omega, by show 8 + (4 + 11) + 196 ≤ loA + 219; omega⟩) rfl hl.1 rfl (Nat.le_of_ble_eq_true rfl) dX3_readAtom_61 hR hg (cFx_gl hF) (gl_of (K3_readSet_R  (S := S_30) hV ).1.1) (fun c_63 => (by subst hS_6; subst hv_5; subst hS_13; subst hv_12; subst hS_23; subst hv_22; subst hS_30; subst hv_29; unfold K3_readAtom; exact ((if_pos c_7).trans ((if_pos c_14).trans ((if_pos c_24).trans ((if_neg c_31).trans (if_neg c_63))))))) (fun x y H locs c_63 hM => ?_)
          have hg : gl S ≤ gl (K3_readSet S_30).2.2 := Nat.le_trans hg (gl_of (K3_readSet_R  (S := S_30) hV ).1.1)
          obtain ⟨k_62, -, k_62v, -⟩ := K3_readSet_R  (S := S_30) hV 
          obtain ⟨hV, k_62l, k_62p⟩ := k_62v c_63
          have hF : cFx 7 b (K3_readSet S_30).2.2 := cFx_of k_62.1 hF
          generalize hS_65 : (K3_readSet S_30).2.2 = S_65 at *
          generalize hv_64 : (K3_readSet S_30).2.1 = v_64 at *
          obtain ⟨hP, hLa, hLb, hcs, ha0, ha1, hga, hgb, hna, hnb, hma, hmb, hzz⟩ := id hV
          exact g_reti (S := S_65) B hM (by subst hS_6; subst hv_5; subst hS_13; subst hv_12; subst hS_23; subst hv_22; subst hS_30; subst hv_29; subst hS_65; subst hv_64; unfold K3_readAtom; exact ((if_pos c_7).trans ((if_pos c_14).trans ((if_pos c_24).trans ((if_neg c_31).trans (if_pos c_63)))))) dX3_readAtom_64
      · --
        refine lv_aload_n B.1 B.2.1 dX3_readAtom_46 rfl (lv_at hl 0 rfl) ?_
        refine g_calli (E := "java/lang/IllegalArgumentException") (As := []) (rest := []) B hK hG hM 8 (by decide) (by decide) rfl (cX3_readEscaped_ok l hl0 D cy q V n0 x y b S_23 hF   hV) (cwC 0 B wC_mRX3_147 wC_im_yX3_readEscaped wC_sl_yX3_readEscaped wC_in_RX3 wC_cd_yX3_readEscaped rfl rfl (by decide +kernel) ⟨by show 9 + 1 ≤ fA + 10; omega, by show 8 + (3 + 11) + 156 ≤ loA + 219; omega⟩) rfl hl.1 rfl (Nat.le_of_ble_eq_true rfl) dX3_readAtom_47 hR hg (cFx_gl hF) (gl_of (K3_readEscaped_R  (S := S_23) hV ).1.1) (fun c_67 => (by subst hS_6; subst hv_5; subst hS_13; subst hv_12; subst hS_23; subst hv_22; unfold K3_readAtom; exact ((if_pos c_7).trans ((if_pos c_14).trans ((if_neg c_24).trans (if_neg c_67)))))) (fun x y H locs c_67 hM => ?_)
        have hg : gl S ≤ gl (K3_readEscaped S_23).2.2 := Nat.le_trans hg (gl_of (K3_readEscaped_R  (S := S_23) hV ).1.1)
        obtain ⟨k_66, -, k_66v, -⟩ := K3_readEscaped_R  (S := S_23) hV 
        obtain ⟨hV, k_66l, k_66p⟩ := k_66v c_67
        have hF : cFx 7 b (K3_readEscaped S_23).2.2 := cFx_of k_66.1 hF
        generalize hS_69 : (K3_readEscaped S_23).2.2 = S_69 at *
        generalize hv_68 : (K3_readEscaped S_23).2.1 = v_68 at *
        obtain ⟨hP, hLa, hLb, hcs, ha0, ha1, hga, hgb, hna, hnb, hma, hmb, hzz⟩ := id hV
        exact g_reti (S := S_69) B hM (by subst hS_6; subst hv_5; subst hS_13; subst hv_12; subst hS_23; subst hv_22; subst hS_69; subst hv_68; unfold K3_readAtom; exact ((if_pos c_7).trans ((if_pos c_14).trans ((if_neg c_24).trans (if_pos c_67))))) dX3_readAtom_50
    · --
      refine lv_aload_n B.1 B.2.1 dX3_readAtom_24 rfl (lv_at hl 0 rfl) ?_
      refine lv_iload_n B.1 B.2.1 dX3_readAtom_25 rfl (lv_at hl 1 rfl) ?_
      refine g_calli (E := "java/lang/IllegalArgumentException") (As := [.int (zI dp)]) (rest := []) B hK hG hM 8 (by decide) (by decide) rfl (cX3_readGroup_ok l hl0 D cy q V n0 x y b S_13 hF F fA loA L0 hA hFR dp hV (by show L0 ≤ dp; omega) (by show dp ≤ 8; omega) (by show 0 ≤ dp; omega)) (cwC 1 B wC_mRX3_142 wC_im_yX3_readGroup wC_sl_yX3_readGroup wC_in_RX3 wC_cd_yX3_readGroup rfl rfl (by decide +kernel) ⟨by show (fA + 7) + 1 ≤ fA + 10; omega, by show 8 + (4 + 11) + (loA + 113) ≤ loA + 219; omega⟩) rfl hl.1 rfl (Nat.le_of_ble_eq_true rfl) dX3_readAtom_26 hR hg (cFx_gl hF) (gl_of (K3_readGroup_R (F := F) hFR (dp := dp) (S := S_13) hV).1.1) (fun c_71 => (by subst hS_6; subst hv_5; subst hS_13; subst hv_12; unfold K3_readAtom; exact ((if_pos c_7).trans ((if_neg c_14).trans (if_neg c_71))))) (fun x y H locs c_71 hM => ?_)
      have hg : gl S ≤ gl (K3_readGroup F dp S_13).2.2 := Nat.le_trans hg (gl_of (K3_readGroup_R (F := F) hFR (dp := dp) (S := S_13) hV).1.1)
      obtain ⟨k_70, -, k_70v, -⟩ := K3_readGroup_R (F := F) hFR (dp := dp) (S := S_13) hV
      obtain ⟨hV, k_70l, k_70p⟩ := k_70v c_71
      have hF : cFx 7 b (K3_readGroup F dp S_13).2.2 := cFx_of k_70.1 hF
      generalize hS_73 : (K3_readGroup F dp S_13).2.2 = S_73 at *
      generalize hv_72 : (K3_readGroup F dp S_13).2.1 = v_72 at *
      obtain ⟨hP, hLa, hLb, hcs, ha0, ha1, hga, hgb, hna, hnb, hma, hmb, hzz⟩ := id hV
      obtain ⟨hPa, p5a, p5b, pla, plb, pka, pkb, pga, pgb, pfa, pfb⟩ := id hP
      obtain ⟨k_70pa, k_70pb⟩ := k_70p
      exact g_reti (S := S_73) B hM (by subst hS_6; subst hv_5; subst hS_13; subst hv_12; subst hS_73; subst hv_72; unfold K3_readAtom; exact ((if_pos c_7).trans ((if_neg c_14).trans (if_pos c_71)))) dX3_readAtom_29
  · --
    refine lv_aload_n B.1 B.2.1 dX3_readAtom_9 rfl (lv_at hl 0 rfl) ?_
    refine lv_iload_n B.1 B.2.1 dX3_readAtom_10 rfl (lv_at hl 1 rfl) ?_
    refine g_calli (E := "java/lang/IllegalArgumentException") (As := [.int (zI dp)]) (rest := []) B hK hG hM 8 (by decide) (by decide) rfl (cX3_readInside_ok l hl0 D cy q V n0 x y b S_6 hF F fA loA L0 hA hFR dp hV (by show L0 ≤ dp; omega) (by show dp ≤ 8; omega) (by show 0 ≤ dp; omega)) (cwC 1 B wC_mRX3_109 wC_im_yX3_readInside wC_sl_yX3_readInside wC_in_RX3 wC_cd_yX3_readInside rfl rfl (by decide +kernel) ⟨by show (fA + 6) + 1 ≤ fA + 10; omega, by show 8 + (3 + 11) + (loA + 90) ≤ loA + 219; omega⟩) rfl hl.1 rfl (Nat.le_of_ble_eq_true rfl) dX3_readAtom_11 hR hg (cFx_gl hF) (gl_of (K3_readInside_R (F := F) hFR (dp := dp) (S := S_6) hV).1.1) (fun c_75 => (by subst hS_6; subst hv_5; unfold K3_readAtom; exact ((if_neg c_7).trans (if_neg c_75)))) (fun x y H locs c_75 hM => ?_)
    have hg : gl S ≤ gl (K3_readInside F dp S_6).2.2 := Nat.le_trans hg (gl_of (K3_readInside_R (F := F) hFR (dp := dp) (S := S_6) hV).1.1)
    obtain ⟨k_74, -, k_74v, -⟩ := K3_readInside_R (F := F) hFR (dp := dp) (S := S_6) hV
    obtain ⟨hV, k_74l, k_74p⟩ := k_74v c_75
    have hF : cFx 7 b (K3_readInside F dp S_6).2.2 := cFx_of k_74.1 hF
    generalize hS_77 : (K3_readInside F dp S_6).2.2 = S_77 at *
    generalize hv_76 : (K3_readInside F dp S_6).2.1 = v_76 at *
    obtain ⟨hP, hLa, hLb, hcs, ha0, ha1, hga, hgb, hna, hnb, hma, hmb, hzz⟩ := id hV
    obtain ⟨hPa, p5a, p5b, pla, plb, pka, pkb, pga, pgb, pfa, pfb⟩ := id hP
    obtain ⟨k_74pa, k_74pb⟩ := k_74p
    exact g_reti (S := S_77) B hM (by subst hS_6; subst hv_5; subst hS_77; subst hv_76; unfold K3_readAtom; exact ((if_neg c_7).trans (if_pos c_75))) dX3_readAtom_14
theorem K3_readAtom_R {F : Int → CSt → CR} (hFR : ∀ (S : CSt) (dp : Int), rV S → rR (wP S) S (F dp S)) {dp : Int} {S : CSt} (hV : rV S) (hs : ¬ K4_at 2 (S.1 8 3) S = 0) : rR (fun v T => wP S v T ∧ S.1 8 3 < T.1 8 3) S (K3_readAtom F dp S) := by
  have hb := K4_at_b2 hV.2.2.2.1 (S.1 8 3)
  have hlt := (hb.2.2 hs).2
  have h3 := hV.2.2.2.2.1
  unfold K3_readAtom
  refine rR.to hV (by decide) (fun _ => ?_) (fun _ _ h1 => ?_)
  · rw [if_pos rfl]
    refine rR.tk hV (by decide) (fun _ => ?_) (fun _ _ h1 => ?_)
    · rw [if_pos rfl]
      have hV1 : rV (cj (cj S 9 0 0) 9 1 0) := rV_k5 hV rfl
      have k1 : rK S (cj (cj S 9 0 0) 9 1 0) := ⟨rfl, fun _ _ _ _ => rfl, fun n h _ _ => (cj_ne h).trans (cj_ne h)⟩
      have eA : ∀ i, K4_at 2 i (cj (cj S 9 0 0) 9 1 0) = K4_at 2 i S := fun i => K4_at_cong rfl rfl
      have e8 : (cj (cj S 9 0 0) 9 1 0).1 = S.1 := rfl
      refine rR.mono k1 (Int.le_refl _) ?_
      generalize cj (cj S 9 0 0) 9 1 0 = U at *
      have e83 : U.1 8 3 = S.1 8 3 := by rw [e8]
      have e21 : U.1 2 1 = S.1 2 1 := by rw [e8]
      refine rR.tk hV1 (by decide) (fun _ => ?_) (fun _ _ h2 => ?_)
      · rw [if_pos rfl]
        refine rR.tk hV1 (by decide) (fun _ => ?_) (fun _ _ h3 => ?_)
        · rw [if_pos rfl]
          refine rR.tk hV1 (by decide) (fun _ => ?_) (fun _ _ h4 => ?_)
          · rw [if_pos rfl]
            split
            · have h5 : rV (ci U 8 3 (U.1 8 3 + 1)) := rV_at hV1 (by omega) (by omega)
              have h6 : rV (K5_add (K4_at 2 (U.1 8 3) U) (ci U 8 3 (U.1 8 3 + 1))) := rV_k5 h5 K5_add_1
              have e6 : (K5_add (K4_at 2 (U.1 8 3) U) (ci U 8 3 (U.1 8 3 + 1))).1 8 3 = U.1 8 3 + 1 := by rw [K5_add_1, ci_eq, zu_eq]
              refine rR.mono (rK.c8.tr (rK.k5 K5_add_1 K5_add_22 (fun n hn => K5_add_2 hn))) (by omega) (rR.bd (K3_addOneSign_R h6) (fun _ h7 _ hp => rR.ret rK.rf h7 (Int.le_refl _) ?_))
              rw [hp.1, hp.2]
              unfold wP
              rw [hp.2, e6]
              omega
            · exact rR.thr rK.rf hV1.1
          · rw [if_neg z1n0]
            have h5 : rV (K3_addAnySign (ci U 8 3 (U.1 8 3 + 1))) := rV_k5 h4 K3_addAnySign_1
            have e6 : (K3_addAnySign (ci U 8 3 (U.1 8 3 + 1))).1 8 3 = U.1 8 3 + 1 := by rw [K3_addAnySign_1, ci_eq, zu_eq]
            refine rR.mono (rK.k5 K3_addAnySign_1 K3_addAnySign_22 (fun n hn => K3_addAnySign_2 hn)) (by rw [K3_addAnySign_1]; exact Int.le_refl _) (rR.bd (K3_addOneSign_R h5) (fun _ h7 _ hp => rR.ret rK.rf h7 (Int.le_refl _) ?_))
            rw [hp.1, hp.2]
            unfold wP
            rw [hp.2, e6]
            omega
        · rw [if_neg z1n0]
          refine rR.bd (K3_readSet_R h3) (fun _ h5 a5 hp => rR.ret rK.rf h5 (Int.le_refl _) ?_)
          rw [ci_eq, zu_eq] at a5
          rw [hp]
          unfold wP
          omega
      · rw [if_neg z1n0]
        refine rR.bd (K3_readEscaped_R h2) (fun _ h5 a5 hp => rR.ret rK.rf h5 (Int.le_refl _) ?_)
        rw [ci_eq, zu_eq] at a5
        rw [hp.1]
        unfold wP
        omega
    · rw [if_neg z1n0]
      refine rR.bd (K3_readGroup_R hFR h1) (fun _ h5 a5 hp => rR.ret rK.rf h5 (Int.le_refl _) ?_)
      unfold wP at hp ⊢
      rw [ci_eq, zu_eq] at hp a5
      omega
  · rw [if_neg z1n0]
    refine rR.bd (K3_readInside_R hFR h1) (fun _ h5 a5 hp => rR.ret rK.rf h5 (Int.le_refl _) ?_)
    unfold wP at hp ⊢
    rw [ci_eq, zu_eq] at hp a5
    omega
