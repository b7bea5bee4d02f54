def zl255 (x : Int64) : Int := (x.toInt32 &&& 255).toInt
theorem zl255_eq {x : Int64} : zI (zli x) &&& zI 255 = zI (zl255 x) := by
  unfold zli zl255 zI
  rw [Int32.ofInt_toInt, Int32.ofInt_toInt]
  rfl
theorem zl255_bd (x : Int64) : 0 ≤ zl255 x ∧ zl255 x ≤ 255 := by
  unfold zl255
  generalize x.toInt32 = z
  have h : (z &&& 255).toBitVec.toNat ≤ 255 := by
    rw [Int32.toBitVec_and, BitVec.toNat_and]
    exact Nat.and_le_right
  have e : (z &&& 255).toInt = ((z &&& 255).toBitVec.toNat : Int) := BitVec.toInt_eq_toNat_of_lt (by omega)
  rw [e]
  omega
def K6_byteOf (s9 : Int64) (i : Int) : Int := zl255 (zushr s9 (8 * i))
set_option maxHeartbeats 1000000 in
set_option maxRecDepth 100000 in
theorem cX6_byteOf_ok (l : Launch) (s9 : Int64) (i : Int)  : sMi l yX6_byteOf (.code yX6_byteOf cX6_byteOf 3 (some .int) :: TBC) ({ frames := 0, cells := 0, slots := 0, locals := 0 }) [.long s9, .int (zI i)] (fun z => z = K6_byteOf s9 i) := by
  refine s_of (cc := cX6_byteOf) (maxL := 3) (ret := (some .int)) (C := RX6) (by decide) rfl rfl (Nat.le_of_ble_eq_true rfl) ?_
  intro p e s m args below meth c ls B hl
  have hl : lv_has ls 3 [(0, .long s9), (2, .int (zI i))] := hl
  refine lv_lload_n B.1 B.2.1 dX6_byteOf_0 rfl (lv_at hl 0 rfl) ?_
  refine z_bipush B.1 B.2.1 (by decide) dX6_byteOf_1 ?_
  refine lv_iload_n B.1 B.2.1 dX6_byteOf_3 rfl (lv_at hl 1 rfl) ?_
  refine z_imul (x := 8 * i) B.1 B.2.1 rfl dX6_byteOf_4 ?_
  refine lv_lushr (v := zushr s9 (8 * i)) B.1 B.2.1 dX6_byteOf_5 rfl ?_
  refine z_l2i B.1 B.2.1 dX6_byteOf_6 ?_
  refine z_sipush B.1 B.2.1 (by decide) dX6_byteOf_7 ?_
  refine lv_iand B.1 B.2.1 dX6_byteOf_10 ?_
  rw [zl255_eq]
  exact s_reti B (rfl) dX6_byteOf_11
theorem K6_byteOf_bd (s9 : Int64) (i : Int) : 0 ≤ K6_byteOf s9 i ∧ K6_byteOf s9 i ≤ 255 := zl255_bd _
def K6_forgetFound (S : CSt) : CSt := (K7_fill39 (-1) (K7_fill38 (-1) S))
set_option maxHeartbeats 1000000 in
set_option maxRecDepth 100000 in
theorem cX6_forgetFound_ok (l : Launch) (D : va_G) (cy : Nat → ClassId) (q : Nat → Nat) (a b : Nat) (S : CSt) (hF : cFx a b S)  : cMv l D cy q yX6_forgetFound (.code yX6_forgetFound cX6_forgetFound 1 none :: TBC) ({ frames := 1, cells := 0, slots := 0, locals := 23 }) S 0 [] (fun S' => S' = K6_forgetFound S) := by
  refine c_of (cc := cX6_forgetFound) (maxL := 1) (ret := none) (C := RX6) (by decide) rfl rfl (Nat.le_of_ble_eq_true rfl) ?_
  intro p e s m args below meth c ls B hK hM hl
  have hl : lv_has ls 1 [(0, .ref (q 0))] := hl
  refine lv_aload_n B.1 B.2.1 dX6_forgetFound_0 rfl (lv_at hl 0 rfl) ?_
  refine c_getr (q := q) (r := 38) B (iC6 _) hK hM 0 9 6 (by decide) rfl rfl (by decide) (by decide) rfl rfl rfl (cFx_r hF 0 9) (List.mem_cons_of_mem _ wC_fRX6_56) dX6_forgetFound_1 ?_
  refine z_iconst B.1 B.2.1 dX6_forgetFound_4 ?_
  refine c_scallv (q := q) (As := [.ref (q 38), .int (zI (-1))]) (rest := []) B hK hM (cJ7_fill38_ok l D cy q a b S hF (-1)) (csC 2 B wC_mRX6_148 wC_st_yJ7_fill_53178 wC_in_RJ7 wC_cd_yJ7_fill_53178 rfl rfl (by decide +kernel) ⟨Nat.le_of_ble_eq_true rfl, Nat.le_of_ble_eq_true rfl⟩) rfl hl.1 rfl (Nat.le_of_ble_eq_true rfl) dX6_forgetFound_5 ⟨Nat.zero_le _, Nat.zero_le _⟩ (fun S_2 H locs hp_1 hM => ?_)
  have hp_1 := hp_1.symm
  subst hp_1
  have hF : cFx a b (K7_fill38 (-1) S) := cFx_of (congrArg Prod.snd K7_fill38_2) hF
  refine lv_aload_n B.1 B.2.1 dX6_forgetFound_8 rfl (lv_at hl 0 rfl) ?_
  refine c_getr (q := q) (r := 39) B (iC6 _) hK hM 0 10 6 (by decide) rfl rfl (by decide) (by decide) rfl rfl rfl (cFx_r hF 0 10) (List.mem_cons_of_mem _ wC_fRX6_60) dX6_forgetFound_9 ?_
  refine z_iconst B.1 B.2.1 dX6_forgetFound_12 ?_
  refine c_scallv (q := q) (As := [.ref (q 39), .int (zI (-1))]) (rest := []) B hK hM (cJ7_fill39_ok l D cy q a b (K7_fill38 (-1) S) hF (-1)) (csC 2 B wC_mRX6_148 wC_st_yJ7_fill_53178 wC_in_RJ7 wC_cd_yJ7_fill_53178 rfl rfl (by decide +kernel) ⟨Nat.le_of_ble_eq_true rfl, Nat.le_of_ble_eq_true rfl⟩) rfl hl.1 rfl (Nat.le_of_ble_eq_true rfl) dX6_forgetFound_13 ⟨Nat.zero_le _, Nat.zero_le _⟩ (fun S_4 H locs hp_3 hM => ?_)
  have hp_3 := hp_3.symm
  subst hp_3
  have hF : cFx a b (K7_fill39 (-1) (K7_fill38 (-1) S)) := cFx_of (congrArg Prod.snd K7_fill39_2) hF
  exact c_retv B hM (rfl) dX6_forgetFound_16
theorem K6_forgetFound_2 {S : CSt} : (K6_forgetFound S).2 = S.2 := by
  unfold K6_forgetFound
  rw [K7_fill39_2, K7_fill38_2]
theorem K6_forgetFound_1 {S : CSt} {n : Nat} (h : n ≠ 38) (h' : n ≠ 39) : (K6_forgetFound S).1 n = S.1 n := by
  unfold K6_forgetFound
  rw [K7_fill39_1 h', K7_fill38_1 h]
def K6_steps (S : CSt) : Int := S.1 0 12
set_option maxHeartbeats 1000000 in
set_option maxRecDepth 100000 in
theorem cX6_steps_ok (l : Launch) (D : va_G) (cy : Nat → ClassId) (q : Nat → Nat) (a b : Nat) (S : CSt) (hF : cFx a b S)  : cMi l D cy q yX6_steps (.code yX6_steps cX6_steps 1 (some .int) :: TBC) ({ frames := 0, cells := 0, slots := 0, locals := 0 }) S 0 [] (fun r S' => r = K6_steps S ∧ S' = S) := by
  refine c_of (cc := cX6_steps) (maxL := 1) (ret := (some .int)) (C := RX6) (by decide) rfl rfl (Nat.le_of_ble_eq_true rfl) ?_
  intro p e s m args below meth c ls B hK hM hl
  have hl : lv_has ls 1 [(0, .ref (q 0))] := hl
  refine lv_aload_n B.1 B.2.1 dX6_steps_0 rfl (lv_at hl 0 rfl) ?_
  refine c_geti (q := q) (x := S.1 0 12) B (iC6 _) hK hM 0 12 6 (by decide) rfl rfl (by decide) (by decide) rfl rfl (by decide) rfl (List.mem_cons_of_mem _ wC_fRX6_67) dX6_steps_1 ?_
  exact c_reti B hM (⟨rfl, rfl⟩) dX6_steps_4
def K6_from (k : Int) (S : CSt) : Int := (if k < 0 then (-1) else (if 10 ≤ k then (-1) else S.1 38 k.toNat : Int) : Int)
set_option maxHeartbeats 1000000 in
set_option maxRecDepth 100000 in
theorem cX6_from_ok (l : Launch) (D : va_G) (cy : Nat → ClassId) (q : Nat → Nat) (a b : Nat) (S : CSt) (hF : cFx a b S) (k : Int) (hka : -2147483648 ≤ k) (hkb : k ≤ 2147483647) : cMi l D cy q yX6_from (.code yX6_from cX6_from 2 (some .int) :: TBC) ({ frames := 0, cells := 0, slots := 0, locals := 0 }) S 0 [.int (zI k)] (fun r S' => r = K6_from k S ∧ S' = S) := by
  refine c_of (cc := cX6_from) (maxL := 2) (ret := (some .int)) (C := RX6) (by decide) rfl rfl (Nat.le_of_ble_eq_true rfl) ?_
  intro p e s m args below meth c ls B hK hM hl
  have hl : lv_has ls 2 [(0, .ref (q 0)), (1, .int (zI k))] := hl
  refine lv_iload_n B.1 B.2.1 dX6_from_0 rfl (lv_at hl 1 rfl) ?_
  refine z_joinH (P := fun v H' locs' => v = (if k < 0 then (-1) else (if 10 ≤ k then (-1) else S.1 38 k.toNat : Int) : Int) ∧ cH D cy q (cA q) s.heap S H' locs') (pcJ := 23) (lsJ := ls) (stJ := []) (fun v_1 H locs hv_2 => ?_) (fun hJ_3 => ?_)
  · --
    obtain ⟨hv_2, hM⟩ := hv_2
    have hv_2 := hv_2.symm
    subst hv_2
    exact c_reti B hM (⟨rfl, rfl⟩) dX6_from_23
  · --
    refine z_if_lt (tgt := 22) B.1 B.2.1 (zr_of (by omega) (by omega)) dX6_from_1 (by decide) (fun c_4 => ?_) (fun c_4 => ?_)
    · --
      refine z_iconst B.1 B.2.1 dX6_from_22 ?_
      exact hJ_3 _ _ _ ⟨(if_pos c_4).symm, hM⟩
    · --
      refine lv_iload_n B.1 B.2.1 dX6_from_4 rfl (lv_at hl 1 rfl) ?_
      refine lv_aload_n B.1 B.2.1 dX6_from_5 rfl (lv_at hl 0 rfl) ?_
      refine c_getr (q := q) (r := 38) B (iC6 _) hK hM 0 9 6 (by decide) rfl rfl (by decide) (by decide) rfl rfl rfl (cFx_r hF 0 9) (List.mem_cons_of_mem _ wC_fRX6_56) dX6_from_6 ?_
      refine c_alen (q := q) B hK hM 38 (by decide) (by decide) dX6_from_9 ?_
      rw [show S.2.2.2 38 = 10 from hF.2.1 38 (by decide) (by decide)]
      refine z_icmp_ge (tgt := 22) B.1 B.2.1 (zr_of (by omega) (by omega)) (zr_of (by decide) (by decide)) dX6_from_10 (by decide) (fun c_6 => ?_) (fun c_6 => ?_)
      · --
        refine z_iconst B.1 B.2.1 dX6_from_22 ?_
        exact hJ_3 _ _ _ ⟨((if_neg c_4).trans (if_pos c_6)).symm, hM⟩
      · --
        refine lv_aload_n B.1 B.2.1 dX6_from_13 rfl (lv_at hl 0 rfl) ?_
        refine c_getr (q := q) (r := 38) B (iC6 _) hK hM 0 9 6 (by decide) rfl rfl (by decide) (by decide) rfl rfl rfl (cFx_r hF 0 9) (List.mem_cons_of_mem _ wC_fRX6_56) dX6_from_14 ?_
        refine lv_iload_n B.1 B.2.1 dX6_from_17 rfl (lv_at hl 1 rfl) ?_
        refine c_iald (q := q) (x := S.1 38 k.toNat) B hK hM 38 (by decide) rfl (zr_of (by omega) (by omega)) (by omega) (by rw [show S.2.2.2 38 = 10 from hF.2.1 38 (by decide) (by decide)]; omega) rfl dX6_from_18 ?_
        refine lv_goto (tgt := 23) B.1 B.2.1 dX6_from_19 (by decide) ?_
        exact hJ_3 _ _ _ ⟨((if_neg c_4).trans (if_neg c_6)).symm, hM⟩
def K6_to (k : Int) (S : CSt) : Int := (if k < 0 then (-1) else (if 10 ≤ k then (-1) else S.1 39 k.toNat : Int) : Int)
set_option maxHeartbeats 1000000 in
set_option maxRecDepth 100000 in
theorem cX6_to_ok (l : Launch) (D : va_G) (cy : Nat → ClassId) (q : Nat → Nat) (a b : Nat) (S : CSt) (hF : cFx a b S) (k : Int) (hka : -2147483648 ≤ k) (hkb : k ≤ 2147483647) : cMi l D cy q yX6_to (.code yX6_to cX6_to 2 (some .int) :: TBC) ({ frames := 0, cells := 0, slots := 0, locals := 0 }) S 0 [.int (zI k)] (fun r S' => r = K6_to k S ∧ S' = S) := by
  refine c_of (cc := cX6_to) (maxL := 2) (ret := (some .int)) (C := RX6) (by decide) rfl rfl (Nat.le_of_ble_eq_true rfl) ?_
  intro p e s m args below meth c ls B hK hM hl
  have hl : lv_has ls 2 [(0, .ref (q 0)), (1, .int (zI k))] := hl
  refine lv_iload_n B.1 B.2.1 dX6_to_0 rfl (lv_at hl 1 rfl) ?_
  refine z_joinH (P := fun v H' locs' => v = (if k < 0 then (-1) else (if 10 ≤ k then (-1) else S.1 39 k.toNat : Int) : Int) ∧ cH D cy q (cA q) s.heap S H' locs') (pcJ := 23) (lsJ := ls) (stJ := []) (fun v_1 H locs hv_2 => ?_) (fun hJ_3 => ?_)
  · --
    obtain ⟨hv_2, hM⟩ := hv_2
    have hv_2 := hv_2.symm
    subst hv_2
    exact c_reti B hM (⟨rfl, rfl⟩) dX6_to_23
  · --
    refine z_if_lt (tgt := 22) B.1 B.2.1 (zr_of (by omega) (by omega)) dX6_to_1 (by decide) (fun c_4 => ?_) (fun c_4 => ?_)
    · --
      refine z_iconst B.1 B.2.1 dX6_to_22 ?_
      exact hJ_3 _ _ _ ⟨(if_pos c_4).symm, hM⟩
    · --
      refine lv_iload_n B.1 B.2.1 dX6_to_4 rfl (lv_at hl 1 rfl) ?_
      refine lv_aload_n B.1 B.2.1 dX6_to_5 rfl (lv_at hl 0 rfl) ?_
      refine c_getr (q := q) (r := 39) B (iC6 _) hK hM 0 10 6 (by decide) rfl rfl (by decide) (by decide) rfl rfl rfl (cFx_r hF 0 10) (List.mem_cons_of_mem _ wC_fRX6_60) dX6_to_6 ?_
      refine c_alen (q := q) B hK hM 39 (by decide) (by decide) dX6_to_9 ?_
      rw [show S.2.2.2 39 = 10 from hF.2.1 39 (by decide) (by decide)]
      refine z_icmp_ge (tgt := 22) B.1 B.2.1 (zr_of (by omega) (by omega)) (zr_of (by decide) (by decide)) dX6_to_10 (by decide) (fun c_6 => ?_) (fun c_6 => ?_)
      · --
        refine z_iconst B.1 B.2.1 dX6_to_22 ?_
        exact hJ_3 _ _ _ ⟨((if_neg c_4).trans (if_pos c_6)).symm, hM⟩
      · --
        refine lv_aload_n B.1 B.2.1 dX6_to_13 rfl (lv_at hl 0 rfl) ?_
        refine c_getr (q := q) (r := 39) B (iC6 _) hK hM 0 10 6 (by decide) rfl rfl (by decide) (by decide) rfl rfl rfl (cFx_r hF 0 10) (List.mem_cons_of_mem _ wC_fRX6_60) dX6_to_14 ?_
        refine lv_iload_n B.1 B.2.1 dX6_to_17 rfl (lv_at hl 1 rfl) ?_
        refine c_iald (q := q) (x := S.1 39 k.toNat) B hK hM 39 (by decide) rfl (zr_of (by omega) (by omega)) (by omega) (by rw [show S.2.2.2 39 = 10 from hF.2.1 39 (by decide) (by decide)]; omega) rfl dX6_to_18 ?_
        refine lv_goto (tgt := 23) B.1 B.2.1 dX6_to_19 (by decide) ?_
        exact hJ_3 _ _ _ ⟨((if_neg c_4).trans (if_neg c_6)).symm, hM⟩
def K6_start (p9 : Int) (S : CSt) : CR := (if p9 < 0 then (1, 0, S) else (if p9 ≤ 24 then (0, p9, (ci S 0 11 p9)) else (1, 0, S)))
set_option maxHeartbeats 1000000 in
set_option maxRecDepth 100000 in
theorem cX6_start_ok (l : Launch) (hl0 : l.stackTraces = false) (D : va_G) (cy : Nat → ClassId) (q : Nat → Nat) (V : Nat × (Nat → Nat)) (n0 x y a b : Nat) (S : CSt) (hF : cFx a b S) (p9 : Int) (hp9a : -2147483648 ≤ p9) (hp9b : p9 ≤ 2147483647) : gMi l D cy q V n0 x y "java/lang/IllegalArgumentException" yX6_start (.code yX6_start cX6_start 2 (some .int) :: TBC) 6 90 S [.ref (q 0), .int (zI p9)] (K6_start p9 S) := by
  refine g_of (cc := cX6_start) (maxL := 2) (ret := (some .int)) (by decide) rfl rfl (Nat.le_of_ble_eq_true rfl) ?_
  intro p e s m args below meth c ls B hK hG hM hl
  generalize gA (cq q x y) n0 = A at hG hM ⊢
  have hR : (headSpec (.code yX6_start cX6_start 2 (some .int) :: TBC) (gRm 6 90 S)).room.cells = (gK - gl S) + 1 ∧ (headSpec (.code yX6_start cX6_start 2 (some .int) :: TBC) (gRm 6 90 S)).room.slots = 2 * (gK - gl S) + 6 := ⟨rfl, rfl⟩
  have hl : lv_has ls 2 [(0, .ref (q 0)), (1, .int (zI p9))] := hl
  refine lv_iload_n B.1 B.2.1 dX6_start_0 rfl (lv_at hl 1 rfl) ?_
  refine z_if_lt (tgt := 10) B.1 B.2.1 (zr_of (by omega) (by omega)) dX6_start_1 (by decide) (fun c_1 => ?_) (fun c_1 => ?_)
  · --
    exact g_throw (S := S) (E := "java/lang/IllegalArgumentException") (ik := 73) (is := 117) (ic := 77) 1 (by decide) hl0 B hG hM rfl sX_java_lang_IllegalArgumentException (by decide +kernel) (List.mem_cons_of_mem _ wC_cRX6_73) (List.mem_cons_of_mem _ wC_in__java_lang_IllegalArgumentException_) (tC_RX6_77 _) tN_RX6_77 hl.1 (Nat.le_of_ble_eq_true rfl) hR (Nat.le_of_ble_eq_true rfl) (Nat.le_of_ble_eq_true rfl) (Nat.le_refl _) (cFx_gl hF) (tO_RX6_77 _) dX6_start_10 dX6_start_13 dX6_start_14 dX6_start_16 dX6_start_19 (by unfold K6_start; exact (if_pos c_1))
  · --
    refine lv_iload_n B.1 B.2.1 dX6_start_4 rfl (lv_at hl 1 rfl) ?_
    refine z_bipush B.1 B.2.1 (by decide) dX6_start_5 ?_
    refine z_icmp_le (tgt := 20) B.1 B.2.1 (zr_of (by omega) (by omega)) (zr_of (by decide) (by decide)) dX6_start_7 (by decide) (fun c_2 => ?_) (fun c_2 => ?_)
    · --
      refine lv_aload_n B.1 B.2.1 dX6_start_20 rfl (lv_at hl 0 rfl) ?_
      refine lv_iload_n B.1 B.2.1 dX6_start_21 rfl (lv_at hl 1 rfl) ?_
      refine c_puti (q := (cq q x y)) B (iC6 _) tyX6 tyX6_ok nmX6 hK hM 0 11 6 (by decide) rfl rfl (by decide) (by decide) rfl rfl rfl (by decide +kernel) (by decide) (List.mem_cons_of_mem _ wC_fRX6_63) dX6_start_22 (fun H locs hM => ?_)
      refine lv_aload_n B.1 B.2.1 dX6_start_25 rfl (lv_at hl 0 rfl) ?_
      refine c_geti (q := (cq q x y)) (x := p9) B (iC6 _) hK hM 0 11 6 (by decide) rfl rfl (by decide) (by decide) rfl rfl (by decide) rfl (List.mem_cons_of_mem _ wC_fRX6_63) dX6_start_26 ?_
      exact g_reti (S := (ci S 0 11 p9)) B hM (by unfold K6_start; exact ((if_neg c_1).trans (if_pos c_2))) dX6_start_29
    · --
      exact g_throw (S := S) (E := "java/lang/IllegalArgumentException") (ik := 73) (is := 117) (ic := 77) 1 (by decide) hl0 B hG hM rfl sX_java_lang_IllegalArgumentException (by decide +kernel) (List.mem_cons_of_mem _ wC_cRX6_73) (List.mem_cons_of_mem _ wC_in__java_lang_IllegalArgumentException_) (tC_RX6_77 _) tN_RX6_77 hl.1 (Nat.le_of_ble_eq_true rfl) hR (Nat.le_of_ble_eq_true rfl) (Nat.le_of_ble_eq_true rfl) (Nat.le_refl _) (cFx_gl hF) (tO_RX6_77 _) dX6_start_10 dX6_start_13 dX6_start_14 dX6_start_16 dX6_start_19 (by unfold K6_start; exact ((if_neg c_1).trans (if_neg c_2)))
def K6_result (p9 : Int) (S : CSt) : CR := (if p9 < 0 then (1, 0, S) else (if p9 < (S.1 4 1) then (0, (K4_at 4 p9 S), S) else (1, 0, S)))
set_option maxHeartbeats 1000000 in
set_option maxRecDepth 100000 in
theorem cX6_result_ok (l : Launch) (hl0 : l.stackTraces = false) (D : va_G) (cy : Nat → ClassId) (q : Nat → Nat) (V : Nat × (Nat → Nat)) (n0 x y a b : Nat) (S : CSt) (hF : cFx a b S) (p9 : Int) (hp9a : -2147483648 ≤ p9) (hp9b : p9 ≤ 2147483647) (h0 : 0 ≤ S.1 4 1) (h1 : S.1 4 1 ≤ 200) (hc4 : ∀ j, 0 ≤ S.1 15 j ∧ S.1 15 j < 65536) : gMi l D cy q V n0 x y "java/util/NoSuchElementException" yX6_result (.code yX6_result cX6_result 2 (some .char) :: TBC) 6 90 S [.ref (q 0), .int (zI p9)] (K6_result p9 S) := by
  refine g_of (cc := cX6_result) (maxL := 2) (ret := (some .char)) (by decide) rfl rfl (Nat.le_of_ble_eq_true rfl) ?_
  intro p e s m args below meth c ls B hK hG hM hl
  generalize gA (cq q x y) n0 = A at hG hM ⊢
  have hR : (headSpec (.code yX6_result cX6_result 2 (some .char) :: TBC) (gRm 6 90 S)).room.cells = (gK - gl S) + 1 ∧ (headSpec (.code yX6_result cX6_result 2 (some .char) :: TBC) (gRm 6 90 S)).room.slots = 2 * (gK - gl S) + 6 := ⟨rfl, rfl⟩
  have hl : lv_has ls 2 [(0, .ref (q 0)), (1, .int (zI p9))] := hl
  refine lv_iload_n B.1 B.2.1 dX6_result_0 rfl (lv_at hl 1 rfl) ?_
  refine z_if_lt (tgt := 15) B.1 B.2.1 (zr_of (by omega) (by omega)) dX6_result_1 (by decide) (fun c_1 => ?_) (fun c_1 => ?_)
  · --
    exact g_throwN (S := S) (ik := 139) (is := 141) 2 (by decide) hl0 B hG hM rfl rfl sX_java_util_NoSuchElementException (List.mem_cons_of_mem _ wC_cRX6_139) (List.mem_cons_of_mem _ wC_in__java_util_NoSuchElementException_) (tC_RX6_143 _) tN_RX6_143 hl.1 (Nat.le_of_ble_eq_true rfl) hR (Nat.le_of_ble_eq_true rfl) (Nat.le_of_ble_eq_true rfl) (Nat.le_refl _) (cFx_gl hF) (tO_RX6_143 _) dX6_result_15 dX6_result_18 dX6_result_19 dX6_result_21 dX6_result_24 (by unfold K6_result; exact (if_pos c_1))
  · --
    refine lv_iload_n B.1 B.2.1 dX6_result_4 rfl (lv_at hl 1 rfl) ?_
    refine lv_aload_n B.1 B.2.1 dX6_result_5 rfl (lv_at hl 0 rfl) ?_
    refine c_getr (q := (cq q x y)) (r := 4) B (iC6 _) hK hM 0 3 6 (by decide) rfl rfl (by decide) (by decide) rfl rfl rfl (cFx_r hF 0 3) (List.mem_cons_of_mem _ wC_fRX6_24) dX6_result_6 ?_
    refine c_calli (q := (cq q x y)) (As := []) (rest := [.int (zI p9)]) B hK hM 4 (by decide) (by decide) rfl (cX4_length_ok l D cy (cq q x y) a b S hF 4 (by decide)  ) (cwC 0 B wC_mRX6_80 wC_im_yX4_length wC_sl_yX4_length wC_in_RX4 wC_cd_yX4_length rfl rfl (by decide +kernel) ⟨Nat.le_of_ble_eq_true rfl, Nat.le_of_ble_eq_true rfl⟩) rfl hl.1 rfl (Nat.le_of_ble_eq_true rfl) dX6_result_9 ⟨g_rc hR (Nat.le_refl _) (cFx_gl (S := S) hF), g_rs hR (Nat.le_refl _) (cFx_gl (S := S) hF)⟩ (fun z_5 S_4 H locs hp_3 hM => ?_)
    obtain ⟨hp_3, he_hp_3⟩ := hp_3
    have he_hp_3 := he_hp_3.symm
    subst he_hp_3
    have hp_3 : S.1 4 1 = z_5 := hp_3.symm
    subst hp_3
    refine z_icmp_lt (tgt := 25) B.1 B.2.1 (zr_of (by omega) (by omega)) (zr_of (by omega) (by omega)) dX6_result_12 (by decide) (fun c_6 => ?_) (fun c_6 => ?_)
    · --
      refine lv_aload_n B.1 B.2.1 dX6_result_25 rfl (lv_at hl 0 rfl) ?_
      refine c_getr (q := (cq q x y)) (r := 4) B (iC6 _) hK hM 0 3 6 (by decide) rfl rfl (by decide) (by decide) rfl rfl rfl (cFx_r hF 0 3) (List.mem_cons_of_mem _ wC_fRX6_24) dX6_result_26 ?_
      refine lv_iload_n B.1 B.2.1 dX6_result_29 rfl (lv_at hl 1 rfl) ?_
      refine c_calli (q := (cq q x y)) (As := [.int (zI p9)]) (rest := []) B hK hM 4 (by decide) (by decide) rfl (cX4_at_ok l D cy (cq q x y) a b S hF 4 (by decide) p9 (by show 0 ≤ (S.1 4 1); omega) (by show (S.1 4 1) ≤ 100000; omega) (by show -10000000 ≤ p9; omega) (by show p9 ≤ 10000000; omega) hc4) (cwC 1 B wC_mRX6_144 wC_im_yX4_at wC_sl_yX4_at wC_in_RX4 wC_cd_yX4_at rfl rfl (by decide +kernel) ⟨Nat.le_of_ble_eq_true rfl, Nat.le_of_ble_eq_true rfl⟩) rfl hl.1 rfl (Nat.le_of_ble_eq_true rfl) dX6_result_30 ⟨g_rc hR (Nat.le_refl _) (cFx_gl (S := S) hF), g_rs hR (Nat.le_refl _) (cFx_gl (S := S) hF)⟩ (fun z_10 S_9 H locs hp_8 hM => ?_)
      obtain ⟨hp_8, he_hp_8⟩ := hp_8
      have he_hp_8 := he_hp_8.symm
      subst he_hp_8
      have hp_8 : (K4_at 4 p9 S) = z_10 := hp_8.symm
      subst hp_8
      have f_11 := K4_at_bd (t := 4) (S := S) hc4 p9
      exact g_retc (S := S) B hM (by omega) (by omega) (by unfold K6_result; exact ((if_neg c_1).trans (if_pos c_6))) dX6_result_33
    · --
      exact g_throwN (S := S) (ik := 139) (is := 141) 2 (by decide) hl0 B hG hM rfl rfl sX_java_util_NoSuchElementException (List.mem_cons_of_mem _ wC_cRX6_139) (List.mem_cons_of_mem _ wC_in__java_util_NoSuchElementException_) (tC_RX6_143 _) tN_RX6_143 hl.1 (Nat.le_of_ble_eq_true rfl) hR (Nat.le_of_ble_eq_true rfl) (Nat.le_of_ble_eq_true rfl) (Nat.le_refl _) (cFx_gl hF) (tO_RX6_143 _) dX6_result_15 dX6_result_18 dX6_result_19 dX6_result_21 dX6_result_24 (by unfold K6_result; exact ((if_neg c_1).trans (if_neg c_6)))
theorem K4_copyL_1 {t : Nat} : ∀ (n : Nat) (i : Int) (S : CSt), (∀ m, m ≠ t → m ≠ 11 + t → (K4_copyL t n i S).1 m = S.1 m) ∧ (K4_copyL t n i S).2 = S.2
  | 0, i, S => by
    rw [K4_copyL]
    exact ⟨fun _ _ _ => rfl, rfl⟩
  | n + 1, i, S => by
    rw [K4_copyL]
    split
    · exact ⟨fun _ _ _ => rfl, rfl⟩
    · obtain ⟨h1, h2⟩ := K4_copyL_1 (t := t) n (i + 1) (K4_add t (K4_at 1 i S) S).2
      exact ⟨fun m a b => (h1 m a b).trans (K4_add_1 a b), h2.trans K4_add_2⟩
theorem K4_copy_1 {t n : Nat} {S : CSt} (h : n ≠ t) (h' : n ≠ 11 + t) : (K4_copy t S).1 n = S.1 n := by
  unfold K4_copy
  rw [(K4_copyL_1 _ _ _).1 n h h', ci_ne h]
theorem K4_copy_2 {t : Nat} {S : CSt} : (K4_copy t S).2 = S.2 := by
  unfold K4_copy
  rw [(K4_copyL_1 _ _ _).2]
  rfl
def K6_text (S : CSt) : CR := (if (S.1 1 1) ≤ 24 then (0, (K6_forgetFound (ci (ci (K4_copy 3 S) 1 1 0) 0 11 0)).1 3 1, (K6_forgetFound (ci (ci (K4_copy 3 S) 1 1 0) 0 11 0))) else (1, 0, S))
set_option maxHeartbeats 1000000 in
set_option maxRecDepth 100000 in
theorem cX6_text_ok (l : Launch) (hl0 : l.stackTraces = false) (D : va_G) (cy : Nat → ClassId) (q : Nat → Nat) (V : Nat × (Nat → Nat)) (n0 x y a b : Nat) (S : CSt) (hF : cFx a b S) (h0 : 0 ≤ S.1 1 1) (h1 : S.1 1 1 ≤ 40) (hc1 : ∀ j, 0 ≤ S.1 12 j ∧ S.1 12 j < 65536) : gMi l D cy q V n0 x y "java/lang/IllegalStateException" yX6_text (.code yX6_text cX6_text 1 (some .int) :: TBC) 6 90 S [.ref (q 0)] (K6_text S) := by
  refine g_of (cc := cX6_text) (maxL := 1) (ret := (some .int)) (by decide) rfl rfl (Nat.le_of_ble_eq_true rfl) ?_
  intro p e s m args below meth c ls B hK hG hM hl
  generalize gA (cq q x y) n0 = A at hG hM ⊢
  have hR : (headSpec (.code yX6_text cX6_text 1 (some .int) :: TBC) (gRm 6 90 S)).room.cells = (gK - gl S) + 1 ∧ (headSpec (.code yX6_text cX6_text 1 (some .int) :: TBC) (gRm 6 90 S)).room.slots = 2 * (gK - gl S) + 6 := ⟨rfl, rfl⟩
  have hl : lv_has ls 1 [(0, .ref (q 0))] := hl
  refine lv_aload_n B.1 B.2.1 dX6_text_0 rfl (lv_at hl 0 rfl) ?_
  refine c_getr (q := (cq q x y)) (r := 1) B (iC6 _) hK hM 0 0 6 (by decide) rfl rfl (by decide) (by decide) rfl rfl rfl (cFx_r hF 0 0) (List.mem_cons_of_mem _ wC_fRX6_14) dX6_text_1 ?_
  refine c_calli (q := (cq q x y)) (As := []) (rest := []) B hK hM 1 (by decide) (by decide) rfl (cX4_length_ok l D cy (cq q x y) a b S hF 1 (by decide)  ) (cwC 0 B wC_mRX6_80 wC_im_yX4_length wC_sl_yX4_length wC_in_RX4 wC_cd_yX4_length rfl rfl (by decide +kernel) ⟨Nat.le_of_ble_eq_true rfl, Nat.le_of_ble_eq_true rfl⟩) rfl hl.1 rfl (Nat.le_of_ble_eq_true rfl) dX6_text_4 ⟨g_rc hR (Nat.le_refl _) (cFx_gl (S := S) hF), g_rs hR (Nat.le_refl _) (cFx_gl (S := S) hF)⟩ (fun z_4 S_3 H locs hp_2 hM => ?_)
  obtain ⟨hp_2, he_hp_2⟩ := hp_2
  have he_hp_2 := he_hp_2.symm
  subst he_hp_2
  have hp_2 : S.1 1 1 = z_4 := hp_2.symm
  subst hp_2
  refine z_bipush B.1 B.2.1 (by decide) dX6_text_7 ?_
  refine z_icmp_le (tgt := 22) B.1 B.2.1 (zr_of (by omega) (by omega)) (zr_of (by decide) (by decide)) dX6_text_9 (by decide) (fun c_5 => ?_) (fun c_5 => ?_)
  · --
    refine lv_aload_n B.1 B.2.1 dX6_text_22 rfl (lv_at hl 0 rfl) ?_
    refine c_getr (q := (cq q x y)) (r := 3) B (iC6 _) hK hM 0 2 6 (by decide) rfl rfl (by decide) (by decide) rfl rfl rfl (cFx_r hF 0 2) (List.mem_cons_of_mem _ wC_fRX6_21) dX6_text_23 ?_
    refine lv_aload_n B.1 B.2.1 dX6_text_26 rfl (lv_at hl 0 rfl) ?_
    refine c_getr (q := (cq q x y)) (r := 1) B (iC6 _) hK hM 0 0 6 (by decide) rfl rfl (by decide) (by decide) rfl rfl rfl (cFx_r hF 0 0) (List.mem_cons_of_mem _ wC_fRX6_14) dX6_text_27 ?_
    refine c_callv (q := (cq q x y)) (As := [.ref (q 1)]) (rest := []) B hK hM 3 (by decide) (by decide) rfl (cX4_copy_ok l D cy (cq q x y) a b S hF 3 (by decide)  (by decide) (by show 0 ≤ (S.1 1 1); omega) (by show (S.1 1 1) ≤ 40; omega) hc1) (cwC 1 B wC_mRX6_98 wC_im_yX4_copy wC_sl_yX4_copy wC_in_RX4 wC_cd_yX4_copy rfl rfl (by decide +kernel) ⟨Nat.le_of_ble_eq_true rfl, Nat.le_of_ble_eq_true rfl⟩) rfl hl.1 rfl (Nat.le_of_ble_eq_true rfl) dX6_text_30 ⟨g_rc hR (Nat.le_refl _) (cFx_gl (S := S) hF), g_rs hR (Nat.le_refl _) (cFx_gl (S := S) hF)⟩ (fun S_8 H locs hp_7 hM => ?_)
    have hp_7 := hp_7.symm
    subst hp_7
    have hg : gl S ≤ gl (K4_copy 3 S) := Nat.le_trans (Nat.le_refl _) (gl_of (S := S) (S' := (K4_copy 3 S)) (congrArg Prod.snd K4_copy_2))
    refine W.widen (k := gl (K4_copy 3 S) - gl S) (n := 2 * (gl (K4_copy 3 S) - gl S)) (Nat.sub_le_sub_right (gl_of (S := S) (S' := (K4_copy 3 S)) (congrArg Prod.snd K4_copy_2)) _) (Nat.mul_le_mul_left 2 (Nat.sub_le_sub_right (gl_of (S := S) (S' := (K4_copy 3 S)) (congrArg Prod.snd K4_copy_2)) _)) ?_
    have hF : cFx a b (K4_copy 3 S) := cFx_of (congrArg Prod.snd K4_copy_2) hF
    refine lv_aload_n B.1 B.2.1 dX6_text_33 rfl (lv_at hl 0 rfl) ?_
    refine c_getr (q := (cq q x y)) (r := 1) B (iC6 _) hK hM 0 0 6 (by decide) rfl rfl (by decide) (by decide) rfl rfl rfl (cFx_r hF 0 0) (List.mem_cons_of_mem _ wC_fRX6_14) dX6_text_34 ?_
    refine c_callv (q := (cq q x y)) (As := []) (rest := []) B hK hM 1 (by decide) (by decide) rfl (cX4_clear_ok l D cy (cq q x y) a b (K4_copy 3 S) hF 1 (by decide)  ) (cwC 0 B wC_mRX6_102 wC_im_yX4_clear wC_sl_yX4_clear wC_in_RX4 wC_cd_yX4_clear rfl rfl (by decide +kernel) ⟨Nat.le_of_ble_eq_true rfl, Nat.le_of_ble_eq_true rfl⟩) rfl hl.1 rfl (Nat.le_of_ble_eq_true rfl) dX6_text_37 ⟨g_rc hR hg (cFx_gl (S := (K4_copy 3 S)) hF), g_rs hR hg (cFx_gl (S := (K4_copy 3 S)) hF)⟩ (fun S_11 H locs hp_10 hM => ?_)
    have hp_10 := hp_10.symm
    subst hp_10
    refine lv_aload_n B.1 B.2.1 dX6_text_40 rfl (lv_at hl 0 rfl) ?_
    refine z_iconst B.1 B.2.1 dX6_text_41 ?_
    refine c_puti (q := (cq q x y)) B (iC6 _) tyX6 tyX6_ok nmX6 hK hM 0 11 6 (by decide) rfl rfl (by decide) (by decide) rfl rfl rfl (by decide +kernel) (by decide) (List.mem_cons_of_mem _ wC_fRX6_63) dX6_text_42 (fun H locs hM => ?_)
    refine lv_aload_n B.1 B.2.1 dX6_text_45 rfl (lv_at hl 0 rfl) ?_
    refine c_callv (q := (cq q x y)) (As := []) (rest := []) B hK hM 0 (by decide) (by decide) rfl (cX6_forgetFound_ok l D cy (cq q x y) a b (ci (ci (K4_copy 3 S) 1 1 0) 0 11 0) hF   ) (cwC 0 B wC_mRX6_70 wC_im_yX6_forgetFound wC_sl_yX6_forgetFound wC_in_RX6 wC_cd_yX6_forgetFound rfl rfl (by decide +kernel) ⟨Nat.le_of_ble_eq_true rfl, Nat.le_of_ble_eq_true rfl⟩) rfl hl.1 rfl (Nat.le_of_ble_eq_true rfl) dX6_text_46 ⟨g_rc hR hg (cFx_gl (S := (ci (ci (K4_copy 3 S) 1 1 0) 0 11 0)) hF), g_rs hR hg (cFx_gl (S := (ci (ci (K4_copy 3 S) 1 1 0) 0 11 0)) hF)⟩ (fun S_14 H locs hp_13 hM => ?_)
    have hp_13 := hp_13.symm
    subst hp_13
    have hg : gl S ≤ gl (K6_forgetFound (ci (ci (K4_copy 3 S) 1 1 0) 0 11 0)) := Nat.le_trans hg (gl_of (S := (ci (ci (K4_copy 3 S) 1 1 0) 0 11 0)) (S' := (K6_forgetFound (ci (ci (K4_copy 3 S) 1 1 0) 0 11 0))) (congrArg Prod.snd K6_forgetFound_2))
    refine W.widen (k := gl (K6_forgetFound (ci (ci (K4_copy 3 S) 1 1 0) 0 11 0)) - gl S) (n := 2 * (gl (K6_forgetFound (ci (ci (K4_copy 3 S) 1 1 0) 0 11 0)) - gl S)) (Nat.sub_le_sub_right (gl_of (S := (ci (ci (K4_copy 3 S) 1 1 0) 0 11 0)) (S' := (K6_forgetFound (ci (ci (K4_copy 3 S) 1 1 0) 0 11 0))) (congrArg Prod.snd K6_forgetFound_2)) _) (Nat.mul_le_mul_left 2 (Nat.sub_le_sub_right (gl_of (S := (ci (ci (K4_copy 3 S) 1 1 0) 0 11 0)) (S' := (K6_forgetFound (ci (ci (K4_copy 3 S) 1 1 0) 0 11 0))) (congrArg Prod.snd K6_forgetFound_2)) _)) ?_
    have hF : cFx a b (K6_forgetFound (ci (ci (K4_copy 3 S) 1 1 0) 0 11 0)) := cFx_of (congrArg Prod.snd K6_forgetFound_2) hF
    refine lv_aload_n B.1 B.2.1 dX6_text_49 rfl (lv_at hl 0 rfl) ?_
    refine c_getr (q := (cq q x y)) (r := 3) B (iC6 _) hK hM 0 2 6 (by decide) rfl rfl (by decide) (by decide) rfl rfl rfl (cFx_r hF 0 2) (List.mem_cons_of_mem _ wC_fRX6_21) dX6_text_50 ?_
    refine c_calli (q := (cq q x y)) (As := []) (rest := []) B hK hM 3 (by decide) (by decide) rfl (cX4_length_ok l D cy (cq q x y) a b (K6_forgetFound (ci (ci (K4_copy 3 S) 1 1 0) 0 11 0)) hF 3 (by decide)  ) (cwC 0 B wC_mRX6_80 wC_im_yX4_length wC_sl_yX4_length wC_in_RX4 wC_cd_yX4_length rfl rfl (by decide +kernel) ⟨Nat.le_of_ble_eq_true rfl, Nat.le_of_ble_eq_true rfl⟩) rfl hl.1 rfl (Nat.le_of_ble_eq_true rfl) dX6_text_53 ⟨g_rc hR hg (cFx_gl (S := (K6_forgetFound (ci (ci (K4_copy 3 S) 1 1 0) 0 11 0))) hF), g_rs hR hg (cFx_gl (S := (K6_forgetFound (ci (ci (K4_copy 3 S) 1 1 0) 0 11 0))) hF)⟩ (fun z_18 S_17 H locs hp_16 hM => ?_)
    obtain ⟨hp_16, he_hp_16⟩ := hp_16
    have he_hp_16 := he_hp_16.symm
    subst he_hp_16
    have hp_16 : (K6_forgetFound (ci (ci (K4_copy 3 S) 1 1 0) 0 11 0)).1 3 1 = z_18 := hp_16.symm
    subst hp_16
    exact g_reti (S := (K6_forgetFound (ci (ci (K4_copy 3 S) 1 1 0) 0 11 0))) B hM (by unfold K6_text; exact (if_pos c_5)) dX6_text_56
  · --
    exact g_throw (S := S) (E := "java/lang/IllegalStateException") (ik := 112) (is := 114) (ic := 116) 0 (by decide) hl0 B hG hM rfl sX_java_lang_IllegalStateException (by decide +kernel) (List.mem_cons_of_mem _ wC_cRX6_112) (List.mem_cons_of_mem _ wC_in__java_lang_IllegalStateException_) (tC_RX6_116 _) tN_RX6_116 hl.1 (Nat.le_of_ble_eq_true rfl) hR (Nat.le_of_ble_eq_true rfl) (Nat.le_of_ble_eq_true rfl) (Nat.le_refl _) (cFx_gl hF) (tO_RX6_116 _) dX6_text_12 dX6_text_15 dX6_text_16 dX6_text_18 dX6_text_21 (by unfold K6_text; exact (if_neg c_5))
