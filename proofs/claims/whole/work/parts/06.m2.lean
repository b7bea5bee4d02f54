theorem M_sign_bd (S : MSt) (hs : ∀ j, 0 ≤ S.2 13 j ∧ S.2 13 j ≤ 126) (k : Int) : 0 ≤ M_sign S k ∧ M_sign S k ≤ 126 := by
  unfold M_sign
  split
  · omega
  · exact hs _
theorem M_other_bd (x : Int) : x - 32 ≤ M_other x ∧ M_other x ≤ x + 32 := by
  unfold M_other
  (repeat' split) <;> omega
def M_openBody (what ahead : Int) (S : MSt) : MSt := (ma (M_emit 1 (-1) 0 0 (mi (ma (ma (ma (ma (ma (mi S 25 ((if (S.1 25) = 0 then (if (S.1 32) ≤ 8 then 0 else 1 : Int) else 1 : Int))) 26 (S.1 32).toNat what) 27 (S.1 32).toNat 0) 31 (S.1 32).toNat ahead) 29 (S.1 32).toNat (-1)) 30 (S.1 32).toNat 0) 32 ((S.1 32) + 1))) 28 (((S.1 32) + 1) - 1).toNat (S.1 19))
set_option maxHeartbeats 4000000 in
set_option maxRecDepth 100000 in
theorem cX7_openBody_ok (l : Launch) (D : va_G) (cy : Nat → ClassId) (o : Nat) (q : Nat → Nat) (S : MSt) (what ahead : Int) (hb0 : 0 ≤ S.1 25) (hb1 : S.1 25 ≤ 1) (hc0 : 0 ≤ S.1 19) (hc1 : S.1 19 ≤ 200) (hd0 : 0 ≤ S.1 32) (hd2 : S.1 32 ≤ 43) : mMv l D cy o q yX7_openBody (.code yX7_openBody cX7_openBody 4 none :: TB7) ({ frames := 1, cells := 0, slots := 0, locals := 24 }) S [.int (zI what), .int (zI ahead)] (fun S' => S' = M_openBody what ahead S) := by
  refine m_of (cc := cX7_openBody) (maxL := 4) (ret := none) (by decide) rfl rfl (Nat.le_of_ble_eq_true rfl) ?_
  intro p e s m args below meth c ls B hK hM hl
  have hl : lv_has ls 4 [(0, .ref o), (1, .int (zI what)), (2, .int (zI ahead))] := hl
  refine lv_aload_n B.1 B.2.1 dX7_openBody_0 rfl (lv_at hl 0 rfl) ?_
  refine lv_aload_n B.1 B.2.1 dX7_openBody_1 rfl (lv_at hl 0 rfl) ?_
  refine m_get (x := S.1 25) B (i7 _) hK hM 25 (by decide) rfl rfl (List.mem_cons_of_mem _ w7_fRX7_117) dX7_openBody_2 ?_
  refine z_joinH (P := fun v H' locs' => v = (if (S.1 25) = 0 then (if (S.1 32) ≤ 8 then 0 else 1 : Int) else 1 : Int) ∧ mH D cy o q (mA o q) s.heap S H' locs') (pcJ := 22) (lsJ := ls) (stJ := [.ref o]) (fun v_1 H locs hv_2 => ?_) (fun hJ_3 => ?_)
  · --
    obtain ⟨hv_2, hM⟩ := hv_2
    have hb_4 : (if (S.1 25) = 0 then (if (S.1 32) ≤ 8 then 0 else 1 : Int) else 1 : Int) = 0 ∨ (if (S.1 25) = 0 then (if (S.1 32) ≤ 8 then 0 else 1 : Int) else 1 : Int) = 1 := by (repeat' split) <;> simp
    have hv_2 := hv_2.symm
    subst hv_2
    refine m_putz B (i7 _) hK hM 25 (by decide) rfl (by omega) (by decide +kernel) (List.mem_cons_of_mem _ w7_fRX7_117) dX7_openBody_22 (fun H locs hM => ?_)
    refine lv_aload_n B.1 B.2.1 dX7_openBody_25 rfl (lv_at hl 0 rfl) ?_
    refine m_getr B (i7 _) hK hM 26 (by decide) rfl (List.mem_cons_of_mem _ w7_fRX7_47) dX7_openBody_26 ?_
    refine lv_aload_n B.1 B.2.1 dX7_openBody_29 rfl (lv_at hl 0 rfl) ?_
    refine m_get (x := S.1 32) B (i7 _) hK hM 32 (by decide) rfl rfl (List.mem_cons_of_mem _ w7_fRX7_121) dX7_openBody_30 ?_
    refine lv_iload_n B.1 B.2.1 dX7_openBody_33 rfl (lv_at hl 1 rfl) ?_
    refine m_iast B hK hM 12 26 rfl rfl (by omega) (by simp only [mN]; omega) dX7_openBody_34 (fun H locs hM => ?_)
    refine lv_aload_n B.1 B.2.1 dX7_openBody_35 rfl (lv_at hl 0 rfl) ?_
    refine m_getr B (i7 _) hK hM 27 (by decide) rfl (List.mem_cons_of_mem _ w7_fRX7_50) dX7_openBody_36 ?_
    refine lv_aload_n B.1 B.2.1 dX7_openBody_39 rfl (lv_at hl 0 rfl) ?_
    refine m_get (x := S.1 32) B (i7 _) hK hM 32 (by decide) rfl rfl (List.mem_cons_of_mem _ w7_fRX7_121) dX7_openBody_40 ?_
    refine z_iconst B.1 B.2.1 dX7_openBody_43 ?_
    refine m_iast B hK hM 13 27 rfl rfl (by omega) (by simp only [mN]; omega) dX7_openBody_44 (fun H locs hM => ?_)
    refine lv_aload_n B.1 B.2.1 dX7_openBody_45 rfl (lv_at hl 0 rfl) ?_
    refine m_getr B (i7 _) hK hM 31 (by decide) rfl (List.mem_cons_of_mem _ w7_fRX7_62) dX7_openBody_46 ?_
    refine lv_aload_n B.1 B.2.1 dX7_openBody_49 rfl (lv_at hl 0 rfl) ?_
    refine m_get (x := S.1 32) B (i7 _) hK hM 32 (by decide) rfl rfl (List.mem_cons_of_mem _ w7_fRX7_121) dX7_openBody_50 ?_
    refine lv_iload_n B.1 B.2.1 dX7_openBody_53 rfl (lv_at hl 2 rfl) ?_
    refine m_iast B hK hM 17 31 rfl rfl (by omega) (by simp only [mN]; omega) dX7_openBody_54 (fun H locs hM => ?_)
    refine lv_aload_n B.1 B.2.1 dX7_openBody_55 rfl (lv_at hl 0 rfl) ?_
    refine m_getr B (i7 _) hK hM 29 (by decide) rfl (List.mem_cons_of_mem _ w7_fRX7_56) dX7_openBody_56 ?_
    refine lv_aload_n B.1 B.2.1 dX7_openBody_59 rfl (lv_at hl 0 rfl) ?_
    refine m_get (x := S.1 32) B (i7 _) hK hM 32 (by decide) rfl rfl (List.mem_cons_of_mem _ w7_fRX7_121) dX7_openBody_60 ?_
    refine z_iconst B.1 B.2.1 dX7_openBody_63 ?_
    refine m_iast B hK hM 15 29 rfl rfl (by omega) (by simp only [mN]; omega) dX7_openBody_64 (fun H locs hM => ?_)
    refine lv_aload_n B.1 B.2.1 dX7_openBody_65 rfl (lv_at hl 0 rfl) ?_
    refine m_getr B (i7 _) hK hM 30 (by decide) rfl (List.mem_cons_of_mem _ w7_fRX7_59) dX7_openBody_66 ?_
    refine lv_aload_n B.1 B.2.1 dX7_openBody_69 rfl (lv_at hl 0 rfl) ?_
    refine m_get (x := S.1 32) B (i7 _) hK hM 32 (by decide) rfl rfl (List.mem_cons_of_mem _ w7_fRX7_121) dX7_openBody_70 ?_
    refine z_iconst B.1 B.2.1 dX7_openBody_73 ?_
    refine m_iast B hK hM 16 30 rfl rfl (by omega) (by simp only [mN]; omega) dX7_openBody_74 (fun H locs hM => ?_)
    refine lv_aload_n B.1 B.2.1 dX7_openBody_75 rfl (lv_at hl 0 rfl) ?_
    refine lv_dup B.1 B.2.1 dX7_openBody_76 rfl ?_
    refine m_get (x := S.1 32) B (i7 _) hK hM 32 (by decide) rfl rfl (List.mem_cons_of_mem _ w7_fRX7_121) dX7_openBody_77 ?_
    refine z_iconst B.1 B.2.1 dX7_openBody_80 ?_
    refine z_iadd (x := (S.1 32) + 1) B.1 B.2.1 rfl dX7_openBody_81 ?_
    refine m_put B (i7 _) hK hM 32 (by decide) rfl (by decide +kernel) (List.mem_cons_of_mem _ w7_fRX7_121) dX7_openBody_82 (fun H locs hM => ?_)
    refine lv_aload_n B.1 B.2.1 dX7_openBody_85 rfl (lv_at hl 0 rfl) ?_
    refine z_iconst B.1 B.2.1 dX7_openBody_86 ?_
    refine z_iconst B.1 B.2.1 dX7_openBody_87 ?_
    refine z_iconst B.1 B.2.1 dX7_openBody_88 ?_
    refine z_iconst B.1 B.2.1 dX7_openBody_89 ?_
    refine m_calli (As := [.int (zI 1), .int (zI (-1)), .int (zI 0), .int (zI 0)]) (rest := []) B hK hM (cX7_emit_ok l D cy o q (mi (ma (ma (ma (ma (ma (mi S 25 ((if (S.1 25) = 0 then (if (S.1 32) ≤ 8 then 0 else 1 : Int) else 1 : Int))) 26 (S.1 32).toNat what) 27 (S.1 32).toNat 0) 31 (S.1 32).toNat ahead) 29 (S.1 32).toNat (-1)) 30 (S.1 32).toNat 0) 32 ((S.1 32) + 1)) 1 (-1) 0 0 (by show 0 ≤ (S.1 19); omega) (by show (S.1 19) < 220; omega)) (cw7 4 B w7_mRX7_124 w7_im_yX7_emit w7_sl_yX7_emit w7_cd_yX7_emit rfl rfl (by decide +kernel) ⟨Nat.le_of_ble_eq_true rfl, Nat.le_of_ble_eq_true rfl⟩) rfl hl.1 rfl (Nat.le_of_ble_eq_true rfl) dX7_openBody_90 ⟨Nat.zero_le _, Nat.zero_le _⟩ (fun z_7 S_6 H locs hp_5 hM => ?_)
    obtain ⟨hp_5, he_hp_5⟩ := hp_5
    have he_hp_5 := he_hp_5.symm
    subst he_hp_5
    have hp_5 : S.1 19 = z_7 := hp_5.symm
    subst hp_5
    refine lv_istore_n (lv' := [(3, .int (zI (S.1 19))), (0, .ref o), (1, .int (zI what)), (2, .int (zI ahead))]) B.1 B.2.1 dX7_openBody_93 rfl hl (by decide) rfl (fun ls hl => ?_)
    refine lv_aload_n B.1 B.2.1 dX7_openBody_94 rfl (lv_at hl 1 rfl) ?_
    refine m_getr B (i7 _) hK hM 28 (by decide) rfl (List.mem_cons_of_mem _ w7_fRX7_53) dX7_openBody_95 ?_
    refine lv_aload_n B.1 B.2.1 dX7_openBody_98 rfl (lv_at hl 1 rfl) ?_
    refine m_get (x := (S.1 32) + 1) B (i7 _) hK hM 32 (by decide) rfl rfl (List.mem_cons_of_mem _ w7_fRX7_121) dX7_openBody_99 ?_
    refine z_iconst B.1 B.2.1 dX7_openBody_102 ?_
    refine z_isub (x := ((S.1 32) + 1) - 1) B.1 B.2.1 rfl dX7_openBody_103 ?_
    refine lv_iload_n B.1 B.2.1 dX7_openBody_104 rfl (lv_at hl 0 rfl) ?_
    refine m_iast B hK hM 14 28 rfl rfl (by omega) (by simp only [mN]; omega) dX7_openBody_105 (fun H locs hM => ?_)
    exact m_retv B hM (rfl) dX7_openBody_106
  · --
    refine z_if_ne (tgt := 17) B.1 B.2.1 (zr_of (by omega) (by omega)) dX7_openBody_5 (by decide) (fun c_8 => ?_) (fun c_8 => ?_)
    · --
      refine z_iconst B.1 B.2.1 dX7_openBody_17 ?_
      refine lv_goto (tgt := 22) B.1 B.2.1 dX7_openBody_18 (by decide) ?_
      exact hJ_3 _ _ _ ⟨(if_neg c_8).symm, hM⟩
    · --
      refine lv_aload_n B.1 B.2.1 dX7_openBody_8 rfl (lv_at hl 0 rfl) ?_
      refine m_get (x := S.1 32) B (i7 _) hK hM 32 (by decide) rfl rfl (List.mem_cons_of_mem _ w7_fRX7_121) dX7_openBody_9 ?_
      refine z_bipush B.1 B.2.1 (by decide) dX7_openBody_12 ?_
      refine z_icmp_le (tgt := 21) B.1 B.2.1 (zr_of (by omega) (by omega)) (zr_of (by decide) (by decide)) dX7_openBody_14 (by decide) (fun c_9 => ?_) (fun c_9 => ?_)
      · --
        refine z_iconst B.1 B.2.1 dX7_openBody_21 ?_
        exact hJ_3 _ _ _ ⟨((if_pos c_8).trans (if_pos c_9)).symm, hM⟩
      · --
        refine z_iconst B.1 B.2.1 dX7_openBody_17 ?_
        refine lv_goto (tgt := 22) B.1 B.2.1 dX7_openBody_18 (by decide) ?_
        exact hJ_3 _ _ _ ⟨((if_pos c_8).trans (if_neg c_9)).symm, hM⟩
def M_endAlternative (more : Int) (S : MSt) : MSt := (if more = 0 then (ma (M_emit 2 (S.2 29 ((S.1 32) - 1).toNat) 0 0 S) 29 ((S.1 32) - 1).toNat (S.1 19)) else (ma (M_emit 1 (-1) 0 0 (ma (ma (ma (M_emit 2 (S.2 29 ((S.1 32) - 1).toNat) 0 0 S) 29 ((S.1 32) - 1).toNat (S.1 19)) 30 ((S.1 32) - 1).toNat ((S.2 30 ((S.1 32) - 1).toNat) + 1)) 16 (S.2 28 ((S.1 32) - 1).toNat).toNat ((S.1 19) + 1))) 28 ((S.1 32) - 1).toNat ((S.1 19) + 1)))
set_option maxHeartbeats 4000000 in
set_option maxRecDepth 100000 in
theorem cX7_endAlternative_ok (l : Launch) (D : va_G) (cy : Nat → ClassId) (o : Nat) (q : Nat → Nat) (S : MSt) (more : Int) (hm0 : 0 ≤ more) (hm1 : more ≤ 1) (hc0 : 0 ≤ S.1 19) (hc1 : S.1 19 ≤ 200) (hd1 : 1 ≤ S.1 32) (hd2 : S.1 32 ≤ 43) (hx0 : 0 ≤ S.2 28 (S.1 32 - 1).toNat) (hx1 : S.2 28 (S.1 32 - 1).toNat < 220) : mMv l D cy o q yX7_endAlternative (.code yX7_endAlternative cX7_endAlternative 5 none :: TB7) ({ frames := 1, cells := 0, slots := 0, locals := 24 }) S [.int (zI more)] (fun S' => S' = M_endAlternative more S) := by
  refine m_of (cc := cX7_endAlternative) (maxL := 5) (ret := none) (by decide) rfl rfl (Nat.le_of_ble_eq_true rfl) ?_
  intro p e s m args below meth c ls B hK hM hl
  have hl : lv_has ls 5 [(0, .ref o), (1, .int (zI more))] := hl
  refine lv_aload_n B.1 B.2.1 dX7_endAlternative_0 rfl (lv_at hl 0 rfl) ?_
  refine m_get (x := S.1 32) B (i7 _) hK hM 32 (by decide) rfl rfl (List.mem_cons_of_mem _ w7_fRX7_121) dX7_endAlternative_1 ?_
  refine z_iconst B.1 B.2.1 dX7_endAlternative_4 ?_
  refine z_isub (x := (S.1 32) - 1) B.1 B.2.1 rfl dX7_endAlternative_5 ?_
  refine lv_istore_n (lv' := [(2, .int (zI ((S.1 32) - 1))), (0, .ref o), (1, .int (zI more))]) B.1 B.2.1 dX7_endAlternative_6 rfl hl (by decide) rfl (fun ls hl => ?_)
  refine lv_aload_n B.1 B.2.1 dX7_endAlternative_7 rfl (lv_at hl 1 rfl) ?_
  refine z_iconst B.1 B.2.1 dX7_endAlternative_8 ?_
  refine lv_aload_n B.1 B.2.1 dX7_endAlternative_9 rfl (lv_at hl 1 rfl) ?_
  refine m_getr B (i7 _) hK hM 29 (by decide) rfl (List.mem_cons_of_mem _ w7_fRX7_56) dX7_endAlternative_10 ?_
  refine lv_iload_n B.1 B.2.1 dX7_endAlternative_13 rfl (lv_at hl 0 rfl) ?_
  refine m_iald (x := S.2 29 ((S.1 32) - 1).toNat) B hK hM 15 29 rfl rfl (by omega) (by simp only [mN]; omega) rfl dX7_endAlternative_14 ?_
  refine z_iconst B.1 B.2.1 dX7_endAlternative_15 ?_
  refine z_iconst B.1 B.2.1 dX7_endAlternative_16 ?_
  refine m_calli (As := [.int (zI 2), .int (zI (S.2 29 ((S.1 32) - 1).toNat)), .int (zI 0), .int (zI 0)]) (rest := []) B hK hM (cX7_emit_ok l D cy o q S 2 (S.2 29 ((S.1 32) - 1).toNat) 0 0 (by show 0 ≤ (S.1 19); omega) (by show (S.1 19) < 220; omega)) (cw7 4 B w7_mRX7_124 w7_im_yX7_emit w7_sl_yX7_emit w7_cd_yX7_emit rfl rfl (by decide +kernel) ⟨Nat.le_of_ble_eq_true rfl, Nat.le_of_ble_eq_true rfl⟩) rfl hl.1 rfl (Nat.le_of_ble_eq_true rfl) dX7_endAlternative_17 ⟨Nat.zero_le _, Nat.zero_le _⟩ (fun z_3 S_2 H locs hp_1 hM => ?_)
  obtain ⟨hp_1, he_hp_1⟩ := hp_1
  have he_hp_1 := he_hp_1.symm
  subst he_hp_1
  have hp_1 : S.1 19 = z_3 := hp_1.symm
  subst hp_1
  refine lv_istore_n (lv' := [(3, .int (zI (S.1 19))), (2, .int (zI ((S.1 32) - 1))), (0, .ref o), (1, .int (zI more))]) B.1 B.2.1 dX7_endAlternative_20 rfl hl (by decide) rfl (fun ls hl => ?_)
  refine lv_aload_n B.1 B.2.1 dX7_endAlternative_21 rfl (lv_at hl 2 rfl) ?_
  refine m_getr B (i7 _) hK hM 29 (by decide) rfl (List.mem_cons_of_mem _ w7_fRX7_56) dX7_endAlternative_22 ?_
  refine lv_iload_n B.1 B.2.1 dX7_endAlternative_25 rfl (lv_at hl 1 rfl) ?_
  refine lv_iload_n B.1 B.2.1 dX7_endAlternative_26 rfl (lv_at hl 0 rfl) ?_
  refine m_iast B hK hM 15 29 rfl rfl (by omega) (by simp only [mN]; omega) dX7_endAlternative_27 (fun H locs hM => ?_)
  refine lv_iload_n B.1 B.2.1 dX7_endAlternative_28 rfl (lv_at hl 3 rfl) ?_
  refine z_if_ne (tgt := 33) B.1 B.2.1 (zr_of (by omega) (by omega)) dX7_endAlternative_29 (by decide) (fun c_4 => ?_) (fun c_4 => ?_)
  · --
    refine lv_aload_n B.1 B.2.1 dX7_endAlternative_33 rfl (lv_at hl 2 rfl) ?_
    refine m_getr B (i7 _) hK hM 30 (by decide) rfl (List.mem_cons_of_mem _ w7_fRX7_59) dX7_endAlternative_34 ?_
    refine lv_iload_n B.1 B.2.1 dX7_endAlternative_37 rfl (lv_at hl 1 rfl) ?_
    refine lv_dup2_11 B.1 B.2.1 dX7_endAlternative_38 rfl rfl ?_
    refine m_iald (x := S.2 30 ((S.1 32) - 1).toNat) B hK hM 16 30 rfl rfl (by omega) (by simp only [mN]; omega) rfl dX7_endAlternative_39 ?_
    refine z_iconst B.1 B.2.1 dX7_endAlternative_40 ?_
    refine z_iadd (x := (S.2 30 ((S.1 32) - 1).toNat) + 1) B.1 B.2.1 rfl dX7_endAlternative_41 ?_
    refine m_iast B hK hM 16 30 rfl rfl (by omega) (by simp only [mN]; omega) dX7_endAlternative_42 (fun H locs hM => ?_)
    refine lv_aload_n B.1 B.2.1 dX7_endAlternative_43 rfl (lv_at hl 2 rfl) ?_
    refine m_getr B (i7 _) hK hM 16 (by decide) rfl (List.mem_cons_of_mem _ w7_fRX7_38) dX7_endAlternative_44 ?_
    refine lv_aload_n B.1 B.2.1 dX7_endAlternative_47 rfl (lv_at hl 2 rfl) ?_
    refine m_getr B (i7 _) hK hM 28 (by decide) rfl (List.mem_cons_of_mem _ w7_fRX7_53) dX7_endAlternative_48 ?_
    refine lv_iload_n B.1 B.2.1 dX7_endAlternative_51 rfl (lv_at hl 1 rfl) ?_
    refine m_iald (x := S.2 28 ((S.1 32) - 1).toNat) B hK hM 14 28 rfl rfl (by omega) (by simp only [mN]; omega) rfl dX7_endAlternative_52 ?_
    refine lv_aload_n B.1 B.2.1 dX7_endAlternative_53 rfl (lv_at hl 2 rfl) ?_
    refine m_get (x := (S.1 19) + 1) B (i7 _) hK hM 19 (by decide) rfl rfl (List.mem_cons_of_mem _ w7_fRX7_114) dX7_endAlternative_54 ?_
    refine m_iast B hK hM 9 16 rfl rfl (by omega) (by simp only [mN]; omega) dX7_endAlternative_57 (fun H locs hM => ?_)
    refine lv_aload_n B.1 B.2.1 dX7_endAlternative_58 rfl (lv_at hl 2 rfl) ?_
    refine z_iconst B.1 B.2.1 dX7_endAlternative_59 ?_
    refine z_iconst B.1 B.2.1 dX7_endAlternative_60 ?_
    refine z_iconst B.1 B.2.1 dX7_endAlternative_61 ?_
    refine z_iconst B.1 B.2.1 dX7_endAlternative_62 ?_
    refine m_calli (As := [.int (zI 1), .int (zI (-1)), .int (zI 0), .int (zI 0)]) (rest := []) B hK hM (cX7_emit_ok l D cy o q (ma (ma (ma (M_emit 2 (S.2 29 ((S.1 32) - 1).toNat) 0 0 S) 29 ((S.1 32) - 1).toNat (S.1 19)) 30 ((S.1 32) - 1).toNat ((S.2 30 ((S.1 32) - 1).toNat) + 1)) 16 (S.2 28 ((S.1 32) - 1).toNat).toNat ((S.1 19) + 1)) 1 (-1) 0 0 (by show 0 ≤ ((S.1 19) + 1); omega) (by show ((S.1 19) + 1) < 220; omega)) (cw7 4 B w7_mRX7_124 w7_im_yX7_emit w7_sl_yX7_emit w7_cd_yX7_emit rfl rfl (by decide +kernel) ⟨Nat.le_of_ble_eq_true rfl, Nat.le_of_ble_eq_true rfl⟩) rfl hl.1 rfl (Nat.le_of_ble_eq_true rfl) dX7_endAlternative_63 ⟨Nat.zero_le _, Nat.zero_le _⟩ (fun z_7 S_6 H locs hp_5 hM => ?_)
    obtain ⟨hp_5, he_hp_5⟩ := hp_5
    have he_hp_5 := he_hp_5.symm
    subst he_hp_5
    have hp_5 : (S.1 19) + 1 = z_7 := hp_5.symm
    subst hp_5
    refine lv_istore (lv' := [(4, .int (zI ((S.1 19) + 1))), (3, .int (zI (S.1 19))), (2, .int (zI ((S.1 32) - 1))), (0, .ref o), (1, .int (zI more))]) B.1 B.2.1 dX7_endAlternative_66 hl (by decide) rfl (fun ls hl => ?_)
    refine lv_aload_n B.1 B.2.1 dX7_endAlternative_68 rfl (lv_at hl 3 rfl) ?_
    refine m_getr B (i7 _) hK hM 28 (by decide) rfl (List.mem_cons_of_mem _ w7_fRX7_53) dX7_endAlternative_69 ?_
    refine lv_iload_n B.1 B.2.1 dX7_endAlternative_72 rfl (lv_at hl 2 rfl) ?_
    refine lv_iload B.1 B.2.1 dX7_endAlternative_73 (lv_at hl 0 rfl) ?_
    refine m_iast B hK hM 14 28 rfl rfl (by omega) (by simp only [mN]; omega) dX7_endAlternative_75 (fun H locs hM => ?_)
    exact m_retv B hM (by unfold M_endAlternative; exact (if_neg c_4).symm) dX7_endAlternative_76
  · --
    exact m_retv B hM (by unfold M_endAlternative; exact (if_pos c_4).symm) dX7_endAlternative_32
def M_mark (S : MSt) : Int × MSt := (if (M_sign S (S.1 24)) = 0 then (0, S) else (if (M_sign S (S.1 24)) = 93 then (0, S) else (if (M_sign S (S.1 24)) = 92 then (if (zb (M_isSpecial (M_sign S ((S.1 24) + 1)))) = 0 then (if (M_sign S ((S.1 24) + 1)) = 47 then (M_sign S ((S.1 24) + 1), (mi (mi S 24 ((S.1 24) + 1)) 24 (((S.1 24) + 1) + 1))) else (if (M_sign S ((S.1 24) + 1)) = 45 then (M_sign S ((S.1 24) + 1), (mi (mi S 24 ((S.1 24) + 1)) 24 (((S.1 24) + 1) + 1))) else ((if (zb (M_isClass (M_sign S ((S.1 24) + 1)))) = 0 then 0 else -(M_sign S ((S.1 24) + 1)) : Int), (mi (mi S 24 ((S.1 24) + 1)) 24 (((S.1 24) + 1) + 1))))) else (M_sign S ((S.1 24) + 1), (mi (mi S 24 ((S.1 24) + 1)) 24 (((S.1 24) + 1) + 1)))) else (M_sign S (S.1 24), (mi S 24 ((S.1 24) + 1))))))
set_option maxHeartbeats 4000000 in
set_option maxRecDepth 100000 in
theorem cX7_mark_ok (l : Launch) (D : va_G) (cy : Nat → ClassId) (o : Nat) (q : Nat → Nat) (S : MSt) (hs : ∀ j, 0 ≤ S.2 13 j ∧ S.2 13 j ≤ 126) (hn0 : 0 ≤ S.1 14) (hn1 : S.1 14 ≤ 40) (ha0 : 0 ≤ S.1 24) (ha1 : S.1 24 ≤ 1000) : mMi l D cy o q yX7_mark (.code yX7_mark cX7_mark 3 (some .int) :: TB7) ({ frames := 1, cells := 0, slots := 0, locals := 21 }) S [] (fun r S' => r = (M_mark S).1 ∧ S' = (M_mark S).2) := by
  refine m_of (cc := cX7_mark) (maxL := 3) (ret := (some .int)) (by decide) rfl rfl (Nat.le_of_ble_eq_true rfl) ?_
  intro p e s m args below meth c ls B hK hM hl
  have hl : lv_has ls 3 [(0, .ref o)] := hl
  refine lv_aload_n B.1 B.2.1 dX7_mark_0 rfl (lv_at hl 0 rfl) ?_
  refine lv_aload_n B.1 B.2.1 dX7_mark_1 rfl (lv_at hl 0 rfl) ?_
  refine m_get (x := S.1 24) B (i7 _) hK hM 24 (by decide) rfl rfl (List.mem_cons_of_mem _ w7_fRX7_139) dX7_mark_2 ?_
  refine m_calli (As := [.int (zI (S.1 24))]) (rest := []) B hK hM (cX7_sign_ok l D cy o q S (S.1 24) (by show 0 ≤ (S.1 24); omega) (by show (S.1 24) ≤ 100000; omega) (by show 0 ≤ (S.1 14); omega) (by show (S.1 14) ≤ 40; omega)) (cw7 1 B w7_mRX7_142 w7_im_yX7_sign w7_sl_yX7_sign w7_cd_yX7_sign rfl rfl (by decide +kernel) ⟨Nat.le_of_ble_eq_true rfl, Nat.le_of_ble_eq_true rfl⟩) rfl hl.1 rfl (Nat.le_of_ble_eq_true rfl) dX7_mark_5 ⟨Nat.zero_le _, Nat.zero_le _⟩ (fun z_3 S_2 H locs hp_1 hM => ?_)
  obtain ⟨hp_1, he_hp_1⟩ := hp_1
  have he_hp_1 := he_hp_1.symm
  subst he_hp_1
  have hp_1 : M_sign S (S.1 24) = z_3 := hp_1.symm
  subst hp_1
  have f_4 := M_sign_bd S hs (S.1 24)
  refine lv_istore_n (lv' := [(1, .int (zI (M_sign S (S.1 24)))), (0, .ref o)]) B.1 B.2.1 dX7_mark_8 rfl hl (by decide) rfl (fun ls hl => ?_)
  refine lv_iload_n B.1 B.2.1 dX7_mark_9 rfl (lv_at hl 0 rfl) ?_
  refine z_if_eq (tgt := 19) B.1 B.2.1 (zr_of (by omega) (by omega)) dX7_mark_10 (by decide) (fun c_5 => ?_) (fun c_5 => ?_)
  · --
    refine z_iconst B.1 B.2.1 dX7_mark_19 ?_
    have hq : M_mark S = (0, S) := by unfold M_mark; exact (if_pos c_5)
    exact m_reti B hM (⟨(congrArg Prod.fst hq).symm, (congrArg Prod.snd hq).symm⟩) dX7_mark_20
  · --
    refine lv_iload_n B.1 B.2.1 dX7_mark_13 rfl (lv_at hl 0 rfl) ?_
    refine z_bipush B.1 B.2.1 (by decide) dX7_mark_14 ?_
    refine z_icmp_ne (tgt := 21) B.1 B.2.1 (zr_of (by omega) (by omega)) (zr_of (by decide) (by decide)) dX7_mark_16 (by decide) (fun c_6 => ?_) (fun c_6 => ?_)
    · --
      refine lv_aload_n B.1 B.2.1 dX7_mark_21 rfl (lv_at hl 1 rfl) ?_
      refine lv_dup B.1 B.2.1 dX7_mark_22 rfl ?_
      refine m_get (x := S.1 24) B (i7 _) hK hM 24 (by decide) rfl rfl (List.mem_cons_of_mem _ w7_fRX7_139) dX7_mark_23 ?_
      refine z_iconst B.1 B.2.1 dX7_mark_26 ?_
      refine z_iadd (x := (S.1 24) + 1) B.1 B.2.1 rfl dX7_mark_27 ?_
      refine m_put B (i7 _) hK hM 24 (by decide) rfl (by decide +kernel) (List.mem_cons_of_mem _ w7_fRX7_139) dX7_mark_28 (fun H locs hM => ?_)
      refine lv_iload_n B.1 B.2.1 dX7_mark_31 rfl (lv_at hl 0 rfl) ?_
      refine z_bipush B.1 B.2.1 (by decide) dX7_mark_32 ?_
      refine z_icmp_eq (tgt := 39) B.1 B.2.1 (zr_of (by omega) (by omega)) (zr_of (by decide) (by decide)) dX7_mark_34 (by decide) (fun c_7 => ?_) (fun c_7 => ?_)
      · --
        refine lv_aload_n B.1 B.2.1 dX7_mark_39 rfl (lv_at hl 1 rfl) ?_
        refine lv_aload_n B.1 B.2.1 dX7_mark_40 rfl (lv_at hl 1 rfl) ?_
        refine m_get (x := (S.1 24) + 1) B (i7 _) hK hM 24 (by decide) rfl rfl (List.mem_cons_of_mem _ w7_fRX7_139) dX7_mark_41 ?_
        refine m_calli (As := [.int (zI ((S.1 24) + 1))]) (rest := []) B hK hM (cX7_sign_ok l D cy o q (mi S 24 ((S.1 24) + 1)) ((S.1 24) + 1) (by show 0 ≤ ((S.1 24) + 1); omega) (by show ((S.1 24) + 1) ≤ 100000; omega) (by show 0 ≤ (S.1 14); omega) (by show (S.1 14) ≤ 40; omega)) (cw7 1 B w7_mRX7_142 w7_im_yX7_sign w7_sl_yX7_sign w7_cd_yX7_sign rfl rfl (by decide +kernel) ⟨Nat.le_of_ble_eq_true rfl, Nat.le_of_ble_eq_true rfl⟩) rfl hl.1 rfl (Nat.le_of_ble_eq_true rfl) dX7_mark_44 ⟨Nat.zero_le _, Nat.zero_le _⟩ (fun z_10 S_9 H locs hp_8 hM => ?_)
        obtain ⟨hp_8, he_hp_8⟩ := hp_8
        have he_hp_8 := he_hp_8.symm
        subst he_hp_8
        have hp_8 : M_sign S ((S.1 24) + 1) = z_10 := hp_8.symm
        subst hp_8
        have f_11 := M_sign_bd S hs ((S.1 24) + 1)
        refine lv_istore_n (lv' := [(2, .int (zI (M_sign S ((S.1 24) + 1)))), (1, .int (zI (M_sign S (S.1 24)))), (0, .ref o)]) B.1 B.2.1 dX7_mark_47 rfl hl (by decide) rfl (fun ls hl => ?_)
        refine lv_aload_n B.1 B.2.1 dX7_mark_48 rfl (lv_at hl 2 rfl) ?_
        refine lv_dup B.1 B.2.1 dX7_mark_49 rfl ?_
        refine m_get (x := (S.1 24) + 1) B (i7 _) hK hM 24 (by decide) rfl rfl (List.mem_cons_of_mem _ w7_fRX7_139) dX7_mark_50 ?_
        refine z_iconst B.1 B.2.1 dX7_mark_53 ?_
        refine z_iadd (x := ((S.1 24) + 1) + 1) B.1 B.2.1 rfl dX7_mark_54 ?_
        refine m_put B (i7 _) hK hM 24 (by decide) rfl (by decide +kernel) (List.mem_cons_of_mem _ w7_fRX7_139) dX7_mark_55 (fun H locs hM => ?_)
        refine lv_iload_n B.1 B.2.1 dX7_mark_58 rfl (lv_at hl 0 rfl) ?_
        refine s_calli (As := [.int (zI (M_sign S ((S.1 24) + 1)))]) (rest := []) B (cX7_isSpecial_ok l (M_sign S ((S.1 24) + 1)) (by show -100000 ≤ (M_sign S ((S.1 24) + 1)); omega) (by show (M_sign S ((S.1 24) + 1)) ≤ 100000; omega)) (cs7 1 B rfl w7_mRX7_162 w7_st_yX7_isSpecial w7_cd_yX7_isSpecial rfl rfl (by decide +kernel) ⟨Nat.le_of_ble_eq_true rfl, Nat.le_of_ble_eq_true rfl⟩) rfl hl.1 rfl (Nat.le_of_ble_eq_true rfl) dX7_mark_59 ⟨Nat.zero_le _, Nat.zero_le _⟩ (fun z_12 hz_13 => ?_)
        have hz_13 := hz_13.symm
        subst hz_13
        have f_14 := zb_01 (M_isSpecial (M_sign S ((S.1 24) + 1)))
        refine z_if_ne (tgt := 77) B.1 B.2.1 (zr_of (by omega) (by omega)) dX7_mark_62 (by decide) (fun c_15 => ?_) (fun c_15 => ?_)
        · --
          refine lv_iload_n B.1 B.2.1 dX7_mark_77 rfl (lv_at hl 0 rfl) ?_
          have hq : M_mark S = (M_sign S ((S.1 24) + 1), (mi (mi S 24 ((S.1 24) + 1)) 24 (((S.1 24) + 1) + 1))) := by unfold M_mark; exact ((if_neg c_5).trans ((if_neg c_6).trans ((if_pos c_7).trans (if_neg c_15))))
          exact m_reti B hM (⟨(congrArg Prod.fst hq).symm, (congrArg Prod.snd hq).symm⟩) dX7_mark_78
        · --
          refine lv_iload_n B.1 B.2.1 dX7_mark_65 rfl (lv_at hl 0 rfl) ?_
          refine z_bipush B.1 B.2.1 (by decide) dX7_mark_66 ?_
          refine z_icmp_eq (tgt := 77) B.1 B.2.1 (zr_of (by omega) (by omega)) (zr_of (by decide) (by decide)) dX7_mark_68 (by decide) (fun c_16 => ?_) (fun c_16 => ?_)
          · --
            refine lv_iload_n B.1 B.2.1 dX7_mark_77 rfl (lv_at hl 0 rfl) ?_
            have hq : M_mark S = (M_sign S ((S.1 24) + 1), (mi (mi S 24 ((S.1 24) + 1)) 24 (((S.1 24) + 1) + 1))) := by unfold M_mark; exact ((if_neg c_5).trans ((if_neg c_6).trans ((if_pos c_7).trans ((if_pos c_15).trans (if_pos c_16)))))
            exact m_reti B hM (⟨(congrArg Prod.fst hq).symm, (congrArg Prod.snd hq).symm⟩) dX7_mark_78
          · --
            refine lv_iload_n B.1 B.2.1 dX7_mark_71 rfl (lv_at hl 0 rfl) ?_
            refine z_bipush B.1 B.2.1 (by decide) dX7_mark_72 ?_
            refine z_icmp_ne (tgt := 79) B.1 B.2.1 (zr_of (by omega) (by omega)) (zr_of (by decide) (by decide)) dX7_mark_74 (by decide) (fun c_17 => ?_) (fun c_17 => ?_)
            · --
              refine lv_iload_n B.1 B.2.1 dX7_mark_79 rfl (lv_at hl 0 rfl) ?_
              refine s_calli (As := [.int (zI (M_sign S ((S.1 24) + 1)))]) (rest := []) B (cX7_isClass_ok l (M_sign S ((S.1 24) + 1)) (by show -100000 ≤ (M_sign S ((S.1 24) + 1)); omega) (by show (M_sign S ((S.1 24) + 1)) ≤ 100000; omega)) (cs7 1 B rfl w7_mRX7_165 w7_st_yX7_isClass w7_cd_yX7_isClass rfl rfl (by decide +kernel) ⟨Nat.le_of_ble_eq_true rfl, Nat.le_of_ble_eq_true rfl⟩) rfl hl.1 rfl (Nat.le_of_ble_eq_true rfl) dX7_mark_80 ⟨Nat.zero_le _, Nat.zero_le _⟩ (fun z_18 hz_19 => ?_)
              have hz_19 := hz_19.symm
              subst hz_19
              have f_20 := zb_01 (M_isClass (M_sign S ((S.1 24) + 1)))
              refine z_joinH (P := fun v H' locs' => v = (if (zb (M_isClass (M_sign S ((S.1 24) + 1)))) = 0 then 0 else -(M_sign S ((S.1 24) + 1)) : Int) ∧ mH D cy o q (mA o q) s.heap (mi (mi S 24 ((S.1 24) + 1)) 24 (((S.1 24) + 1) + 1)) H' locs') (pcJ := 92) (lsJ := ls) (stJ := []) (fun v_21 H locs hv_22 => ?_) (fun hJ_23 => ?_)
              · --
                obtain ⟨hv_22, hM⟩ := hv_22
                have hv_22 := hv_22.symm
                subst hv_22
                have hq : M_mark S = ((if (zb (M_isClass (M_sign S ((S.1 24) + 1)))) = 0 then 0 else -(M_sign S ((S.1 24) + 1)) : Int), (mi (mi S 24 ((S.1 24) + 1)) 24 (((S.1 24) + 1) + 1))) := by unfold M_mark; exact ((if_neg c_5).trans ((if_neg c_6).trans ((if_pos c_7).trans ((if_pos c_15).trans ((if_neg c_16).trans (if_neg c_17))))))
                exact m_reti B hM (⟨(congrArg Prod.fst hq).symm, (congrArg Prod.snd hq).symm⟩) dX7_mark_92
              · --
                refine z_if_eq (tgt := 91) B.1 B.2.1 (zr_of (by omega) (by omega)) dX7_mark_83 (by decide) (fun c_24 => ?_) (fun c_24 => ?_)
                · --
                  refine z_iconst B.1 B.2.1 dX7_mark_91 ?_
                  exact hJ_23 _ _ _ ⟨(if_pos c_24).symm, hM⟩
                · --
                  refine lv_iload_n B.1 B.2.1 dX7_mark_86 rfl (lv_at hl 0 rfl) ?_
                  refine z_ineg (x := -(M_sign S ((S.1 24) + 1))) B.1 B.2.1 rfl dX7_mark_87 ?_
                  refine lv_goto (tgt := 92) B.1 B.2.1 dX7_mark_88 (by decide) ?_
                  exact hJ_23 _ _ _ ⟨(if_neg c_24).symm, hM⟩
            · --
              refine lv_iload_n B.1 B.2.1 dX7_mark_77 rfl (lv_at hl 0 rfl) ?_
              have hq : M_mark S = (M_sign S ((S.1 24) + 1), (mi (mi S 24 ((S.1 24) + 1)) 24 (((S.1 24) + 1) + 1))) := by unfold M_mark; exact ((if_neg c_5).trans ((if_neg c_6).trans ((if_pos c_7).trans ((if_pos c_15).trans ((if_neg c_16).trans (if_pos c_17))))))
              exact m_reti B hM (⟨(congrArg Prod.fst hq).symm, (congrArg Prod.snd hq).symm⟩) dX7_mark_78
      · --
        refine lv_iload_n B.1 B.2.1 dX7_mark_37 rfl (lv_at hl 0 rfl) ?_
        have hq : M_mark S = (M_sign S (S.1 24), (mi S 24 ((S.1 24) + 1))) := by unfold M_mark; exact ((if_neg c_5).trans ((if_neg c_6).trans (if_neg c_7)))
        exact m_reti B hM (⟨(congrArg Prod.fst hq).symm, (congrArg Prod.snd hq).symm⟩) dX7_mark_38
    · --
      refine z_iconst B.1 B.2.1 dX7_mark_19 ?_
      have hq : M_mark S = (0, S) := by unfold M_mark; exact ((if_neg c_5).trans (if_pos c_6))
      exact m_reti B hM (⟨(congrArg Prod.fst hq).symm, (congrArg Prod.snd hq).symm⟩) dX7_mark_20
def M_escaped (S : MSt) : MSt := (if (zb (M_isClass (M_sign S ((S.1 24) + 1)))) = 0 then (if (M_sign S ((S.1 24) + 1)) < 49 then (M_emit 3 (M_sign S ((S.1 24) + 1)) 0 0 (mi (mi S 24 ((S.1 24) + 2)) 25 ((if (S.1 25) = 0 then (if (zb (M_isSpecial (M_sign S ((S.1 24) + 1)))) = 0 then (if (M_sign S ((S.1 24) + 1)) = 47 then 0 else 1 : Int) else 0 : Int) else 1 : Int)))) else (if 57 < (M_sign S ((S.1 24) + 1)) then (M_emit 3 (M_sign S ((S.1 24) + 1)) 0 0 (mi (mi S 24 ((S.1 24) + 2)) 25 ((if (S.1 25) = 0 then (if (zb (M_isSpecial (M_sign S ((S.1 24) + 1)))) = 0 then (if (M_sign S ((S.1 24) + 1)) = 47 then 0 else 1 : Int) else 0 : Int) else 1 : Int)))) else (M_emit 7 ((M_sign S ((S.1 24) + 1)) - 48) 0 0 (mi (mi S 24 ((S.1 24) + 2)) 23 ((if ((M_sign S ((S.1 24) + 1)) - 48) ≤ (S.1 23) then S.1 23 else (M_sign S ((S.1 24) + 1)) - 48 : Int)))))) else (M_emit 5 (M_sign S ((S.1 24) + 1)) 0 0 (mi S 24 ((S.1 24) + 2))))
set_option maxHeartbeats 4000000 in
set_option maxRecDepth 100000 in
theorem cX7_escaped_ok (l : Launch) (D : va_G) (cy : Nat → ClassId) (o : Nat) (q : Nat → Nat) (S : MSt) (hb0 : 0 ≤ S.1 25) (hb1 : S.1 25 ≤ 1) (hc0 : 0 ≤ S.1 19) (hc1 : S.1 19 ≤ 200) (hs : ∀ j, 0 ≤ S.2 13 j ∧ S.2 13 j ≤ 126) (hn0 : 0 ≤ S.1 14) (hn1 : S.1 14 ≤ 40) (ha0 : 0 ≤ S.1 24) (ha1 : S.1 24 ≤ 1000) (hg0 : 0 ≤ S.1 23) (hg1 : S.1 23 ≤ 100) : mMv l D cy o q yX7_escaped (.code yX7_escaped cX7_escaped 2 none :: TB7) ({ frames := 1, cells := 0, slots := 0, locals := 24 }) S [] (fun S' => S' = M_escaped S) := by
  refine m_of (cc := cX7_escaped) (maxL := 2) (ret := none) (by decide) rfl rfl (Nat.le_of_ble_eq_true rfl) ?_
  intro p e s m args below meth c ls B hK hM hl
  have hl : lv_has ls 2 [(0, .ref o)] := hl
  refine lv_aload_n B.1 B.2.1 dX7_escaped_0 rfl (lv_at hl 0 rfl) ?_
  refine lv_aload_n B.1 B.2.1 dX7_escaped_1 rfl (lv_at hl 0 rfl) ?_
  refine m_get (x := S.1 24) B (i7 _) hK hM 24 (by decide) rfl rfl (List.mem_cons_of_mem _ w7_fRX7_139) dX7_escaped_2 ?_
  refine z_iconst B.1 B.2.1 dX7_escaped_5 ?_
  refine z_iadd (x := (S.1 24) + 1) B.1 B.2.1 rfl dX7_escaped_6 ?_
  refine m_calli (As := [.int (zI ((S.1 24) + 1))]) (rest := []) B hK hM (cX7_sign_ok l D cy o q S ((S.1 24) + 1) (by show 0 ≤ ((S.1 24) + 1); omega) (by show ((S.1 24) + 1) ≤ 100000; omega) (by show 0 ≤ (S.1 14); omega) (by show (S.1 14) ≤ 40; omega)) (cw7 1 B w7_mRX7_142 w7_im_yX7_sign w7_sl_yX7_sign w7_cd_yX7_sign rfl rfl (by decide +kernel) ⟨Nat.le_of_ble_eq_true rfl, Nat.le_of_ble_eq_true rfl⟩) rfl hl.1 rfl (Nat.le_of_ble_eq_true rfl) dX7_escaped_7 ⟨Nat.zero_le _, Nat.zero_le _⟩ (fun z_3 S_2 H locs hp_1 hM => ?_)
  obtain ⟨hp_1, he_hp_1⟩ := hp_1
  have he_hp_1 := he_hp_1.symm
  subst he_hp_1
  have hp_1 : M_sign S ((S.1 24) + 1) = z_3 := hp_1.symm
  subst hp_1
  have f_4 := M_sign_bd S hs ((S.1 24) + 1)
  refine lv_istore_n (lv' := [(1, .int (zI (M_sign S ((S.1 24) + 1)))), (0, .ref o)]) B.1 B.2.1 dX7_escaped_10 rfl hl (by decide) rfl (fun ls hl => ?_)
  refine lv_aload_n B.1 B.2.1 dX7_escaped_11 rfl (lv_at hl 1 rfl) ?_
  refine lv_dup B.1 B.2.1 dX7_escaped_12 rfl ?_
  refine m_get (x := S.1 24) B (i7 _) hK hM 24 (by decide) rfl rfl (List.mem_cons_of_mem _ w7_fRX7_139) dX7_escaped_13 ?_
  refine z_iconst B.1 B.2.1 dX7_escaped_16 ?_
  refine z_iadd (x := (S.1 24) + 2) B.1 B.2.1 rfl dX7_escaped_17 ?_
  refine m_put B (i7 _) hK hM 24 (by decide) rfl (by decide +kernel) (List.mem_cons_of_mem _ w7_fRX7_139) dX7_escaped_18 (fun H locs hM => ?_)
  refine lv_iload_n B.1 B.2.1 dX7_escaped_21 rfl (lv_at hl 0 rfl) ?_
  refine s_calli (As := [.int (zI (M_sign S ((S.1 24) + 1)))]) (rest := []) B (cX7_isClass_ok l (M_sign S ((S.1 24) + 1)) (by show -100000 ≤ (M_sign S ((S.1 24) + 1)); omega) (by show (M_sign S ((S.1 24) + 1)) ≤ 100000; omega)) (cs7 1 B rfl w7_mRX7_165 w7_st_yX7_isClass w7_cd_yX7_isClass rfl rfl (by decide +kernel) ⟨Nat.le_of_ble_eq_true rfl, Nat.le_of_ble_eq_true rfl⟩) rfl hl.1 rfl (Nat.le_of_ble_eq_true rfl) dX7_escaped_22 ⟨Nat.zero_le _, Nat.zero_le _⟩ (fun z_5 hz_6 => ?_)
  have hz_6 := hz_6.symm
  subst hz_6
  have f_7 := zb_01 (M_isClass (M_sign S ((S.1 24) + 1)))
  refine z_if_eq (tgt := 40) B.1 B.2.1 (zr_of (by omega) (by omega)) dX7_escaped_25 (by decide) (fun c_8 => ?_) (fun c_8 => ?_)
  · --
    refine lv_iload_n B.1 B.2.1 dX7_escaped_40 rfl (lv_at hl 0 rfl) ?_
    refine z_bipush B.1 B.2.1 (by decide) dX7_escaped_41 ?_
    refine z_icmp_lt (tgt := 94) B.1 B.2.1 (zr_of (by omega) (by omega)) (zr_of (by decide) (by decide)) dX7_escaped_43 (by decide) (fun c_9 => ?_) (fun c_9 => ?_)
    · --
      refine lv_aload_n B.1 B.2.1 dX7_escaped_94 rfl (lv_at hl 1 rfl) ?_
      refine lv_aload_n B.1 B.2.1 dX7_escaped_95 rfl (lv_at hl 1 rfl) ?_
      refine m_get (x := S.1 25) B (i7 _) hK hM 25 (by decide) rfl rfl (List.mem_cons_of_mem _ w7_fRX7_117) dX7_escaped_96 ?_
      refine z_joinH (P := fun v H' locs' => v = (if (S.1 25) = 0 then (if (zb (M_isSpecial (M_sign S ((S.1 24) + 1)))) = 0 then (if (M_sign S ((S.1 24) + 1)) = 47 then 0 else 1 : Int) else 0 : Int) else 1 : Int) ∧ mH D cy o q (mA o q) s.heap (mi S 24 ((S.1 24) + 2)) H' locs') (pcJ := 120) (lsJ := ls) (stJ := [.ref o]) (fun v_10 H locs hv_11 => ?_) (fun hJ_12 => ?_)
      · --
        obtain ⟨hv_11, hM⟩ := hv_11
        have hb_13 : (if (S.1 25) = 0 then (if (zb (M_isSpecial (M_sign S ((S.1 24) + 1)))) = 0 then (if (M_sign S ((S.1 24) + 1)) = 47 then 0 else 1 : Int) else 0 : Int) else 1 : Int) = 0 ∨ (if (S.1 25) = 0 then (if (zb (M_isSpecial (M_sign S ((S.1 24) + 1)))) = 0 then (if (M_sign S ((S.1 24) + 1)) = 47 then 0 else 1 : Int) else 0 : Int) else 1 : Int) = 1 := by (repeat' split) <;> simp
        have hv_11 := hv_11.symm
        subst hv_11
        refine m_putz B (i7 _) hK hM 25 (by decide) rfl (by omega) (by decide +kernel) (List.mem_cons_of_mem _ w7_fRX7_117) dX7_escaped_120 (fun H locs hM => ?_)
        refine lv_aload_n B.1 B.2.1 dX7_escaped_123 rfl (lv_at hl 1 rfl) ?_
        refine z_iconst B.1 B.2.1 dX7_escaped_124 ?_
        refine lv_iload_n B.1 B.2.1 dX7_escaped_125 rfl (lv_at hl 0 rfl) ?_
        refine z_iconst B.1 B.2.1 dX7_escaped_126 ?_
        refine z_iconst B.1 B.2.1 dX7_escaped_127 ?_
        refine m_calli (As := [.int (zI 3), .int (zI (M_sign S ((S.1 24) + 1))), .int (zI 0), .int (zI 0)]) (rest := []) B hK hM (cX7_emit_ok l D cy o q (mi (mi S 24 ((S.1 24) + 2)) 25 ((if (S.1 25) = 0 then (if (zb (M_isSpecial (M_sign S ((S.1 24) + 1)))) = 0 then (if (M_sign S ((S.1 24) + 1)) = 47 then 0 else 1 : Int) else 0 : Int) else 1 : Int))) 3 (M_sign S ((S.1 24) + 1)) 0 0 (by show 0 ≤ (S.1 19); omega) (by show (S.1 19) < 220; omega)) (cw7 4 B w7_mRX7_124 w7_im_yX7_emit w7_sl_yX7_emit w7_cd_yX7_emit rfl rfl (by decide +kernel) ⟨Nat.le_of_ble_eq_true rfl, Nat.le_of_ble_eq_true rfl⟩) rfl hl.1 rfl (Nat.le_of_ble_eq_true rfl) dX7_escaped_128 ⟨Nat.zero_le _, Nat.zero_le _⟩ (fun z_16 S_15 H locs hp_14 hM => ?_)
        obtain ⟨hp_14, he_hp_14⟩ := hp_14
        have he_hp_14 := he_hp_14.symm
        subst he_hp_14
        have hp_14 : S.1 19 = z_16 := hp_14.symm
        subst hp_14
        refine lv_pop B.1 B.2.1 dX7_escaped_131 rfl ?_
        exact m_retv B hM (by unfold M_escaped; exact ((if_pos c_8).trans (if_pos c_9)).symm) dX7_escaped_132
      · --
        refine z_if_ne (tgt := 115) B.1 B.2.1 (zr_of (by omega) (by omega)) dX7_escaped_99 (by decide) (fun c_17 => ?_) (fun c_17 => ?_)
        · --
          refine z_iconst B.1 B.2.1 dX7_escaped_115 ?_
          refine lv_goto (tgt := 120) B.1 B.2.1 dX7_escaped_116 (by decide) ?_
          exact hJ_12 _ _ _ ⟨(if_neg c_17).symm, hM⟩
        · --
          refine lv_iload_n B.1 B.2.1 dX7_escaped_102 rfl (lv_at hl 0 rfl) ?_
          refine s_calli (As := [.int (zI (M_sign S ((S.1 24) + 1)))]) (rest := [.ref o]) B (cX7_isSpecial_ok l (M_sign S ((S.1 24) + 1)) (by show -100000 ≤ (M_sign S ((S.1 24) + 1)); omega) (by show (M_sign S ((S.1 24) + 1)) ≤ 100000; omega)) (cs7 1 B rfl w7_mRX7_162 w7_st_yX7_isSpecial w7_cd_yX7_isSpecial rfl rfl (by decide +kernel) ⟨Nat.le_of_ble_eq_true rfl, Nat.le_of_ble_eq_true rfl⟩) rfl hl.1 rfl (Nat.le_of_ble_eq_true rfl) dX7_escaped_103 ⟨Nat.zero_le _, Nat.zero_le _⟩ (fun z_18 hz_19 => ?_)
          have hz_19 := hz_19.symm
          subst hz_19
          have f_20 := zb_01 (M_isSpecial (M_sign S ((S.1 24) + 1)))
          refine z_if_ne (tgt := 119) B.1 B.2.1 (zr_of (by omega) (by omega)) dX7_escaped_106 (by decide) (fun c_21 => ?_) (fun c_21 => ?_)
          · --
            refine z_iconst B.1 B.2.1 dX7_escaped_119 ?_
            exact hJ_12 _ _ _ ⟨((if_pos c_17).trans (if_neg c_21)).symm, hM⟩
          · --
            refine lv_iload_n B.1 B.2.1 dX7_escaped_109 rfl (lv_at hl 0 rfl) ?_
            refine z_bipush B.1 B.2.1 (by decide) dX7_escaped_110 ?_
            refine z_icmp_eq (tgt := 119) B.1 B.2.1 (zr_of (by omega) (by omega)) (zr_of (by decide) (by decide)) dX7_escaped_112 (by decide) (fun c_22 => ?_) (fun c_22 => ?_)
            · --
              refine z_iconst B.1 B.2.1 dX7_escaped_119 ?_
              exact hJ_12 _ _ _ ⟨((if_pos c_17).trans ((if_pos c_21).trans (if_pos c_22))).symm, hM⟩
            · --
              refine z_iconst B.1 B.2.1 dX7_escaped_115 ?_
              refine lv_goto (tgt := 120) B.1 B.2.1 dX7_escaped_116 (by decide) ?_
              exact hJ_12 _ _ _ ⟨((if_pos c_17).trans ((if_pos c_21).trans (if_neg c_22))).symm, hM⟩
    · --
      refine lv_iload_n B.1 B.2.1 dX7_escaped_46 rfl (lv_at hl 0 rfl) ?_
      refine z_bipush B.1 B.2.1 (by decide) dX7_escaped_47 ?_
      refine z_icmp_gt (tgt := 94) B.1 B.2.1 (zr_of (by omega) (by omega)) (zr_of (by decide) (by decide)) dX7_escaped_49 (by decide) (fun c_23 => ?_) (fun c_23 => ?_)
      · --
        refine lv_aload_n B.1 B.2.1 dX7_escaped_94 rfl (lv_at hl 1 rfl) ?_
        refine lv_aload_n B.1 B.2.1 dX7_escaped_95 rfl (lv_at hl 1 rfl) ?_
        refine m_get (x := S.1 25) B (i7 _) hK hM 25 (by decide) rfl rfl (List.mem_cons_of_mem _ w7_fRX7_117) dX7_escaped_96 ?_
        refine z_joinH (P := fun v H' locs' => v = (if (S.1 25) = 0 then (if (zb (M_isSpecial (M_sign S ((S.1 24) + 1)))) = 0 then (if (M_sign S ((S.1 24) + 1)) = 47 then 0 else 1 : Int) else 0 : Int) else 1 : Int) ∧ mH D cy o q (mA o q) s.heap (mi S 24 ((S.1 24) + 2)) H' locs') (pcJ := 120) (lsJ := ls) (stJ := [.ref o]) (fun v_24 H locs hv_25 => ?_) (fun hJ_26 => ?_)
        · --
          obtain ⟨hv_25, hM⟩ := hv_25
          have hb_27 : (if (S.1 25) = 0 then (if (zb (M_isSpecial (M_sign S ((S.1 24) + 1)))) = 0 then (if (M_sign S ((S.1 24) + 1)) = 47 then 0 else 1 : Int) else 0 : Int) else 1 : Int) = 0 ∨ (if (S.1 25) = 0 then (if (zb (M_isSpecial (M_sign S ((S.1 24) + 1)))) = 0 then (if (M_sign S ((S.1 24) + 1)) = 47 then 0 else 1 : Int) else 0 : Int) else 1 : Int) = 1 := by (repeat' split) <;> simp
          have hv_25 := hv_25.symm
          subst hv_25
          refine m_putz B (i7 _) hK hM 25 (by decide) rfl (by omega) (by decide +kernel) (List.mem_cons_of_mem _ w7_fRX7_117) dX7_escaped_120 (fun H locs hM => ?_)
          refine lv_aload_n B.1 B.2.1 dX7_escaped_123 rfl (lv_at hl 1 rfl) ?_
          refine z_iconst B.1 B.2.1 dX7_escaped_124 ?_
          refine lv_iload_n B.1 B.2.1 dX7_escaped_125 rfl (lv_at hl 0 rfl) ?_
          refine z_iconst B.1 B.2.1 dX7_escaped_126 ?_
          refine z_iconst B.1 B.2.1 dX7_escaped_127 ?_
          refine m_calli (As := [.int (zI 3), .int (zI (M_sign S ((S.1 24) + 1))), .int (zI 0), .int (zI 0)]) (rest := []) B hK hM (cX7_emit_ok l D cy o q (mi (mi S 24 ((S.1 24) + 2)) 25 ((if (S.1 25) = 0 then (if (zb (M_isSpecial (M_sign S ((S.1 24) + 1)))) = 0 then (if (M_sign S ((S.1 24) + 1)) = 47 then 0 else 1 : Int) else 0 : Int) else 1 : Int))) 3 (M_sign S ((S.1 24) + 1)) 0 0 (by show 0 ≤ (S.1 19); omega) (by show (S.1 19) < 220; omega)) (cw7 4 B w7_mRX7_124 w7_im_yX7_emit w7_sl_yX7_emit w7_cd_yX7_emit rfl rfl (by decide +kernel) ⟨Nat.le_of_ble_eq_true rfl, Nat.le_of_ble_eq_true rfl⟩) rfl hl.1 rfl (Nat.le_of_ble_eq_true rfl) dX7_escaped_128 ⟨Nat.zero_le _, Nat.zero_le _⟩ (fun z_30 S_29 H locs hp_28 hM => ?_)
          obtain ⟨hp_28, he_hp_28⟩ := hp_28
          have he_hp_28 := he_hp_28.symm
          subst he_hp_28
          have hp_28 : S.1 19 = z_30 := hp_28.symm
          subst hp_28
          refine lv_pop B.1 B.2.1 dX7_escaped_131 rfl ?_
          exact m_retv B hM (by unfold M_escaped; exact ((if_pos c_8).trans ((if_neg c_9).trans (if_pos c_23))).symm) dX7_escaped_132
        · --
          refine z_if_ne (tgt := 115) B.1 B.2.1 (zr_of (by omega) (by omega)) dX7_escaped_99 (by decide) (fun c_31 => ?_) (fun c_31 => ?_)
          · --
            refine z_iconst B.1 B.2.1 dX7_escaped_115 ?_
            refine lv_goto (tgt := 120) B.1 B.2.1 dX7_escaped_116 (by decide) ?_
            exact hJ_26 _ _ _ ⟨(if_neg c_31).symm, hM⟩
          · --
            refine lv_iload_n B.1 B.2.1 dX7_escaped_102 rfl (lv_at hl 0 rfl) ?_
            refine s_calli (As := [.int (zI (M_sign S ((S.1 24) + 1)))]) (rest := [.ref o]) B (cX7_isSpecial_ok l (M_sign S ((S.1 24) + 1)) (by show -100000 ≤ (M_sign S ((S.1 24) + 1)); omega) (by show (M_sign S ((S.1 24) + 1)) ≤ 100000; omega)) (cs7 1 B rfl w7_mRX7_162 w7_st_yX7_isSpecial w7_cd_yX7_isSpecial rfl rfl (by decide +kernel) ⟨Nat.le_of_ble_eq_true rfl, Nat.le_of_ble_eq_true rfl⟩) rfl hl.1 rfl (Nat.le_of_ble_eq_true rfl) dX7_escaped_103 ⟨Nat.zero_le _, Nat.zero_le _⟩ (fun z_32 hz_33 => ?_)
            have hz_33 := hz_33.symm
            subst hz_33
            have f_34 := zb_01 (M_isSpecial (M_sign S ((S.1 24) + 1)))
            refine z_if_ne (tgt := 119) B.1 B.2.1 (zr_of (by omega) (by omega)) dX7_escaped_106 (by decide) (fun c_35 => ?_) (fun c_35 => ?_)
            · --
              refine z_iconst B.1 B.2.1 dX7_escaped_119 ?_
              exact hJ_26 _ _ _ ⟨((if_pos c_31).trans (if_neg c_35)).symm, hM⟩
            · --
              refine lv_iload_n B.1 B.2.1 dX7_escaped_109 rfl (lv_at hl 0 rfl) ?_
              refine z_bipush B.1 B.2.1 (by decide) dX7_escaped_110 ?_
              refine z_icmp_eq (tgt := 119) B.1 B.2.1 (zr_of (by omega) (by omega)) (zr_of (by decide) (by decide)) dX7_escaped_112 (by decide) (fun c_36 => ?_) (fun c_36 => ?_)
              · --
                refine z_iconst B.1 B.2.1 dX7_escaped_119 ?_
                exact hJ_26 _ _ _ ⟨((if_pos c_31).trans ((if_pos c_35).trans (if_pos c_36))).symm, hM⟩
              · --
                refine z_iconst B.1 B.2.1 dX7_escaped_115 ?_
                refine lv_goto (tgt := 120) B.1 B.2.1 dX7_escaped_116 (by decide) ?_
                exact hJ_26 _ _ _ ⟨((if_pos c_31).trans ((if_pos c_35).trans (if_neg c_36))).symm, hM⟩
      · --
        refine lv_aload_n B.1 B.2.1 dX7_escaped_52 rfl (lv_at hl 1 rfl) ?_
        refine lv_iload_n B.1 B.2.1 dX7_escaped_53 rfl (lv_at hl 0 rfl) ?_
        refine z_bipush B.1 B.2.1 (by decide) dX7_escaped_54 ?_
        refine z_isub (x := (M_sign S ((S.1 24) + 1)) - 48) B.1 B.2.1 rfl dX7_escaped_56 ?_
        refine lv_aload_n B.1 B.2.1 dX7_escaped_57 rfl (lv_at hl 1 rfl) ?_
        refine m_get (x := S.1 23) B (i7 _) hK hM 23 (by decide) rfl rfl (List.mem_cons_of_mem _ w7_fRX7_172) dX7_escaped_58 ?_
        refine z_joinH (P := fun v H' locs' => v = (if ((M_sign S ((S.1 24) + 1)) - 48) ≤ (S.1 23) then S.1 23 else (M_sign S ((S.1 24) + 1)) - 48 : Int) ∧ mH D cy o q (mA o q) s.heap (mi S 24 ((S.1 24) + 2)) H' locs') (pcJ := 75) (lsJ := ls) (stJ := [.ref o]) (fun v_37 H locs hv_38 => ?_) (fun hJ_39 => ?_)
        · --
          obtain ⟨hv_38, hM⟩ := hv_38
          have hv_38 := hv_38.symm
          subst hv_38
          refine m_put B (i7 _) hK hM 23 (by decide) rfl (by decide +kernel) (List.mem_cons_of_mem _ w7_fRX7_172) dX7_escaped_75 (fun H locs hM => ?_)
          refine lv_aload_n B.1 B.2.1 dX7_escaped_78 rfl (lv_at hl 1 rfl) ?_
          refine z_bipush B.1 B.2.1 (by decide) dX7_escaped_79 ?_
          refine lv_iload_n B.1 B.2.1 dX7_escaped_81 rfl (lv_at hl 0 rfl) ?_
          refine z_bipush B.1 B.2.1 (by decide) dX7_escaped_82 ?_
          refine z_isub (x := (M_sign S ((S.1 24) + 1)) - 48) B.1 B.2.1 rfl dX7_escaped_84 ?_
          refine z_iconst B.1 B.2.1 dX7_escaped_85 ?_
          refine z_iconst B.1 B.2.1 dX7_escaped_86 ?_
          refine m_calli (As := [.int (zI 7), .int (zI ((M_sign S ((S.1 24) + 1)) - 48)), .int (zI 0), .int (zI 0)]) (rest := []) B hK hM (cX7_emit_ok l D cy o q (mi (mi S 24 ((S.1 24) + 2)) 23 ((if ((M_sign S ((S.1 24) + 1)) - 48) ≤ (S.1 23) then S.1 23 else (M_sign S ((S.1 24) + 1)) - 48 : Int))) 7 ((M_sign S ((S.1 24) + 1)) - 48) 0 0 (by show 0 ≤ (S.1 19); omega) (by show (S.1 19) < 220; omega)) (cw7 4 B w7_mRX7_124 w7_im_yX7_emit w7_sl_yX7_emit w7_cd_yX7_emit rfl rfl (by decide +kernel) ⟨Nat.le_of_ble_eq_true rfl, Nat.le_of_ble_eq_true rfl⟩) rfl hl.1 rfl (Nat.le_of_ble_eq_true rfl) dX7_escaped_87 ⟨Nat.zero_le _, Nat.zero_le _⟩ (fun z_42 S_41 H locs hp_40 hM => ?_)
          obtain ⟨hp_40, he_hp_40⟩ := hp_40
          have he_hp_40 := he_hp_40.symm
          subst he_hp_40
          have hp_40 : S.1 19 = z_42 := hp_40.symm
          subst hp_40
          refine lv_pop B.1 B.2.1 dX7_escaped_90 rfl ?_
          refine lv_goto (tgt := 132) B.1 B.2.1 dX7_escaped_91 (by decide) ?_
          exact m_retv B hM (by unfold M_escaped; exact ((if_pos c_8).trans ((if_neg c_9).trans (if_neg c_23))).symm) dX7_escaped_132
        · --
          refine z_icmp_le (tgt := 71) B.1 B.2.1 (zr_of (by omega) (by omega)) (zr_of (by omega) (by omega)) dX7_escaped_61 (by decide) (fun c_43 => ?_) (fun c_43 => ?_)
          · --
            refine lv_aload_n B.1 B.2.1 dX7_escaped_71 rfl (lv_at hl 1 rfl) ?_
            refine m_get (x := S.1 23) B (i7 _) hK hM 23 (by decide) rfl rfl (List.mem_cons_of_mem _ w7_fRX7_172) dX7_escaped_72 ?_
            exact hJ_39 _ _ _ ⟨(if_pos c_43).symm, hM⟩
          · --
            refine lv_iload_n B.1 B.2.1 dX7_escaped_64 rfl (lv_at hl 0 rfl) ?_
            refine z_bipush B.1 B.2.1 (by decide) dX7_escaped_65 ?_
            refine z_isub (x := (M_sign S ((S.1 24) + 1)) - 48) B.1 B.2.1 rfl dX7_escaped_67 ?_
            refine lv_goto (tgt := 75) B.1 B.2.1 dX7_escaped_68 (by decide) ?_
            exact hJ_39 _ _ _ ⟨(if_neg c_43).symm, hM⟩
  · --
    refine lv_aload_n B.1 B.2.1 dX7_escaped_28 rfl (lv_at hl 1 rfl) ?_
    refine z_iconst B.1 B.2.1 dX7_escaped_29 ?_
    refine lv_iload_n B.1 B.2.1 dX7_escaped_30 rfl (lv_at hl 0 rfl) ?_
    refine z_iconst B.1 B.2.1 dX7_escaped_31 ?_
    refine z_iconst B.1 B.2.1 dX7_escaped_32 ?_
    refine m_calli (As := [.int (zI 5), .int (zI (M_sign S ((S.1 24) + 1))), .int (zI 0), .int (zI 0)]) (rest := []) B hK hM (cX7_emit_ok l D cy o q (mi S 24 ((S.1 24) + 2)) 5 (M_sign S ((S.1 24) + 1)) 0 0 (by show 0 ≤ (S.1 19); omega) (by show (S.1 19) < 220; omega)) (cw7 4 B w7_mRX7_124 w7_im_yX7_emit w7_sl_yX7_emit w7_cd_yX7_emit rfl rfl (by decide +kernel) ⟨Nat.le_of_ble_eq_true rfl, Nat.le_of_ble_eq_true rfl⟩) rfl hl.1 rfl (Nat.le_of_ble_eq_true rfl) dX7_escaped_33 ⟨Nat.zero_le _, Nat.zero_le _⟩ (fun z_46 S_45 H locs hp_44 hM => ?_)
    obtain ⟨hp_44, he_hp_44⟩ := hp_44
    have he_hp_44 := he_hp_44.symm
    subst he_hp_44
    have hp_44 : S.1 19 = z_46 := hp_44.symm
    subst hp_44
    refine lv_pop B.1 B.2.1 dX7_escaped_36 rfl ?_
    refine lv_goto (tgt := 132) B.1 B.2.1 dX7_escaped_37 (by decide) ?_
    exact m_retv B hM (by unfold M_escaped; exact (if_neg c_8).symm) dX7_escaped_132
def M_count (ahead weight : Int) (S : MSt) : MSt := (if (M_sign S (S.1 24)) = 123 then (if (M_sign S ((S.1 24) + 2)) = 44 then (mi (M_emit 15 ahead 0 0 (ma (ma (ma (ma (M_weigh ((weight * ((if 1 ≤ ((if ((if (zb (M_isDigit (M_sign S (((S.1 24) + 2) + 1)))) = 0 then 99 else (M_sign S (((S.1 24) + 2) + 1)) - 48 : Int)) = 99 then ((M_sign S ((S.1 24) + 1)) - 48) + 1 else (if (zb (M_isDigit (M_sign S (((S.1 24) + 2) + 1)))) = 0 then 99 else (M_sign S (((S.1 24) + 2) + 1)) - 48 : Int) : Int)) then (if ((if (zb (M_isDigit (M_sign S (((S.1 24) + 2) + 1)))) = 0 then 99 else (M_sign S (((S.1 24) + 2) + 1)) - 48 : Int)) = 99 then ((M_sign S ((S.1 24) + 1)) - 48) + 1 else (if (zb (M_isDigit (M_sign S (((S.1 24) + 2) + 1)))) = 0 then 99 else (M_sign S (((S.1 24) + 2) + 1)) - 48 : Int) : Int) else 1 : Int))) + 2) (mi (mi (mi (mi (mi (mi (mi S 25 ((if (S.1 25) = 0 then (if (zb (M_isDigit (M_sign S ((S.1 24) + 1)))) = 0 then 1 else 0 : Int) else 1 : Int))) 24 ((S.1 24) + 2)) 24 (((S.1 24) + 2) + 1)) 24 ((((S.1 24) + 2) + 1) + ((if (zb (M_isDigit (M_sign S (((S.1 24) + 2) + 1)))) = 0 then 0 else 1 : Int)))) 25 ((if ((if (S.1 25) = 0 then (if (zb (M_isDigit (M_sign S ((S.1 24) + 1)))) = 0 then 1 else 0 : Int) else 1 : Int)) = 0 then (if (M_sign S ((((S.1 24) + 2) + 1) + ((if (zb (M_isDigit (M_sign S (((S.1 24) + 2) + 1)))) = 0 then 0 else 1 : Int)))) = 125 then (if ((M_sign S ((S.1 24) + 1)) - 48) ≤ ((if (zb (M_isDigit (M_sign S (((S.1 24) + 2) + 1)))) = 0 then 99 else (M_sign S (((S.1 24) + 2) + 1)) - 48 : Int)) then 0 else 1 : Int) else 1 : Int) else 1 : Int))) 24 (((((S.1 24) + 2) + 1) + ((if (zb (M_isDigit (M_sign S (((S.1 24) + 2) + 1)))) = 0 then 0 else 1 : Int))) + 1)) 24 ((((((S.1 24) + 2) + 1) + ((if (zb (M_isDigit (M_sign S (((S.1 24) + 2) + 1)))) = 0 then 0 else 1 : Int))) + 1) + ((if (M_sign S (((((S.1 24) + 2) + 1) + ((if (zb (M_isDigit (M_sign S (((S.1 24) + 2) + 1)))) = 0 then 0 else 1 : Int))) + 1)) = 63 then 1 else 0 : Int))))) 15 ahead.toNat 14) 16 ahead.toNat ((((M_sign S ((S.1 24) + 1)) - 48) + (128 * ((if (zb (M_isDigit (M_sign S (((S.1 24) + 2) + 1)))) = 0 then 99 else (M_sign S (((S.1 24) + 2) + 1)) - 48 : Int)))) + (65536 * ((if (M_sign S (((((S.1 24) + 2) + 1) + ((if (zb (M_isDigit (M_sign S (((S.1 24) + 2) + 1)))) = 0 then 0 else 1 : Int))) + 1)) = 63 then 1 else 0 : Int))))) 18 ahead.toNat (S.1 21)) 17 ahead.toNat (((16 * (S.2 17 ahead.toNat)) + (S.1 20)) + (4096 * (S.1 19))))) 21 ((S.1 21) + 1)) else (mi (M_emit 15 ahead 0 0 (ma (ma (ma (ma (M_weigh ((weight * ((if 1 ≤ ((if ((M_sign S ((S.1 24) + 1)) - 48) = 99 then ((M_sign S ((S.1 24) + 1)) - 48) + 1 else (M_sign S ((S.1 24) + 1)) - 48 : Int)) then (if ((M_sign S ((S.1 24) + 1)) - 48) = 99 then ((M_sign S ((S.1 24) + 1)) - 48) + 1 else (M_sign S ((S.1 24) + 1)) - 48 : Int) else 1 : Int))) + 2) (mi (mi (mi (mi (mi S 25 ((if (S.1 25) = 0 then (if (zb (M_isDigit (M_sign S ((S.1 24) + 1)))) = 0 then 1 else 0 : Int) else 1 : Int))) 24 ((S.1 24) + 2)) 25 ((if ((if (S.1 25) = 0 then (if (zb (M_isDigit (M_sign S ((S.1 24) + 1)))) = 0 then 1 else 0 : Int) else 1 : Int)) = 0 then (if (M_sign S ((S.1 24) + 2)) = 125 then (if ((M_sign S ((S.1 24) + 1)) - 48) ≤ ((M_sign S ((S.1 24) + 1)) - 48) then 0 else 1 : Int) else 1 : Int) else 1 : Int))) 24 (((S.1 24) + 2) + 1)) 24 ((((S.1 24) + 2) + 1) + ((if (M_sign S (((S.1 24) + 2) + 1)) = 63 then 1 else 0 : Int))))) 15 ahead.toNat 14) 16 ahead.toNat ((((M_sign S ((S.1 24) + 1)) - 48) + (128 * ((M_sign S ((S.1 24) + 1)) - 48))) + (65536 * ((if (M_sign S (((S.1 24) + 2) + 1)) = 63 then 1 else 0 : Int))))) 18 ahead.toNat (S.1 21)) 17 ahead.toNat (((16 * (S.2 17 ahead.toNat)) + (S.1 20)) + (4096 * (S.1 19))))) 21 ((S.1 21) + 1))) else (if (M_sign S (S.1 24)) = 42 then (mi (M_emit 15 ahead 0 0 (ma (ma (ma (ma (M_weigh ((weight * ((if 1 ≤ ((if ((if (M_sign S (S.1 24)) = 63 then 1 else 99 : Int)) = 99 then ((if (M_sign S (S.1 24)) = 43 then 1 else 0 : Int)) + 1 else (if (M_sign S (S.1 24)) = 63 then 1 else 99 : Int) : Int)) then (if ((if (M_sign S (S.1 24)) = 63 then 1 else 99 : Int)) = 99 then ((if (M_sign S (S.1 24)) = 43 then 1 else 0 : Int)) + 1 else (if (M_sign S (S.1 24)) = 63 then 1 else 99 : Int) : Int) else 1 : Int))) + 2) (mi (mi S 24 ((S.1 24) + 1)) 24 (((S.1 24) + 1) + ((if (M_sign S ((S.1 24) + 1)) = 63 then 1 else 0 : Int))))) 15 ahead.toNat 14) 16 ahead.toNat ((((if (M_sign S (S.1 24)) = 43 then 1 else 0 : Int)) + (128 * ((if (M_sign S (S.1 24)) = 63 then 1 else 99 : Int)))) + (65536 * ((if (M_sign S ((S.1 24) + 1)) = 63 then 1 else 0 : Int))))) 18 ahead.toNat (S.1 21)) 17 ahead.toNat (((16 * (S.2 17 ahead.toNat)) + (S.1 20)) + (4096 * (S.1 19))))) 21 ((S.1 21) + 1)) else (if (M_sign S (S.1 24)) = 43 then (mi (M_emit 15 ahead 0 0 (ma (ma (ma (ma (M_weigh ((weight * ((if 1 ≤ ((if ((if (M_sign S (S.1 24)) = 63 then 1 else 99 : Int)) = 99 then ((if (M_sign S (S.1 24)) = 43 then 1 else 0 : Int)) + 1 else (if (M_sign S (S.1 24)) = 63 then 1 else 99 : Int) : Int)) then (if ((if (M_sign S (S.1 24)) = 63 then 1 else 99 : Int)) = 99 then ((if (M_sign S (S.1 24)) = 43 then 1 else 0 : Int)) + 1 else (if (M_sign S (S.1 24)) = 63 then 1 else 99 : Int) : Int) else 1 : Int))) + 2) (mi (mi S 24 ((S.1 24) + 1)) 24 (((S.1 24) + 1) + ((if (M_sign S ((S.1 24) + 1)) = 63 then 1 else 0 : Int))))) 15 ahead.toNat 14) 16 ahead.toNat ((((if (M_sign S (S.1 24)) = 43 then 1 else 0 : Int)) + (128 * ((if (M_sign S (S.1 24)) = 63 then 1 else 99 : Int)))) + (65536 * ((if (M_sign S ((S.1 24) + 1)) = 63 then 1 else 0 : Int))))) 18 ahead.toNat (S.1 21)) 17 ahead.toNat (((16 * (S.2 17 ahead.toNat)) + (S.1 20)) + (4096 * (S.1 19))))) 21 ((S.1 21) + 1)) else (if (M_sign S (S.1 24)) = 63 then (mi (M_emit 15 ahead 0 0 (ma (ma (ma (ma (M_weigh ((weight * ((if 1 ≤ ((if ((if (M_sign S (S.1 24)) = 63 then 1 else 99 : Int)) = 99 then ((if (M_sign S (S.1 24)) = 43 then 1 else 0 : Int)) + 1 else (if (M_sign S (S.1 24)) = 63 then 1 else 99 : Int) : Int)) then (if ((if (M_sign S (S.1 24)) = 63 then 1 else 99 : Int)) = 99 then ((if (M_sign S (S.1 24)) = 43 then 1 else 0 : Int)) + 1 else (if (M_sign S (S.1 24)) = 63 then 1 else 99 : Int) : Int) else 1 : Int))) + 2) (mi (mi S 24 ((S.1 24) + 1)) 24 (((S.1 24) + 1) + ((if (M_sign S ((S.1 24) + 1)) = 63 then 1 else 0 : Int))))) 15 ahead.toNat 14) 16 ahead.toNat ((((if (M_sign S (S.1 24)) = 43 then 1 else 0 : Int)) + (128 * ((if (M_sign S (S.1 24)) = 63 then 1 else 99 : Int)))) + (65536 * ((if (M_sign S ((S.1 24) + 1)) = 63 then 1 else 0 : Int))))) 18 ahead.toNat (S.1 21)) 17 ahead.toNat (((16 * (S.2 17 ahead.toNat)) + (S.1 20)) + (4096 * (S.1 19))))) 21 ((S.1 21) + 1)) else (M_weigh weight S)))))
set_option maxHeartbeats 4000000 in
set_option maxRecDepth 100000 in
theorem cX7_count_ok (l : Launch) (D : va_G) (cy : Nat → ClassId) (o : Nat) (q : Nat → Nat) (S : MSt) (ahead weight : Int) (hb0 : 0 ≤ S.1 25) (hb1 : S.1 25 ≤ 1) (hc0 : 0 ≤ S.1 19) (hc1 : S.1 19 ≤ 200) (hs : ∀ j, 0 ≤ S.2 13 j ∧ S.2 13 j ≤ 126) (hn0 : 0 ≤ S.1 14) (hn1 : S.1 14 ≤ 40) (ha0 : 0 ≤ S.1 24) (ha1 : S.1 24 ≤ 1000) (hd1 : 1 ≤ S.1 32) (hd2 : S.1 32 ≤ 43) (hx0 : 0 ≤ ahead) (hx1 : ahead < 220) (hw0 : 0 ≤ weight) (hw1 : weight ≤ 1000000000000000) : mMv l D cy o q yX7_count (.code yX7_count cX7_count 8 none :: TB7) ({ frames := 1, cells := 0, slots := 0, locals := 24 }) S [.int (zI ahead), .int (zI weight)] (fun S' => S' = M_count ahead weight S) := by
  refine m_of (cc := cX7_count) (maxL := 8) (ret := none) (by decide) rfl rfl (Nat.le_of_ble_eq_true rfl) ?_
  intro p e s m args below meth c ls B hK hM hl
  have hl : lv_has ls 8 [(0, .ref o), (1, .int (zI ahead)), (2, .int (zI weight))] := hl
  refine lv_aload_n B.1 B.2.1 dX7_count_0 rfl (lv_at hl 0 rfl) ?_
  refine lv_aload_n B.1 B.2.1 dX7_count_1 rfl (lv_at hl 0 rfl) ?_
  refine m_get (x := S.1 24) B (i7 _) hK hM 24 (by decide) rfl rfl (List.mem_cons_of_mem _ w7_fRX7_139) dX7_count_2 ?_
  refine m_calli (As := [.int (zI (S.1 24))]) (rest := []) B hK hM (cX7_sign_ok l D cy o q S (S.1 24) (by show 0 ≤ (S.1 24); omega) (by show (S.1 24) ≤ 100000; omega) (by show 0 ≤ (S.1 14); omega) (by show (S.1 14) ≤ 40; omega)) (cw7 1 B w7_mRX7_142 w7_im_yX7_sign w7_sl_yX7_sign w7_cd_yX7_sign rfl rfl (by decide +kernel) ⟨Nat.le_of_ble_eq_true rfl, Nat.le_of_ble_eq_true rfl⟩) rfl hl.1 rfl (Nat.le_of_ble_eq_true rfl) dX7_count_5 ⟨Nat.zero_le _, Nat.zero_le _⟩ (fun z_3 S_2 H locs hp_1 hM => ?_)
  obtain ⟨hp_1, he_hp_1⟩ := hp_1
  have he_hp_1 := he_hp_1.symm
  subst he_hp_1
  have hp_1 : M_sign S (S.1 24) = z_3 := hp_1.symm
  subst hp_1
  have f_4 := M_sign_bd S hs (S.1 24)
  refine lv_istore_n (lv' := [(3, .int (zI (M_sign S (S.1 24)))), (0, .ref o), (1, .int (zI ahead)), (2, .int (zI weight))]) B.1 B.2.1 dX7_count_8 rfl hl (by decide) rfl (fun ls hl => ?_)
  refine lv_iload_n B.1 B.2.1 dX7_count_9 rfl (lv_at hl 0 rfl) ?_
  refine z_bipush B.1 B.2.1 (by decide) dX7_count_10 ?_
  refine z_joinH (P := fun v H' locs' => v = (if (M_sign S (S.1 24)) = 43 then 1 else 0 : Int) ∧ mH D cy o q (mA o q) s.heap S H' locs') (pcJ := 20) (lsJ := ls) (stJ := []) (fun v_5 H locs hv_6 => ?_) (fun hJ_7 => ?_)
  · --
    obtain ⟨hv_6, hM⟩ := hv_6
    have hb_8 : (if (M_sign S (S.1 24)) = 43 then 1 else 0 : Int) = 0 ∨ (if (M_sign S (S.1 24)) = 43 then 1 else 0 : Int) = 1 := by (repeat' split) <;> simp
    have hv_6 := hv_6.symm
    subst hv_6
    refine lv_istore (lv' := [(4, .int (zI ((if (M_sign S (S.1 24)) = 43 then 1 else 0 : Int)))), (3, .int (zI (M_sign S (S.1 24)))), (0, .ref o), (1, .int (zI ahead)), (2, .int (zI weight))]) B.1 B.2.1 dX7_count_20 hl (by decide) rfl (fun ls hl => ?_)
    refine lv_iload_n B.1 B.2.1 dX7_count_22 rfl (lv_at hl 1 rfl) ?_
    refine z_bipush B.1 B.2.1 (by decide) dX7_count_23 ?_
    refine z_joinH (P := fun v H' locs' => v = (if (M_sign S (S.1 24)) = 63 then 1 else 99 : Int) ∧ mH D cy o q (mA o q) s.heap S H' locs') (pcJ := 34) (lsJ := ls) (stJ := []) (fun v_9 H locs hv_10 => ?_) (fun hJ_11 => ?_)
    · --
      obtain ⟨hv_10, hM⟩ := hv_10
      have hb_12 : (if (M_sign S (S.1 24)) = 63 then 1 else 99 : Int) = 1 ∨ (if (M_sign S (S.1 24)) = 63 then 1 else 99 : Int) = 99 := by (repeat' split) <;> simp
      have hv_10 := hv_10.symm
      subst hv_10
      refine lv_istore (lv' := [(5, .int (zI ((if (M_sign S (S.1 24)) = 63 then 1 else 99 : Int)))), (4, .int (zI ((if (M_sign S (S.1 24)) = 43 then 1 else 0 : Int)))), (3, .int (zI (M_sign S (S.1 24)))), (0, .ref o), (1, .int (zI ahead)), (2, .int (zI weight))]) B.1 B.2.1 dX7_count_34 hl (by decide) rfl (fun ls hl => ?_)
      refine lv_iload_n B.1 B.2.1 dX7_count_36 rfl (lv_at hl 2 rfl) ?_
      refine z_bipush B.1 B.2.1 (by decide) dX7_count_37 ?_
      refine z_icmp_ne (tgt := 225) B.1 B.2.1 (zr_of (by omega) (by omega)) (zr_of (by decide) (by decide)) dX7_count_39 (by decide) (fun c_13 => ?_) (fun c_13 => ?_)
      · --
        refine lv_iload_n B.1 B.2.1 dX7_count_225 rfl (lv_at hl 2 rfl) ?_
        refine z_bipush B.1 B.2.1 (by decide) dX7_count_226 ?_
        refine z_icmp_eq (tgt := 249) B.1 B.2.1 (zr_of (by omega) (by omega)) (zr_of (by decide) (by decide)) dX7_count_228 (by decide) (fun c_14 => ?_) (fun c_14 => ?_)
        · --
          refine lv_aload_n B.1 B.2.1 dX7_count_249 rfl (lv_at hl 3 rfl) ?_
          refine lv_dup B.1 B.2.1 dX7_count_250 rfl ?_
          refine m_get (x := S.1 24) B (i7 _) hK hM 24 (by decide) rfl rfl (List.mem_cons_of_mem _ w7_fRX7_139) dX7_count_251 ?_
          refine z_iconst B.1 B.2.1 dX7_count_254 ?_
          refine z_iadd (x := (S.1 24) + 1) B.1 B.2.1 rfl dX7_count_255 ?_
          refine m_put B (i7 _) hK hM 24 (by decide) rfl (by decide +kernel) (List.mem_cons_of_mem _ w7_fRX7_139) dX7_count_256 (fun H locs hM => ?_)
          refine lv_aload_n B.1 B.2.1 dX7_count_259 rfl (lv_at hl 3 rfl) ?_
          refine lv_aload_n B.1 B.2.1 dX7_count_260 rfl (lv_at hl 3 rfl) ?_
          refine m_get (x := (S.1 24) + 1) B (i7 _) hK hM 24 (by decide) rfl rfl (List.mem_cons_of_mem _ w7_fRX7_139) dX7_count_261 ?_
          refine m_calli (As := [.int (zI ((S.1 24) + 1))]) (rest := []) B hK hM (cX7_sign_ok l D cy o q (mi S 24 ((S.1 24) + 1)) ((S.1 24) + 1) (by show 0 ≤ ((S.1 24) + 1); omega) (by show ((S.1 24) + 1) ≤ 100000; omega) (by show 0 ≤ (S.1 14); omega) (by show (S.1 14) ≤ 40; omega)) (cw7 1 B w7_mRX7_142 w7_im_yX7_sign w7_sl_yX7_sign w7_cd_yX7_sign rfl rfl (by decide +kernel) ⟨Nat.le_of_ble_eq_true rfl, Nat.le_of_ble_eq_true rfl⟩) rfl hl.1 rfl (Nat.le_of_ble_eq_true rfl) dX7_count_264 ⟨Nat.zero_le _, Nat.zero_le _⟩ (fun z_17 S_16 H locs hp_15 hM => ?_)
          obtain ⟨hp_15, he_hp_15⟩ := hp_15
          have he_hp_15 := he_hp_15.symm
          subst he_hp_15
          have hp_15 : M_sign S ((S.1 24) + 1) = z_17 := hp_15.symm
          subst hp_15
          have f_18 := M_sign_bd S hs ((S.1 24) + 1)
          refine z_bipush B.1 B.2.1 (by decide) dX7_count_267 ?_
          refine z_joinH (P := fun v H' locs' => v = (if (M_sign S ((S.1 24) + 1)) = 63 then 1 else 0 : Int) ∧ mH D cy o q (mA o q) s.heap (mi S 24 ((S.1 24) + 1)) H' locs') (pcJ := 277) (lsJ := ls) (stJ := []) (fun v_19 H locs hv_20 => ?_) (fun hJ_21 => ?_)
          · --
            obtain ⟨hv_20, hM⟩ := hv_20
            have hb_22 : (if (M_sign S ((S.1 24) + 1)) = 63 then 1 else 0 : Int) = 0 ∨ (if (M_sign S ((S.1 24) + 1)) = 63 then 1 else 0 : Int) = 1 := by (repeat' split) <;> simp
            have hv_20 := hv_20.symm
            subst hv_20
            refine lv_istore (lv' := [(6, .int (zI ((if (M_sign S ((S.1 24) + 1)) = 63 then 1 else 0 : Int)))), (5, .int (zI ((if (M_sign S (S.1 24)) = 63 then 1 else 99 : Int)))), (4, .int (zI ((if (M_sign S (S.1 24)) = 43 then 1 else 0 : Int)))), (3, .int (zI (M_sign S (S.1 24)))), (0, .ref o), (1, .int (zI ahead)), (2, .int (zI weight))]) B.1 B.2.1 dX7_count_277 hl (by decide) rfl (fun ls hl => ?_)
            refine lv_aload_n B.1 B.2.1 dX7_count_279 rfl (lv_at hl 4 rfl) ?_
            refine lv_dup B.1 B.2.1 dX7_count_280 rfl ?_
            refine m_get (x := (S.1 24) + 1) B (i7 _) hK hM 24 (by decide) rfl rfl (List.mem_cons_of_mem _ w7_fRX7_139) dX7_count_281 ?_
            refine lv_iload B.1 B.2.1 dX7_count_284 (lv_at hl 0 rfl) ?_
            refine z_iadd (x := ((S.1 24) + 1) + ((if (M_sign S ((S.1 24) + 1)) = 63 then 1 else 0 : Int))) B.1 B.2.1 rfl dX7_count_286 ?_
            refine m_put B (i7 _) hK hM 24 (by decide) rfl (by decide +kernel) (List.mem_cons_of_mem _ w7_fRX7_139) dX7_count_287 (fun H locs hM => ?_)
            refine lv_iload B.1 B.2.1 dX7_count_290 (lv_at hl 1 rfl) ?_
            refine z_bipush B.1 B.2.1 (by decide) dX7_count_292 ?_
            refine z_joinH (P := fun v H' locs' => v = (if ((if (M_sign S (S.1 24)) = 63 then 1 else 99 : Int)) = 99 then ((if (M_sign S (S.1 24)) = 43 then 1 else 0 : Int)) + 1 else (if (M_sign S (S.1 24)) = 63 then 1 else 99 : Int) : Int) ∧ mH D cy o q (mA o q) s.heap (mi (mi S 24 ((S.1 24) + 1)) 24 (((S.1 24) + 1) + ((if (M_sign S ((S.1 24) + 1)) = 63 then 1 else 0 : Int)))) H' locs') (pcJ := 306) (lsJ := ls) (stJ := []) (fun v_23 H locs hv_24 => ?_) (fun hJ_25 => ?_)
            · --
              obtain ⟨hv_24, hM⟩ := hv_24
              have hv_24 := hv_24.symm
              subst hv_24
              refine lv_istore (lv' := [(7, .int (zI ((if ((if (M_sign S (S.1 24)) = 63 then 1 else 99 : Int)) = 99 then ((if (M_sign S (S.1 24)) = 43 then 1 else 0 : Int)) + 1 else (if (M_sign S (S.1 24)) = 63 then 1 else 99 : Int) : Int)))), (6, .int (zI ((if (M_sign S ((S.1 24) + 1)) = 63 then 1 else 0 : Int)))), (5, .int (zI ((if (M_sign S (S.1 24)) = 63 then 1 else 99 : Int)))), (4, .int (zI ((if (M_sign S (S.1 24)) = 43 then 1 else 0 : Int)))), (3, .int (zI (M_sign S (S.1 24)))), (0, .ref o), (1, .int (zI ahead)), (2, .int (zI weight))]) B.1 B.2.1 dX7_count_306 hl (by decide) rfl (fun ls hl => ?_)
              refine lv_aload_n B.1 B.2.1 dX7_count_308 rfl (lv_at hl 5 rfl) ?_
              refine lv_iload_n B.1 B.2.1 dX7_count_309 rfl (lv_at hl 7 rfl) ?_
              refine lv_iload B.1 B.2.1 dX7_count_310 (lv_at hl 0 rfl) ?_
              refine z_iconst B.1 B.2.1 dX7_count_312 ?_
              refine z_joinH (P := fun v H' locs' => v = (if 1 ≤ ((if ((if (M_sign S (S.1 24)) = 63 then 1 else 99 : Int)) = 99 then ((if (M_sign S (S.1 24)) = 43 then 1 else 0 : Int)) + 1 else (if (M_sign S (S.1 24)) = 63 then 1 else 99 : Int) : Int)) then (if ((if (M_sign S (S.1 24)) = 63 then 1 else 99 : Int)) = 99 then ((if (M_sign S (S.1 24)) = 43 then 1 else 0 : Int)) + 1 else (if (M_sign S (S.1 24)) = 63 then 1 else 99 : Int) : Int) else 1 : Int) ∧ mH D cy o q (mA o q) s.heap (mi (mi S 24 ((S.1 24) + 1)) 24 (((S.1 24) + 1) + ((if (M_sign S ((S.1 24) + 1)) = 63 then 1 else 0 : Int)))) H' locs') (pcJ := 322) (lsJ := ls) (stJ := [.int (zI weight), .ref o]) (fun v_26 H locs hv_27 => ?_) (fun hJ_28 => ?_)
              · --
                obtain ⟨hv_27, hM⟩ := hv_27
                have hv_27 := hv_27.symm
                subst hv_27
                refine z_imul (x := weight * ((if 1 ≤ ((if ((if (M_sign S (S.1 24)) = 63 then 1 else 99 : Int)) = 99 then ((if (M_sign S (S.1 24)) = 43 then 1 else 0 : Int)) + 1 else (if (M_sign S (S.1 24)) = 63 then 1 else 99 : Int) : Int)) then (if ((if (M_sign S (S.1 24)) = 63 then 1 else 99 : Int)) = 99 then ((if (M_sign S (S.1 24)) = 43 then 1 else 0 : Int)) + 1 else (if (M_sign S (S.1 24)) = 63 then 1 else 99 : Int) : Int) else 1 : Int))) B.1 B.2.1 rfl dX7_count_322 ?_
                refine z_iconst B.1 B.2.1 dX7_count_323 ?_
                refine z_iadd (x := (weight * ((if 1 ≤ ((if ((if (M_sign S (S.1 24)) = 63 then 1 else 99 : Int)) = 99 then ((if (M_sign S (S.1 24)) = 43 then 1 else 0 : Int)) + 1 else (if (M_sign S (S.1 24)) = 63 then 1 else 99 : Int) : Int)) then (if ((if (M_sign S (S.1 24)) = 63 then 1 else 99 : Int)) = 99 then ((if (M_sign S (S.1 24)) = 43 then 1 else 0 : Int)) + 1 else (if (M_sign S (S.1 24)) = 63 then 1 else 99 : Int) : Int) else 1 : Int))) + 2) B.1 B.2.1 rfl dX7_count_324 ?_
                refine m_callv (As := [.int (zI ((weight * ((if 1 ≤ ((if ((if (M_sign S (S.1 24)) = 63 then 1 else 99 : Int)) = 99 then ((if (M_sign S (S.1 24)) = 43 then 1 else 0 : Int)) + 1 else (if (M_sign S (S.1 24)) = 63 then 1 else 99 : Int) : Int)) then (if ((if (M_sign S (S.1 24)) = 63 then 1 else 99 : Int)) = 99 then ((if (M_sign S (S.1 24)) = 43 then 1 else 0 : Int)) + 1 else (if (M_sign S (S.1 24)) = 63 then 1 else 99 : Int) : Int) else 1 : Int))) + 2))]) (rest := []) B hK hM (cX7_weigh_ok l D cy o q (mi (mi S 24 ((S.1 24) + 1)) 24 (((S.1 24) + 1) + ((if (M_sign S ((S.1 24) + 1)) = 63 then 1 else 0 : Int)))) ((weight * ((if 1 ≤ ((if ((if (M_sign S (S.1 24)) = 63 then 1 else 99 : Int)) = 99 then ((if (M_sign S (S.1 24)) = 43 then 1 else 0 : Int)) + 1 else (if (M_sign S (S.1 24)) = 63 then 1 else 99 : Int) : Int)) then (if ((if (M_sign S (S.1 24)) = 63 then 1 else 99 : Int)) = 99 then ((if (M_sign S (S.1 24)) = 43 then 1 else 0 : Int)) + 1 else (if (M_sign S (S.1 24)) = 63 then 1 else 99 : Int) : Int) else 1 : Int))) + 2) (by show 1 ≤ (S.1 32); omega) (by show (S.1 32) ≤ 44; omega)) (cw7 1 B w7_mRX7_132 w7_im_yX7_weigh w7_sl_yX7_weigh w7_cd_yX7_weigh rfl rfl (by decide +kernel) ⟨Nat.le_of_ble_eq_true rfl, Nat.le_of_ble_eq_true rfl⟩) rfl hl.1 rfl (Nat.le_of_ble_eq_true rfl) dX7_count_325 ⟨Nat.zero_le _, Nat.zero_le _⟩ (fun S_30 H locs hp_29 hM => ?_)
                have hp_29 := hp_29.symm
                subst hp_29
                refine lv_aload_n B.1 B.2.1 dX7_count_328 rfl (lv_at hl 5 rfl) ?_
                refine m_getr B (i7 _) hK hM 15 (by decide) rfl (List.mem_cons_of_mem _ w7_fRX7_35) dX7_count_329 ?_
                refine lv_iload_n B.1 B.2.1 dX7_count_332 rfl (lv_at hl 6 rfl) ?_
                refine z_bipush B.1 B.2.1 (by decide) dX7_count_333 ?_
                refine m_iast B hK hM 8 15 rfl rfl (by omega) (by simp only [mN]; omega) dX7_count_335 (fun H locs hM => ?_)
                refine lv_aload_n B.1 B.2.1 dX7_count_336 rfl (lv_at hl 5 rfl) ?_
                refine m_getr B (i7 _) hK hM 16 (by decide) rfl (List.mem_cons_of_mem _ w7_fRX7_38) dX7_count_337 ?_
                refine lv_iload_n B.1 B.2.1 dX7_count_340 rfl (lv_at hl 6 rfl) ?_
                refine lv_iload B.1 B.2.1 dX7_count_341 (lv_at hl 3 rfl) ?_
                refine z_sipush B.1 B.2.1 (by decide) dX7_count_343 ?_
                refine lv_iload B.1 B.2.1 dX7_count_346 (lv_at hl 2 rfl) ?_
                refine z_imul (x := 128 * ((if (M_sign S (S.1 24)) = 63 then 1 else 99 : Int))) B.1 B.2.1 rfl dX7_count_348 ?_
                refine z_iadd (x := ((if (M_sign S (S.1 24)) = 43 then 1 else 0 : Int)) + (128 * ((if (M_sign S (S.1 24)) = 63 then 1 else 99 : Int)))) B.1 B.2.1 rfl dX7_count_349 ?_
                refine lv_ldc (v := zI 65536) B.1 B.2.1 B.2.2.2.1 (B.2.2.2.2.1 _ (List.mem_cons_of_mem _ w7_kRX7_149)) dX7_count_350 ?_
                refine lv_iload B.1 B.2.1 dX7_count_352 (lv_at hl 1 rfl) ?_
                refine z_imul (x := 65536 * ((if (M_sign S ((S.1 24) + 1)) = 63 then 1 else 0 : Int))) B.1 B.2.1 rfl dX7_count_354 ?_
                refine z_iadd (x := (((if (M_sign S (S.1 24)) = 43 then 1 else 0 : Int)) + (128 * ((if (M_sign S (S.1 24)) = 63 then 1 else 99 : Int)))) + (65536 * ((if (M_sign S ((S.1 24) + 1)) = 63 then 1 else 0 : Int)))) B.1 B.2.1 rfl dX7_count_355 ?_
                refine m_iast B hK hM 9 16 rfl rfl (by omega) (by simp only [mN]; omega) dX7_count_356 (fun H locs hM => ?_)
                refine lv_aload_n B.1 B.2.1 dX7_count_357 rfl (lv_at hl 5 rfl) ?_
                refine m_getr B (i7 _) hK hM 18 (by decide) rfl (List.mem_cons_of_mem _ w7_fRX7_44) dX7_count_358 ?_
                refine lv_iload_n B.1 B.2.1 dX7_count_361 rfl (lv_at hl 6 rfl) ?_
                refine lv_aload_n B.1 B.2.1 dX7_count_362 rfl (lv_at hl 5 rfl) ?_
                refine m_get (x := S.1 21) B (i7 _) hK hM 21 (by decide) rfl rfl (List.mem_cons_of_mem _ w7_fRX7_150) dX7_count_363 ?_
                refine m_iast B hK hM 11 18 rfl rfl (by omega) (by simp only [mN]; omega) dX7_count_366 (fun H locs hM => ?_)
                refine lv_aload_n B.1 B.2.1 dX7_count_367 rfl (lv_at hl 5 rfl) ?_
                refine m_getr B (i7 _) hK hM 17 (by decide) rfl (List.mem_cons_of_mem _ w7_fRX7_41) dX7_count_368 ?_
                refine lv_iload_n B.1 B.2.1 dX7_count_371 rfl (lv_at hl 6 rfl) ?_
                refine z_bipush B.1 B.2.1 (by decide) dX7_count_372 ?_
                refine lv_aload_n B.1 B.2.1 dX7_count_374 rfl (lv_at hl 5 rfl) ?_
                refine m_getr B (i7 _) hK hM 17 (by decide) rfl (List.mem_cons_of_mem _ w7_fRX7_41) dX7_count_375 ?_
                refine lv_iload_n B.1 B.2.1 dX7_count_378 rfl (lv_at hl 6 rfl) ?_
                refine m_iald (x := S.2 17 ahead.toNat) B hK hM 10 17 rfl rfl (by omega) (by simp only [mN]; omega) rfl dX7_count_379 ?_
                refine z_imul (x := 16 * (S.2 17 ahead.toNat)) B.1 B.2.1 rfl dX7_count_380 ?_
                refine lv_aload_n B.1 B.2.1 dX7_count_381 rfl (lv_at hl 5 rfl) ?_
                refine m_get (x := S.1 20) B (i7 _) hK hM 20 (by decide) rfl rfl (List.mem_cons_of_mem _ w7_fRX7_153) dX7_count_382 ?_
                refine z_iadd (x := (16 * (S.2 17 ahead.toNat)) + (S.1 20)) B.1 B.2.1 rfl dX7_count_385 ?_
                refine z_sipush B.1 B.2.1 (by decide) dX7_count_386 ?_
                refine lv_aload_n B.1 B.2.1 dX7_count_389 rfl (lv_at hl 5 rfl) ?_
                refine m_get (x := S.1 19) B (i7 _) hK hM 19 (by decide) rfl rfl (List.mem_cons_of_mem _ w7_fRX7_114) dX7_count_390 ?_
                refine z_imul (x := 4096 * (S.1 19)) B.1 B.2.1 rfl dX7_count_393 ?_
                refine z_iadd (x := ((16 * (S.2 17 ahead.toNat)) + (S.1 20)) + (4096 * (S.1 19))) B.1 B.2.1 rfl dX7_count_394 ?_
                refine m_iast B hK hM 10 17 rfl rfl (by omega) (by simp only [mN]; omega) dX7_count_395 (fun H locs hM => ?_)
                refine lv_aload_n B.1 B.2.1 dX7_count_396 rfl (lv_at hl 5 rfl) ?_
                refine z_bipush B.1 B.2.1 (by decide) dX7_count_397 ?_
                refine lv_iload_n B.1 B.2.1 dX7_count_399 rfl (lv_at hl 6 rfl) ?_
                refine z_iconst B.1 B.2.1 dX7_count_400 ?_
                refine z_iconst B.1 B.2.1 dX7_count_401 ?_
                refine m_calli (As := [.int (zI 15), .int (zI ahead), .int (zI 0), .int (zI 0)]) (rest := []) B hK hM (cX7_emit_ok l D cy o q (ma (ma (ma (ma (M_weigh ((weight * ((if 1 ≤ ((if ((if (M_sign S (S.1 24)) = 63 then 1 else 99 : Int)) = 99 then ((if (M_sign S (S.1 24)) = 43 then 1 else 0 : Int)) + 1 else (if (M_sign S (S.1 24)) = 63 then 1 else 99 : Int) : Int)) then (if ((if (M_sign S (S.1 24)) = 63 then 1 else 99 : Int)) = 99 then ((if (M_sign S (S.1 24)) = 43 then 1 else 0 : Int)) + 1 else (if (M_sign S (S.1 24)) = 63 then 1 else 99 : Int) : Int) else 1 : Int))) + 2) (mi (mi S 24 ((S.1 24) + 1)) 24 (((S.1 24) + 1) + ((if (M_sign S ((S.1 24) + 1)) = 63 then 1 else 0 : Int))))) 15 ahead.toNat 14) 16 ahead.toNat ((((if (M_sign S (S.1 24)) = 43 then 1 else 0 : Int)) + (128 * ((if (M_sign S (S.1 24)) = 63 then 1 else 99 : Int)))) + (65536 * ((if (M_sign S ((S.1 24) + 1)) = 63 then 1 else 0 : Int))))) 18 ahead.toNat (S.1 21)) 17 ahead.toNat (((16 * (S.2 17 ahead.toNat)) + (S.1 20)) + (4096 * (S.1 19)))) 15 ahead 0 0 (by show 0 ≤ (S.1 19); omega) (by show (S.1 19) < 220; omega)) (cw7 4 B w7_mRX7_124 w7_im_yX7_emit w7_sl_yX7_emit w7_cd_yX7_emit rfl rfl (by decide +kernel) ⟨Nat.le_of_ble_eq_true rfl, Nat.le_of_ble_eq_true rfl⟩) rfl hl.1 rfl (Nat.le_of_ble_eq_true rfl) dX7_count_402 ⟨Nat.zero_le _, Nat.zero_le _⟩ (fun z_33 S_32 H locs hp_31 hM => ?_)
                obtain ⟨hp_31, he_hp_31⟩ := hp_31
                have he_hp_31 := he_hp_31.symm
                subst he_hp_31
                have hp_31 : S.1 19 = z_33 := hp_31.symm
                subst hp_31
                refine lv_pop B.1 B.2.1 dX7_count_405 rfl ?_
                refine lv_aload_n B.1 B.2.1 dX7_count_406 rfl (lv_at hl 5 rfl) ?_
                refine lv_dup B.1 B.2.1 dX7_count_407 rfl ?_
                refine m_get (x := S.1 21) B (i7 _) hK hM 21 (by decide) rfl rfl (List.mem_cons_of_mem _ w7_fRX7_150) dX7_count_408 ?_
                refine z_iconst B.1 B.2.1 dX7_count_411 ?_
                refine z_iadd (x := (S.1 21) + 1) B.1 B.2.1 rfl dX7_count_412 ?_
                refine m_put B (i7 _) hK hM 21 (by decide) rfl (by decide +kernel) (List.mem_cons_of_mem _ w7_fRX7_150) dX7_count_413 (fun H locs hM => ?_)
                exact m_retv B hM (by unfold M_count; exact ((if_neg c_13).trans (if_pos c_14)).symm) dX7_count_416
              · --
                refine z_icmp_ge (tgt := 320) B.1 B.2.1 (zr_of (by omega) (by omega)) (zr_of (by decide) (by decide)) dX7_count_313 (by decide) (fun c_34 => ?_) (fun c_34 => ?_)
                · --
                  refine lv_iload B.1 B.2.1 dX7_count_320 (lv_at hl 0 rfl) ?_
                  exact hJ_28 _ _ _ ⟨(if_pos c_34).symm, hM⟩
                · --
                  refine z_iconst B.1 B.2.1 dX7_count_316 ?_
                  refine lv_goto (tgt := 322) B.1 B.2.1 dX7_count_317 (by decide) ?_
                  exact hJ_28 _ _ _ ⟨(if_neg c_34).symm, hM⟩
            · --
              refine z_icmp_ne (tgt := 304) B.1 B.2.1 (zr_of (by omega) (by omega)) (zr_of (by decide) (by decide)) dX7_count_294 (by decide) (fun c_35 => ?_) (fun c_35 => ?_)
              · --
                refine lv_iload B.1 B.2.1 dX7_count_304 (lv_at hl 1 rfl) ?_
                exact hJ_25 _ _ _ ⟨(if_neg c_35).symm, hM⟩
              · --
                refine lv_iload B.1 B.2.1 dX7_count_297 (lv_at hl 2 rfl) ?_
                refine z_iconst B.1 B.2.1 dX7_count_299 ?_
                refine z_iadd (x := ((if (M_sign S (S.1 24)) = 43 then 1 else 0 : Int)) + 1) B.1 B.2.1 rfl dX7_count_300 ?_
                refine lv_goto (tgt := 306) B.1 B.2.1 dX7_count_301 (by decide) ?_
                exact hJ_25 _ _ _ ⟨(if_pos c_35).symm, hM⟩
          · --
            refine z_icmp_ne (tgt := 276) B.1 B.2.1 (zr_of (by omega) (by omega)) (zr_of (by decide) (by decide)) dX7_count_269 (by decide) (fun c_36 => ?_) (fun c_36 => ?_)
            · --
              refine z_iconst B.1 B.2.1 dX7_count_276 ?_
              exact hJ_21 _ _ _ ⟨(if_neg c_36).symm, hM⟩
            · --
              refine z_iconst B.1 B.2.1 dX7_count_272 ?_
              refine lv_goto (tgt := 277) B.1 B.2.1 dX7_count_273 (by decide) ?_
              exact hJ_21 _ _ _ ⟨(if_pos c_36).symm, hM⟩
        · --
          refine lv_iload_n B.1 B.2.1 dX7_count_231 rfl (lv_at hl 2 rfl) ?_
          refine z_bipush B.1 B.2.1 (by decide) dX7_count_232 ?_
          refine z_icmp_eq (tgt := 249) B.1 B.2.1 (zr_of (by omega) (by omega)) (zr_of (by decide) (by decide)) dX7_count_234 (by decide) (fun c_37 => ?_) (fun c_37 => ?_)
          · --
            refine lv_aload_n B.1 B.2.1 dX7_count_249 rfl (lv_at hl 3 rfl) ?_
            refine lv_dup B.1 B.2.1 dX7_count_250 rfl ?_
            refine m_get (x := S.1 24) B (i7 _) hK hM 24 (by decide) rfl rfl (List.mem_cons_of_mem _ w7_fRX7_139) dX7_count_251 ?_
            refine z_iconst B.1 B.2.1 dX7_count_254 ?_
            refine z_iadd (x := (S.1 24) + 1) B.1 B.2.1 rfl dX7_count_255 ?_
            refine m_put B (i7 _) hK hM 24 (by decide) rfl (by decide +kernel) (List.mem_cons_of_mem _ w7_fRX7_139) dX7_count_256 (fun H locs hM => ?_)
            refine lv_aload_n B.1 B.2.1 dX7_count_259 rfl (lv_at hl 3 rfl) ?_
            refine lv_aload_n B.1 B.2.1 dX7_count_260 rfl (lv_at hl 3 rfl) ?_
            refine m_get (x := (S.1 24) + 1) B (i7 _) hK hM 24 (by decide) rfl rfl (List.mem_cons_of_mem _ w7_fRX7_139) dX7_count_261 ?_
            refine m_calli (As := [.int (zI ((S.1 24) + 1))]) (rest := []) B hK hM (cX7_sign_ok l D cy o q (mi S 24 ((S.1 24) + 1)) ((S.1 24) + 1) (by show 0 ≤ ((S.1 24) + 1); omega) (by show ((S.1 24) + 1) ≤ 100000; omega) (by show 0 ≤ (S.1 14); omega) (by show (S.1 14) ≤ 40; omega)) (cw7 1 B w7_mRX7_142 w7_im_yX7_sign w7_sl_yX7_sign w7_cd_yX7_sign rfl rfl (by decide +kernel) ⟨Nat.le_of_ble_eq_true rfl, Nat.le_of_ble_eq_true rfl⟩) rfl hl.1 rfl (Nat.le_of_ble_eq_true rfl) dX7_count_264 ⟨Nat.zero_le _, Nat.zero_le _⟩ (fun z_40 S_39 H locs hp_38 hM => ?_)
            obtain ⟨hp_38, he_hp_38⟩ := hp_38
            have he_hp_38 := he_hp_38.symm
            subst he_hp_38
            have hp_38 : M_sign S ((S.1 24) + 1) = z_40 := hp_38.symm
            subst hp_38
            have f_41 := M_sign_bd S hs ((S.1 24) + 1)
            refine z_bipush B.1 B.2.1 (by decide) dX7_count_267 ?_
            refine z_joinH (P := fun v H' locs' => v = (if (M_sign S ((S.1 24) + 1)) = 63 then 1 else 0 : Int) ∧ mH D cy o q (mA o q) s.heap (mi S 24 ((S.1 24) + 1)) H' locs') (pcJ := 277) (lsJ := ls) (stJ := []) (fun v_42 H locs hv_43 => ?_) (fun hJ_44 => ?_)
            · --
              obtain ⟨hv_43, hM⟩ := hv_43
              have hb_45 : (if (M_sign S ((S.1 24) + 1)) = 63 then 1 else 0 : Int) = 0 ∨ (if (M_sign S ((S.1 24) + 1)) = 63 then 1 else 0 : Int) = 1 := by (repeat' split) <;> simp
              have hv_43 := hv_43.symm
              subst hv_43
              refine lv_istore (lv' := [(6, .int (zI ((if (M_sign S ((S.1 24) + 1)) = 63 then 1 else 0 : Int)))), (5, .int (zI ((if (M_sign S (S.1 24)) = 63 then 1 else 99 : Int)))), (4, .int (zI ((if (M_sign S (S.1 24)) = 43 then 1 else 0 : Int)))), (3, .int (zI (M_sign S (S.1 24)))), (0, .ref o), (1, .int (zI ahead)), (2, .int (zI weight))]) B.1 B.2.1 dX7_count_277 hl (by decide) rfl (fun ls hl => ?_)
              refine lv_aload_n B.1 B.2.1 dX7_count_279 rfl (lv_at hl 4 rfl) ?_
              refine lv_dup B.1 B.2.1 dX7_count_280 rfl ?_
              refine m_get (x := (S.1 24) + 1) B (i7 _) hK hM 24 (by decide) rfl rfl (List.mem_cons_of_mem _ w7_fRX7_139) dX7_count_281 ?_
              refine lv_iload B.1 B.2.1 dX7_count_284 (lv_at hl 0 rfl) ?_
              refine z_iadd (x := ((S.1 24) + 1) + ((if (M_sign S ((S.1 24) + 1)) = 63 then 1 else 0 : Int))) B.1 B.2.1 rfl dX7_count_286 ?_
              refine m_put B (i7 _) hK hM 24 (by decide) rfl (by decide +kernel) (List.mem_cons_of_mem _ w7_fRX7_139) dX7_count_287 (fun H locs hM => ?_)
              refine lv_iload B.1 B.2.1 dX7_count_290 (lv_at hl 1 rfl) ?_
              refine z_bipush B.1 B.2.1 (by decide) dX7_count_292 ?_
              refine z_joinH (P := fun v H' locs' => v = (if ((if (M_sign S (S.1 24)) = 63 then 1 else 99 : Int)) = 99 then ((if (M_sign S (S.1 24)) = 43 then 1 else 0 : Int)) + 1 else (if (M_sign S (S.1 24)) = 63 then 1 else 99 : Int) : Int) ∧ mH D cy o q (mA o q) s.heap (mi (mi S 24 ((S.1 24) + 1)) 24 (((S.1 24) + 1) + ((if (M_sign S ((S.1 24) + 1)) = 63 then 1 else 0 : Int)))) H' locs') (pcJ := 306) (lsJ := ls) (stJ := []) (fun v_46 H locs hv_47 => ?_) (fun hJ_48 => ?_)
              · --
                obtain ⟨hv_47, hM⟩ := hv_47
                have hv_47 := hv_47.symm
                subst hv_47
                refine lv_istore (lv' := [(7, .int (zI ((if ((if (M_sign S (S.1 24)) = 63 then 1 else 99 : Int)) = 99 then ((if (M_sign S (S.1 24)) = 43 then 1 else 0 : Int)) + 1 else (if (M_sign S (S.1 24)) = 63 then 1 else 99 : Int) : Int)))), (6, .int (zI ((if (M_sign S ((S.1 24) + 1)) = 63 then 1 else 0 : Int)))), (5, .int (zI ((if (M_sign S (S.1 24)) = 63 then 1 else 99 : Int)))), (4, .int (zI ((if (M_sign S (S.1 24)) = 43 then 1 else 0 : Int)))), (3, .int (zI (M_sign S (S.1 24)))), (0, .ref o), (1, .int (zI ahead)), (2, .int (zI weight))]) B.1 B.2.1 dX7_count_306 hl (by decide) rfl (fun ls hl => ?_)
                refine lv_aload_n B.1 B.2.1 dX7_count_308 rfl (lv_at hl 5 rfl) ?_
                refine lv_iload_n B.1 B.2.1 dX7_count_309 rfl (lv_at hl 7 rfl) ?_
                refine lv_iload B.1 B.2.1 dX7_count_310 (lv_at hl 0 rfl) ?_
                refine z_iconst B.1 B.2.1 dX7_count_312 ?_
                refine z_joinH (P := fun v H' locs' => v = (if 1 ≤ ((if ((if (M_sign S (S.1 24)) = 63 then 1 else 99 : Int)) = 99 then ((if (M_sign S (S.1 24)) = 43 then 1 else 0 : Int)) + 1 else (if (M_sign S (S.1 24)) = 63 then 1 else 99 : Int) : Int)) then (if ((if (M_sign S (S.1 24)) = 63 then 1 else 99 : Int)) = 99 then ((if (M_sign S (S.1 24)) = 43 then 1 else 0 : Int)) + 1 else (if (M_sign S (S.1 24)) = 63 then 1 else 99 : Int) : Int) else 1 : Int) ∧ mH D cy o q (mA o q) s.heap (mi (mi S 24 ((S.1 24) + 1)) 24 (((S.1 24) + 1) + ((if (M_sign S ((S.1 24) + 1)) = 63 then 1 else 0 : Int)))) H' locs') (pcJ := 322) (lsJ := ls) (stJ := [.int (zI weight), .ref o]) (fun v_49 H locs hv_50 => ?_) (fun hJ_51 => ?_)
                · --
                  obtain ⟨hv_50, hM⟩ := hv_50
                  have hv_50 := hv_50.symm
                  subst hv_50
                  refine z_imul (x := weight * ((if 1 ≤ ((if ((if (M_sign S (S.1 24)) = 63 then 1 else 99 : Int)) = 99 then ((if (M_sign S (S.1 24)) = 43 then 1 else 0 : Int)) + 1 else (if (M_sign S (S.1 24)) = 63 then 1 else 99 : Int) : Int)) then (if ((if (M_sign S (S.1 24)) = 63 then 1 else 99 : Int)) = 99 then ((if (M_sign S (S.1 24)) = 43 then 1 else 0 : Int)) + 1 else (if (M_sign S (S.1 24)) = 63 then 1 else 99 : Int) : Int) else 1 : Int))) B.1 B.2.1 rfl dX7_count_322 ?_
                  refine z_iconst B.1 B.2.1 dX7_count_323 ?_
                  refine z_iadd (x := (weight * ((if 1 ≤ ((if ((if (M_sign S (S.1 24)) = 63 then 1 else 99 : Int)) = 99 then ((if (M_sign S (S.1 24)) = 43 then 1 else 0 : Int)) + 1 else (if (M_sign S (S.1 24)) = 63 then 1 else 99 : Int) : Int)) then (if ((if (M_sign S (S.1 24)) = 63 then 1 else 99 : Int)) = 99 then ((if (M_sign S (S.1 24)) = 43 then 1 else 0 : Int)) + 1 else (if (M_sign S (S.1 24)) = 63 then 1 else 99 : Int) : Int) else 1 : Int))) + 2) B.1 B.2.1 rfl dX7_count_324 ?_
                  refine m_callv (As := [.int (zI ((weight * ((if 1 ≤ ((if ((if (M_sign S (S.1 24)) = 63 then 1 else 99 : Int)) = 99 then ((if (M_sign S (S.1 24)) = 43 then 1 else 0 : Int)) + 1 else (if (M_sign S (S.1 24)) = 63 then 1 else 99 : Int) : Int)) then (if ((if (M_sign S (S.1 24)) = 63 then 1 else 99 : Int)) = 99 then ((if (M_sign S (S.1 24)) = 43 then 1 else 0 : Int)) + 1 else (if (M_sign S (S.1 24)) = 63 then 1 else 99 : Int) : Int) else 1 : Int))) + 2))]) (rest := []) B hK hM (cX7_weigh_ok l D cy o q (mi (mi S 24 ((S.1 24) + 1)) 24 (((S.1 24) + 1) + ((if (M_sign S ((S.1 24) + 1)) = 63 then 1 else 0 : Int)))) ((weight * ((if 1 ≤ ((if ((if (M_sign S (S.1 24)) = 63 then 1 else 99 : Int)) = 99 then ((if (M_sign S (S.1 24)) = 43 then 1 else 0 : Int)) + 1 else (if (M_sign S (S.1 24)) = 63 then 1 else 99 : Int) : Int)) then (if ((if (M_sign S (S.1 24)) = 63 then 1 else 99 : Int)) = 99 then ((if (M_sign S (S.1 24)) = 43 then 1 else 0 : Int)) + 1 else (if (M_sign S (S.1 24)) = 63 then 1 else 99 : Int) : Int) else 1 : Int))) + 2) (by show 1 ≤ (S.1 32); omega) (by show (S.1 32) ≤ 44; omega)) (cw7 1 B w7_mRX7_132 w7_im_yX7_weigh w7_sl_yX7_weigh w7_cd_yX7_weigh rfl rfl (by decide +kernel) ⟨Nat.le_of_ble_eq_true rfl, Nat.le_of_ble_eq_true rfl⟩) rfl hl.1 rfl (Nat.le_of_ble_eq_true rfl) dX7_count_325 ⟨Nat.zero_le _, Nat.zero_le _⟩ (fun S_53 H locs hp_52 hM => ?_)
                  have hp_52 := hp_52.symm
                  subst hp_52
                  refine lv_aload_n B.1 B.2.1 dX7_count_328 rfl (lv_at hl 5 rfl) ?_
                  refine m_getr B (i7 _) hK hM 15 (by decide) rfl (List.mem_cons_of_mem _ w7_fRX7_35) dX7_count_329 ?_
                  refine lv_iload_n B.1 B.2.1 dX7_count_332 rfl (lv_at hl 6 rfl) ?_
                  refine z_bipush B.1 B.2.1 (by decide) dX7_count_333 ?_
                  refine m_iast B hK hM 8 15 rfl rfl (by omega) (by simp only [mN]; omega) dX7_count_335 (fun H locs hM => ?_)
                  refine lv_aload_n B.1 B.2.1 dX7_count_336 rfl (lv_at hl 5 rfl) ?_
                  refine m_getr B (i7 _) hK hM 16 (by decide) rfl (List.mem_cons_of_mem _ w7_fRX7_38) dX7_count_337 ?_
                  refine lv_iload_n B.1 B.2.1 dX7_count_340 rfl (lv_at hl 6 rfl) ?_
                  refine lv_iload B.1 B.2.1 dX7_count_341 (lv_at hl 3 rfl) ?_
                  refine z_sipush B.1 B.2.1 (by decide) dX7_count_343 ?_
                  refine lv_iload B.1 B.2.1 dX7_count_346 (lv_at hl 2 rfl) ?_
                  refine z_imul (x := 128 * ((if (M_sign S (S.1 24)) = 63 then 1 else 99 : Int))) B.1 B.2.1 rfl dX7_count_348 ?_
                  refine z_iadd (x := ((if (M_sign S (S.1 24)) = 43 then 1 else 0 : Int)) + (128 * ((if (M_sign S (S.1 24)) = 63 then 1 else 99 : Int)))) B.1 B.2.1 rfl dX7_count_349 ?_
                  refine lv_ldc (v := zI 65536) B.1 B.2.1 B.2.2.2.1 (B.2.2.2.2.1 _ (List.mem_cons_of_mem _ w7_kRX7_149)) dX7_count_350 ?_
                  refine lv_iload B.1 B.2.1 dX7_count_352 (lv_at hl 1 rfl) ?_
                  refine z_imul (x := 65536 * ((if (M_sign S ((S.1 24) + 1)) = 63 then 1 else 0 : Int))) B.1 B.2.1 rfl dX7_count_354 ?_
                  refine z_iadd (x := (((if (M_sign S (S.1 24)) = 43 then 1 else 0 : Int)) + (128 * ((if (M_sign S (S.1 24)) = 63 then 1 else 99 : Int)))) + (65536 * ((if (M_sign S ((S.1 24) + 1)) = 63 then 1 else 0 : Int)))) B.1 B.2.1 rfl dX7_count_355 ?_
                  refine m_iast B hK hM 9 16 rfl rfl (by omega) (by simp only [mN]; omega) dX7_count_356 (fun H locs hM => ?_)
                  refine lv_aload_n B.1 B.2.1 dX7_count_357 rfl (lv_at hl 5 rfl) ?_
                  refine m_getr B (i7 _) hK hM 18 (by decide) rfl (List.mem_cons_of_mem _ w7_fRX7_44) dX7_count_358 ?_
                  refine lv_iload_n B.1 B.2.1 dX7_count_361 rfl (lv_at hl 6 rfl) ?_
                  refine lv_aload_n B.1 B.2.1 dX7_count_362 rfl (lv_at hl 5 rfl) ?_
                  refine m_get (x := S.1 21) B (i7 _) hK hM 21 (by decide) rfl rfl (List.mem_cons_of_mem _ w7_fRX7_150) dX7_count_363 ?_
                  refine m_iast B hK hM 11 18 rfl rfl (by omega) (by simp only [mN]; omega) dX7_count_366 (fun H locs hM => ?_)
                  refine lv_aload_n B.1 B.2.1 dX7_count_367 rfl (lv_at hl 5 rfl) ?_
                  refine m_getr B (i7 _) hK hM 17 (by decide) rfl (List.mem_cons_of_mem _ w7_fRX7_41) dX7_count_368 ?_
                  refine lv_iload_n B.1 B.2.1 dX7_count_371 rfl (lv_at hl 6 rfl) ?_
                  refine z_bipush B.1 B.2.1 (by decide) dX7_count_372 ?_
                  refine lv_aload_n B.1 B.2.1 dX7_count_374 rfl (lv_at hl 5 rfl) ?_
                  refine m_getr B (i7 _) hK hM 17 (by decide) rfl (List.mem_cons_of_mem _ w7_fRX7_41) dX7_count_375 ?_
                  refine lv_iload_n B.1 B.2.1 dX7_count_378 rfl (lv_at hl 6 rfl) ?_
                  refine m_iald (x := S.2 17 ahead.toNat) B hK hM 10 17 rfl rfl (by omega) (by simp only [mN]; omega) rfl dX7_count_379 ?_
                  refine z_imul (x := 16 * (S.2 17 ahead.toNat)) B.1 B.2.1 rfl dX7_count_380 ?_
                  refine lv_aload_n B.1 B.2.1 dX7_count_381 rfl (lv_at hl 5 rfl) ?_
                  refine m_get (x := S.1 20) B (i7 _) hK hM 20 (by decide) rfl rfl (List.mem_cons_of_mem _ w7_fRX7_153) dX7_count_382 ?_
                  refine z_iadd (x := (16 * (S.2 17 ahead.toNat)) + (S.1 20)) B.1 B.2.1 rfl dX7_count_385 ?_
                  refine z_sipush B.1 B.2.1 (by decide) dX7_count_386 ?_
                  refine lv_aload_n B.1 B.2.1 dX7_count_389 rfl (lv_at hl 5 rfl) ?_
                  refine m_get (x := S.1 19) B (i7 _) hK hM 19 (by decide) rfl rfl (List.mem_cons_of_mem _ w7_fRX7_114) dX7_count_390 ?_
                  refine z_imul (x := 4096 * (S.1 19)) B.1 B.2.1 rfl dX7_count_393 ?_
                  refine z_iadd (x := ((16 * (S.2 17 ahead.toNat)) + (S.1 20)) + (4096 * (S.1 19))) B.1 B.2.1 rfl dX7_count_394 ?_
                  refine m_iast B hK hM 10 17 rfl rfl (by omega) (by simp only [mN]; omega) dX7_count_395 (fun H locs hM => ?_)
                  refine lv_aload_n B.1 B.2.1 dX7_count_396 rfl (lv_at hl 5 rfl) ?_
                  refine z_bipush B.1 B.2.1 (by decide) dX7_count_397 ?_
                  refine lv_iload_n B.1 B.2.1 dX7_count_399 rfl (lv_at hl 6 rfl) ?_
                  refine z_iconst B.1 B.2.1 dX7_count_400 ?_
                  refine z_iconst B.1 B.2.1 dX7_count_401 ?_
                  refine m_calli (As := [.int (zI 15), .int (zI ahead), .int (zI 0), .int (zI 0)]) (rest := []) B hK hM (cX7_emit_ok l D cy o q (ma (ma (ma (ma (M_weigh ((weight * ((if 1 ≤ ((if ((if (M_sign S (S.1 24)) = 63 then 1 else 99 : Int)) = 99 then ((if (M_sign S (S.1 24)) = 43 then 1 else 0 : Int)) + 1 else (if (M_sign S (S.1 24)) = 63 then 1 else 99 : Int) : Int)) then (if ((if (M_sign S (S.1 24)) = 63 then 1 else 99 : Int)) = 99 then ((if (M_sign S (S.1 24)) = 43 then 1 else 0 : Int)) + 1 else (if (M_sign S (S.1 24)) = 63 then 1 else 99 : Int) : Int) else 1 : Int))) + 2) (mi (mi S 24 ((S.1 24) + 1)) 24 (((S.1 24) + 1) + ((if (M_sign S ((S.1 24) + 1)) = 63 then 1 else 0 : Int))))) 15 ahead.toNat 14) 16 ahead.toNat ((((if (M_sign S (S.1 24)) = 43 then 1 else 0 : Int)) + (128 * ((if (M_sign S (S.1 24)) = 63 then 1 else 99 : Int)))) + (65536 * ((if (M_sign S ((S.1 24) + 1)) = 63 then 1 else 0 : Int))))) 18 ahead.toNat (S.1 21)) 17 ahead.toNat (((16 * (S.2 17 ahead.toNat)) + (S.1 20)) + (4096 * (S.1 19)))) 15 ahead 0 0 (by show 0 ≤ (S.1 19); omega) (by show (S.1 19) < 220; omega)) (cw7 4 B w7_mRX7_124 w7_im_yX7_emit w7_sl_yX7_emit w7_cd_yX7_emit rfl rfl (by decide +kernel) ⟨Nat.le_of_ble_eq_true rfl, Nat.le_of_ble_eq_true rfl⟩) rfl hl.1 rfl (Nat.le_of_ble_eq_true rfl) dX7_count_402 ⟨Nat.zero_le _, Nat.zero_le _⟩ (fun z_56 S_55 H locs hp_54 hM => ?_)
                  obtain ⟨hp_54, he_hp_54⟩ := hp_54
                  have he_hp_54 := he_hp_54.symm
                  subst he_hp_54
                  have hp_54 : S.1 19 = z_56 := hp_54.symm
                  subst hp_54
                  refine lv_pop B.1 B.2.1 dX7_count_405 rfl ?_
                  refine lv_aload_n B.1 B.2.1 dX7_count_406 rfl (lv_at hl 5 rfl) ?_
                  refine lv_dup B.1 B.2.1 dX7_count_407 rfl ?_
                  refine m_get (x := S.1 21) B (i7 _) hK hM 21 (by decide) rfl rfl (List.mem_cons_of_mem _ w7_fRX7_150) dX7_count_408 ?_
                  refine z_iconst B.1 B.2.1 dX7_count_411 ?_
                  refine z_iadd (x := (S.1 21) + 1) B.1 B.2.1 rfl dX7_count_412 ?_
                  refine m_put B (i7 _) hK hM 21 (by decide) rfl (by decide +kernel) (List.mem_cons_of_mem _ w7_fRX7_150) dX7_count_413 (fun H locs hM => ?_)
                  exact m_retv B hM (by unfold M_count; exact ((if_neg c_13).trans ((if_neg c_14).trans (if_pos c_37))).symm) dX7_count_416
                · --
                  refine z_icmp_ge (tgt := 320) B.1 B.2.1 (zr_of (by omega) (by omega)) (zr_of (by decide) (by decide)) dX7_count_313 (by decide) (fun c_57 => ?_) (fun c_57 => ?_)
                  · --
                    refine lv_iload B.1 B.2.1 dX7_count_320 (lv_at hl 0 rfl) ?_
                    exact hJ_51 _ _ _ ⟨(if_pos c_57).symm, hM⟩
                  · --
                    refine z_iconst B.1 B.2.1 dX7_count_316 ?_
                    refine lv_goto (tgt := 322) B.1 B.2.1 dX7_count_317 (by decide) ?_
                    exact hJ_51 _ _ _ ⟨(if_neg c_57).symm, hM⟩
              · --
                refine z_icmp_ne (tgt := 304) B.1 B.2.1 (zr_of (by omega) (by omega)) (zr_of (by decide) (by decide)) dX7_count_294 (by decide) (fun c_58 => ?_) (fun c_58 => ?_)
                · --
                  refine lv_iload B.1 B.2.1 dX7_count_304 (lv_at hl 1 rfl) ?_
                  exact hJ_48 _ _ _ ⟨(if_neg c_58).symm, hM⟩
                · --
                  refine lv_iload B.1 B.2.1 dX7_count_297 (lv_at hl 2 rfl) ?_
                  refine z_iconst B.1 B.2.1 dX7_count_299 ?_
                  refine z_iadd (x := ((if (M_sign S (S.1 24)) = 43 then 1 else 0 : Int)) + 1) B.1 B.2.1 rfl dX7_count_300 ?_
                  refine lv_goto (tgt := 306) B.1 B.2.1 dX7_count_301 (by decide) ?_
                  exact hJ_48 _ _ _ ⟨(if_pos c_58).symm, hM⟩
            · --
              refine z_icmp_ne (tgt := 276) B.1 B.2.1 (zr_of (by omega) (by omega)) (zr_of (by decide) (by decide)) dX7_count_269 (by decide) (fun c_59 => ?_) (fun c_59 => ?_)
              · --
                refine z_iconst B.1 B.2.1 dX7_count_276 ?_
                exact hJ_44 _ _ _ ⟨(if_neg c_59).symm, hM⟩
              · --
                refine z_iconst B.1 B.2.1 dX7_count_272 ?_
                refine lv_goto (tgt := 277) B.1 B.2.1 dX7_count_273 (by decide) ?_
                exact hJ_44 _ _ _ ⟨(if_pos c_59).symm, hM⟩
          · --
            refine lv_iload_n B.1 B.2.1 dX7_count_237 rfl (lv_at hl 2 rfl) ?_
            refine z_bipush B.1 B.2.1 (by decide) dX7_count_238 ?_
            refine z_icmp_eq (tgt := 249) B.1 B.2.1 (zr_of (by omega) (by omega)) (zr_of (by decide) (by decide)) dX7_count_240 (by decide) (fun c_60 => ?_) (fun c_60 => ?_)
            · --
              refine lv_aload_n B.1 B.2.1 dX7_count_249 rfl (lv_at hl 3 rfl) ?_
              refine lv_dup B.1 B.2.1 dX7_count_250 rfl ?_
              refine m_get (x := S.1 24) B (i7 _) hK hM 24 (by decide) rfl rfl (List.mem_cons_of_mem _ w7_fRX7_139) dX7_count_251 ?_
              refine z_iconst B.1 B.2.1 dX7_count_254 ?_
              refine z_iadd (x := (S.1 24) + 1) B.1 B.2.1 rfl dX7_count_255 ?_
              refine m_put B (i7 _) hK hM 24 (by decide) rfl (by decide +kernel) (List.mem_cons_of_mem _ w7_fRX7_139) dX7_count_256 (fun H locs hM => ?_)
              refine lv_aload_n B.1 B.2.1 dX7_count_259 rfl (lv_at hl 3 rfl) ?_
              refine lv_aload_n B.1 B.2.1 dX7_count_260 rfl (lv_at hl 3 rfl) ?_
              refine m_get (x := (S.1 24) + 1) B (i7 _) hK hM 24 (by decide) rfl rfl (List.mem_cons_of_mem _ w7_fRX7_139) dX7_count_261 ?_
              refine m_calli (As := [.int (zI ((S.1 24) + 1))]) (rest := []) B hK hM (cX7_sign_ok l D cy o q (mi S 24 ((S.1 24) + 1)) ((S.1 24) + 1) (by show 0 ≤ ((S.1 24) + 1); omega) (by show ((S.1 24) + 1) ≤ 100000; omega) (by show 0 ≤ (S.1 14); omega) (by show (S.1 14) ≤ 40; omega)) (cw7 1 B w7_mRX7_142 w7_im_yX7_sign w7_sl_yX7_sign w7_cd_yX7_sign rfl rfl (by decide +kernel) ⟨Nat.le_of_ble_eq_true rfl, Nat.le_of_ble_eq_true rfl⟩) rfl hl.1 rfl (Nat.le_of_ble_eq_true rfl) dX7_count_264 ⟨Nat.zero_le _, Nat.zero_le _⟩ (fun z_63 S_62 H locs hp_61 hM => ?_)
              obtain ⟨hp_61, he_hp_61⟩ := hp_61
              have he_hp_61 := he_hp_61.symm
              subst he_hp_61
              have hp_61 : M_sign S ((S.1 24) + 1) = z_63 := hp_61.symm
              subst hp_61
              have f_64 := M_sign_bd S hs ((S.1 24) + 1)
              refine z_bipush B.1 B.2.1 (by decide) dX7_count_267 ?_
              refine z_joinH (P := fun v H' locs' => v = (if (M_sign S ((S.1 24) + 1)) = 63 then 1 else 0 : Int) ∧ mH D cy o q (mA o q) s.heap (mi S 24 ((S.1 24) + 1)) H' locs') (pcJ := 277) (lsJ := ls) (stJ := []) (fun v_65 H locs hv_66 => ?_) (fun hJ_67 => ?_)
              · --
                obtain ⟨hv_66, hM⟩ := hv_66
                have hb_68 : (if (M_sign S ((S.1 24) + 1)) = 63 then 1 else 0 : Int) = 0 ∨ (if (M_sign S ((S.1 24) + 1)) = 63 then 1 else 0 : Int) = 1 := by (repeat' split) <;> simp
                have hv_66 := hv_66.symm
                subst hv_66
                refine lv_istore (lv' := [(6, .int (zI ((if (M_sign S ((S.1 24) + 1)) = 63 then 1 else 0 : Int)))), (5, .int (zI ((if (M_sign S (S.1 24)) = 63 then 1 else 99 : Int)))), (4, .int (zI ((if (M_sign S (S.1 24)) = 43 then 1 else 0 : Int)))), (3, .int (zI (M_sign S (S.1 24)))), (0, .ref o), (1, .int (zI ahead)), (2, .int (zI weight))]) B.1 B.2.1 dX7_count_277 hl (by decide) rfl (fun ls hl => ?_)
                refine lv_aload_n B.1 B.2.1 dX7_count_279 rfl (lv_at hl 4 rfl) ?_
                refine lv_dup B.1 B.2.1 dX7_count_280 rfl ?_
                refine m_get (x := (S.1 24) + 1) B (i7 _) hK hM 24 (by decide) rfl rfl (List.mem_cons_of_mem _ w7_fRX7_139) dX7_count_281 ?_
                refine lv_iload B.1 B.2.1 dX7_count_284 (lv_at hl 0 rfl) ?_
                refine z_iadd (x := ((S.1 24) + 1) + ((if (M_sign S ((S.1 24) + 1)) = 63 then 1 else 0 : Int))) B.1 B.2.1 rfl dX7_count_286 ?_
                refine m_put B (i7 _) hK hM 24 (by decide) rfl (by decide +kernel) (List.mem_cons_of_mem _ w7_fRX7_139) dX7_count_287 (fun H locs hM => ?_)
                refine lv_iload B.1 B.2.1 dX7_count_290 (lv_at hl 1 rfl) ?_
                refine z_bipush B.1 B.2.1 (by decide) dX7_count_292 ?_
                refine z_joinH (P := fun v H' locs' => v = (if ((if (M_sign S (S.1 24)) = 63 then 1 else 99 : Int)) = 99 then ((if (M_sign S (S.1 24)) = 43 then 1 else 0 : Int)) + 1 else (if (M_sign S (S.1 24)) = 63 then 1 else 99 : Int) : Int) ∧ mH D cy o q (mA o q) s.heap (mi (mi S 24 ((S.1 24) + 1)) 24 (((S.1 24) + 1) + ((if (M_sign S ((S.1 24) + 1)) = 63 then 1 else 0 : Int)))) H' locs') (pcJ := 306) (lsJ := ls) (stJ := []) (fun v_69 H locs hv_70 => ?_) (fun hJ_71 => ?_)
                · --
                  obtain ⟨hv_70, hM⟩ := hv_70
                  have hv_70 := hv_70.symm
                  subst hv_70
                  refine lv_istore (lv' := [(7, .int (zI ((if ((if (M_sign S (S.1 24)) = 63 then 1 else 99 : Int)) = 99 then ((if (M_sign S (S.1 24)) = 43 then 1 else 0 : Int)) + 1 else (if (M_sign S (S.1 24)) = 63 then 1 else 99 : Int) : Int)))), (6, .int (zI ((if (M_sign S ((S.1 24) + 1)) = 63 then 1 else 0 : Int)))), (5, .int (zI ((if (M_sign S (S.1 24)) = 63 then 1 else 99 : Int)))), (4, .int (zI ((if (M_sign S (S.1 24)) = 43 then 1 else 0 : Int)))), (3, .int (zI (M_sign S (S.1 24)))), (0, .ref o), (1, .int (zI ahead)), (2, .int (zI weight))]) B.1 B.2.1 dX7_count_306 hl (by decide) rfl (fun ls hl => ?_)
                  refine lv_aload_n B.1 B.2.1 dX7_count_308 rfl (lv_at hl 5 rfl) ?_
                  refine lv_iload_n B.1 B.2.1 dX7_count_309 rfl (lv_at hl 7 rfl) ?_
                  refine lv_iload B.1 B.2.1 dX7_count_310 (lv_at hl 0 rfl) ?_
                  refine z_iconst B.1 B.2.1 dX7_count_312 ?_
                  refine z_joinH (P := fun v H' locs' => v = (if 1 ≤ ((if ((if (M_sign S (S.1 24)) = 63 then 1 else 99 : Int)) = 99 then ((if (M_sign S (S.1 24)) = 43 then 1 else 0 : Int)) + 1 else (if (M_sign S (S.1 24)) = 63 then 1 else 99 : Int) : Int)) then (if ((if (M_sign S (S.1 24)) = 63 then 1 else 99 : Int)) = 99 then ((if (M_sign S (S.1 24)) = 43 then 1 else 0 : Int)) + 1 else (if (M_sign S (S.1 24)) = 63 then 1 else 99 : Int) : Int) else 1 : Int) ∧ mH D cy o q (mA o q) s.heap (mi (mi S 24 ((S.1 24) + 1)) 24 (((S.1 24) + 1) + ((if (M_sign S ((S.1 24) + 1)) = 63 then 1 else 0 : Int)))) H' locs') (pcJ := 322) (lsJ := ls) (stJ := [.int (zI weight), .ref o]) (fun v_72 H locs hv_73 => ?_) (fun hJ_74 => ?_)
                  · --
                    obtain ⟨hv_73, hM⟩ := hv_73
                    have hv_73 := hv_73.symm
                    subst hv_73
                    refine z_imul (x := weight * ((if 1 ≤ ((if ((if (M_sign S (S.1 24)) = 63 then 1 else 99 : Int)) = 99 then ((if (M_sign S (S.1 24)) = 43 then 1 else 0 : Int)) + 1 else (if (M_sign S (S.1 24)) = 63 then 1 else 99 : Int) : Int)) then (if ((if (M_sign S (S.1 24)) = 63 then 1 else 99 : Int)) = 99 then ((if (M_sign S (S.1 24)) = 43 then 1 else 0 : Int)) + 1 else (if (M_sign S (S.1 24)) = 63 then 1 else 99 : Int) : Int) else 1 : Int))) B.1 B.2.1 rfl dX7_count_322 ?_
                    refine z_iconst B.1 B.2.1 dX7_count_323 ?_
                    refine z_iadd (x := (weight * ((if 1 ≤ ((if ((if (M_sign S (S.1 24)) = 63 then 1 else 99 : Int)) = 99 then ((if (M_sign S (S.1 24)) = 43 then 1 else 0 : Int)) + 1 else (if (M_sign S (S.1 24)) = 63 then 1 else 99 : Int) : Int)) then (if ((if (M_sign S (S.1 24)) = 63 then 1 else 99 : Int)) = 99 then ((if (M_sign S (S.1 24)) = 43 then 1 else 0 : Int)) + 1 else (if (M_sign S (S.1 24)) = 63 then 1 else 99 : Int) : Int) else 1 : Int))) + 2) B.1 B.2.1 rfl dX7_count_324 ?_
                    refine m_callv (As := [.int (zI ((weight * ((if 1 ≤ ((if ((if (M_sign S (S.1 24)) = 63 then 1 else 99 : Int)) = 99 then ((if (M_sign S (S.1 24)) = 43 then 1 else 0 : Int)) + 1 else (if (M_sign S (S.1 24)) = 63 then 1 else 99 : Int) : Int)) then (if ((if (M_sign S (S.1 24)) = 63 then 1 else 99 : Int)) = 99 then ((if (M_sign S (S.1 24)) = 43 then 1 else 0 : Int)) + 1 else (if (M_sign S (S.1 24)) = 63 then 1 else 99 : Int) : Int) else 1 : Int))) + 2))]) (rest := []) B hK hM (cX7_weigh_ok l D cy o q (mi (mi S 24 ((S.1 24) + 1)) 24 (((S.1 24) + 1) + ((if (M_sign S ((S.1 24) + 1)) = 63 then 1 else 0 : Int)))) ((weight * ((if 1 ≤ ((if ((if (M_sign S (S.1 24)) = 63 then 1 else 99 : Int)) = 99 then ((if (M_sign S (S.1 24)) = 43 then 1 else 0 : Int)) + 1 else (if (M_sign S (S.1 24)) = 63 then 1 else 99 : Int) : Int)) then (if ((if (M_sign S (S.1 24)) = 63 then 1 else 99 : Int)) = 99 then ((if (M_sign S (S.1 24)) = 43 then 1 else 0 : Int)) + 1 else (if (M_sign S (S.1 24)) = 63 then 1 else 99 : Int) : Int) else 1 : Int))) + 2) (by show 1 ≤ (S.1 32); omega) (by show (S.1 32) ≤ 44; omega)) (cw7 1 B w7_mRX7_132 w7_im_yX7_weigh w7_sl_yX7_weigh w7_cd_yX7_weigh rfl rfl (by decide +kernel) ⟨Nat.le_of_ble_eq_true rfl, Nat.le_of_ble_eq_true rfl⟩) rfl hl.1 rfl (Nat.le_of_ble_eq_true rfl) dX7_count_325 ⟨Nat.zero_le _, Nat.zero_le _⟩ (fun S_76 H locs hp_75 hM => ?_)
                    have hp_75 := hp_75.symm
                    subst hp_75
                    refine lv_aload_n B.1 B.2.1 dX7_count_328 rfl (lv_at hl 5 rfl) ?_
                    refine m_getr B (i7 _) hK hM 15 (by decide) rfl (List.mem_cons_of_mem _ w7_fRX7_35) dX7_count_329 ?_
                    refine lv_iload_n B.1 B.2.1 dX7_count_332 rfl (lv_at hl 6 rfl) ?_
                    refine z_bipush B.1 B.2.1 (by decide) dX7_count_333 ?_
                    refine m_iast B hK hM 8 15 rfl rfl (by omega) (by simp only [mN]; omega) dX7_count_335 (fun H locs hM => ?_)
                    refine lv_aload_n B.1 B.2.1 dX7_count_336 rfl (lv_at hl 5 rfl) ?_
                    refine m_getr B (i7 _) hK hM 16 (by decide) rfl (List.mem_cons_of_mem _ w7_fRX7_38) dX7_count_337 ?_
                    refine lv_iload_n B.1 B.2.1 dX7_count_340 rfl (lv_at hl 6 rfl) ?_
                    refine lv_iload B.1 B.2.1 dX7_count_341 (lv_at hl 3 rfl) ?_
                    refine z_sipush B.1 B.2.1 (by decide) dX7_count_343 ?_
                    refine lv_iload B.1 B.2.1 dX7_count_346 (lv_at hl 2 rfl) ?_
                    refine z_imul (x := 128 * ((if (M_sign S (S.1 24)) = 63 then 1 else 99 : Int))) B.1 B.2.1 rfl dX7_count_348 ?_
                    refine z_iadd (x := ((if (M_sign S (S.1 24)) = 43 then 1 else 0 : Int)) + (128 * ((if (M_sign S (S.1 24)) = 63 then 1 else 99 : Int)))) B.1 B.2.1 rfl dX7_count_349 ?_
                    refine lv_ldc (v := zI 65536) B.1 B.2.1 B.2.2.2.1 (B.2.2.2.2.1 _ (List.mem_cons_of_mem _ w7_kRX7_149)) dX7_count_350 ?_
                    refine lv_iload B.1 B.2.1 dX7_count_352 (lv_at hl 1 rfl) ?_
                    refine z_imul (x := 65536 * ((if (M_sign S ((S.1 24) + 1)) = 63 then 1 else 0 : Int))) B.1 B.2.1 rfl dX7_count_354 ?_
                    refine z_iadd (x := (((if (M_sign S (S.1 24)) = 43 then 1 else 0 : Int)) + (128 * ((if (M_sign S (S.1 24)) = 63 then 1 else 99 : Int)))) + (65536 * ((if (M_sign S ((S.1 24) + 1)) = 63 then 1 else 0 : Int)))) B.1 B.2.1 rfl dX7_count_355 ?_
                    refine m_iast B hK hM 9 16 rfl rfl (by omega) (by simp only [mN]; omega) dX7_count_356 (fun H locs hM => ?_)
                    refine lv_aload_n B.1 B.2.1 dX7_count_357 rfl (lv_at hl 5 rfl) ?_
                    refine m_getr B (i7 _) hK hM 18 (by decide) rfl (List.mem_cons_of_mem _ w7_fRX7_44) dX7_count_358 ?_
                    refine lv_iload_n B.1 B.2.1 dX7_count_361 rfl (lv_at hl 6 rfl) ?_
                    refine lv_aload_n B.1 B.2.1 dX7_count_362 rfl (lv_at hl 5 rfl) ?_
                    refine m_get (x := S.1 21) B (i7 _) hK hM 21 (by decide) rfl rfl (List.mem_cons_of_mem _ w7_fRX7_150) dX7_count_363 ?_
                    refine m_iast B hK hM 11 18 rfl rfl (by omega) (by simp only [mN]; omega) dX7_count_366 (fun H locs hM => ?_)
                    refine lv_aload_n B.1 B.2.1 dX7_count_367 rfl (lv_at hl 5 rfl) ?_
                    refine m_getr B (i7 _) hK hM 17 (by decide) rfl (List.mem_cons_of_mem _ w7_fRX7_41) dX7_count_368 ?_
                    refine lv_iload_n B.1 B.2.1 dX7_count_371 rfl (lv_at hl 6 rfl) ?_
                    refine z_bipush B.1 B.2.1 (by decide) dX7_count_372 ?_
                    refine lv_aload_n B.1 B.2.1 dX7_count_374 rfl (lv_at hl 5 rfl) ?_
                    refine m_getr B (i7 _) hK hM 17 (by decide) rfl (List.mem_cons_of_mem _ w7_fRX7_41) dX7_count_375 ?_
                    refine lv_iload_n B.1 B.2.1 dX7_count_378 rfl (lv_at hl 6 rfl) ?_
                    refine m_iald (x := S.2 17 ahead.toNat) B hK hM 10 17 rfl rfl (by omega) (by simp only [mN]; omega) rfl dX7_count_379 ?_
                    refine z_imul (x := 16 * (S.2 17 ahead.toNat)) B.1 B.2.1 rfl dX7_count_380 ?_
                    refine lv_aload_n B.1 B.2.1 dX7_count_381 rfl (lv_at hl 5 rfl) ?_
                    refine m_get (x := S.1 20) B (i7 _) hK hM 20 (by decide) rfl rfl (List.mem_cons_of_mem _ w7_fRX7_153) dX7_count_382 ?_
                    refine z_iadd (x := (16 * (S.2 17 ahead.toNat)) + (S.1 20)) B.1 B.2.1 rfl dX7_count_385 ?_
                    refine z_sipush B.1 B.2.1 (by decide) dX7_count_386 ?_
                    refine lv_aload_n B.1 B.2.1 dX7_count_389 rfl (lv_at hl 5 rfl) ?_
                    refine m_get (x := S.1 19) B (i7 _) hK hM 19 (by decide) rfl rfl (List.mem_cons_of_mem _ w7_fRX7_114) dX7_count_390 ?_
                    refine z_imul (x := 4096 * (S.1 19)) B.1 B.2.1 rfl dX7_count_393 ?_
                    refine z_iadd (x := ((16 * (S.2 17 ahead.toNat)) + (S.1 20)) + (4096 * (S.1 19))) B.1 B.2.1 rfl dX7_count_394 ?_
                    refine m_iast B hK hM 10 17 rfl rfl (by omega) (by simp only [mN]; omega) dX7_count_395 (fun H locs hM => ?_)
                    refine lv_aload_n B.1 B.2.1 dX7_count_396 rfl (lv_at hl 5 rfl) ?_
                    refine z_bipush B.1 B.2.1 (by decide) dX7_count_397 ?_
                    refine lv_iload_n B.1 B.2.1 dX7_count_399 rfl (lv_at hl 6 rfl) ?_
                    refine z_iconst B.1 B.2.1 dX7_count_400 ?_
                    refine z_iconst B.1 B.2.1 dX7_count_401 ?_
                    refine m_calli (As := [.int (zI 15), .int (zI ahead), .int (zI 0), .int (zI 0)]) (rest := []) B hK hM (cX7_emit_ok l D cy o q (ma (ma (ma (ma (M_weigh ((weight * ((if 1 ≤ ((if ((if (M_sign S (S.1 24)) = 63 then 1 else 99 : Int)) = 99 then ((if (M_sign S (S.1 24)) = 43 then 1 else 0 : Int)) + 1 else (if (M_sign S (S.1 24)) = 63 then 1 else 99 : Int) : Int)) then (if ((if (M_sign S (S.1 24)) = 63 then 1 else 99 : Int)) = 99 then ((if (M_sign S (S.1 24)) = 43 then 1 else 0 : Int)) + 1 else (if (M_sign S (S.1 24)) = 63 then 1 else 99 : Int) : Int) else 1 : Int))) + 2) (mi (mi S 24 ((S.1 24) + 1)) 24 (((S.1 24) + 1) + ((if (M_sign S ((S.1 24) + 1)) = 63 then 1 else 0 : Int))))) 15 ahead.toNat 14) 16 ahead.toNat ((((if (M_sign S (S.1 24)) = 43 then 1 else 0 : Int)) + (128 * ((if (M_sign S (S.1 24)) = 63 then 1 else 99 : Int)))) + (65536 * ((if (M_sign S ((S.1 24) + 1)) = 63 then 1 else 0 : Int))))) 18 ahead.toNat (S.1 21)) 17 ahead.toNat (((16 * (S.2 17 ahead.toNat)) + (S.1 20)) + (4096 * (S.1 19)))) 15 ahead 0 0 (by show 0 ≤ (S.1 19); omega) (by show (S.1 19) < 220; omega)) (cw7 4 B w7_mRX7_124 w7_im_yX7_emit w7_sl_yX7_emit w7_cd_yX7_emit rfl rfl (by decide +kernel) ⟨Nat.le_of_ble_eq_true rfl, Nat.le_of_ble_eq_true rfl⟩) rfl hl.1 rfl (Nat.le_of_ble_eq_true rfl) dX7_count_402 ⟨Nat.zero_le _, Nat.zero_le _⟩ (fun z_79 S_78 H locs hp_77 hM => ?_)
                    obtain ⟨hp_77, he_hp_77⟩ := hp_77
                    have he_hp_77 := he_hp_77.symm
                    subst he_hp_77
                    have hp_77 : S.1 19 = z_79 := hp_77.symm
                    subst hp_77
                    refine lv_pop B.1 B.2.1 dX7_count_405 rfl ?_
                    refine lv_aload_n B.1 B.2.1 dX7_count_406 rfl (lv_at hl 5 rfl) ?_
                    refine lv_dup B.1 B.2.1 dX7_count_407 rfl ?_
                    refine m_get (x := S.1 21) B (i7 _) hK hM 21 (by decide) rfl rfl (List.mem_cons_of_mem _ w7_fRX7_150) dX7_count_408 ?_
                    refine z_iconst B.1 B.2.1 dX7_count_411 ?_
                    refine z_iadd (x := (S.1 21) + 1) B.1 B.2.1 rfl dX7_count_412 ?_
                    refine m_put B (i7 _) hK hM 21 (by decide) rfl (by decide +kernel) (List.mem_cons_of_mem _ w7_fRX7_150) dX7_count_413 (fun H locs hM => ?_)
                    exact m_retv B hM (by unfold M_count; exact ((if_neg c_13).trans ((if_neg c_14).trans ((if_neg c_37).trans (if_pos c_60)))).symm) dX7_count_416
                  · --
                    refine z_icmp_ge (tgt := 320) B.1 B.2.1 (zr_of (by omega) (by omega)) (zr_of (by decide) (by decide)) dX7_count_313 (by decide) (fun c_80 => ?_) (fun c_80 => ?_)
                    · --
                      refine lv_iload B.1 B.2.1 dX7_count_320 (lv_at hl 0 rfl) ?_
                      exact hJ_74 _ _ _ ⟨(if_pos c_80).symm, hM⟩
                    · --
                      refine z_iconst B.1 B.2.1 dX7_count_316 ?_
                      refine lv_goto (tgt := 322) B.1 B.2.1 dX7_count_317 (by decide) ?_
                      exact hJ_74 _ _ _ ⟨(if_neg c_80).symm, hM⟩
                · --
                  refine z_icmp_ne (tgt := 304) B.1 B.2.1 (zr_of (by omega) (by omega)) (zr_of (by decide) (by decide)) dX7_count_294 (by decide) (fun c_81 => ?_) (fun c_81 => ?_)
                  · --
                    refine lv_iload B.1 B.2.1 dX7_count_304 (lv_at hl 1 rfl) ?_
                    exact hJ_71 _ _ _ ⟨(if_neg c_81).symm, hM⟩
                  · --
                    refine lv_iload B.1 B.2.1 dX7_count_297 (lv_at hl 2 rfl) ?_
                    refine z_iconst B.1 B.2.1 dX7_count_299 ?_
                    refine z_iadd (x := ((if (M_sign S (S.1 24)) = 43 then 1 else 0 : Int)) + 1) B.1 B.2.1 rfl dX7_count_300 ?_
                    refine lv_goto (tgt := 306) B.1 B.2.1 dX7_count_301 (by decide) ?_
                    exact hJ_71 _ _ _ ⟨(if_pos c_81).symm, hM⟩
              · --
                refine z_icmp_ne (tgt := 276) B.1 B.2.1 (zr_of (by omega) (by omega)) (zr_of (by decide) (by decide)) dX7_count_269 (by decide) (fun c_82 => ?_) (fun c_82 => ?_)
                · --
                  refine z_iconst B.1 B.2.1 dX7_count_276 ?_
                  exact hJ_67 _ _ _ ⟨(if_neg c_82).symm, hM⟩
                · --
                  refine z_iconst B.1 B.2.1 dX7_count_272 ?_
                  refine lv_goto (tgt := 277) B.1 B.2.1 dX7_count_273 (by decide) ?_
                  exact hJ_67 _ _ _ ⟨(if_pos c_82).symm, hM⟩
            · --
              refine lv_aload_n B.1 B.2.1 dX7_count_243 rfl (lv_at hl 3 rfl) ?_
              refine lv_iload_n B.1 B.2.1 dX7_count_244 rfl (lv_at hl 5 rfl) ?_
              refine m_callv (As := [.int (zI weight)]) (rest := []) B hK hM (cX7_weigh_ok l D cy o q S weight (by show 1 ≤ (S.1 32); omega) (by show (S.1 32) ≤ 44; omega)) (cw7 1 B w7_mRX7_132 w7_im_yX7_weigh w7_sl_yX7_weigh w7_cd_yX7_weigh rfl rfl (by decide +kernel) ⟨Nat.le_of_ble_eq_true rfl, Nat.le_of_ble_eq_true rfl⟩) rfl hl.1 rfl (Nat.le_of_ble_eq_true rfl) dX7_count_245 ⟨Nat.zero_le _, Nat.zero_le _⟩ (fun S_84 H locs hp_83 hM => ?_)
              have hp_83 := hp_83.symm
              subst hp_83
              exact m_retv B hM (by unfold M_count; exact ((if_neg c_13).trans ((if_neg c_14).trans ((if_neg c_37).trans (if_neg c_60)))).symm) dX7_count_248
      · --
        refine lv_aload_n B.1 B.2.1 dX7_count_42 rfl (lv_at hl 3 rfl) ?_
        refine lv_aload_n B.1 B.2.1 dX7_count_43 rfl (lv_at hl 3 rfl) ?_
        refine m_get (x := S.1 25) B (i7 _) hK hM 25 (by decide) rfl rfl (List.mem_cons_of_mem _ w7_fRX7_117) dX7_count_44 ?_
        refine z_joinH (P := fun v H' locs' => v = (if (S.1 25) = 0 then (if (zb (M_isDigit (M_sign S ((S.1 24) + 1)))) = 0 then 1 else 0 : Int) else 1 : Int) ∧ mH D cy o q (mA o q) s.heap S H' locs') (pcJ := 71) (lsJ := ls) (stJ := [.ref o]) (fun v_85 H locs hv_86 => ?_) (fun hJ_87 => ?_)
        · --
          obtain ⟨hv_86, hM⟩ := hv_86
          have hb_88 : (if (S.1 25) = 0 then (if (zb (M_isDigit (M_sign S ((S.1 24) + 1)))) = 0 then 1 else 0 : Int) else 1 : Int) = 0 ∨ (if (S.1 25) = 0 then (if (zb (M_isDigit (M_sign S ((S.1 24) + 1)))) = 0 then 1 else 0 : Int) else 1 : Int) = 1 := by (repeat' split) <;> simp
          have hv_86 := hv_86.symm
          subst hv_86
          refine m_putz B (i7 _) hK hM 25 (by decide) rfl (by omega) (by decide +kernel) (List.mem_cons_of_mem _ w7_fRX7_117) dX7_count_71 (fun H locs hM => ?_)
          refine lv_aload_n B.1 B.2.1 dX7_count_74 rfl (lv_at hl 3 rfl) ?_
          refine lv_aload_n B.1 B.2.1 dX7_count_75 rfl (lv_at hl 3 rfl) ?_
          refine m_get (x := S.1 24) B (i7 _) hK hM 24 (by decide) rfl rfl (List.mem_cons_of_mem _ w7_fRX7_139) dX7_count_76 ?_
          refine z_iconst B.1 B.2.1 dX7_count_79 ?_
          refine z_iadd (x := (S.1 24) + 1) B.1 B.2.1 rfl dX7_count_80 ?_
          refine m_calli (As := [.int (zI ((S.1 24) + 1))]) (rest := []) B hK hM (cX7_sign_ok l D cy o q (mi S 25 ((if (S.1 25) = 0 then (if (zb (M_isDigit (M_sign S ((S.1 24) + 1)))) = 0 then 1 else 0 : Int) else 1 : Int))) ((S.1 24) + 1) (by show 0 ≤ ((S.1 24) + 1); omega) (by show ((S.1 24) + 1) ≤ 100000; omega) (by show 0 ≤ (S.1 14); omega) (by show (S.1 14) ≤ 40; omega)) (cw7 1 B w7_mRX7_142 w7_im_yX7_sign w7_sl_yX7_sign w7_cd_yX7_sign rfl rfl (by decide +kernel) ⟨Nat.le_of_ble_eq_true rfl, Nat.le_of_ble_eq_true rfl⟩) rfl hl.1 rfl (Nat.le_of_ble_eq_true rfl) dX7_count_81 ⟨Nat.zero_le _, Nat.zero_le _⟩ (fun z_91 S_90 H locs hp_89 hM => ?_)
          obtain ⟨hp_89, he_hp_89⟩ := hp_89
          have he_hp_89 := he_hp_89.symm
          subst he_hp_89
          have hp_89 : M_sign S ((S.1 24) + 1) = z_91 := hp_89.symm
          subst hp_89
          have f_92 := M_sign_bd S hs ((S.1 24) + 1)
          refine z_bipush B.1 B.2.1 (by decide) dX7_count_84 ?_
          refine z_isub (x := (M_sign S ((S.1 24) + 1)) - 48) B.1 B.2.1 rfl dX7_count_86 ?_
          refine lv_istore (lv' := [(4, .int (zI ((M_sign S ((S.1 24) + 1)) - 48))), (5, .int (zI ((if (M_sign S (S.1 24)) = 63 then 1 else 99 : Int)))), (3, .int (zI (M_sign S (S.1 24)))), (0, .ref o), (1, .int (zI ahead)), (2, .int (zI weight))]) B.1 B.2.1 dX7_count_87 hl (by decide) rfl (fun ls hl => ?_)
          refine lv_iload B.1 B.2.1 dX7_count_89 (lv_at hl 0 rfl) ?_
          refine lv_istore (lv' := [(5, .int (zI ((M_sign S ((S.1 24) + 1)) - 48))), (4, .int (zI ((M_sign S ((S.1 24) + 1)) - 48))), (3, .int (zI (M_sign S (S.1 24)))), (0, .ref o), (1, .int (zI ahead)), (2, .int (zI weight))]) B.1 B.2.1 dX7_count_91 hl (by decide) rfl (fun ls hl => ?_)
          refine lv_aload_n B.1 B.2.1 dX7_count_93 rfl (lv_at hl 3 rfl) ?_
          refine lv_dup B.1 B.2.1 dX7_count_94 rfl ?_
          refine m_get (x := S.1 24) B (i7 _) hK hM 24 (by decide) rfl rfl (List.mem_cons_of_mem _ w7_fRX7_139) dX7_count_95 ?_
          refine z_iconst B.1 B.2.1 dX7_count_98 ?_
          refine z_iadd (x := (S.1 24) + 2) B.1 B.2.1 rfl dX7_count_99 ?_
          refine m_put B (i7 _) hK hM 24 (by decide) rfl (by decide +kernel) (List.mem_cons_of_mem _ w7_fRX7_139) dX7_count_100 (fun H locs hM => ?_)
          refine lv_aload_n B.1 B.2.1 dX7_count_103 rfl (lv_at hl 3 rfl) ?_
          refine lv_aload_n B.1 B.2.1 dX7_count_104 rfl (lv_at hl 3 rfl) ?_
          refine m_get (x := (S.1 24) + 2) B (i7 _) hK hM 24 (by decide) rfl rfl (List.mem_cons_of_mem _ w7_fRX7_139) dX7_count_105 ?_
          refine m_calli (As := [.int (zI ((S.1 24) + 2))]) (rest := []) B hK hM (cX7_sign_ok l D cy o q (mi (mi S 25 ((if (S.1 25) = 0 then (if (zb (M_isDigit (M_sign S ((S.1 24) + 1)))) = 0 then 1 else 0 : Int) else 1 : Int))) 24 ((S.1 24) + 2)) ((S.1 24) + 2) (by show 0 ≤ ((S.1 24) + 2); omega) (by show ((S.1 24) + 2) ≤ 100000; omega) (by show 0 ≤ (S.1 14); omega) (by show (S.1 14) ≤ 40; omega)) (cw7 1 B w7_mRX7_142 w7_im_yX7_sign w7_sl_yX7_sign w7_cd_yX7_sign rfl rfl (by decide +kernel) ⟨Nat.le_of_ble_eq_true rfl, Nat.le_of_ble_eq_true rfl⟩) rfl hl.1 rfl (Nat.le_of_ble_eq_true rfl) dX7_count_108 ⟨Nat.zero_le _, Nat.zero_le _⟩ (fun z_95 S_94 H locs hp_93 hM => ?_)
          obtain ⟨hp_93, he_hp_93⟩ := hp_93
          have he_hp_93 := he_hp_93.symm
          subst he_hp_93
          have hp_93 : M_sign S ((S.1 24) + 2) = z_95 := hp_93.symm
          subst hp_93
          have f_96 := M_sign_bd S hs ((S.1 24) + 2)
          refine z_bipush B.1 B.2.1 (by decide) dX7_count_111 ?_
          refine z_icmp_ne (tgt := 186) B.1 B.2.1 (zr_of (by omega) (by omega)) (zr_of (by decide) (by decide)) dX7_count_113 (by decide) (fun c_97 => ?_) (fun c_97 => ?_)
          · --
            refine lv_aload_n B.1 B.2.1 dX7_count_186 rfl (lv_at hl 3 rfl) ?_
            refine lv_aload_n B.1 B.2.1 dX7_count_187 rfl (lv_at hl 3 rfl) ?_
            refine m_get (x := (if (S.1 25) = 0 then (if (zb (M_isDigit (M_sign S ((S.1 24) + 1)))) = 0 then 1 else 0 : Int) else 1 : Int)) B (i7 _) hK hM 25 (by decide) rfl rfl (List.mem_cons_of_mem _ w7_fRX7_117) dX7_count_188 ?_
            refine z_joinH (P := fun v H' locs' => v = (if ((if (S.1 25) = 0 then (if (zb (M_isDigit (M_sign S ((S.1 24) + 1)))) = 0 then 1 else 0 : Int) else 1 : Int)) = 0 then (if (M_sign S ((S.1 24) + 2)) = 125 then (if ((M_sign S ((S.1 24) + 1)) - 48) ≤ ((M_sign S ((S.1 24) + 1)) - 48) then 0 else 1 : Int) else 1 : Int) else 1 : Int) ∧ mH D cy o q (mA o q) s.heap (mi (mi S 25 ((if (S.1 25) = 0 then (if (zb (M_isDigit (M_sign S ((S.1 24) + 1)))) = 0 then 1 else 0 : Int) else 1 : Int))) 24 ((S.1 24) + 2)) H' locs') (pcJ := 219) (lsJ := ls) (stJ := [.ref o]) (fun v_98 H locs hv_99 => ?_) (fun hJ_100 => ?_)
            · --
              obtain ⟨hv_99, hM⟩ := hv_99
              have hb_101 : (if ((if (S.1 25) = 0 then (if (zb (M_isDigit (M_sign S ((S.1 24) + 1)))) = 0 then 1 else 0 : Int) else 1 : Int)) = 0 then (if (M_sign S ((S.1 24) + 2)) = 125 then (if ((M_sign S ((S.1 24) + 1)) - 48) ≤ ((M_sign S ((S.1 24) + 1)) - 48) then 0 else 1 : Int) else 1 : Int) else 1 : Int) = 0 ∨ (if ((if (S.1 25) = 0 then (if (zb (M_isDigit (M_sign S ((S.1 24) + 1)))) = 0 then 1 else 0 : Int) else 1 : Int)) = 0 then (if (M_sign S ((S.1 24) + 2)) = 125 then (if ((M_sign S ((S.1 24) + 1)) - 48) ≤ ((M_sign S ((S.1 24) + 1)) - 48) then 0 else 1 : Int) else 1 : Int) else 1 : Int) = 1 := by (repeat' split) <;> simp
              have hv_99 := hv_99.symm
              subst hv_99
              refine m_putz B (i7 _) hK hM 25 (by decide) rfl (by omega) (by decide +kernel) (List.mem_cons_of_mem _ w7_fRX7_117) dX7_count_219 (fun H locs hM => ?_)
              refine lv_goto (tgt := 249) B.1 B.2.1 dX7_count_222 (by decide) ?_
              refine lv_aload_n B.1 B.2.1 dX7_count_249 rfl (lv_at hl 3 rfl) ?_
              refine lv_dup B.1 B.2.1 dX7_count_250 rfl ?_
              refine m_get (x := (S.1 24) + 2) B (i7 _) hK hM 24 (by decide) rfl rfl (List.mem_cons_of_mem _ w7_fRX7_139) dX7_count_251 ?_
              refine z_iconst B.1 B.2.1 dX7_count_254 ?_
              refine z_iadd (x := ((S.1 24) + 2) + 1) B.1 B.2.1 rfl dX7_count_255 ?_
              refine m_put B (i7 _) hK hM 24 (by decide) rfl (by decide +kernel) (List.mem_cons_of_mem _ w7_fRX7_139) dX7_count_256 (fun H locs hM => ?_)
              refine lv_aload_n B.1 B.2.1 dX7_count_259 rfl (lv_at hl 3 rfl) ?_
              refine lv_aload_n B.1 B.2.1 dX7_count_260 rfl (lv_at hl 3 rfl) ?_
              refine m_get (x := ((S.1 24) + 2) + 1) B (i7 _) hK hM 24 (by decide) rfl rfl (List.mem_cons_of_mem _ w7_fRX7_139) dX7_count_261 ?_
              refine m_calli (As := [.int (zI (((S.1 24) + 2) + 1))]) (rest := []) B hK hM (cX7_sign_ok l D cy o q (mi (mi (mi (mi S 25 ((if (S.1 25) = 0 then (if (zb (M_isDigit (M_sign S ((S.1 24) + 1)))) = 0 then 1 else 0 : Int) else 1 : Int))) 24 ((S.1 24) + 2)) 25 ((if ((if (S.1 25) = 0 then (if (zb (M_isDigit (M_sign S ((S.1 24) + 1)))) = 0 then 1 else 0 : Int) else 1 : Int)) = 0 then (if (M_sign S ((S.1 24) + 2)) = 125 then (if ((M_sign S ((S.1 24) + 1)) - 48) ≤ ((M_sign S ((S.1 24) + 1)) - 48) then 0 else 1 : Int) else 1 : Int) else 1 : Int))) 24 (((S.1 24) + 2) + 1)) (((S.1 24) + 2) + 1) (by show 0 ≤ (((S.1 24) + 2) + 1); omega) (by show (((S.1 24) + 2) + 1) ≤ 100000; omega) (by show 0 ≤ (S.1 14); omega) (by show (S.1 14) ≤ 40; omega)) (cw7 1 B w7_mRX7_142 w7_im_yX7_sign w7_sl_yX7_sign w7_cd_yX7_sign rfl rfl (by decide +kernel) ⟨Nat.le_of_ble_eq_true rfl, Nat.le_of_ble_eq_true rfl⟩) rfl hl.1 rfl (Nat.le_of_ble_eq_true rfl) dX7_count_264 ⟨Nat.zero_le _, Nat.zero_le _⟩ (fun z_104 S_103 H locs hp_102 hM => ?_)
              obtain ⟨hp_102, he_hp_102⟩ := hp_102
              have he_hp_102 := he_hp_102.symm
              subst he_hp_102
              have hp_102 : M_sign S (((S.1 24) + 2) + 1) = z_104 := hp_102.symm
              subst hp_102
              have f_105 := M_sign_bd S hs (((S.1 24) + 2) + 1)
              refine z_bipush B.1 B.2.1 (by decide) dX7_count_267 ?_
              refine z_joinH (P := fun v H' locs' => v = (if (M_sign S (((S.1 24) + 2) + 1)) = 63 then 1 else 0 : Int) ∧ mH D cy o q (mA o q) s.heap (mi (mi (mi (mi S 25 ((if (S.1 25) = 0 then (if (zb (M_isDigit (M_sign S ((S.1 24) + 1)))) = 0 then 1 else 0 : Int) else 1 : Int))) 24 ((S.1 24) + 2)) 25 ((if ((if (S.1 25) = 0 then (if (zb (M_isDigit (M_sign S ((S.1 24) + 1)))) = 0 then 1 else 0 : Int) else 1 : Int)) = 0 then (if (M_sign S ((S.1 24) + 2)) = 125 then (if ((M_sign S ((S.1 24) + 1)) - 48) ≤ ((M_sign S ((S.1 24) + 1)) - 48) then 0 else 1 : Int) else 1 : Int) else 1 : Int))) 24 (((S.1 24) + 2) + 1)) H' locs') (pcJ := 277) (lsJ := ls) (stJ := []) (fun v_106 H locs hv_107 => ?_) (fun hJ_108 => ?_)
              · --
                obtain ⟨hv_107, hM⟩ := hv_107
                have hb_109 : (if (M_sign S (((S.1 24) + 2) + 1)) = 63 then 1 else 0 : Int) = 0 ∨ (if (M_sign S (((S.1 24) + 2) + 1)) = 63 then 1 else 0 : Int) = 1 := by (repeat' split) <;> simp
                have hv_107 := hv_107.symm
                subst hv_107
                refine lv_istore (lv' := [(6, .int (zI ((if (M_sign S (((S.1 24) + 2) + 1)) = 63 then 1 else 0 : Int)))), (5, .int (zI ((M_sign S ((S.1 24) + 1)) - 48))), (4, .int (zI ((M_sign S ((S.1 24) + 1)) - 48))), (3, .int (zI (M_sign S (S.1 24)))), (0, .ref o), (1, .int (zI ahead)), (2, .int (zI weight))]) B.1 B.2.1 dX7_count_277 hl (by decide) rfl (fun ls hl => ?_)
                refine lv_aload_n B.1 B.2.1 dX7_count_279 rfl (lv_at hl 4 rfl) ?_
                refine lv_dup B.1 B.2.1 dX7_count_280 rfl ?_
                refine m_get (x := ((S.1 24) + 2) + 1) B (i7 _) hK hM 24 (by decide) rfl rfl (List.mem_cons_of_mem _ w7_fRX7_139) dX7_count_281 ?_
                refine lv_iload B.1 B.2.1 dX7_count_284 (lv_at hl 0 rfl) ?_
                refine z_iadd (x := (((S.1 24) + 2) + 1) + ((if (M_sign S (((S.1 24) + 2) + 1)) = 63 then 1 else 0 : Int))) B.1 B.2.1 rfl dX7_count_286 ?_
                refine m_put B (i7 _) hK hM 24 (by decide) rfl (by decide +kernel) (List.mem_cons_of_mem _ w7_fRX7_139) dX7_count_287 (fun H locs hM => ?_)
                refine lv_iload B.1 B.2.1 dX7_count_290 (lv_at hl 1 rfl) ?_
                refine z_bipush B.1 B.2.1 (by decide) dX7_count_292 ?_
                refine z_joinH (P := fun v H' locs' => v = (if ((M_sign S ((S.1 24) + 1)) - 48) = 99 then ((M_sign S ((S.1 24) + 1)) - 48) + 1 else (M_sign S ((S.1 24) + 1)) - 48 : Int) ∧ mH D cy o q (mA o q) s.heap (mi (mi (mi (mi (mi S 25 ((if (S.1 25) = 0 then (if (zb (M_isDigit (M_sign S ((S.1 24) + 1)))) = 0 then 1 else 0 : Int) else 1 : Int))) 24 ((S.1 24) + 2)) 25 ((if ((if (S.1 25) = 0 then (if (zb (M_isDigit (M_sign S ((S.1 24) + 1)))) = 0 then 1 else 0 : Int) else 1 : Int)) = 0 then (if (M_sign S ((S.1 24) + 2)) = 125 then (if ((M_sign S ((S.1 24) + 1)) - 48) ≤ ((M_sign S ((S.1 24) + 1)) - 48) then 0 else 1 : Int) else 1 : Int) else 1 : Int))) 24 (((S.1 24) + 2) + 1)) 24 ((((S.1 24) + 2) + 1) + ((if (M_sign S (((S.1 24) + 2) + 1)) = 63 then 1 else 0 : Int)))) H' locs') (pcJ := 306) (lsJ := ls) (stJ := []) (fun v_110 H locs hv_111 => ?_) (fun hJ_112 => ?_)
                · --
                  obtain ⟨hv_111, hM⟩ := hv_111
                  have hv_111 := hv_111.symm
                  subst hv_111
                  refine lv_istore (lv' := [(7, .int (zI ((if ((M_sign S ((S.1 24) + 1)) - 48) = 99 then ((M_sign S ((S.1 24) + 1)) - 48) + 1 else (M_sign S ((S.1 24) + 1)) - 48 : Int)))), (6, .int (zI ((if (M_sign S (((S.1 24) + 2) + 1)) = 63 then 1 else 0 : Int)))), (5, .int (zI ((M_sign S ((S.1 24) + 1)) - 48))), (4, .int (zI ((M_sign S ((S.1 24) + 1)) - 48))), (3, .int (zI (M_sign S (S.1 24)))), (0, .ref o), (1, .int (zI ahead)), (2, .int (zI weight))]) B.1 B.2.1 dX7_count_306 hl (by decide) rfl (fun ls hl => ?_)
                  refine lv_aload_n B.1 B.2.1 dX7_count_308 rfl (lv_at hl 5 rfl) ?_
                  refine lv_iload_n B.1 B.2.1 dX7_count_309 rfl (lv_at hl 7 rfl) ?_
                  refine lv_iload B.1 B.2.1 dX7_count_310 (lv_at hl 0 rfl) ?_
                  refine z_iconst B.1 B.2.1 dX7_count_312 ?_
                  refine z_joinH (P := fun v H' locs' => v = (if 1 ≤ ((if ((M_sign S ((S.1 24) + 1)) - 48) = 99 then ((M_sign S ((S.1 24) + 1)) - 48) + 1 else (M_sign S ((S.1 24) + 1)) - 48 : Int)) then (if ((M_sign S ((S.1 24) + 1)) - 48) = 99 then ((M_sign S ((S.1 24) + 1)) - 48) + 1 else (M_sign S ((S.1 24) + 1)) - 48 : Int) else 1 : Int) ∧ mH D cy o q (mA o q) s.heap (mi (mi (mi (mi (mi S 25 ((if (S.1 25) = 0 then (if (zb (M_isDigit (M_sign S ((S.1 24) + 1)))) = 0 then 1 else 0 : Int) else 1 : Int))) 24 ((S.1 24) + 2)) 25 ((if ((if (S.1 25) = 0 then (if (zb (M_isDigit (M_sign S ((S.1 24) + 1)))) = 0 then 1 else 0 : Int) else 1 : Int)) = 0 then (if (M_sign S ((S.1 24) + 2)) = 125 then (if ((M_sign S ((S.1 24) + 1)) - 48) ≤ ((M_sign S ((S.1 24) + 1)) - 48) then 0 else 1 : Int) else 1 : Int) else 1 : Int))) 24 (((S.1 24) + 2) + 1)) 24 ((((S.1 24) + 2) + 1) + ((if (M_sign S (((S.1 24) + 2) + 1)) = 63 then 1 else 0 : Int)))) H' locs') (pcJ := 322) (lsJ := ls) (stJ := [.int (zI weight), .ref o]) (fun v_113 H locs hv_114 => ?_) (fun hJ_115 => ?_)
                  · --
                    obtain ⟨hv_114, hM⟩ := hv_114
                    have hv_114 := hv_114.symm
                    subst hv_114
                    refine z_imul (x := weight * ((if 1 ≤ ((if ((M_sign S ((S.1 24) + 1)) - 48) = 99 then ((M_sign S ((S.1 24) + 1)) - 48) + 1 else (M_sign S ((S.1 24) + 1)) - 48 : Int)) then (if ((M_sign S ((S.1 24) + 1)) - 48) = 99 then ((M_sign S ((S.1 24) + 1)) - 48) + 1 else (M_sign S ((S.1 24) + 1)) - 48 : Int) else 1 : Int))) B.1 B.2.1 rfl dX7_count_322 ?_
                    refine z_iconst B.1 B.2.1 dX7_count_323 ?_
                    refine z_iadd (x := (weight * ((if 1 ≤ ((if ((M_sign S ((S.1 24) + 1)) - 48) = 99 then ((M_sign S ((S.1 24) + 1)) - 48) + 1 else (M_sign S ((S.1 24) + 1)) - 48 : Int)) then (if ((M_sign S ((S.1 24) + 1)) - 48) = 99 then ((M_sign S ((S.1 24) + 1)) - 48) + 1 else (M_sign S ((S.1 24) + 1)) - 48 : Int) else 1 : Int))) + 2) B.1 B.2.1 rfl dX7_count_324 ?_
                    refine m_callv (As := [.int (zI ((weight * ((if 1 ≤ ((if ((M_sign S ((S.1 24) + 1)) - 48) = 99 then ((M_sign S ((S.1 24) + 1)) - 48) + 1 else (M_sign S ((S.1 24) + 1)) - 48 : Int)) then (if ((M_sign S ((S.1 24) + 1)) - 48) = 99 then ((M_sign S ((S.1 24) + 1)) - 48) + 1 else (M_sign S ((S.1 24) + 1)) - 48 : Int) else 1 : Int))) + 2))]) (rest := []) B hK hM (cX7_weigh_ok l D cy o q (mi (mi (mi (mi (mi S 25 ((if (S.1 25) = 0 then (if (zb (M_isDigit (M_sign S ((S.1 24) + 1)))) = 0 then 1 else 0 : Int) else 1 : Int))) 24 ((S.1 24) + 2)) 25 ((if ((if (S.1 25) = 0 then (if (zb (M_isDigit (M_sign S ((S.1 24) + 1)))) = 0 then 1 else 0 : Int) else 1 : Int)) = 0 then (if (M_sign S ((S.1 24) + 2)) = 125 then (if ((M_sign S ((S.1 24) + 1)) - 48) ≤ ((M_sign S ((S.1 24) + 1)) - 48) then 0 else 1 : Int) else 1 : Int) else 1 : Int))) 24 (((S.1 24) + 2) + 1)) 24 ((((S.1 24) + 2) + 1) + ((if (M_sign S (((S.1 24) + 2) + 1)) = 63 then 1 else 0 : Int)))) ((weight * ((if 1 ≤ ((if ((M_sign S ((S.1 24) + 1)) - 48) = 99 then ((M_sign S ((S.1 24) + 1)) - 48) + 1 else (M_sign S ((S.1 24) + 1)) - 48 : Int)) then (if ((M_sign S ((S.1 24) + 1)) - 48) = 99 then ((M_sign S ((S.1 24) + 1)) - 48) + 1 else (M_sign S ((S.1 24) + 1)) - 48 : Int) else 1 : Int))) + 2) (by show 1 ≤ (S.1 32); omega) (by show (S.1 32) ≤ 44; omega)) (cw7 1 B w7_mRX7_132 w7_im_yX7_weigh w7_sl_yX7_weigh w7_cd_yX7_weigh rfl rfl (by decide +kernel) ⟨Nat.le_of_ble_eq_true rfl, Nat.le_of_ble_eq_true rfl⟩) rfl hl.1 rfl (Nat.le_of_ble_eq_true rfl) dX7_count_325 ⟨Nat.zero_le _, Nat.zero_le _⟩ (fun S_117 H locs hp_116 hM => ?_)
                    have hp_116 := hp_116.symm
                    subst hp_116
                    refine lv_aload_n B.1 B.2.1 dX7_count_328 rfl (lv_at hl 5 rfl) ?_
                    refine m_getr B (i7 _) hK hM 15 (by decide) rfl (List.mem_cons_of_mem _ w7_fRX7_35) dX7_count_329 ?_
                    refine lv_iload_n B.1 B.2.1 dX7_count_332 rfl (lv_at hl 6 rfl) ?_
                    refine z_bipush B.1 B.2.1 (by decide) dX7_count_333 ?_
                    refine m_iast B hK hM 8 15 rfl rfl (by omega) (by simp only [mN]; omega) dX7_count_335 (fun H locs hM => ?_)
                    refine lv_aload_n B.1 B.2.1 dX7_count_336 rfl (lv_at hl 5 rfl) ?_
                    refine m_getr B (i7 _) hK hM 16 (by decide) rfl (List.mem_cons_of_mem _ w7_fRX7_38) dX7_count_337 ?_
                    refine lv_iload_n B.1 B.2.1 dX7_count_340 rfl (lv_at hl 6 rfl) ?_
                    refine lv_iload B.1 B.2.1 dX7_count_341 (lv_at hl 3 rfl) ?_
                    refine z_sipush B.1 B.2.1 (by decide) dX7_count_343 ?_
                    refine lv_iload B.1 B.2.1 dX7_count_346 (lv_at hl 2 rfl) ?_
                    refine z_imul (x := 128 * ((M_sign S ((S.1 24) + 1)) - 48)) B.1 B.2.1 rfl dX7_count_348 ?_
                    refine z_iadd (x := ((M_sign S ((S.1 24) + 1)) - 48) + (128 * ((M_sign S ((S.1 24) + 1)) - 48))) B.1 B.2.1 rfl dX7_count_349 ?_
                    refine lv_ldc (v := zI 65536) B.1 B.2.1 B.2.2.2.1 (B.2.2.2.2.1 _ (List.mem_cons_of_mem _ w7_kRX7_149)) dX7_count_350 ?_
                    refine lv_iload B.1 B.2.1 dX7_count_352 (lv_at hl 1 rfl) ?_
                    refine z_imul (x := 65536 * ((if (M_sign S (((S.1 24) + 2) + 1)) = 63 then 1 else 0 : Int))) B.1 B.2.1 rfl dX7_count_354 ?_
                    refine z_iadd (x := (((M_sign S ((S.1 24) + 1)) - 48) + (128 * ((M_sign S ((S.1 24) + 1)) - 48))) + (65536 * ((if (M_sign S (((S.1 24) + 2) + 1)) = 63 then 1 else 0 : Int)))) B.1 B.2.1 rfl dX7_count_355 ?_
                    refine m_iast B hK hM 9 16 rfl rfl (by omega) (by simp only [mN]; omega) dX7_count_356 (fun H locs hM => ?_)
                    refine lv_aload_n B.1 B.2.1 dX7_count_357 rfl (lv_at hl 5 rfl) ?_
                    refine m_getr B (i7 _) hK hM 18 (by decide) rfl (List.mem_cons_of_mem _ w7_fRX7_44) dX7_count_358 ?_
                    refine lv_iload_n B.1 B.2.1 dX7_count_361 rfl (lv_at hl 6 rfl) ?_
                    refine lv_aload_n B.1 B.2.1 dX7_count_362 rfl (lv_at hl 5 rfl) ?_
                    refine m_get (x := S.1 21) B (i7 _) hK hM 21 (by decide) rfl rfl (List.mem_cons_of_mem _ w7_fRX7_150) dX7_count_363 ?_
                    refine m_iast B hK hM 11 18 rfl rfl (by omega) (by simp only [mN]; omega) dX7_count_366 (fun H locs hM => ?_)
                    refine lv_aload_n B.1 B.2.1 dX7_count_367 rfl (lv_at hl 5 rfl) ?_
                    refine m_getr B (i7 _) hK hM 17 (by decide) rfl (List.mem_cons_of_mem _ w7_fRX7_41) dX7_count_368 ?_
                    refine lv_iload_n B.1 B.2.1 dX7_count_371 rfl (lv_at hl 6 rfl) ?_
                    refine z_bipush B.1 B.2.1 (by decide) dX7_count_372 ?_
                    refine lv_aload_n B.1 B.2.1 dX7_count_374 rfl (lv_at hl 5 rfl) ?_
                    refine m_getr B (i7 _) hK hM 17 (by decide) rfl (List.mem_cons_of_mem _ w7_fRX7_41) dX7_count_375 ?_
                    refine lv_iload_n B.1 B.2.1 dX7_count_378 rfl (lv_at hl 6 rfl) ?_
                    refine m_iald (x := S.2 17 ahead.toNat) B hK hM 10 17 rfl rfl (by omega) (by simp only [mN]; omega) rfl dX7_count_379 ?_
                    refine z_imul (x := 16 * (S.2 17 ahead.toNat)) B.1 B.2.1 rfl dX7_count_380 ?_
                    refine lv_aload_n B.1 B.2.1 dX7_count_381 rfl (lv_at hl 5 rfl) ?_
                    refine m_get (x := S.1 20) B (i7 _) hK hM 20 (by decide) rfl rfl (List.mem_cons_of_mem _ w7_fRX7_153) dX7_count_382 ?_
                    refine z_iadd (x := (16 * (S.2 17 ahead.toNat)) + (S.1 20)) B.1 B.2.1 rfl dX7_count_385 ?_
                    refine z_sipush B.1 B.2.1 (by decide) dX7_count_386 ?_
                    refine lv_aload_n B.1 B.2.1 dX7_count_389 rfl (lv_at hl 5 rfl) ?_
                    refine m_get (x := S.1 19) B (i7 _) hK hM 19 (by decide) rfl rfl (List.mem_cons_of_mem _ w7_fRX7_114) dX7_count_390 ?_
                    refine z_imul (x := 4096 * (S.1 19)) B.1 B.2.1 rfl dX7_count_393 ?_
                    refine z_iadd (x := ((16 * (S.2 17 ahead.toNat)) + (S.1 20)) + (4096 * (S.1 19))) B.1 B.2.1 rfl dX7_count_394 ?_
                    refine m_iast B hK hM 10 17 rfl rfl (by omega) (by simp only [mN]; omega) dX7_count_395 (fun H locs hM => ?_)
                    refine lv_aload_n B.1 B.2.1 dX7_count_396 rfl (lv_at hl 5 rfl) ?_
                    refine z_bipush B.1 B.2.1 (by decide) dX7_count_397 ?_
                    refine lv_iload_n B.1 B.2.1 dX7_count_399 rfl (lv_at hl 6 rfl) ?_
                    refine z_iconst B.1 B.2.1 dX7_count_400 ?_
                    refine z_iconst B.1 B.2.1 dX7_count_401 ?_
                    refine m_calli (As := [.int (zI 15), .int (zI ahead), .int (zI 0), .int (zI 0)]) (rest := []) B hK hM (cX7_emit_ok l D cy o q (ma (ma (ma (ma (M_weigh ((weight * ((if 1 ≤ ((if ((M_sign S ((S.1 24) + 1)) - 48) = 99 then ((M_sign S ((S.1 24) + 1)) - 48) + 1 else (M_sign S ((S.1 24) + 1)) - 48 : Int)) then (if ((M_sign S ((S.1 24) + 1)) - 48) = 99 then ((M_sign S ((S.1 24) + 1)) - 48) + 1 else (M_sign S ((S.1 24) + 1)) - 48 : Int) else 1 : Int))) + 2) (mi (mi (mi (mi (mi S 25 ((if (S.1 25) = 0 then (if (zb (M_isDigit (M_sign S ((S.1 24) + 1)))) = 0 then 1 else 0 : Int) else 1 : Int))) 24 ((S.1 24) + 2)) 25 ((if ((if (S.1 25) = 0 then (if (zb (M_isDigit (M_sign S ((S.1 24) + 1)))) = 0 then 1 else 0 : Int) else 1 : Int)) = 0 then (if (M_sign S ((S.1 24) + 2)) = 125 then (if ((M_sign S ((S.1 24) + 1)) - 48) ≤ ((M_sign S ((S.1 24) + 1)) - 48) then 0 else 1 : Int) else 1 : Int) else 1 : Int))) 24 (((S.1 24) + 2) + 1)) 24 ((((S.1 24) + 2) + 1) + ((if (M_sign S (((S.1 24) + 2) + 1)) = 63 then 1 else 0 : Int))))) 15 ahead.toNat 14) 16 ahead.toNat ((((M_sign S ((S.1 24) + 1)) - 48) + (128 * ((M_sign S ((S.1 24) + 1)) - 48))) + (65536 * ((if (M_sign S (((S.1 24) + 2) + 1)) = 63 then 1 else 0 : Int))))) 18 ahead.toNat (S.1 21)) 17 ahead.toNat (((16 * (S.2 17 ahead.toNat)) + (S.1 20)) + (4096 * (S.1 19)))) 15 ahead 0 0 (by show 0 ≤ (S.1 19); omega) (by show (S.1 19) < 220; omega)) (cw7 4 B w7_mRX7_124 w7_im_yX7_emit w7_sl_yX7_emit w7_cd_yX7_emit rfl rfl (by decide +kernel) ⟨Nat.le_of_ble_eq_true rfl, Nat.le_of_ble_eq_true rfl⟩) rfl hl.1 rfl (Nat.le_of_ble_eq_true rfl) dX7_count_402 ⟨Nat.zero_le _, Nat.zero_le _⟩ (fun z_120 S_119 H locs hp_118 hM => ?_)
                    obtain ⟨hp_118, he_hp_118⟩ := hp_118
                    have he_hp_118 := he_hp_118.symm
                    subst he_hp_118
                    have hp_118 : S.1 19 = z_120 := hp_118.symm
                    subst hp_118
                    refine lv_pop B.1 B.2.1 dX7_count_405 rfl ?_
                    refine lv_aload_n B.1 B.2.1 dX7_count_406 rfl (lv_at hl 5 rfl) ?_
                    refine lv_dup B.1 B.2.1 dX7_count_407 rfl ?_
                    refine m_get (x := S.1 21) B (i7 _) hK hM 21 (by decide) rfl rfl (List.mem_cons_of_mem _ w7_fRX7_150) dX7_count_408 ?_
                    refine z_iconst B.1 B.2.1 dX7_count_411 ?_
                    refine z_iadd (x := (S.1 21) + 1) B.1 B.2.1 rfl dX7_count_412 ?_
                    refine m_put B (i7 _) hK hM 21 (by decide) rfl (by decide +kernel) (List.mem_cons_of_mem _ w7_fRX7_150) dX7_count_413 (fun H locs hM => ?_)
                    exact m_retv B hM (by unfold M_count; exact ((if_pos c_13).trans (if_neg c_97)).symm) dX7_count_416
                  · --
                    refine z_icmp_ge (tgt := 320) B.1 B.2.1 (zr_of (by omega) (by omega)) (zr_of (by decide) (by decide)) dX7_count_313 (by decide) (fun c_121 => ?_) (fun c_121 => ?_)
                    · --
                      refine lv_iload B.1 B.2.1 dX7_count_320 (lv_at hl 0 rfl) ?_
                      exact hJ_115 _ _ _ ⟨(if_pos c_121).symm, hM⟩
                    · --
                      refine z_iconst B.1 B.2.1 dX7_count_316 ?_
                      refine lv_goto (tgt := 322) B.1 B.2.1 dX7_count_317 (by decide) ?_
                      exact hJ_115 _ _ _ ⟨(if_neg c_121).symm, hM⟩
                · --
                  refine z_icmp_ne (tgt := 304) B.1 B.2.1 (zr_of (by omega) (by omega)) (zr_of (by decide) (by decide)) dX7_count_294 (by decide) (fun c_122 => ?_) (fun c_122 => ?_)
                  · --
                    refine lv_iload B.1 B.2.1 dX7_count_304 (lv_at hl 1 rfl) ?_
                    exact hJ_112 _ _ _ ⟨(if_neg c_122).symm, hM⟩
                  · --
                    refine lv_iload B.1 B.2.1 dX7_count_297 (lv_at hl 2 rfl) ?_
                    refine z_iconst B.1 B.2.1 dX7_count_299 ?_
                    refine z_iadd (x := ((M_sign S ((S.1 24) + 1)) - 48) + 1) B.1 B.2.1 rfl dX7_count_300 ?_
                    refine lv_goto (tgt := 306) B.1 B.2.1 dX7_count_301 (by decide) ?_
                    exact hJ_112 _ _ _ ⟨(if_pos c_122).symm, hM⟩
              · --
                refine z_icmp_ne (tgt := 276) B.1 B.2.1 (zr_of (by omega) (by omega)) (zr_of (by decide) (by decide)) dX7_count_269 (by decide) (fun c_123 => ?_) (fun c_123 => ?_)
                · --
                  refine z_iconst B.1 B.2.1 dX7_count_276 ?_
                  exact hJ_108 _ _ _ ⟨(if_neg c_123).symm, hM⟩
                · --
                  refine z_iconst B.1 B.2.1 dX7_count_272 ?_
                  refine lv_goto (tgt := 277) B.1 B.2.1 dX7_count_273 (by decide) ?_
                  exact hJ_108 _ _ _ ⟨(if_pos c_123).symm, hM⟩
            · --
              refine z_if_ne (tgt := 214) B.1 B.2.1 (zr_of (by omega) (by omega)) dX7_count_191 (by decide) (fun c_124 => ?_) (fun c_124 => ?_)
              · --
                refine z_iconst B.1 B.2.1 dX7_count_214 ?_
                refine lv_goto (tgt := 219) B.1 B.2.1 dX7_count_215 (by decide) ?_
                exact hJ_100 _ _ _ ⟨(if_neg c_124).symm, hM⟩
              · --
                refine lv_aload_n B.1 B.2.1 dX7_count_194 rfl (lv_at hl 3 rfl) ?_
                refine lv_aload_n B.1 B.2.1 dX7_count_195 rfl (lv_at hl 3 rfl) ?_
                refine m_get (x := (S.1 24) + 2) B (i7 _) hK hM 24 (by decide) rfl rfl (List.mem_cons_of_mem _ w7_fRX7_139) dX7_count_196 ?_
                refine m_calli (As := [.int (zI ((S.1 24) + 2))]) (rest := [.ref o]) B hK hM (cX7_sign_ok l D cy o q (mi (mi S 25 ((if (S.1 25) = 0 then (if (zb (M_isDigit (M_sign S ((S.1 24) + 1)))) = 0 then 1 else 0 : Int) else 1 : Int))) 24 ((S.1 24) + 2)) ((S.1 24) + 2) (by show 0 ≤ ((S.1 24) + 2); omega) (by show ((S.1 24) + 2) ≤ 100000; omega) (by show 0 ≤ (S.1 14); omega) (by show (S.1 14) ≤ 40; omega)) (cw7 1 B w7_mRX7_142 w7_im_yX7_sign w7_sl_yX7_sign w7_cd_yX7_sign rfl rfl (by decide +kernel) ⟨Nat.le_of_ble_eq_true rfl, Nat.le_of_ble_eq_true rfl⟩) rfl hl.1 rfl (Nat.le_of_ble_eq_true rfl) dX7_count_199 ⟨Nat.zero_le _, Nat.zero_le _⟩ (fun z_127 S_126 H locs hp_125 hM => ?_)
                obtain ⟨hp_125, he_hp_125⟩ := hp_125
                have he_hp_125 := he_hp_125.symm
                subst he_hp_125
                have hp_125 : M_sign S ((S.1 24) + 2) = z_127 := hp_125.symm
                subst hp_125
                have f_128 := M_sign_bd S hs ((S.1 24) + 2)
                refine z_bipush B.1 B.2.1 (by decide) dX7_count_202 ?_
                refine z_icmp_ne (tgt := 214) B.1 B.2.1 (zr_of (by omega) (by omega)) (zr_of (by decide) (by decide)) dX7_count_204 (by decide) (fun c_129 => ?_) (fun c_129 => ?_)
                · --
                  refine z_iconst B.1 B.2.1 dX7_count_214 ?_
                  refine lv_goto (tgt := 219) B.1 B.2.1 dX7_count_215 (by decide) ?_
                  exact hJ_100 _ _ _ ⟨((if_pos c_124).trans (if_neg c_129)).symm, hM⟩
                · --
                  refine lv_iload B.1 B.2.1 dX7_count_207 (lv_at hl 1 rfl) ?_
                  refine lv_iload B.1 B.2.1 dX7_count_209 (lv_at hl 0 rfl) ?_
                  refine z_icmp_le (tgt := 218) B.1 B.2.1 (zr_of (by omega) (by omega)) (zr_of (by omega) (by omega)) dX7_count_211 (by decide) (fun c_130 => ?_) (fun c_130 => ?_)
                  · --
                    refine z_iconst B.1 B.2.1 dX7_count_218 ?_
                    exact hJ_100 _ _ _ ⟨((if_pos c_124).trans ((if_pos c_129).trans (if_pos c_130))).symm, hM⟩
                  · --
                    refine z_iconst B.1 B.2.1 dX7_count_214 ?_
                    refine lv_goto (tgt := 219) B.1 B.2.1 dX7_count_215 (by decide) ?_
                    exact hJ_100 _ _ _ ⟨((if_pos c_124).trans ((if_pos c_129).trans (if_neg c_130))).symm, hM⟩
          · --
            refine lv_aload_n B.1 B.2.1 dX7_count_116 rfl (lv_at hl 3 rfl) ?_
            refine lv_dup B.1 B.2.1 dX7_count_117 rfl ?_
            refine m_get (x := (S.1 24) + 2) B (i7 _) hK hM 24 (by decide) rfl rfl (List.mem_cons_of_mem _ w7_fRX7_139) dX7_count_118 ?_
            refine z_iconst B.1 B.2.1 dX7_count_121 ?_
            refine z_iadd (x := ((S.1 24) + 2) + 1) B.1 B.2.1 rfl dX7_count_122 ?_
            refine m_put B (i7 _) hK hM 24 (by decide) rfl (by decide +kernel) (List.mem_cons_of_mem _ w7_fRX7_139) dX7_count_123 (fun H locs hM => ?_)
            refine lv_aload_n B.1 B.2.1 dX7_count_126 rfl (lv_at hl 3 rfl) ?_
            refine lv_aload_n B.1 B.2.1 dX7_count_127 rfl (lv_at hl 3 rfl) ?_
            refine m_get (x := ((S.1 24) + 2) + 1) B (i7 _) hK hM 24 (by decide) rfl rfl (List.mem_cons_of_mem _ w7_fRX7_139) dX7_count_128 ?_
            refine m_calli (As := [.int (zI (((S.1 24) + 2) + 1))]) (rest := []) B hK hM (cX7_sign_ok l D cy o q (mi (mi (mi S 25 ((if (S.1 25) = 0 then (if (zb (M_isDigit (M_sign S ((S.1 24) + 1)))) = 0 then 1 else 0 : Int) else 1 : Int))) 24 ((S.1 24) + 2)) 24 (((S.1 24) + 2) + 1)) (((S.1 24) + 2) + 1) (by show 0 ≤ (((S.1 24) + 2) + 1); omega) (by show (((S.1 24) + 2) + 1) ≤ 100000; omega) (by show 0 ≤ (S.1 14); omega) (by show (S.1 14) ≤ 40; omega)) (cw7 1 B w7_mRX7_142 w7_im_yX7_sign w7_sl_yX7_sign w7_cd_yX7_sign rfl rfl (by decide +kernel) ⟨Nat.le_of_ble_eq_true rfl, Nat.le_of_ble_eq_true rfl⟩) rfl hl.1 rfl (Nat.le_of_ble_eq_true rfl) dX7_count_131 ⟨Nat.zero_le _, Nat.zero_le _⟩ (fun z_133 S_132 H locs hp_131 hM => ?_)
            obtain ⟨hp_131, he_hp_131⟩ := hp_131
            have he_hp_131 := he_hp_131.symm
            subst he_hp_131
            have hp_131 : M_sign S (((S.1 24) + 2) + 1) = z_133 := hp_131.symm
            subst hp_131
            have f_134 := M_sign_bd S hs (((S.1 24) + 2) + 1)
            refine s_calli (As := [.int (zI (M_sign S (((S.1 24) + 2) + 1)))]) (rest := []) B (cX7_isDigit_ok l (M_sign S (((S.1 24) + 2) + 1)) (by show -100000 ≤ (M_sign S (((S.1 24) + 2) + 1)); omega) (by show (M_sign S (((S.1 24) + 2) + 1)) ≤ 100000; omega)) (cs7 1 B rfl w7_mRX7_145 w7_st_yX7_isDigit w7_cd_yX7_isDigit rfl rfl (by decide +kernel) ⟨Nat.le_of_ble_eq_true rfl, Nat.le_of_ble_eq_true rfl⟩) rfl hl.1 rfl (Nat.le_of_ble_eq_true rfl) dX7_count_134 ⟨Nat.zero_le _, Nat.zero_le _⟩ (fun z_135 hz_136 => ?_)
            have hz_136 := hz_136.symm
            subst hz_136
            have f_137 := zb_01 (M_isDigit (M_sign S (((S.1 24) + 2) + 1)))
            refine z_joinH (P := fun v H' locs' => v = (if (zb (M_isDigit (M_sign S (((S.1 24) + 2) + 1)))) = 0 then 99 else (M_sign S (((S.1 24) + 2) + 1)) - 48 : Int) ∧ mH D cy o q (mA o q) s.heap (mi (mi (mi S 25 ((if (S.1 25) = 0 then (if (zb (M_isDigit (M_sign S ((S.1 24) + 1)))) = 0 then 1 else 0 : Int) else 1 : Int))) 24 ((S.1 24) + 2)) 24 (((S.1 24) + 2) + 1)) H' locs') (pcJ := 156) (lsJ := ls) (stJ := []) (fun v_138 H locs hv_139 => ?_) (fun hJ_140 => ?_)
            · --
              obtain ⟨hv_139, hM⟩ := hv_139
              have hv_139 := hv_139.symm
              subst hv_139
              refine lv_istore (lv' := [(5, .int (zI ((if (zb (M_isDigit (M_sign S (((S.1 24) + 2) + 1)))) = 0 then 99 else (M_sign S (((S.1 24) + 2) + 1)) - 48 : Int)))), (4, .int (zI ((M_sign S ((S.1 24) + 1)) - 48))), (3, .int (zI (M_sign S (S.1 24)))), (0, .ref o), (1, .int (zI ahead)), (2, .int (zI weight))]) B.1 B.2.1 dX7_count_156 hl (by decide) rfl (fun ls hl => ?_)
              refine lv_aload_n B.1 B.2.1 dX7_count_158 rfl (lv_at hl 3 rfl) ?_
              refine lv_dup B.1 B.2.1 dX7_count_159 rfl ?_
              refine m_get (x := ((S.1 24) + 2) + 1) B (i7 _) hK hM 24 (by decide) rfl rfl (List.mem_cons_of_mem _ w7_fRX7_139) dX7_count_160 ?_
              refine lv_aload_n B.1 B.2.1 dX7_count_163 rfl (lv_at hl 3 rfl) ?_
              refine lv_aload_n B.1 B.2.1 dX7_count_164 rfl (lv_at hl 3 rfl) ?_
              refine m_get (x := ((S.1 24) + 2) + 1) B (i7 _) hK hM 24 (by decide) rfl rfl (List.mem_cons_of_mem _ w7_fRX7_139) dX7_count_165 ?_
              refine m_calli (As := [.int (zI (((S.1 24) + 2) + 1))]) (rest := [.int (zI (((S.1 24) + 2) + 1)), .ref o]) B hK hM (cX7_sign_ok l D cy o q (mi (mi (mi S 25 ((if (S.1 25) = 0 then (if (zb (M_isDigit (M_sign S ((S.1 24) + 1)))) = 0 then 1 else 0 : Int) else 1 : Int))) 24 ((S.1 24) + 2)) 24 (((S.1 24) + 2) + 1)) (((S.1 24) + 2) + 1) (by show 0 ≤ (((S.1 24) + 2) + 1); omega) (by show (((S.1 24) + 2) + 1) ≤ 100000; omega) (by show 0 ≤ (S.1 14); omega) (by show (S.1 14) ≤ 40; omega)) (cw7 1 B w7_mRX7_142 w7_im_yX7_sign w7_sl_yX7_sign w7_cd_yX7_sign rfl rfl (by decide +kernel) ⟨Nat.le_of_ble_eq_true rfl, Nat.le_of_ble_eq_true rfl⟩) rfl hl.1 rfl (Nat.le_of_ble_eq_true rfl) dX7_count_168 ⟨Nat.zero_le _, Nat.zero_le _⟩ (fun z_143 S_142 H locs hp_141 hM => ?_)
              obtain ⟨hp_141, he_hp_141⟩ := hp_141
              have he_hp_141 := he_hp_141.symm
              subst he_hp_141
              have hp_141 : M_sign S (((S.1 24) + 2) + 1) = z_143 := hp_141.symm
              subst hp_141
              have f_144 := M_sign_bd S hs (((S.1 24) + 2) + 1)
              refine s_calli (As := [.int (zI (M_sign S (((S.1 24) + 2) + 1)))]) (rest := [.int (zI (((S.1 24) + 2) + 1)), .ref o]) B (cX7_isDigit_ok l (M_sign S (((S.1 24) + 2) + 1)) (by show -100000 ≤ (M_sign S (((S.1 24) + 2) + 1)); omega) (by show (M_sign S (((S.1 24) + 2) + 1)) ≤ 100000; omega)) (cs7 1 B rfl w7_mRX7_145 w7_st_yX7_isDigit w7_cd_yX7_isDigit rfl rfl (by decide +kernel) ⟨Nat.le_of_ble_eq_true rfl, Nat.le_of_ble_eq_true rfl⟩) rfl hl.1 rfl (Nat.le_of_ble_eq_true rfl) dX7_count_171 ⟨Nat.zero_le _, Nat.zero_le _⟩ (fun z_145 hz_146 => ?_)
              have hz_146 := hz_146.symm
              subst hz_146
              have f_147 := zb_01 (M_isDigit (M_sign S (((S.1 24) + 2) + 1)))
              refine z_joinH (P := fun v H' locs' => v = (if (zb (M_isDigit (M_sign S (((S.1 24) + 2) + 1)))) = 0 then 0 else 1 : Int) ∧ mH D cy o q (mA o q) s.heap (mi (mi (mi S 25 ((if (S.1 25) = 0 then (if (zb (M_isDigit (M_sign S ((S.1 24) + 1)))) = 0 then 1 else 0 : Int) else 1 : Int))) 24 ((S.1 24) + 2)) 24 (((S.1 24) + 2) + 1)) H' locs') (pcJ := 182) (lsJ := ls) (stJ := [.int (zI (((S.1 24) + 2) + 1)), .ref o]) (fun v_148 H locs hv_149 => ?_) (fun hJ_150 => ?_)
              · --
                obtain ⟨hv_149, hM⟩ := hv_149
                have hb_151 : (if (zb (M_isDigit (M_sign S (((S.1 24) + 2) + 1)))) = 0 then 0 else 1 : Int) = 0 ∨ (if (zb (M_isDigit (M_sign S (((S.1 24) + 2) + 1)))) = 0 then 0 else 1 : Int) = 1 := by (repeat' split) <;> simp
                have hv_149 := hv_149.symm
                subst hv_149
                refine z_iadd (x := (((S.1 24) + 2) + 1) + ((if (zb (M_isDigit (M_sign S (((S.1 24) + 2) + 1)))) = 0 then 0 else 1 : Int))) B.1 B.2.1 rfl dX7_count_182 ?_
                refine m_put B (i7 _) hK hM 24 (by decide) rfl (by decide +kernel) (List.mem_cons_of_mem _ w7_fRX7_139) dX7_count_183 (fun H locs hM => ?_)
                refine lv_aload_n B.1 B.2.1 dX7_count_186 rfl (lv_at hl 3 rfl) ?_
                refine lv_aload_n B.1 B.2.1 dX7_count_187 rfl (lv_at hl 3 rfl) ?_
                refine m_get (x := (if (S.1 25) = 0 then (if (zb (M_isDigit (M_sign S ((S.1 24) + 1)))) = 0 then 1 else 0 : Int) else 1 : Int)) B (i7 _) hK hM 25 (by decide) rfl rfl (List.mem_cons_of_mem _ w7_fRX7_117) dX7_count_188 ?_
                refine z_joinH (P := fun v H' locs' => v = (if ((if (S.1 25) = 0 then (if (zb (M_isDigit (M_sign S ((S.1 24) + 1)))) = 0 then 1 else 0 : Int) else 1 : Int)) = 0 then (if (M_sign S ((((S.1 24) + 2) + 1) + ((if (zb (M_isDigit (M_sign S (((S.1 24) + 2) + 1)))) = 0 then 0 else 1 : Int)))) = 125 then (if ((M_sign S ((S.1 24) + 1)) - 48) ≤ ((if (zb (M_isDigit (M_sign S (((S.1 24) + 2) + 1)))) = 0 then 99 else (M_sign S (((S.1 24) + 2) + 1)) - 48 : Int)) then 0 else 1 : Int) else 1 : Int) else 1 : Int) ∧ mH D cy o q (mA o q) s.heap (mi (mi (mi (mi S 25 ((if (S.1 25) = 0 then (if (zb (M_isDigit (M_sign S ((S.1 24) + 1)))) = 0 then 1 else 0 : Int) else 1 : Int))) 24 ((S.1 24) + 2)) 24 (((S.1 24) + 2) + 1)) 24 ((((S.1 24) + 2) + 1) + ((if (zb (M_isDigit (M_sign S (((S.1 24) + 2) + 1)))) = 0 then 0 else 1 : Int)))) H' locs') (pcJ := 219) (lsJ := ls) (stJ := [.ref o]) (fun v_152 H locs hv_153 => ?_) (fun hJ_154 => ?_)
                · --
                  obtain ⟨hv_153, hM⟩ := hv_153
                  have hb_155 : (if ((if (S.1 25) = 0 then (if (zb (M_isDigit (M_sign S ((S.1 24) + 1)))) = 0 then 1 else 0 : Int) else 1 : Int)) = 0 then (if (M_sign S ((((S.1 24) + 2) + 1) + ((if (zb (M_isDigit (M_sign S (((S.1 24) + 2) + 1)))) = 0 then 0 else 1 : Int)))) = 125 then (if ((M_sign S ((S.1 24) + 1)) - 48) ≤ ((if (zb (M_isDigit (M_sign S (((S.1 24) + 2) + 1)))) = 0 then 99 else (M_sign S (((S.1 24) + 2) + 1)) - 48 : Int)) then 0 else 1 : Int) else 1 : Int) else 1 : Int) = 0 ∨ (if ((if (S.1 25) = 0 then (if (zb (M_isDigit (M_sign S ((S.1 24) + 1)))) = 0 then 1 else 0 : Int) else 1 : Int)) = 0 then (if (M_sign S ((((S.1 24) + 2) + 1) + ((if (zb (M_isDigit (M_sign S (((S.1 24) + 2) + 1)))) = 0 then 0 else 1 : Int)))) = 125 then (if ((M_sign S ((S.1 24) + 1)) - 48) ≤ ((if (zb (M_isDigit (M_sign S (((S.1 24) + 2) + 1)))) = 0 then 99 else (M_sign S (((S.1 24) + 2) + 1)) - 48 : Int)) then 0 else 1 : Int) else 1 : Int) else 1 : Int) = 1 := by (repeat' split) <;> simp
                  have hv_153 := hv_153.symm
                  subst hv_153
                  refine m_putz B (i7 _) hK hM 25 (by decide) rfl (by omega) (by decide +kernel) (List.mem_cons_of_mem _ w7_fRX7_117) dX7_count_219 (fun H locs hM => ?_)
                  refine lv_goto (tgt := 249) B.1 B.2.1 dX7_count_222 (by decide) ?_
                  refine lv_aload_n B.1 B.2.1 dX7_count_249 rfl (lv_at hl 3 rfl) ?_
                  refine lv_dup B.1 B.2.1 dX7_count_250 rfl ?_
                  refine m_get (x := (((S.1 24) + 2) + 1) + ((if (zb (M_isDigit (M_sign S (((S.1 24) + 2) + 1)))) = 0 then 0 else 1 : Int))) B (i7 _) hK hM 24 (by decide) rfl rfl (List.mem_cons_of_mem _ w7_fRX7_139) dX7_count_251 ?_
                  refine z_iconst B.1 B.2.1 dX7_count_254 ?_
                  refine z_iadd (x := ((((S.1 24) + 2) + 1) + ((if (zb (M_isDigit (M_sign S (((S.1 24) + 2) + 1)))) = 0 then 0 else 1 : Int))) + 1) B.1 B.2.1 rfl dX7_count_255 ?_
                  refine m_put B (i7 _) hK hM 24 (by decide) rfl (by decide +kernel) (List.mem_cons_of_mem _ w7_fRX7_139) dX7_count_256 (fun H locs hM => ?_)
                  refine lv_aload_n B.1 B.2.1 dX7_count_259 rfl (lv_at hl 3 rfl) ?_
                  refine lv_aload_n B.1 B.2.1 dX7_count_260 rfl (lv_at hl 3 rfl) ?_
                  refine m_get (x := ((((S.1 24) + 2) + 1) + ((if (zb (M_isDigit (M_sign S (((S.1 24) + 2) + 1)))) = 0 then 0 else 1 : Int))) + 1) B (i7 _) hK hM 24 (by decide) rfl rfl (List.mem_cons_of_mem _ w7_fRX7_139) dX7_count_261 ?_
                  refine m_calli (As := [.int (zI (((((S.1 24) + 2) + 1) + ((if (zb (M_isDigit (M_sign S (((S.1 24) + 2) + 1)))) = 0 then 0 else 1 : Int))) + 1))]) (rest := []) B hK hM (cX7_sign_ok l D cy o q (mi (mi (mi (mi (mi (mi S 25 ((if (S.1 25) = 0 then (if (zb (M_isDigit (M_sign S ((S.1 24) + 1)))) = 0 then 1 else 0 : Int) else 1 : Int))) 24 ((S.1 24) + 2)) 24 (((S.1 24) + 2) + 1)) 24 ((((S.1 24) + 2) + 1) + ((if (zb (M_isDigit (M_sign S (((S.1 24) + 2) + 1)))) = 0 then 0 else 1 : Int)))) 25 ((if ((if (S.1 25) = 0 then (if (zb (M_isDigit (M_sign S ((S.1 24) + 1)))) = 0 then 1 else 0 : Int) else 1 : Int)) = 0 then (if (M_sign S ((((S.1 24) + 2) + 1) + ((if (zb (M_isDigit (M_sign S (((S.1 24) + 2) + 1)))) = 0 then 0 else 1 : Int)))) = 125 then (if ((M_sign S ((S.1 24) + 1)) - 48) ≤ ((if (zb (M_isDigit (M_sign S (((S.1 24) + 2) + 1)))) = 0 then 99 else (M_sign S (((S.1 24) + 2) + 1)) - 48 : Int)) then 0 else 1 : Int) else 1 : Int) else 1 : Int))) 24 (((((S.1 24) + 2) + 1) + ((if (zb (M_isDigit (M_sign S (((S.1 24) + 2) + 1)))) = 0 then 0 else 1 : Int))) + 1)) (((((S.1 24) + 2) + 1) + ((if (zb (M_isDigit (M_sign S (((S.1 24) + 2) + 1)))) = 0 then 0 else 1 : Int))) + 1) (by show 0 ≤ (((((S.1 24) + 2) + 1) + ((if (zb (M_isDigit (M_sign S (((S.1 24) + 2) + 1)))) = 0 then 0 else 1 : Int))) + 1); omega) (by show (((((S.1 24) + 2) + 1) + ((if (zb (M_isDigit (M_sign S (((S.1 24) + 2) + 1)))) = 0 then 0 else 1 : Int))) + 1) ≤ 100000; omega) (by show 0 ≤ (S.1 14); omega) (by show (S.1 14) ≤ 40; omega)) (cw7 1 B w7_mRX7_142 w7_im_yX7_sign w7_sl_yX7_sign w7_cd_yX7_sign rfl rfl (by decide +kernel) ⟨Nat.le_of_ble_eq_true rfl, Nat.le_of_ble_eq_true rfl⟩) rfl hl.1 rfl (Nat.le_of_ble_eq_true rfl) dX7_count_264 ⟨Nat.zero_le _, Nat.zero_le _⟩ (fun z_158 S_157 H locs hp_156 hM => ?_)
                  obtain ⟨hp_156, he_hp_156⟩ := hp_156
                  have he_hp_156 := he_hp_156.symm
                  subst he_hp_156
                  have hp_156 : M_sign S (((((S.1 24) + 2) + 1) + ((if (zb (M_isDigit (M_sign S (((S.1 24) + 2) + 1)))) = 0 then 0 else 1 : Int))) + 1) = z_158 := hp_156.symm
                  subst hp_156
                  have f_159 := M_sign_bd S hs (((((S.1 24) + 2) + 1) + ((if (zb (M_isDigit (M_sign S (((S.1 24) + 2) + 1)))) = 0 then 0 else 1 : Int))) + 1)
                  refine z_bipush B.1 B.2.1 (by decide) dX7_count_267 ?_
                  refine z_joinH (P := fun v H' locs' => v = (if (M_sign S (((((S.1 24) + 2) + 1) + ((if (zb (M_isDigit (M_sign S (((S.1 24) + 2) + 1)))) = 0 then 0 else 1 : Int))) + 1)) = 63 then 1 else 0 : Int) ∧ mH D cy o q (mA o q) s.heap (mi (mi (mi (mi (mi (mi S 25 ((if (S.1 25) = 0 then (if (zb (M_isDigit (M_sign S ((S.1 24) + 1)))) = 0 then 1 else 0 : Int) else 1 : Int))) 24 ((S.1 24) + 2)) 24 (((S.1 24) + 2) + 1)) 24 ((((S.1 24) + 2) + 1) + ((if (zb (M_isDigit (M_sign S (((S.1 24) + 2) + 1)))) = 0 then 0 else 1 : Int)))) 25 ((if ((if (S.1 25) = 0 then (if (zb (M_isDigit (M_sign S ((S.1 24) + 1)))) = 0 then 1 else 0 : Int) else 1 : Int)) = 0 then (if (M_sign S ((((S.1 24) + 2) + 1) + ((if (zb (M_isDigit (M_sign S (((S.1 24) + 2) + 1)))) = 0 then 0 else 1 : Int)))) = 125 then (if ((M_sign S ((S.1 24) + 1)) - 48) ≤ ((if (zb (M_isDigit (M_sign S (((S.1 24) + 2) + 1)))) = 0 then 99 else (M_sign S (((S.1 24) + 2) + 1)) - 48 : Int)) then 0 else 1 : Int) else 1 : Int) else 1 : Int))) 24 (((((S.1 24) + 2) + 1) + ((if (zb (M_isDigit (M_sign S (((S.1 24) + 2) + 1)))) = 0 then 0 else 1 : Int))) + 1)) H' locs') (pcJ := 277) (lsJ := ls) (stJ := []) (fun v_160 H locs hv_161 => ?_) (fun hJ_162 => ?_)
                  · --
                    obtain ⟨hv_161, hM⟩ := hv_161
                    have hb_163 : (if (M_sign S (((((S.1 24) + 2) + 1) + ((if (zb (M_isDigit (M_sign S (((S.1 24) + 2) + 1)))) = 0 then 0 else 1 : Int))) + 1)) = 63 then 1 else 0 : Int) = 0 ∨ (if (M_sign S (((((S.1 24) + 2) + 1) + ((if (zb (M_isDigit (M_sign S (((S.1 24) + 2) + 1)))) = 0 then 0 else 1 : Int))) + 1)) = 63 then 1 else 0 : Int) = 1 := by (repeat' split) <;> simp
                    have hv_161 := hv_161.symm
                    subst hv_161
                    refine lv_istore (lv' := [(6, .int (zI ((if (M_sign S (((((S.1 24) + 2) + 1) + ((if (zb (M_isDigit (M_sign S (((S.1 24) + 2) + 1)))) = 0 then 0 else 1 : Int))) + 1)) = 63 then 1 else 0 : Int)))), (5, .int (zI ((if (zb (M_isDigit (M_sign S (((S.1 24) + 2) + 1)))) = 0 then 99 else (M_sign S (((S.1 24) + 2) + 1)) - 48 : Int)))), (4, .int (zI ((M_sign S ((S.1 24) + 1)) - 48))), (3, .int (zI (M_sign S (S.1 24)))), (0, .ref o), (1, .int (zI ahead)), (2, .int (zI weight))]) B.1 B.2.1 dX7_count_277 hl (by decide) rfl (fun ls hl => ?_)
                    refine lv_aload_n B.1 B.2.1 dX7_count_279 rfl (lv_at hl 4 rfl) ?_
                    refine lv_dup B.1 B.2.1 dX7_count_280 rfl ?_
                    refine m_get (x := ((((S.1 24) + 2) + 1) + ((if (zb (M_isDigit (M_sign S (((S.1 24) + 2) + 1)))) = 0 then 0 else 1 : Int))) + 1) B (i7 _) hK hM 24 (by decide) rfl rfl (List.mem_cons_of_mem _ w7_fRX7_139) dX7_count_281 ?_
                    refine lv_iload B.1 B.2.1 dX7_count_284 (lv_at hl 0 rfl) ?_
                    refine z_iadd (x := (((((S.1 24) + 2) + 1) + ((if (zb (M_isDigit (M_sign S (((S.1 24) + 2) + 1)))) = 0 then 0 else 1 : Int))) + 1) + ((if (M_sign S (((((S.1 24) + 2) + 1) + ((if (zb (M_isDigit (M_sign S (((S.1 24) + 2) + 1)))) = 0 then 0 else 1 : Int))) + 1)) = 63 then 1 else 0 : Int))) B.1 B.2.1 rfl dX7_count_286 ?_
                    refine m_put B (i7 _) hK hM 24 (by decide) rfl (by decide +kernel) (List.mem_cons_of_mem _ w7_fRX7_139) dX7_count_287 (fun H locs hM => ?_)
                    refine lv_iload B.1 B.2.1 dX7_count_290 (lv_at hl 1 rfl) ?_
                    refine z_bipush B.1 B.2.1 (by decide) dX7_count_292 ?_
                    refine z_joinH (P := fun v H' locs' => v = (if ((if (zb (M_isDigit (M_sign S (((S.1 24) + 2) + 1)))) = 0 then 99 else (M_sign S (((S.1 24) + 2) + 1)) - 48 : Int)) = 99 then ((M_sign S ((S.1 24) + 1)) - 48) + 1 else (if (zb (M_isDigit (M_sign S (((S.1 24) + 2) + 1)))) = 0 then 99 else (M_sign S (((S.1 24) + 2) + 1)) - 48 : Int) : Int) ∧ mH D cy o q (mA o q) s.heap (mi (mi (mi (mi (mi (mi (mi S 25 ((if (S.1 25) = 0 then (if (zb (M_isDigit (M_sign S ((S.1 24) + 1)))) = 0 then 1 else 0 : Int) else 1 : Int))) 24 ((S.1 24) + 2)) 24 (((S.1 24) + 2) + 1)) 24 ((((S.1 24) + 2) + 1) + ((if (zb (M_isDigit (M_sign S (((S.1 24) + 2) + 1)))) = 0 then 0 else 1 : Int)))) 25 ((if ((if (S.1 25) = 0 then (if (zb (M_isDigit (M_sign S ((S.1 24) + 1)))) = 0 then 1 else 0 : Int) else 1 : Int)) = 0 then (if (M_sign S ((((S.1 24) + 2) + 1) + ((if (zb (M_isDigit (M_sign S (((S.1 24) + 2) + 1)))) = 0 then 0 else 1 : Int)))) = 125 then (if ((M_sign S ((S.1 24) + 1)) - 48) ≤ ((if (zb (M_isDigit (M_sign S (((S.1 24) + 2) + 1)))) = 0 then 99 else (M_sign S (((S.1 24) + 2) + 1)) - 48 : Int)) then 0 else 1 : Int) else 1 : Int) else 1 : Int))) 24 (((((S.1 24) + 2) + 1) + ((if (zb (M_isDigit (M_sign S (((S.1 24) + 2) + 1)))) = 0 then 0 else 1 : Int))) + 1)) 24 ((((((S.1 24) + 2) + 1) + ((if (zb (M_isDigit (M_sign S (((S.1 24) + 2) + 1)))) = 0 then 0 else 1 : Int))) + 1) + ((if (M_sign S (((((S.1 24) + 2) + 1) + ((if (zb (M_isDigit (M_sign S (((S.1 24) + 2) + 1)))) = 0 then 0 else 1 : Int))) + 1)) = 63 then 1 else 0 : Int)))) H' locs') (pcJ := 306) (lsJ := ls) (stJ := []) (fun v_164 H locs hv_165 => ?_) (fun hJ_166 => ?_)
                    · --
                      obtain ⟨hv_165, hM⟩ := hv_165
                      have hv_165 := hv_165.symm
                      subst hv_165
                      refine lv_istore (lv' := [(7, .int (zI ((if ((if (zb (M_isDigit (M_sign S (((S.1 24) + 2) + 1)))) = 0 then 99 else (M_sign S (((S.1 24) + 2) + 1)) - 48 : Int)) = 99 then ((M_sign S ((S.1 24) + 1)) - 48) + 1 else (if (zb (M_isDigit (M_sign S (((S.1 24) + 2) + 1)))) = 0 then 99 else (M_sign S (((S.1 24) + 2) + 1)) - 48 : Int) : Int)))), (6, .int (zI ((if (M_sign S (((((S.1 24) + 2) + 1) + ((if (zb (M_isDigit (M_sign S (((S.1 24) + 2) + 1)))) = 0 then 0 else 1 : Int))) + 1)) = 63 then 1 else 0 : Int)))), (5, .int (zI ((if (zb (M_isDigit (M_sign S (((S.1 24) + 2) + 1)))) = 0 then 99 else (M_sign S (((S.1 24) + 2) + 1)) - 48 : Int)))), (4, .int (zI ((M_sign S ((S.1 24) + 1)) - 48))), (3, .int (zI (M_sign S (S.1 24)))), (0, .ref o), (1, .int (zI ahead)), (2, .int (zI weight))]) B.1 B.2.1 dX7_count_306 hl (by decide) rfl (fun ls hl => ?_)
                      refine lv_aload_n B.1 B.2.1 dX7_count_308 rfl (lv_at hl 5 rfl) ?_
                      refine lv_iload_n B.1 B.2.1 dX7_count_309 rfl (lv_at hl 7 rfl) ?_
                      refine lv_iload B.1 B.2.1 dX7_count_310 (lv_at hl 0 rfl) ?_
                      refine z_iconst B.1 B.2.1 dX7_count_312 ?_
                      refine z_joinH (P := fun v H' locs' => v = (if 1 ≤ ((if ((if (zb (M_isDigit (M_sign S (((S.1 24) + 2) + 1)))) = 0 then 99 else (M_sign S (((S.1 24) + 2) + 1)) - 48 : Int)) = 99 then ((M_sign S ((S.1 24) + 1)) - 48) + 1 else (if (zb (M_isDigit (M_sign S (((S.1 24) + 2) + 1)))) = 0 then 99 else (M_sign S (((S.1 24) + 2) + 1)) - 48 : Int) : Int)) then (if ((if (zb (M_isDigit (M_sign S (((S.1 24) + 2) + 1)))) = 0 then 99 else (M_sign S (((S.1 24) + 2) + 1)) - 48 : Int)) = 99 then ((M_sign S ((S.1 24) + 1)) - 48) + 1 else (if (zb (M_isDigit (M_sign S (((S.1 24) + 2) + 1)))) = 0 then 99 else (M_sign S (((S.1 24) + 2) + 1)) - 48 : Int) : Int) else 1 : Int) ∧ mH D cy o q (mA o q) s.heap (mi (mi (mi (mi (mi (mi (mi S 25 ((if (S.1 25) = 0 then (if (zb (M_isDigit (M_sign S ((S.1 24) + 1)))) = 0 then 1 else 0 : Int) else 1 : Int))) 24 ((S.1 24) + 2)) 24 (((S.1 24) + 2) + 1)) 24 ((((S.1 24) + 2) + 1) + ((if (zb (M_isDigit (M_sign S (((S.1 24) + 2) + 1)))) = 0 then 0 else 1 : Int)))) 25 ((if ((if (S.1 25) = 0 then (if (zb (M_isDigit (M_sign S ((S.1 24) + 1)))) = 0 then 1 else 0 : Int) else 1 : Int)) = 0 then (if (M_sign S ((((S.1 24) + 2) + 1) + ((if (zb (M_isDigit (M_sign S (((S.1 24) + 2) + 1)))) = 0 then 0 else 1 : Int)))) = 125 then (if ((M_sign S ((S.1 24) + 1)) - 48) ≤ ((if (zb (M_isDigit (M_sign S (((S.1 24) + 2) + 1)))) = 0 then 99 else (M_sign S (((S.1 24) + 2) + 1)) - 48 : Int)) then 0 else 1 : Int) else 1 : Int) else 1 : Int))) 24 (((((S.1 24) + 2) + 1) + ((if (zb (M_isDigit (M_sign S (((S.1 24) + 2) + 1)))) = 0 then 0 else 1 : Int))) + 1)) 24 ((((((S.1 24) + 2) + 1) + ((if (zb (M_isDigit (M_sign S (((S.1 24) + 2) + 1)))) = 0 then 0 else 1 : Int))) + 1) + ((if (M_sign S (((((S.1 24) + 2) + 1) + ((if (zb (M_isDigit (M_sign S (((S.1 24) + 2) + 1)))) = 0 then 0 else 1 : Int))) + 1)) = 63 then 1 else 0 : Int)))) H' locs') (pcJ := 322) (lsJ := ls) (stJ := [.int (zI weight), .ref o]) (fun v_167 H locs hv_168 => ?_) (fun hJ_169 => ?_)
                      · --
                        obtain ⟨hv_168, hM⟩ := hv_168
                        have hv_168 := hv_168.symm
                        subst hv_168
                        refine z_imul (x := weight * ((if 1 ≤ ((if ((if (zb (M_isDigit (M_sign S (((S.1 24) + 2) + 1)))) = 0 then 99 else (M_sign S (((S.1 24) + 2) + 1)) - 48 : Int)) = 99 then ((M_sign S ((S.1 24) + 1)) - 48) + 1 else (if (zb (M_isDigit (M_sign S (((S.1 24) + 2) + 1)))) = 0 then 99 else (M_sign S (((S.1 24) + 2) + 1)) - 48 : Int) : Int)) then (if ((if (zb (M_isDigit (M_sign S (((S.1 24) + 2) + 1)))) = 0 then 99 else (M_sign S (((S.1 24) + 2) + 1)) - 48 : Int)) = 99 then ((M_sign S ((S.1 24) + 1)) - 48) + 1 else (if (zb (M_isDigit (M_sign S (((S.1 24) + 2) + 1)))) = 0 then 99 else (M_sign S (((S.1 24) + 2) + 1)) - 48 : Int) : Int) else 1 : Int))) B.1 B.2.1 rfl dX7_count_322 ?_
                        refine z_iconst B.1 B.2.1 dX7_count_323 ?_
                        refine z_iadd (x := (weight * ((if 1 ≤ ((if ((if (zb (M_isDigit (M_sign S (((S.1 24) + 2) + 1)))) = 0 then 99 else (M_sign S (((S.1 24) + 2) + 1)) - 48 : Int)) = 99 then ((M_sign S ((S.1 24) + 1)) - 48) + 1 else (if (zb (M_isDigit (M_sign S (((S.1 24) + 2) + 1)))) = 0 then 99 else (M_sign S (((S.1 24) + 2) + 1)) - 48 : Int) : Int)) then (if ((if (zb (M_isDigit (M_sign S (((S.1 24) + 2) + 1)))) = 0 then 99 else (M_sign S (((S.1 24) + 2) + 1)) - 48 : Int)) = 99 then ((M_sign S ((S.1 24) + 1)) - 48) + 1 else (if (zb (M_isDigit (M_sign S (((S.1 24) + 2) + 1)))) = 0 then 99 else (M_sign S (((S.1 24) + 2) + 1)) - 48 : Int) : Int) else 1 : Int))) + 2) B.1 B.2.1 rfl dX7_count_324 ?_
                        refine m_callv (As := [.int (zI ((weight * ((if 1 ≤ ((if ((if (zb (M_isDigit (M_sign S (((S.1 24) + 2) + 1)))) = 0 then 99 else (M_sign S (((S.1 24) + 2) + 1)) - 48 : Int)) = 99 then ((M_sign S ((S.1 24) + 1)) - 48) + 1 else (if (zb (M_isDigit (M_sign S (((S.1 24) + 2) + 1)))) = 0 then 99 else (M_sign S (((S.1 24) + 2) + 1)) - 48 : Int) : Int)) then (if ((if (zb (M_isDigit (M_sign S (((S.1 24) + 2) + 1)))) = 0 then 99 else (M_sign S (((S.1 24) + 2) + 1)) - 48 : Int)) = 99 then ((M_sign S ((S.1 24) + 1)) - 48) + 1 else (if (zb (M_isDigit (M_sign S (((S.1 24) + 2) + 1)))) = 0 then 99 else (M_sign S (((S.1 24) + 2) + 1)) - 48 : Int) : Int) else 1 : Int))) + 2))]) (rest := []) B hK hM (cX7_weigh_ok l D cy o q (mi (mi (mi (mi (mi (mi (mi S 25 ((if (S.1 25) = 0 then (if (zb (M_isDigit (M_sign S ((S.1 24) + 1)))) = 0 then 1 else 0 : Int) else 1 : Int))) 24 ((S.1 24) + 2)) 24 (((S.1 24) + 2) + 1)) 24 ((((S.1 24) + 2) + 1) + ((if (zb (M_isDigit (M_sign S (((S.1 24) + 2) + 1)))) = 0 then 0 else 1 : Int)))) 25 ((if ((if (S.1 25) = 0 then (if (zb (M_isDigit (M_sign S ((S.1 24) + 1)))) = 0 then 1 else 0 : Int) else 1 : Int)) = 0 then (if (M_sign S ((((S.1 24) + 2) + 1) + ((if (zb (M_isDigit (M_sign S (((S.1 24) + 2) + 1)))) = 0 then 0 else 1 : Int)))) = 125 then (if ((M_sign S ((S.1 24) + 1)) - 48) ≤ ((if (zb (M_isDigit (M_sign S (((S.1 24) + 2) + 1)))) = 0 then 99 else (M_sign S (((S.1 24) + 2) + 1)) - 48 : Int)) then 0 else 1 : Int) else 1 : Int) else 1 : Int))) 24 (((((S.1 24) + 2) + 1) + ((if (zb (M_isDigit (M_sign S (((S.1 24) + 2) + 1)))) = 0 then 0 else 1 : Int))) + 1)) 24 ((((((S.1 24) + 2) + 1) + ((if (zb (M_isDigit (M_sign S (((S.1 24) + 2) + 1)))) = 0 then 0 else 1 : Int))) + 1) + ((if (M_sign S (((((S.1 24) + 2) + 1) + ((if (zb (M_isDigit (M_sign S (((S.1 24) + 2) + 1)))) = 0 then 0 else 1 : Int))) + 1)) = 63 then 1 else 0 : Int)))) ((weight * ((if 1 ≤ ((if ((if (zb (M_isDigit (M_sign S (((S.1 24) + 2) + 1)))) = 0 then 99 else (M_sign S (((S.1 24) + 2) + 1)) - 48 : Int)) = 99 then ((M_sign S ((S.1 24) + 1)) - 48) + 1 else (if (zb (M_isDigit (M_sign S (((S.1 24) + 2) + 1)))) = 0 then 99 else (M_sign S (((S.1 24) + 2) + 1)) - 48 : Int) : Int)) then (if ((if (zb (M_isDigit (M_sign S (((S.1 24) + 2) + 1)))) = 0 then 99 else (M_sign S (((S.1 24) + 2) + 1)) - 48 : Int)) = 99 then ((M_sign S ((S.1 24) + 1)) - 48) + 1 else (if (zb (M_isDigit (M_sign S (((S.1 24) + 2) + 1)))) = 0 then 99 else (M_sign S (((S.1 24) + 2) + 1)) - 48 : Int) : Int) else 1 : Int))) + 2) (by show 1 ≤ (S.1 32); omega) (by show (S.1 32) ≤ 44; omega)) (cw7 1 B w7_mRX7_132 w7_im_yX7_weigh w7_sl_yX7_weigh w7_cd_yX7_weigh rfl rfl (by decide +kernel) ⟨Nat.le_of_ble_eq_true rfl, Nat.le_of_ble_eq_true rfl⟩) rfl hl.1 rfl (Nat.le_of_ble_eq_true rfl) dX7_count_325 ⟨Nat.zero_le _, Nat.zero_le _⟩ (fun S_171 H locs hp_170 hM => ?_)
                        have hp_170 := hp_170.symm
                        subst hp_170
                        refine lv_aload_n B.1 B.2.1 dX7_count_328 rfl (lv_at hl 5 rfl) ?_
                        refine m_getr B (i7 _) hK hM 15 (by decide) rfl (List.mem_cons_of_mem _ w7_fRX7_35) dX7_count_329 ?_
                        refine lv_iload_n B.1 B.2.1 dX7_count_332 rfl (lv_at hl 6 rfl) ?_
                        refine z_bipush B.1 B.2.1 (by decide) dX7_count_333 ?_
                        refine m_iast B hK hM 8 15 rfl rfl (by omega) (by simp only [mN]; omega) dX7_count_335 (fun H locs hM => ?_)
                        refine lv_aload_n B.1 B.2.1 dX7_count_336 rfl (lv_at hl 5 rfl) ?_
                        refine m_getr B (i7 _) hK hM 16 (by decide) rfl (List.mem_cons_of_mem _ w7_fRX7_38) dX7_count_337 ?_
                        refine lv_iload_n B.1 B.2.1 dX7_count_340 rfl (lv_at hl 6 rfl) ?_
                        refine lv_iload B.1 B.2.1 dX7_count_341 (lv_at hl 3 rfl) ?_
                        refine z_sipush B.1 B.2.1 (by decide) dX7_count_343 ?_
                        refine lv_iload B.1 B.2.1 dX7_count_346 (lv_at hl 2 rfl) ?_
                        refine z_imul (x := 128 * ((if (zb (M_isDigit (M_sign S (((S.1 24) + 2) + 1)))) = 0 then 99 else (M_sign S (((S.1 24) + 2) + 1)) - 48 : Int))) B.1 B.2.1 rfl dX7_count_348 ?_
                        refine z_iadd (x := ((M_sign S ((S.1 24) + 1)) - 48) + (128 * ((if (zb (M_isDigit (M_sign S (((S.1 24) + 2) + 1)))) = 0 then 99 else (M_sign S (((S.1 24) + 2) + 1)) - 48 : Int)))) B.1 B.2.1 rfl dX7_count_349 ?_
                        refine lv_ldc (v := zI 65536) B.1 B.2.1 B.2.2.2.1 (B.2.2.2.2.1 _ (List.mem_cons_of_mem _ w7_kRX7_149)) dX7_count_350 ?_
                        refine lv_iload B.1 B.2.1 dX7_count_352 (lv_at hl 1 rfl) ?_
                        refine z_imul (x := 65536 * ((if (M_sign S (((((S.1 24) + 2) + 1) + ((if (zb (M_isDigit (M_sign S (((S.1 24) + 2) + 1)))) = 0 then 0 else 1 : Int))) + 1)) = 63 then 1 else 0 : Int))) B.1 B.2.1 rfl dX7_count_354 ?_
                        refine z_iadd (x := (((M_sign S ((S.1 24) + 1)) - 48) + (128 * ((if (zb (M_isDigit (M_sign S (((S.1 24) + 2) + 1)))) = 0 then 99 else (M_sign S (((S.1 24) + 2) + 1)) - 48 : Int)))) + (65536 * ((if (M_sign S (((((S.1 24) + 2) + 1) + ((if (zb (M_isDigit (M_sign S (((S.1 24) + 2) + 1)))) = 0 then 0 else 1 : Int))) + 1)) = 63 then 1 else 0 : Int)))) B.1 B.2.1 rfl dX7_count_355 ?_
                        refine m_iast B hK hM 9 16 rfl rfl (by omega) (by simp only [mN]; omega) dX7_count_356 (fun H locs hM => ?_)
                        refine lv_aload_n B.1 B.2.1 dX7_count_357 rfl (lv_at hl 5 rfl) ?_
                        refine m_getr B (i7 _) hK hM 18 (by decide) rfl (List.mem_cons_of_mem _ w7_fRX7_44) dX7_count_358 ?_
                        refine lv_iload_n B.1 B.2.1 dX7_count_361 rfl (lv_at hl 6 rfl) ?_
                        refine lv_aload_n B.1 B.2.1 dX7_count_362 rfl (lv_at hl 5 rfl) ?_
                        refine m_get (x := S.1 21) B (i7 _) hK hM 21 (by decide) rfl rfl (List.mem_cons_of_mem _ w7_fRX7_150) dX7_count_363 ?_
                        refine m_iast B hK hM 11 18 rfl rfl (by omega) (by simp only [mN]; omega) dX7_count_366 (fun H locs hM => ?_)
                        refine lv_aload_n B.1 B.2.1 dX7_count_367 rfl (lv_at hl 5 rfl) ?_
                        refine m_getr B (i7 _) hK hM 17 (by decide) rfl (List.mem_cons_of_mem _ w7_fRX7_41) dX7_count_368 ?_
                        refine lv_iload_n B.1 B.2.1 dX7_count_371 rfl (lv_at hl 6 rfl) ?_
                        refine z_bipush B.1 B.2.1 (by decide) dX7_count_372 ?_
                        refine lv_aload_n B.1 B.2.1 dX7_count_374 rfl (lv_at hl 5 rfl) ?_
                        refine m_getr B (i7 _) hK hM 17 (by decide) rfl (List.mem_cons_of_mem _ w7_fRX7_41) dX7_count_375 ?_
                        refine lv_iload_n B.1 B.2.1 dX7_count_378 rfl (lv_at hl 6 rfl) ?_
                        refine m_iald (x := S.2 17 ahead.toNat) B hK hM 10 17 rfl rfl (by omega) (by simp only [mN]; omega) rfl dX7_count_379 ?_
                        refine z_imul (x := 16 * (S.2 17 ahead.toNat)) B.1 B.2.1 rfl dX7_count_380 ?_
                        refine lv_aload_n B.1 B.2.1 dX7_count_381 rfl (lv_at hl 5 rfl) ?_
                        refine m_get (x := S.1 20) B (i7 _) hK hM 20 (by decide) rfl rfl (List.mem_cons_of_mem _ w7_fRX7_153) dX7_count_382 ?_
                        refine z_iadd (x := (16 * (S.2 17 ahead.toNat)) + (S.1 20)) B.1 B.2.1 rfl dX7_count_385 ?_
                        refine z_sipush B.1 B.2.1 (by decide) dX7_count_386 ?_
                        refine lv_aload_n B.1 B.2.1 dX7_count_389 rfl (lv_at hl 5 rfl) ?_
                        refine m_get (x := S.1 19) B (i7 _) hK hM 19 (by decide) rfl rfl (List.mem_cons_of_mem _ w7_fRX7_114) dX7_count_390 ?_
                        refine z_imul (x := 4096 * (S.1 19)) B.1 B.2.1 rfl dX7_count_393 ?_
                        refine z_iadd (x := ((16 * (S.2 17 ahead.toNat)) + (S.1 20)) + (4096 * (S.1 19))) B.1 B.2.1 rfl dX7_count_394 ?_
                        refine m_iast B hK hM 10 17 rfl rfl (by omega) (by simp only [mN]; omega) dX7_count_395 (fun H locs hM => ?_)
                        refine lv_aload_n B.1 B.2.1 dX7_count_396 rfl (lv_at hl 5 rfl) ?_
                        refine z_bipush B.1 B.2.1 (by decide) dX7_count_397 ?_
                        refine lv_iload_n B.1 B.2.1 dX7_count_399 rfl (lv_at hl 6 rfl) ?_
                        refine z_iconst B.1 B.2.1 dX7_count_400 ?_
                        refine z_iconst B.1 B.2.1 dX7_count_401 ?_
                        refine m_calli (As := [.int (zI 15), .int (zI ahead), .int (zI 0), .int (zI 0)]) (rest := []) B hK hM (cX7_emit_ok l D cy o q (ma (ma (ma (ma (M_weigh ((weight * ((if 1 ≤ ((if ((if (zb (M_isDigit (M_sign S (((S.1 24) + 2) + 1)))) = 0 then 99 else (M_sign S (((S.1 24) + 2) + 1)) - 48 : Int)) = 99 then ((M_sign S ((S.1 24) + 1)) - 48) + 1 else (if (zb (M_isDigit (M_sign S (((S.1 24) + 2) + 1)))) = 0 then 99 else (M_sign S (((S.1 24) + 2) + 1)) - 48 : Int) : Int)) then (if ((if (zb (M_isDigit (M_sign S (((S.1 24) + 2) + 1)))) = 0 then 99 else (M_sign S (((S.1 24) + 2) + 1)) - 48 : Int)) = 99 then ((M_sign S ((S.1 24) + 1)) - 48) + 1 else (if (zb (M_isDigit (M_sign S (((S.1 24) + 2) + 1)))) = 0 then 99 else (M_sign S (((S.1 24) + 2) + 1)) - 48 : Int) : Int) else 1 : Int))) + 2) (mi (mi (mi (mi (mi (mi (mi S 25 ((if (S.1 25) = 0 then (if (zb (M_isDigit (M_sign S ((S.1 24) + 1)))) = 0 then 1 else 0 : Int) else 1 : Int))) 24 ((S.1 24) + 2)) 24 (((S.1 24) + 2) + 1)) 24 ((((S.1 24) + 2) + 1) + ((if (zb (M_isDigit (M_sign S (((S.1 24) + 2) + 1)))) = 0 then 0 else 1 : Int)))) 25 ((if ((if (S.1 25) = 0 then (if (zb (M_isDigit (M_sign S ((S.1 24) + 1)))) = 0 then 1 else 0 : Int) else 1 : Int)) = 0 then (if (M_sign S ((((S.1 24) + 2) + 1) + ((if (zb (M_isDigit (M_sign S (((S.1 24) + 2) + 1)))) = 0 then 0 else 1 : Int)))) = 125 then (if ((M_sign S ((S.1 24) + 1)) - 48) ≤ ((if (zb (M_isDigit (M_sign S (((S.1 24) + 2) + 1)))) = 0 then 99 else (M_sign S (((S.1 24) + 2) + 1)) - 48 : Int)) then 0 else 1 : Int) else 1 : Int) else 1 : Int))) 24 (((((S.1 24) + 2) + 1) + ((if (zb (M_isDigit (M_sign S (((S.1 24) + 2) + 1)))) = 0 then 0 else 1 : Int))) + 1)) 24 ((((((S.1 24) + 2) + 1) + ((if (zb (M_isDigit (M_sign S (((S.1 24) + 2) + 1)))) = 0 then 0 else 1 : Int))) + 1) + ((if (M_sign S (((((S.1 24) + 2) + 1) + ((if (zb (M_isDigit (M_sign S (((S.1 24) + 2) + 1)))) = 0 then 0 else 1 : Int))) + 1)) = 63 then 1 else 0 : Int))))) 15 ahead.toNat 14) 16 ahead.toNat ((((M_sign S ((S.1 24) + 1)) - 48) + (128 * ((if (zb (M_isDigit (M_sign S (((S.1 24) + 2) + 1)))) = 0 then 99 else (M_sign S (((S.1 24) + 2) + 1)) - 48 : Int)))) + (65536 * ((if (M_sign S (((((S.1 24) + 2) + 1) + ((if (zb (M_isDigit (M_sign S (((S.1 24) + 2) + 1)))) = 0 then 0 else 1 : Int))) + 1)) = 63 then 1 else 0 : Int))))) 18 ahead.toNat (S.1 21)) 17 ahead.toNat (((16 * (S.2 17 ahead.toNat)) + (S.1 20)) + (4096 * (S.1 19)))) 15 ahead 0 0 (by show 0 ≤ (S.1 19); omega) (by show (S.1 19) < 220; omega)) (cw7 4 B w7_mRX7_124 w7_im_yX7_emit w7_sl_yX7_emit w7_cd_yX7_emit rfl rfl (by decide +kernel) ⟨Nat.le_of_ble_eq_true rfl, Nat.le_of_ble_eq_true rfl⟩) rfl hl.1 rfl (Nat.le_of_ble_eq_true rfl) dX7_count_402 ⟨Nat.zero_le _, Nat.zero_le _⟩ (fun z_174 S_173 H locs hp_172 hM => ?_)
                        obtain ⟨hp_172, he_hp_172⟩ := hp_172
                        have he_hp_172 := he_hp_172.symm
                        subst he_hp_172
                        have hp_172 : S.1 19 = z_174 := hp_172.symm
                        subst hp_172
                        refine lv_pop B.1 B.2.1 dX7_count_405 rfl ?_
                        refine lv_aload_n B.1 B.2.1 dX7_count_406 rfl (lv_at hl 5 rfl) ?_
                        refine lv_dup B.1 B.2.1 dX7_count_407 rfl ?_
                        refine m_get (x := S.1 21) B (i7 _) hK hM 21 (by decide) rfl rfl (List.mem_cons_of_mem _ w7_fRX7_150) dX7_count_408 ?_
                        refine z_iconst B.1 B.2.1 dX7_count_411 ?_
                        refine z_iadd (x := (S.1 21) + 1) B.1 B.2.1 rfl dX7_count_412 ?_
                        refine m_put B (i7 _) hK hM 21 (by decide) rfl (by decide +kernel) (List.mem_cons_of_mem _ w7_fRX7_150) dX7_count_413 (fun H locs hM => ?_)
                        exact m_retv B hM (by unfold M_count; exact ((if_pos c_13).trans (if_pos c_97)).symm) dX7_count_416
                      · --
                        refine z_icmp_ge (tgt := 320) B.1 B.2.1 (zr_of (by omega) (by omega)) (zr_of (by decide) (by decide)) dX7_count_313 (by decide) (fun c_175 => ?_) (fun c_175 => ?_)
                        · --
                          refine lv_iload B.1 B.2.1 dX7_count_320 (lv_at hl 0 rfl) ?_
                          exact hJ_169 _ _ _ ⟨(if_pos c_175).symm, hM⟩
                        · --
                          refine z_iconst B.1 B.2.1 dX7_count_316 ?_
                          refine lv_goto (tgt := 322) B.1 B.2.1 dX7_count_317 (by decide) ?_
                          exact hJ_169 _ _ _ ⟨(if_neg c_175).symm, hM⟩
                    · --
                      refine z_icmp_ne (tgt := 304) B.1 B.2.1 (zr_of (by omega) (by omega)) (zr_of (by decide) (by decide)) dX7_count_294 (by decide) (fun c_176 => ?_) (fun c_176 => ?_)
                      · --
                        refine lv_iload B.1 B.2.1 dX7_count_304 (lv_at hl 1 rfl) ?_
                        exact hJ_166 _ _ _ ⟨(if_neg c_176).symm, hM⟩
                      · --
                        refine lv_iload B.1 B.2.1 dX7_count_297 (lv_at hl 2 rfl) ?_
                        refine z_iconst B.1 B.2.1 dX7_count_299 ?_
                        refine z_iadd (x := ((M_sign S ((S.1 24) + 1)) - 48) + 1) B.1 B.2.1 rfl dX7_count_300 ?_
                        refine lv_goto (tgt := 306) B.1 B.2.1 dX7_count_301 (by decide) ?_
                        exact hJ_166 _ _ _ ⟨(if_pos c_176).symm, hM⟩
                  · --
                    refine z_icmp_ne (tgt := 276) B.1 B.2.1 (zr_of (by omega) (by omega)) (zr_of (by decide) (by decide)) dX7_count_269 (by decide) (fun c_177 => ?_) (fun c_177 => ?_)
                    · --
                      refine z_iconst B.1 B.2.1 dX7_count_276 ?_
                      exact hJ_162 _ _ _ ⟨(if_neg c_177).symm, hM⟩
                    · --
                      refine z_iconst B.1 B.2.1 dX7_count_272 ?_
                      refine lv_goto (tgt := 277) B.1 B.2.1 dX7_count_273 (by decide) ?_
                      exact hJ_162 _ _ _ ⟨(if_pos c_177).symm, hM⟩
                · --
                  refine z_if_ne (tgt := 214) B.1 B.2.1 (zr_of (by omega) (by omega)) dX7_count_191 (by decide) (fun c_178 => ?_) (fun c_178 => ?_)
                  · --
                    refine z_iconst B.1 B.2.1 dX7_count_214 ?_
                    refine lv_goto (tgt := 219) B.1 B.2.1 dX7_count_215 (by decide) ?_
                    exact hJ_154 _ _ _ ⟨(if_neg c_178).symm, hM⟩
                  · --
                    refine lv_aload_n B.1 B.2.1 dX7_count_194 rfl (lv_at hl 3 rfl) ?_
                    refine lv_aload_n B.1 B.2.1 dX7_count_195 rfl (lv_at hl 3 rfl) ?_
                    refine m_get (x := (((S.1 24) + 2) + 1) + ((if (zb (M_isDigit (M_sign S (((S.1 24) + 2) + 1)))) = 0 then 0 else 1 : Int))) B (i7 _) hK hM 24 (by decide) rfl rfl (List.mem_cons_of_mem _ w7_fRX7_139) dX7_count_196 ?_
                    refine m_calli (As := [.int (zI ((((S.1 24) + 2) + 1) + ((if (zb (M_isDigit (M_sign S (((S.1 24) + 2) + 1)))) = 0 then 0 else 1 : Int))))]) (rest := [.ref o]) B hK hM (cX7_sign_ok l D cy o q (mi (mi (mi (mi S 25 ((if (S.1 25) = 0 then (if (zb (M_isDigit (M_sign S ((S.1 24) + 1)))) = 0 then 1 else 0 : Int) else 1 : Int))) 24 ((S.1 24) + 2)) 24 (((S.1 24) + 2) + 1)) 24 ((((S.1 24) + 2) + 1) + ((if (zb (M_isDigit (M_sign S (((S.1 24) + 2) + 1)))) = 0 then 0 else 1 : Int)))) ((((S.1 24) + 2) + 1) + ((if (zb (M_isDigit (M_sign S (((S.1 24) + 2) + 1)))) = 0 then 0 else 1 : Int))) (by show 0 ≤ ((((S.1 24) + 2) + 1) + ((if (zb (M_isDigit (M_sign S (((S.1 24) + 2) + 1)))) = 0 then 0 else 1 : Int))); omega) (by show ((((S.1 24) + 2) + 1) + ((if (zb (M_isDigit (M_sign S (((S.1 24) + 2) + 1)))) = 0 then 0 else 1 : Int))) ≤ 100000; omega) (by show 0 ≤ (S.1 14); omega) (by show (S.1 14) ≤ 40; omega)) (cw7 1 B w7_mRX7_142 w7_im_yX7_sign w7_sl_yX7_sign w7_cd_yX7_sign rfl rfl (by decide +kernel) ⟨Nat.le_of_ble_eq_true rfl, Nat.le_of_ble_eq_true rfl⟩) rfl hl.1 rfl (Nat.le_of_ble_eq_true rfl) dX7_count_199 ⟨Nat.zero_le _, Nat.zero_le _⟩ (fun z_181 S_180 H locs hp_179 hM => ?_)
                    obtain ⟨hp_179, he_hp_179⟩ := hp_179
                    have he_hp_179 := he_hp_179.symm
                    subst he_hp_179
                    have hp_179 : M_sign S ((((S.1 24) + 2) + 1) + ((if (zb (M_isDigit (M_sign S (((S.1 24) + 2) + 1)))) = 0 then 0 else 1 : Int))) = z_181 := hp_179.symm
                    subst hp_179
                    have f_182 := M_sign_bd S hs ((((S.1 24) + 2) + 1) + ((if (zb (M_isDigit (M_sign S (((S.1 24) + 2) + 1)))) = 0 then 0 else 1 : Int)))
                    refine z_bipush B.1 B.2.1 (by decide) dX7_count_202 ?_
                    refine z_icmp_ne (tgt := 214) B.1 B.2.1 (zr_of (by omega) (by omega)) (zr_of (by decide) (by decide)) dX7_count_204 (by decide) (fun c_183 => ?_) (fun c_183 => ?_)
                    · --
                      refine z_iconst B.1 B.2.1 dX7_count_214 ?_
                      refine lv_goto (tgt := 219) B.1 B.2.1 dX7_count_215 (by decide) ?_
                      exact hJ_154 _ _ _ ⟨((if_pos c_178).trans (if_neg c_183)).symm, hM⟩
                    · --
                      refine lv_iload B.1 B.2.1 dX7_count_207 (lv_at hl 1 rfl) ?_
                      refine lv_iload B.1 B.2.1 dX7_count_209 (lv_at hl 0 rfl) ?_
                      refine z_icmp_le (tgt := 218) B.1 B.2.1 (zr_of (by omega) (by omega)) (zr_of (by omega) (by omega)) dX7_count_211 (by decide) (fun c_184 => ?_) (fun c_184 => ?_)
                      · --
                        refine z_iconst B.1 B.2.1 dX7_count_218 ?_
                        exact hJ_154 _ _ _ ⟨((if_pos c_178).trans ((if_pos c_183).trans (if_pos c_184))).symm, hM⟩
                      · --
                        refine z_iconst B.1 B.2.1 dX7_count_214 ?_
                        refine lv_goto (tgt := 219) B.1 B.2.1 dX7_count_215 (by decide) ?_
                        exact hJ_154 _ _ _ ⟨((if_pos c_178).trans ((if_pos c_183).trans (if_neg c_184))).symm, hM⟩
              · --
                refine z_if_eq (tgt := 181) B.1 B.2.1 (zr_of (by omega) (by omega)) dX7_count_174 (by decide) (fun c_185 => ?_) (fun c_185 => ?_)
                · --
                  refine z_iconst B.1 B.2.1 dX7_count_181 ?_
                  exact hJ_150 _ _ _ ⟨(if_pos c_185).symm, hM⟩
                · --
                  refine z_iconst B.1 B.2.1 dX7_count_177 ?_
                  refine lv_goto (tgt := 182) B.1 B.2.1 dX7_count_178 (by decide) ?_
                  exact hJ_150 _ _ _ ⟨(if_neg c_185).symm, hM⟩
            · --
              refine z_if_eq (tgt := 154) B.1 B.2.1 (zr_of (by omega) (by omega)) dX7_count_137 (by decide) (fun c_186 => ?_) (fun c_186 => ?_)
              · --
                refine z_bipush B.1 B.2.1 (by decide) dX7_count_154 ?_
                exact hJ_140 _ _ _ ⟨(if_pos c_186).symm, hM⟩
              · --
                refine lv_aload_n B.1 B.2.1 dX7_count_140 rfl (lv_at hl 3 rfl) ?_
                refine lv_aload_n B.1 B.2.1 dX7_count_141 rfl (lv_at hl 3 rfl) ?_
                refine m_get (x := ((S.1 24) + 2) + 1) B (i7 _) hK hM 24 (by decide) rfl rfl (List.mem_cons_of_mem _ w7_fRX7_139) dX7_count_142 ?_
                refine m_calli (As := [.int (zI (((S.1 24) + 2) + 1))]) (rest := []) B hK hM (cX7_sign_ok l D cy o q (mi (mi (mi S 25 ((if (S.1 25) = 0 then (if (zb (M_isDigit (M_sign S ((S.1 24) + 1)))) = 0 then 1 else 0 : Int) else 1 : Int))) 24 ((S.1 24) + 2)) 24 (((S.1 24) + 2) + 1)) (((S.1 24) + 2) + 1) (by show 0 ≤ (((S.1 24) + 2) + 1); omega) (by show (((S.1 24) + 2) + 1) ≤ 100000; omega) (by show 0 ≤ (S.1 14); omega) (by show (S.1 14) ≤ 40; omega)) (cw7 1 B w7_mRX7_142 w7_im_yX7_sign w7_sl_yX7_sign w7_cd_yX7_sign rfl rfl (by decide +kernel) ⟨Nat.le_of_ble_eq_true rfl, Nat.le_of_ble_eq_true rfl⟩) rfl hl.1 rfl (Nat.le_of_ble_eq_true rfl) dX7_count_145 ⟨Nat.zero_le _, Nat.zero_le _⟩ (fun z_189 S_188 H locs hp_187 hM => ?_)
                obtain ⟨hp_187, he_hp_187⟩ := hp_187
                have he_hp_187 := he_hp_187.symm
                subst he_hp_187
                have hp_187 : M_sign S (((S.1 24) + 2) + 1) = z_189 := hp_187.symm
                subst hp_187
                have f_190 := M_sign_bd S hs (((S.1 24) + 2) + 1)
                refine z_bipush B.1 B.2.1 (by decide) dX7_count_148 ?_
                refine z_isub (x := (M_sign S (((S.1 24) + 2) + 1)) - 48) B.1 B.2.1 rfl dX7_count_150 ?_
                refine lv_goto (tgt := 156) B.1 B.2.1 dX7_count_151 (by decide) ?_
                exact hJ_140 _ _ _ ⟨(if_neg c_186).symm, hM⟩
        · --
          refine z_if_ne (tgt := 66) B.1 B.2.1 (zr_of (by omega) (by omega)) dX7_count_47 (by decide) (fun c_191 => ?_) (fun c_191 => ?_)
          · --
            refine z_iconst B.1 B.2.1 dX7_count_66 ?_
            refine lv_goto (tgt := 71) B.1 B.2.1 dX7_count_67 (by decide) ?_
            exact hJ_87 _ _ _ ⟨(if_neg c_191).symm, hM⟩
          · --
            refine lv_aload_n B.1 B.2.1 dX7_count_50 rfl (lv_at hl 3 rfl) ?_
            refine lv_aload_n B.1 B.2.1 dX7_count_51 rfl (lv_at hl 3 rfl) ?_
            refine m_get (x := S.1 24) B (i7 _) hK hM 24 (by decide) rfl rfl (List.mem_cons_of_mem _ w7_fRX7_139) dX7_count_52 ?_
            refine z_iconst B.1 B.2.1 dX7_count_55 ?_
            refine z_iadd (x := (S.1 24) + 1) B.1 B.2.1 rfl dX7_count_56 ?_
            refine m_calli (As := [.int (zI ((S.1 24) + 1))]) (rest := [.ref o]) B hK hM (cX7_sign_ok l D cy o q S ((S.1 24) + 1) (by show 0 ≤ ((S.1 24) + 1); omega) (by show ((S.1 24) + 1) ≤ 100000; omega) (by show 0 ≤ (S.1 14); omega) (by show (S.1 14) ≤ 40; omega)) (cw7 1 B w7_mRX7_142 w7_im_yX7_sign w7_sl_yX7_sign w7_cd_yX7_sign rfl rfl (by decide +kernel) ⟨Nat.le_of_ble_eq_true rfl, Nat.le_of_ble_eq_true rfl⟩) rfl hl.1 rfl (Nat.le_of_ble_eq_true rfl) dX7_count_57 ⟨Nat.zero_le _, Nat.zero_le _⟩ (fun z_194 S_193 H locs hp_192 hM => ?_)
            obtain ⟨hp_192, he_hp_192⟩ := hp_192
            have he_hp_192 := he_hp_192.symm
            subst he_hp_192
            have hp_192 : M_sign S ((S.1 24) + 1) = z_194 := hp_192.symm
            subst hp_192
            have f_195 := M_sign_bd S hs ((S.1 24) + 1)
            refine s_calli (As := [.int (zI (M_sign S ((S.1 24) + 1)))]) (rest := [.ref o]) B (cX7_isDigit_ok l (M_sign S ((S.1 24) + 1)) (by show -100000 ≤ (M_sign S ((S.1 24) + 1)); omega) (by show (M_sign S ((S.1 24) + 1)) ≤ 100000; omega)) (cs7 1 B rfl w7_mRX7_145 w7_st_yX7_isDigit w7_cd_yX7_isDigit rfl rfl (by decide +kernel) ⟨Nat.le_of_ble_eq_true rfl, Nat.le_of_ble_eq_true rfl⟩) rfl hl.1 rfl (Nat.le_of_ble_eq_true rfl) dX7_count_60 ⟨Nat.zero_le _, Nat.zero_le _⟩ (fun z_196 hz_197 => ?_)
            have hz_197 := hz_197.symm
            subst hz_197
            have f_198 := zb_01 (M_isDigit (M_sign S ((S.1 24) + 1)))
            refine z_if_ne (tgt := 70) B.1 B.2.1 (zr_of (by omega) (by omega)) dX7_count_63 (by decide) (fun c_199 => ?_) (fun c_199 => ?_)
            · --
              refine z_iconst B.1 B.2.1 dX7_count_70 ?_
              exact hJ_87 _ _ _ ⟨((if_pos c_191).trans (if_neg c_199)).symm, hM⟩
            · --
              refine z_iconst B.1 B.2.1 dX7_count_66 ?_
              refine lv_goto (tgt := 71) B.1 B.2.1 dX7_count_67 (by decide) ?_
              exact hJ_87 _ _ _ ⟨((if_pos c_191).trans (if_pos c_199)).symm, hM⟩
    · --
      refine z_icmp_ne (tgt := 32) B.1 B.2.1 (zr_of (by omega) (by omega)) (zr_of (by decide) (by decide)) dX7_count_25 (by decide) (fun c_200 => ?_) (fun c_200 => ?_)
      · --
        refine z_bipush B.1 B.2.1 (by decide) dX7_count_32 ?_
        exact hJ_11 _ _ _ ⟨(if_neg c_200).symm, hM⟩
      · --
        refine z_iconst B.1 B.2.1 dX7_count_28 ?_
        refine lv_goto (tgt := 34) B.1 B.2.1 dX7_count_29 (by decide) ?_
        exact hJ_11 _ _ _ ⟨(if_pos c_200).symm, hM⟩
  · --
    refine z_icmp_ne (tgt := 19) B.1 B.2.1 (zr_of (by omega) (by omega)) (zr_of (by decide) (by decide)) dX7_count_12 (by decide) (fun c_201 => ?_) (fun c_201 => ?_)
    · --
      refine z_iconst B.1 B.2.1 dX7_count_19 ?_
      exact hJ_7 _ _ _ ⟨(if_neg c_201).symm, hM⟩
    · --
      refine z_iconst B.1 B.2.1 dX7_count_15 ?_
      refine lv_goto (tgt := 20) B.1 B.2.1 dX7_count_16 (by decide) ?_
      exact hJ_7 _ _ _ ⟨(if_pos c_201).symm, hM⟩
