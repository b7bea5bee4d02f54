def M_has (flag : Int) (S : MSt) : Int := (if (zand (S.1 6) flag) = 0 then 0 else 1 : Int)
set_option maxHeartbeats 4000000 in
set_option maxRecDepth 100000 in
theorem cX7_has_ok (l : Launch) (D : va_G) (cy : Nat → ClassId) (o : Nat) (q : Nat → Nat) (S : MSt) (flag : Int) (hf0 : 0 ≤ flag) (hf1 : flag ≤ 7) (hg0 : 0 ≤ S.1 6) (hg1 : S.1 6 ≤ 7) : mMi l D cy o q yX7_has (.code yX7_has cX7_has 2 (some .boolean) :: TB7) ({ frames := 0, cells := 0, slots := 0, locals := 0 }) S [.int (zI flag)] (fun r S' => r = M_has flag S ∧ S' = S) := by
  refine m_of (cc := cX7_has) (maxL := 2) (ret := (some .boolean)) (by decide) rfl rfl (Nat.le_of_ble_eq_true rfl) ?_
  intro p e s m args below meth c ls B hK hM hl
  have hl : lv_has ls 2 [(0, .ref o), (1, .int (zI flag))] := hl
  refine lv_aload_n B.1 B.2.1 dX7_has_0 rfl (lv_at hl 0 rfl) ?_
  refine m_get (x := S.1 6) B (i7 _) hK hM 6 (by decide) rfl rfl (List.mem_cons_of_mem _ w7_fRX7_193) dX7_has_1 ?_
  refine lv_iload_n B.1 B.2.1 dX7_has_4 rfl (lv_at hl 1 rfl) ?_
  refine z_iand (x := zand (S.1 6) flag) B.1 B.2.1 rfl (by omega) (by omega) dX7_has_5 ?_
  have hz := zand_bd (b := flag) hg0
  refine z_joinH (P := fun v H' locs' => v = (if (zand (S.1 6) flag) = 0 then 0 else 1 : Int) ∧ mH D cy o q (mA o q) s.heap S H' locs') (pcJ := 14) (lsJ := ls) (stJ := []) (fun v_1 H locs hv_2 => ?_) (fun hJ_3 => ?_)
  · --
    obtain ⟨hv_2, hM⟩ := hv_2
    have hb_4 : (if (zand (S.1 6) flag) = 0 then 0 else 1 : Int) = 0 ∨ (if (zand (S.1 6) flag) = 0 then 0 else 1 : Int) = 1 := by (repeat' split) <;> simp
    have hv_2 := hv_2.symm
    subst hv_2
    exact m_retz B hM (by omega) (⟨rfl, rfl⟩) dX7_has_14
  · --
    refine z_if_eq (tgt := 13) B.1 B.2.1 (zr_of (by omega) (by omega)) dX7_has_6 (by decide) (fun c_5 => ?_) (fun c_5 => ?_)
    · --
      refine z_iconst B.1 B.2.1 dX7_has_13 ?_
      exact hJ_3 _ _ _ ⟨(if_pos c_5).symm, hM⟩
    · --
      refine z_iconst B.1 B.2.1 dX7_has_9 ?_
      refine lv_goto (tgt := 14) B.1 B.2.1 dX7_has_10 (by decide) ?_
      exact hJ_3 _ _ _ ⟨(if_neg c_5).symm, hM⟩
theorem M_has_01 (flag : Int) (S : MSt) : M_has flag S = 0 ∨ M_has flag S = 1 := by
  unfold M_has
  split
  · exact Or.inl rfl
  · exact Or.inr rfl
def M_inClass (letter x : Int) : Int := (if letter = 68 then (if (zb (M_isDigit x)) = 0 then 1 else 0 : Int) else (if letter = 87 then (if ((if (zb (M_isDigit x)) = 0 then (if x < 97 then (if x < 65 then (if x = 95 then 1 else 0 : Int) else (if x ≤ 90 then 1 else (if x = 95 then 1 else 0 : Int) : Int) : Int) else (if x ≤ 122 then 1 else (if x < 65 then (if x = 95 then 1 else 0 : Int) else (if x ≤ 90 then 1 else (if x = 95 then 1 else 0 : Int) : Int) : Int) : Int) : Int) else 1 : Int)) = 0 then 1 else 0 : Int) else (if letter = 100 then zb (M_isDigit x) else (if letter = 115 then (if x = 32 then 1 else 0 : Int) else (if letter = 119 then (if (zb (M_isDigit x)) = 0 then (if x < 97 then (if x < 65 then (if x = 95 then 1 else 0 : Int) else (if x ≤ 90 then 1 else (if x = 95 then 1 else 0 : Int) : Int) : Int) else (if x ≤ 122 then 1 else (if x < 65 then (if x = 95 then 1 else 0 : Int) else (if x ≤ 90 then 1 else (if x = 95 then 1 else 0 : Int) : Int) : Int) : Int) : Int) else 1 : Int) else (if x = 32 then 0 else 1 : Int))))))
set_option maxHeartbeats 4000000 in
set_option maxRecDepth 100000 in
theorem cX7_inClass_ok (l : Launch) (letter x : Int) (h1 : -100000 ≤ x) (h2 : x ≤ 100000) (h3 : -100000 ≤ letter) (h4 : letter ≤ 100000) : sMi l yX7_inClass (.code yX7_inClass cX7_inClass 3 (some .boolean) :: TB7) ({ frames := 1, cells := 0, slots := 0, locals := 20 }) [.int (zI letter), .int (zI x)] (fun z => z = M_inClass letter x) := by
  refine s_of (cc := cX7_inClass) (maxL := 3) (ret := (some .boolean)) (C := RX7) (by decide) rfl rfl (Nat.le_of_ble_eq_true rfl) ?_
  intro p e s m args below meth c ls B hl
  have hl : lv_has ls 3 [(0, .int (zI letter)), (1, .int (zI x))] := hl
  refine lv_iload_n B.1 B.2.1 dX7_inClass_0 rfl (lv_at hl 1 rfl) ?_
  refine s_calli (As := [.int (zI x)]) (rest := []) B (cX7_isDigit_ok l x (by show -100000 ≤ x; omega) (by show x ≤ 100000; omega)) (cs7 1 B rfl w7_mRX7_145 w7_st_yX7_isDigit w7_cd_yX7_isDigit rfl rfl (by decide +kernel) ⟨Nat.le_of_ble_eq_true rfl, Nat.le_of_ble_eq_true rfl⟩) rfl hl.1 rfl (Nat.le_of_ble_eq_true rfl) dX7_inClass_1 ⟨Nat.zero_le _, Nat.zero_le _⟩ (fun z_1 hz_2 => ?_)
  have hz_2 := hz_2.symm
  subst hz_2
  have f_3 := zb_01 (M_isDigit x)
  refine z_join (P := fun v : Int => v = (if (zb (M_isDigit x)) = 0 then (if x < 97 then (if x < 65 then (if x = 95 then 1 else 0 : Int) else (if x ≤ 90 then 1 else (if x = 95 then 1 else 0 : Int) : Int) : Int) else (if x ≤ 122 then 1 else (if x < 65 then (if x = 95 then 1 else 0 : Int) else (if x ≤ 90 then 1 else (if x = 95 then 1 else 0 : Int) : Int) : Int) : Int) : Int) else 1 : Int)) (pcJ := 42) (lsJ := ls) (stJ := []) (fun v_4 hv_5 => ?_) (fun hJ_6 => ?_)
  · --
    have hb_7 : (if (zb (M_isDigit x)) = 0 then (if x < 97 then (if x < 65 then (if x = 95 then 1 else 0 : Int) else (if x ≤ 90 then 1 else (if x = 95 then 1 else 0 : Int) : Int) : Int) else (if x ≤ 122 then 1 else (if x < 65 then (if x = 95 then 1 else 0 : Int) else (if x ≤ 90 then 1 else (if x = 95 then 1 else 0 : Int) : Int) : Int) : Int) : Int) else 1 : Int) = 0 ∨ (if (zb (M_isDigit x)) = 0 then (if x < 97 then (if x < 65 then (if x = 95 then 1 else 0 : Int) else (if x ≤ 90 then 1 else (if x = 95 then 1 else 0 : Int) : Int) : Int) else (if x ≤ 122 then 1 else (if x < 65 then (if x = 95 then 1 else 0 : Int) else (if x ≤ 90 then 1 else (if x = 95 then 1 else 0 : Int) : Int) : Int) : Int) : Int) else 1 : Int) = 1 := by (repeat' split) <;> simp
    have hv_5 := hv_5.symm
    subst hv_5
    refine lv_istore_n (lv' := [(2, .int (zI ((if (zb (M_isDigit x)) = 0 then (if x < 97 then (if x < 65 then (if x = 95 then 1 else 0 : Int) else (if x ≤ 90 then 1 else (if x = 95 then 1 else 0 : Int) : Int) : Int) else (if x ≤ 122 then 1 else (if x < 65 then (if x = 95 then 1 else 0 : Int) else (if x ≤ 90 then 1 else (if x = 95 then 1 else 0 : Int) : Int) : Int) : Int) : Int) else 1 : Int)))), (0, .int (zI letter)), (1, .int (zI x))]) B.1 B.2.1 dX7_inClass_42 rfl hl (by decide) rfl (fun ls hl => ?_)
    refine lv_iload_n B.1 B.2.1 dX7_inClass_43 rfl (lv_at hl 1 rfl) ?_
    rcases (show letter = 68 ∨ letter = 87 ∨ letter = 100 ∨ letter = 115 ∨ letter = 119 ∨ (¬ letter = 68 ∧ ¬ letter = 87 ∧ ¬ letter = 100 ∧ ¬ letter = 115 ∧ ¬ letter = 119) by omega) with c_8 | c_8 | c_8 | c_8 | c_8 | c_8
    · --
      refine z_lookup (tgt := 115) (off := 71) B.1 B.2.1 (zr_of (by omega) (by omega)) dX7_inClass_44 (by decide) (by rw [c_8]; decide) (by decide) ?_
      refine lv_iload_n B.1 B.2.1 dX7_inClass_115 rfl (lv_at hl 2 rfl) ?_
      refine s_calli (As := [.int (zI x)]) (rest := []) B (cX7_isDigit_ok l x (by show -100000 ≤ x; omega) (by show x ≤ 100000; omega)) (cs7 1 B rfl w7_mRX7_145 w7_st_yX7_isDigit w7_cd_yX7_isDigit rfl rfl (by decide +kernel) ⟨Nat.le_of_ble_eq_true rfl, Nat.le_of_ble_eq_true rfl⟩) rfl hl.1 rfl (Nat.le_of_ble_eq_true rfl) dX7_inClass_116 ⟨Nat.zero_le _, Nat.zero_le _⟩ (fun z_9 hz_10 => ?_)
      have hz_10 := hz_10.symm
      subst hz_10
      have f_11 := zb_01 (M_isDigit x)
      refine z_join (P := fun v : Int => v = (if (zb (M_isDigit x)) = 0 then 1 else 0 : Int)) (pcJ := 127) (lsJ := ls) (stJ := []) (fun v_12 hv_13 => ?_) (fun hJ_14 => ?_)
      · --
        have hb_15 : (if (zb (M_isDigit x)) = 0 then 1 else 0 : Int) = 0 ∨ (if (zb (M_isDigit x)) = 0 then 1 else 0 : Int) = 1 := by (repeat' split) <;> simp
        have hv_13 := hv_13.symm
        subst hv_13
        exact s_retz B (by omega) (by unfold M_inClass; exact (if_pos c_8).symm) dX7_inClass_127
      · --
        refine z_if_ne (tgt := 126) B.1 B.2.1 (zr_of (by omega) (by omega)) dX7_inClass_119 (by decide) (fun c_16 => ?_) (fun c_16 => ?_)
        · --
          refine z_iconst B.1 B.2.1 dX7_inClass_126 ?_
          exact hJ_14 _ (if_neg c_16).symm
        · --
          refine z_iconst B.1 B.2.1 dX7_inClass_122 ?_
          refine lv_goto (tgt := 127) B.1 B.2.1 dX7_inClass_123 (by decide) ?_
          exact hJ_14 _ (if_pos c_16).symm
    · --
      have n_17 : ¬ letter = 68 := by omega
      refine z_lookup (tgt := 128) (off := 84) B.1 B.2.1 (zr_of (by omega) (by omega)) dX7_inClass_44 (by decide) (by rw [c_8]; decide) (by decide) ?_
      refine lv_iload_n B.1 B.2.1 dX7_inClass_128 rfl (lv_at hl 0 rfl) ?_
      refine z_join (P := fun v : Int => v = (if ((if (zb (M_isDigit x)) = 0 then (if x < 97 then (if x < 65 then (if x = 95 then 1 else 0 : Int) else (if x ≤ 90 then 1 else (if x = 95 then 1 else 0 : Int) : Int) : Int) else (if x ≤ 122 then 1 else (if x < 65 then (if x = 95 then 1 else 0 : Int) else (if x ≤ 90 then 1 else (if x = 95 then 1 else 0 : Int) : Int) : Int) : Int) : Int) else 1 : Int)) = 0 then 1 else 0 : Int)) (pcJ := 137) (lsJ := ls) (stJ := []) (fun v_18 hv_19 => ?_) (fun hJ_20 => ?_)
      · --
        have hb_21 : (if ((if (zb (M_isDigit x)) = 0 then (if x < 97 then (if x < 65 then (if x = 95 then 1 else 0 : Int) else (if x ≤ 90 then 1 else (if x = 95 then 1 else 0 : Int) : Int) : Int) else (if x ≤ 122 then 1 else (if x < 65 then (if x = 95 then 1 else 0 : Int) else (if x ≤ 90 then 1 else (if x = 95 then 1 else 0 : Int) : Int) : Int) : Int) : Int) else 1 : Int)) = 0 then 1 else 0 : Int) = 0 ∨ (if ((if (zb (M_isDigit x)) = 0 then (if x < 97 then (if x < 65 then (if x = 95 then 1 else 0 : Int) else (if x ≤ 90 then 1 else (if x = 95 then 1 else 0 : Int) : Int) : Int) else (if x ≤ 122 then 1 else (if x < 65 then (if x = 95 then 1 else 0 : Int) else (if x ≤ 90 then 1 else (if x = 95 then 1 else 0 : Int) : Int) : Int) : Int) : Int) else 1 : Int)) = 0 then 1 else 0 : Int) = 1 := by (repeat' split) <;> simp
        have hv_19 := hv_19.symm
        subst hv_19
        exact s_retz B (by omega) (by unfold M_inClass; exact ((if_neg n_17).trans (if_pos c_8)).symm) dX7_inClass_137
      · --
        refine z_if_ne (tgt := 136) B.1 B.2.1 (zr_of (by omega) (by omega)) dX7_inClass_129 (by decide) (fun c_22 => ?_) (fun c_22 => ?_)
        · --
          refine z_iconst B.1 B.2.1 dX7_inClass_136 ?_
          exact hJ_20 _ (if_neg c_22).symm
        · --
          refine z_iconst B.1 B.2.1 dX7_inClass_132 ?_
          refine lv_goto (tgt := 137) B.1 B.2.1 dX7_inClass_133 (by decide) ?_
          exact hJ_20 _ (if_pos c_22).symm
    · --
      have n_23 : ¬ letter = 68 := by omega
      have n_24 : ¬ letter = 87 := by omega
      refine z_lookup (tgt := 96) (off := 52) B.1 B.2.1 (zr_of (by omega) (by omega)) dX7_inClass_44 (by decide) (by rw [c_8]; decide) (by decide) ?_
      refine lv_iload_n B.1 B.2.1 dX7_inClass_96 rfl (lv_at hl 2 rfl) ?_
      refine s_calli (As := [.int (zI x)]) (rest := []) B (cX7_isDigit_ok l x (by show -100000 ≤ x; omega) (by show x ≤ 100000; omega)) (cs7 1 B rfl w7_mRX7_145 w7_st_yX7_isDigit w7_cd_yX7_isDigit rfl rfl (by decide +kernel) ⟨Nat.le_of_ble_eq_true rfl, Nat.le_of_ble_eq_true rfl⟩) rfl hl.1 rfl (Nat.le_of_ble_eq_true rfl) dX7_inClass_97 ⟨Nat.zero_le _, Nat.zero_le _⟩ (fun z_25 hz_26 => ?_)
      have hz_26 := hz_26.symm
      subst hz_26
      have f_27 := zb_01 (M_isDigit x)
      exact s_retz B (by omega) (by unfold M_inClass; exact ((if_neg n_23).trans ((if_neg n_24).trans (if_pos c_8))).symm) dX7_inClass_100
    · --
      have n_28 : ¬ letter = 68 := by omega
      have n_29 : ¬ letter = 87 := by omega
      have n_30 : ¬ letter = 100 := by omega
      refine z_lookup (tgt := 103) (off := 59) B.1 B.2.1 (zr_of (by omega) (by omega)) dX7_inClass_44 (by decide) (by rw [c_8]; decide) (by decide) ?_
      refine lv_iload_n B.1 B.2.1 dX7_inClass_103 rfl (lv_at hl 2 rfl) ?_
      refine z_bipush B.1 B.2.1 (by decide) dX7_inClass_104 ?_
      refine z_join (P := fun v : Int => v = (if x = 32 then 1 else 0 : Int)) (pcJ := 114) (lsJ := ls) (stJ := []) (fun v_31 hv_32 => ?_) (fun hJ_33 => ?_)
      · --
        have hb_34 : (if x = 32 then 1 else 0 : Int) = 0 ∨ (if x = 32 then 1 else 0 : Int) = 1 := by (repeat' split) <;> simp
        have hv_32 := hv_32.symm
        subst hv_32
        exact s_retz B (by omega) (by unfold M_inClass; exact ((if_neg n_28).trans ((if_neg n_29).trans ((if_neg n_30).trans (if_pos c_8)))).symm) dX7_inClass_114
      · --
        refine z_icmp_ne (tgt := 113) B.1 B.2.1 (zr_of (by omega) (by omega)) (zr_of (by decide) (by decide)) dX7_inClass_106 (by decide) (fun c_35 => ?_) (fun c_35 => ?_)
        · --
          refine z_iconst B.1 B.2.1 dX7_inClass_113 ?_
          exact hJ_33 _ (if_neg c_35).symm
        · --
          refine z_iconst B.1 B.2.1 dX7_inClass_109 ?_
          refine lv_goto (tgt := 114) B.1 B.2.1 dX7_inClass_110 (by decide) ?_
          exact hJ_33 _ (if_pos c_35).symm
    · --
      have n_36 : ¬ letter = 68 := by omega
      have n_37 : ¬ letter = 87 := by omega
      have n_38 : ¬ letter = 100 := by omega
      have n_39 : ¬ letter = 115 := by omega
      refine z_lookup (tgt := 101) (off := 57) B.1 B.2.1 (zr_of (by omega) (by omega)) dX7_inClass_44 (by decide) (by rw [c_8]; decide) (by decide) ?_
      refine lv_iload_n B.1 B.2.1 dX7_inClass_101 rfl (lv_at hl 0 rfl) ?_
      exact s_retz B (by omega) (by unfold M_inClass; exact ((if_neg n_36).trans ((if_neg n_37).trans ((if_neg n_38).trans ((if_neg n_39).trans (if_pos c_8))))).symm) dX7_inClass_102
    · --
      have n_40 : ¬ letter = 68 := by omega
      have n_41 : ¬ letter = 87 := by omega
      have n_42 : ¬ letter = 100 := by omega
      have n_43 : ¬ letter = 115 := by omega
      have n_44 : ¬ letter = 119 := by omega
      refine z_lookup (tgt := 138) (off := 94) B.1 B.2.1 (zr_of (by omega) (by omega)) dX7_inClass_44 (by decide) (by show Op.lookupswitch.offset [(68, 71), (87, 84), (100, 52), (115, 59), (119, 57)] 94 letter = 94; rw [Op.lookupswitch.offset_cons, if_neg (by omega), Op.lookupswitch.offset_cons, if_neg (by omega), Op.lookupswitch.offset_cons, if_neg (by omega), Op.lookupswitch.offset_cons, if_neg (by omega), Op.lookupswitch.offset_cons, if_neg (by omega), Op.lookupswitch.offset_nil]) (by decide) ?_
      refine lv_iload_n B.1 B.2.1 dX7_inClass_138 rfl (lv_at hl 2 rfl) ?_
      refine z_bipush B.1 B.2.1 (by decide) dX7_inClass_139 ?_
      refine z_join (P := fun v : Int => v = (if x = 32 then 0 else 1 : Int)) (pcJ := 149) (lsJ := ls) (stJ := []) (fun v_45 hv_46 => ?_) (fun hJ_47 => ?_)
      · --
        have hb_48 : (if x = 32 then 0 else 1 : Int) = 0 ∨ (if x = 32 then 0 else 1 : Int) = 1 := by (repeat' split) <;> simp
        have hv_46 := hv_46.symm
        subst hv_46
        exact s_retz B (by omega) (by unfold M_inClass; exact ((if_neg n_40).trans ((if_neg n_41).trans ((if_neg n_42).trans ((if_neg n_43).trans (if_neg n_44))))).symm) dX7_inClass_149
      · --
        refine z_icmp_eq (tgt := 148) B.1 B.2.1 (zr_of (by omega) (by omega)) (zr_of (by decide) (by decide)) dX7_inClass_141 (by decide) (fun c_49 => ?_) (fun c_49 => ?_)
        · --
          refine z_iconst B.1 B.2.1 dX7_inClass_148 ?_
          exact hJ_47 _ (if_pos c_49).symm
        · --
          refine z_iconst B.1 B.2.1 dX7_inClass_144 ?_
          refine lv_goto (tgt := 149) B.1 B.2.1 dX7_inClass_145 (by decide) ?_
          exact hJ_47 _ (if_neg c_49).symm
  · --
    refine z_if_ne (tgt := 37) B.1 B.2.1 (zr_of (by omega) (by omega)) dX7_inClass_4 (by decide) (fun c_50 => ?_) (fun c_50 => ?_)
    · --
      refine z_iconst B.1 B.2.1 dX7_inClass_37 ?_
      refine lv_goto (tgt := 42) B.1 B.2.1 dX7_inClass_38 (by decide) ?_
      exact hJ_6 _ (if_neg c_50).symm
    · --
      refine lv_iload_n B.1 B.2.1 dX7_inClass_7 rfl (lv_at hl 1 rfl) ?_
      refine z_bipush B.1 B.2.1 (by decide) dX7_inClass_8 ?_
      refine z_icmp_lt (tgt := 19) B.1 B.2.1 (zr_of (by omega) (by omega)) (zr_of (by decide) (by decide)) dX7_inClass_10 (by decide) (fun c_51 => ?_) (fun c_51 => ?_)
      · --
        refine lv_iload_n B.1 B.2.1 dX7_inClass_19 rfl (lv_at hl 1 rfl) ?_
        refine z_bipush B.1 B.2.1 (by decide) dX7_inClass_20 ?_
        refine z_icmp_lt (tgt := 31) B.1 B.2.1 (zr_of (by omega) (by omega)) (zr_of (by decide) (by decide)) dX7_inClass_22 (by decide) (fun c_52 => ?_) (fun c_52 => ?_)
        · --
          refine lv_iload_n B.1 B.2.1 dX7_inClass_31 rfl (lv_at hl 1 rfl) ?_
          refine z_bipush B.1 B.2.1 (by decide) dX7_inClass_32 ?_
          refine z_icmp_ne (tgt := 41) B.1 B.2.1 (zr_of (by omega) (by omega)) (zr_of (by decide) (by decide)) dX7_inClass_34 (by decide) (fun c_53 => ?_) (fun c_53 => ?_)
          · --
            refine z_iconst B.1 B.2.1 dX7_inClass_41 ?_
            exact hJ_6 _ ((if_pos c_50).trans ((if_pos c_51).trans ((if_pos c_52).trans (if_neg c_53)))).symm
          · --
            refine z_iconst B.1 B.2.1 dX7_inClass_37 ?_
            refine lv_goto (tgt := 42) B.1 B.2.1 dX7_inClass_38 (by decide) ?_
            exact hJ_6 _ ((if_pos c_50).trans ((if_pos c_51).trans ((if_pos c_52).trans (if_pos c_53)))).symm
        · --
          refine lv_iload_n B.1 B.2.1 dX7_inClass_25 rfl (lv_at hl 1 rfl) ?_
          refine z_bipush B.1 B.2.1 (by decide) dX7_inClass_26 ?_
          refine z_icmp_le (tgt := 37) B.1 B.2.1 (zr_of (by omega) (by omega)) (zr_of (by decide) (by decide)) dX7_inClass_28 (by decide) (fun c_54 => ?_) (fun c_54 => ?_)
          · --
            refine z_iconst B.1 B.2.1 dX7_inClass_37 ?_
            refine lv_goto (tgt := 42) B.1 B.2.1 dX7_inClass_38 (by decide) ?_
            exact hJ_6 _ ((if_pos c_50).trans ((if_pos c_51).trans ((if_neg c_52).trans (if_pos c_54)))).symm
          · --
            refine lv_iload_n B.1 B.2.1 dX7_inClass_31 rfl (lv_at hl 1 rfl) ?_
            refine z_bipush B.1 B.2.1 (by decide) dX7_inClass_32 ?_
            refine z_icmp_ne (tgt := 41) B.1 B.2.1 (zr_of (by omega) (by omega)) (zr_of (by decide) (by decide)) dX7_inClass_34 (by decide) (fun c_55 => ?_) (fun c_55 => ?_)
            · --
              refine z_iconst B.1 B.2.1 dX7_inClass_41 ?_
              exact hJ_6 _ ((if_pos c_50).trans ((if_pos c_51).trans ((if_neg c_52).trans ((if_neg c_54).trans (if_neg c_55))))).symm
            · --
              refine z_iconst B.1 B.2.1 dX7_inClass_37 ?_
              refine lv_goto (tgt := 42) B.1 B.2.1 dX7_inClass_38 (by decide) ?_
              exact hJ_6 _ ((if_pos c_50).trans ((if_pos c_51).trans ((if_neg c_52).trans ((if_neg c_54).trans (if_pos c_55))))).symm
      · --
        refine lv_iload_n B.1 B.2.1 dX7_inClass_13 rfl (lv_at hl 1 rfl) ?_
        refine z_bipush B.1 B.2.1 (by decide) dX7_inClass_14 ?_
        refine z_icmp_le (tgt := 37) B.1 B.2.1 (zr_of (by omega) (by omega)) (zr_of (by decide) (by decide)) dX7_inClass_16 (by decide) (fun c_56 => ?_) (fun c_56 => ?_)
        · --
          refine z_iconst B.1 B.2.1 dX7_inClass_37 ?_
          refine lv_goto (tgt := 42) B.1 B.2.1 dX7_inClass_38 (by decide) ?_
          exact hJ_6 _ ((if_pos c_50).trans ((if_neg c_51).trans (if_pos c_56))).symm
        · --
          refine lv_iload_n B.1 B.2.1 dX7_inClass_19 rfl (lv_at hl 1 rfl) ?_
          refine z_bipush B.1 B.2.1 (by decide) dX7_inClass_20 ?_
          refine z_icmp_lt (tgt := 31) B.1 B.2.1 (zr_of (by omega) (by omega)) (zr_of (by decide) (by decide)) dX7_inClass_22 (by decide) (fun c_57 => ?_) (fun c_57 => ?_)
          · --
            refine lv_iload_n B.1 B.2.1 dX7_inClass_31 rfl (lv_at hl 1 rfl) ?_
            refine z_bipush B.1 B.2.1 (by decide) dX7_inClass_32 ?_
            refine z_icmp_ne (tgt := 41) B.1 B.2.1 (zr_of (by omega) (by omega)) (zr_of (by decide) (by decide)) dX7_inClass_34 (by decide) (fun c_58 => ?_) (fun c_58 => ?_)
            · --
              refine z_iconst B.1 B.2.1 dX7_inClass_41 ?_
              exact hJ_6 _ ((if_pos c_50).trans ((if_neg c_51).trans ((if_neg c_56).trans ((if_pos c_57).trans (if_neg c_58))))).symm
            · --
              refine z_iconst B.1 B.2.1 dX7_inClass_37 ?_
              refine lv_goto (tgt := 42) B.1 B.2.1 dX7_inClass_38 (by decide) ?_
              exact hJ_6 _ ((if_pos c_50).trans ((if_neg c_51).trans ((if_neg c_56).trans ((if_pos c_57).trans (if_pos c_58))))).symm
          · --
            refine lv_iload_n B.1 B.2.1 dX7_inClass_25 rfl (lv_at hl 1 rfl) ?_
            refine z_bipush B.1 B.2.1 (by decide) dX7_inClass_26 ?_
            refine z_icmp_le (tgt := 37) B.1 B.2.1 (zr_of (by omega) (by omega)) (zr_of (by decide) (by decide)) dX7_inClass_28 (by decide) (fun c_59 => ?_) (fun c_59 => ?_)
            · --
              refine z_iconst B.1 B.2.1 dX7_inClass_37 ?_
              refine lv_goto (tgt := 42) B.1 B.2.1 dX7_inClass_38 (by decide) ?_
              exact hJ_6 _ ((if_pos c_50).trans ((if_neg c_51).trans ((if_neg c_56).trans ((if_neg c_57).trans (if_pos c_59))))).symm
            · --
              refine lv_iload_n B.1 B.2.1 dX7_inClass_31 rfl (lv_at hl 1 rfl) ?_
              refine z_bipush B.1 B.2.1 (by decide) dX7_inClass_32 ?_
              refine z_icmp_ne (tgt := 41) B.1 B.2.1 (zr_of (by omega) (by omega)) (zr_of (by decide) (by decide)) dX7_inClass_34 (by decide) (fun c_60 => ?_) (fun c_60 => ?_)
              · --
                refine z_iconst B.1 B.2.1 dX7_inClass_41 ?_
                exact hJ_6 _ ((if_pos c_50).trans ((if_neg c_51).trans ((if_neg c_56).trans ((if_neg c_57).trans ((if_neg c_59).trans (if_neg c_60)))))).symm
              · --
                refine z_iconst B.1 B.2.1 dX7_inClass_37 ?_
                refine lv_goto (tgt := 42) B.1 B.2.1 dX7_inClass_38 (by decide) ?_
                exact hJ_6 _ ((if_pos c_50).trans ((if_neg c_51).trans ((if_neg c_56).trans ((if_neg c_57).trans ((if_neg c_59).trans (if_pos c_60)))))).symm
theorem M_inClass_01 (letter x : Int) : M_inClass letter x = 0 ∨ M_inClass letter x = 1 := by
  have := zb_01 (M_isDigit x)
  unfold M_inClass
  (repeat' split) <;> omega
