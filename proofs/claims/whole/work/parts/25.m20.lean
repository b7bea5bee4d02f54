def M_takeOK (f : Int) (S : MSt) : Prop :=
  (0 ≤ S.1 19) ∧
  (S.1 19 ≤ 220) ∧
  (0 ≤ S.1 14) ∧
  (S.1 14 ≤ 40) ∧
  (∀ j, 0 ≤ S.2 13 j ∧ S.2 13 j ≤ 126)
theorem cX7_take_ok' (l : Launch) (D : va_G) (cy : Nat → ClassId) (o : Nat) (q : Nat → Nat) (S : MSt) (f : Int) (h : M_takeOK f S) : mMv l D cy o q yX7_take (.code yX7_take cX7_take 3 none :: TB7) ({ frames := 0, cells := 0, slots := 0, locals := 0 }) S [.int (zI f)] (fun S' => S' = M_take f S) := by
  obtain ⟨hc0, hc1, hn0, hn1, hch⟩ := h
  exact cX7_take_ok l D cy o q S f hc0 hc1 hn0 hn1 hch
def M_patternOK (f : Int) (S : MSt) : Prop := -2147483648 ≤ f ∧ f ≤ 2147483647 ∧ 0 ≤ S.1 2 ∧ S.1 2 ≤ 40 ∧ (∀ j, 0 ≤ S.2 1 j ∧ S.2 1 j ≤ 126) ∧
  (0 ≤ f → f ≤ 7 → M_readsOK (mi (mi (M_patL f (S.1 2).toNat 0 (mi S 0 0)) 14 (S.1 2)) 2 0) ∧ ((M_reads (mi (mi (M_patL f (S.1 2).toNat 0 (mi S 0 0)) 14 (S.1 2)) 2 0)).1 = 0 ∨ (M_reads (mi (mi (M_patL f (S.1 2).toNat 0 (mi S 0 0)) 14 (S.1 2)) 2 0)).1 = 1) ∧ (¬ (M_reads (mi (mi (M_patL f (S.1 2).toNat 0 (mi S 0 0)) 14 (S.1 2)) 2 0)).1 = 0 → M_takeOK f (M_reads (mi (mi (M_patL f (S.1 2).toNat 0 (mi S 0 0)) 14 (S.1 2)) 2 0)).2))
def M_pattern (f : Int) (S : MSt) : Int × MSt := (if f < 0 then (0, (mi (mi S 0 0) 0 1)) else (if f ≤ 7 then (if ((M_reads (mi (mi (M_patL f (S.1 2).toNat 0 (mi S 0 0)) 14 (S.1 2)) 2 0)).1) = 0 then (0, (mi (M_reads (mi (mi (M_patL f (S.1 2).toNat 0 (mi S 0 0)) 14 (S.1 2)) 2 0)).2 0 1)) else ((M_take f (M_reads (mi (mi (M_patL f (S.1 2).toNat 0 (mi S 0 0)) 14 (S.1 2)) 2 0)).2).1 12, (M_take f (M_reads (mi (mi (M_patL f (S.1 2).toNat 0 (mi S 0 0)) 14 (S.1 2)) 2 0)).2))) else (0, (mi (mi S 0 0) 0 1))))
set_option maxHeartbeats 4000000 in
set_option maxRecDepth 100000 in
theorem cX7_pattern_ok (l : Launch) (D : va_G) (cy : Nat → ClassId) (o : Nat) (q : Nat → Nat) (S : MSt) (f : Int) (hok : M_patternOK f S) : mMi l D cy o q yX7_pattern (.code yX7_pattern cX7_pattern 3 (some .int) :: TB7) ({ frames := 5, cells := 0, slots := 0, locals := 112 }) S [.int (zI f)] (fun r S' => r = (M_pattern f S).1 ∧ S' = (M_pattern f S).2) := by
  refine m_of (cc := cX7_pattern) (maxL := 3) (ret := (some .int)) (by decide) rfl rfl (Nat.le_of_ble_eq_true rfl) ?_
  intro p e s m args below meth c ls B hK hM hl
  have hl : lv_has ls 3 [(0, .ref o), (1, .int (zI f))] := hl
  obtain ⟨hf0, hf1, hc0, hc1, hch, hok6⟩ := hok
  refine lv_aload_n B.1 B.2.1 dX7_pattern_0 rfl (lv_at hl 0 rfl) ?_
  refine z_iconst B.1 B.2.1 dX7_pattern_1 ?_
  refine m_put B (i7 _) hK hM 0 (by decide) rfl (by decide +kernel) (List.mem_cons_of_mem _ w7_fRX7_98) dX7_pattern_2 (fun H locs hM => ?_)
  refine lv_iload_n B.1 B.2.1 dX7_pattern_5 rfl (lv_at hl 1 rfl) ?_
  refine z_if_lt (tgt := 15) B.1 B.2.1 (zr_of (by omega) (by omega)) dX7_pattern_6 (by decide) (fun c_1 => ?_) (fun c_1 => ?_)
  · --
    refine lv_aload_n B.1 B.2.1 dX7_pattern_15 rfl (lv_at hl 0 rfl) ?_
    refine z_iconst B.1 B.2.1 dX7_pattern_16 ?_
    refine m_calli (As := [.int (zI 1)]) (rest := []) B hK hM (cX7_refuse_ok l D cy o q (mi S 0 0) 1 ) (cw7 1 B w7_mRX7_104 w7_im_yX7_refuse w7_sl_yX7_refuse w7_cd_yX7_refuse rfl rfl (by decide +kernel) ⟨Nat.le_of_ble_eq_true rfl, Nat.le_of_ble_eq_true rfl⟩) rfl hl.1 rfl (Nat.le_of_ble_eq_true rfl) dX7_pattern_17 ⟨Nat.zero_le _, Nat.zero_le _⟩ (fun z_4 S_3 H locs hp_2 hM => ?_)
    obtain ⟨hp_2, he_hp_2⟩ := hp_2
    have he_hp_2 := he_hp_2.symm
    subst he_hp_2
    have hp_2 : 0 = z_4 := hp_2.symm
    subst hp_2
    have hq : M_pattern f S = (0, (mi (mi S 0 0) 0 1)) := by unfold M_pattern; exact (if_pos c_1)
    exact m_reti B hM (⟨(congrArg Prod.fst hq).symm, (congrArg Prod.snd hq).symm⟩) dX7_pattern_20
  · --
    refine lv_iload_n B.1 B.2.1 dX7_pattern_9 rfl (lv_at hl 1 rfl) ?_
    refine z_bipush B.1 B.2.1 (by decide) dX7_pattern_10 ?_
    refine z_icmp_le (tgt := 21) B.1 B.2.1 (zr_of (by omega) (by omega)) (zr_of (by decide) (by decide)) dX7_pattern_12 (by decide) (fun c_5 => ?_) (fun c_5 => ?_)
    · --
      refine z_iconst B.1 B.2.1 dX7_pattern_21 ?_
      refine lv_istore_n (lv' := [(2, .int (zI 0)), (0, .ref o), (1, .int (zI f))]) B.1 B.2.1 dX7_pattern_22 rfl hl (by decide) rfl (fun ls hl => ?_)
      refine lp7_pat l D cy o q f B hK (S.1 2).toNat 0 (mi S 0 0) _ _ ls (by omega) (by show (0 : Int) + ((S.1 2).toNat : Int) = S.1 2; omega) (by show S.1 2 ≤ 40; omega) hch hM (lv_sub hl [1, 2, 0] rfl) (fun ls H locs hM hl => ?_)
      refine lv_aload_n B.1 B.2.1 dX7_pattern_49 rfl (lv_at hl 0 rfl) ?_
      refine lv_aload_n B.1 B.2.1 dX7_pattern_50 rfl (lv_at hl 0 rfl) ?_
      refine m_get (x := S.1 2) B (i7 _) hK hM 2 (by decide) rfl (by simp only [M_patL_1, mi_ne (show (2 : Nat) ≠ 0 by decide)]) (List.mem_cons_of_mem _ w7_fRX7_101) dX7_pattern_51 ?_
      refine m_put B (i7 _) hK hM 14 (by decide) rfl (by decide +kernel) (List.mem_cons_of_mem _ w7_fRX7_86) dX7_pattern_54 (fun H locs hM => ?_)
      refine lv_aload_n B.1 B.2.1 dX7_pattern_57 rfl (lv_at hl 0 rfl) ?_
      refine z_iconst B.1 B.2.1 dX7_pattern_58 ?_
      refine m_put B (i7 _) hK hM 2 (by decide) rfl (by decide +kernel) (List.mem_cons_of_mem _ w7_fRX7_101) dX7_pattern_59 (fun H locs hM => ?_)
      obtain ⟨hR, hR1, hR2⟩ := hok6 (by omega) (by omega)
      refine lv_aload_n B.1 B.2.1 dX7_pattern_62 rfl (lv_at hl 0 rfl) ?_
      refine m_calli (As := []) (rest := []) B hK hM (cX7_reads_ok l D cy o q (mi (mi (M_patL f (S.1 2).toNat 0 (mi S 0 0)) 14 (S.1 2)) 2 0)  hR) (cw7 0 B w7_mRX7_90 w7_im_yX7_reads w7_sl_yX7_reads w7_cd_yX7_reads rfl rfl (by decide +kernel) ⟨Nat.le_of_ble_eq_true rfl, Nat.le_of_ble_eq_true rfl⟩) rfl hl.1 rfl (Nat.le_of_ble_eq_true rfl) dX7_pattern_63 ⟨Nat.zero_le _, Nat.zero_le _⟩ (fun z_8 S_7 H locs hp_6 hM => ?_)
      obtain ⟨hp_6, he_hp_6⟩ := hp_6
      have he_hp_6 := he_hp_6.symm
      subst he_hp_6
      have hp_6 : (M_reads (mi (mi (M_patL f (S.1 2).toNat 0 (mi S 0 0)) 14 (S.1 2)) 2 0)).1 = z_8 := hp_6.symm
      subst hp_6
      have hr01 := hR1
      refine z_if_ne (tgt := 75) B.1 B.2.1 (zr_of (by omega) (by omega)) dX7_pattern_66 (by decide) (fun c_9 => ?_) (fun c_9 => ?_)
      · --
        have hT := hR2 c_9
        refine lv_aload_n B.1 B.2.1 dX7_pattern_75 rfl (lv_at hl 0 rfl) ?_
        refine lv_iload_n B.1 B.2.1 dX7_pattern_76 rfl (lv_at hl 1 rfl) ?_
        refine m_callv (As := [.int (zI f)]) (rest := []) B hK hM (cX7_take_ok' l D cy o q (M_reads (mi (mi (M_patL f (S.1 2).toNat 0 (mi S 0 0)) 14 (S.1 2)) 2 0)).2 f hT) (cw7 1 B w7_mRX7_94 w7_im_yX7_take w7_sl_yX7_take w7_cd_yX7_take rfl rfl (by decide +kernel) ⟨Nat.le_of_ble_eq_true rfl, Nat.le_of_ble_eq_true rfl⟩) rfl hl.1 rfl (Nat.le_of_ble_eq_true rfl) dX7_pattern_77 ⟨Nat.zero_le _, Nat.zero_le _⟩ (fun S_11 H locs hp_10 hM => ?_)
        have hp_10 := hp_10.symm
        subst hp_10
        refine lv_aload_n B.1 B.2.1 dX7_pattern_80 rfl (lv_at hl 0 rfl) ?_
        refine m_get (x := (M_take f (M_reads (mi (mi (M_patL f (S.1 2).toNat 0 (mi S 0 0)) 14 (S.1 2)) 2 0)).2).1 12) B (i7 _) hK hM 12 (by decide) rfl rfl (List.mem_cons_of_mem _ w7_fRX7_190) dX7_pattern_81 ?_
        have hq : M_pattern f S = ((M_take f (M_reads (mi (mi (M_patL f (S.1 2).toNat 0 (mi S 0 0)) 14 (S.1 2)) 2 0)).2).1 12, (M_take f (M_reads (mi (mi (M_patL f (S.1 2).toNat 0 (mi S 0 0)) 14 (S.1 2)) 2 0)).2)) := by unfold M_pattern; exact ((if_neg c_1).trans ((if_pos c_5).trans (if_neg c_9)))
        exact m_reti B hM (⟨(congrArg Prod.fst hq).symm, (congrArg Prod.snd hq).symm⟩) dX7_pattern_84
      · --
        refine lv_aload_n B.1 B.2.1 dX7_pattern_69 rfl (lv_at hl 0 rfl) ?_
        refine z_iconst B.1 B.2.1 dX7_pattern_70 ?_
        refine m_calli (As := [.int (zI 1)]) (rest := []) B hK hM (cX7_refuse_ok l D cy o q (M_reads (mi (mi (M_patL f (S.1 2).toNat 0 (mi S 0 0)) 14 (S.1 2)) 2 0)).2 1 ) (cw7 1 B w7_mRX7_104 w7_im_yX7_refuse w7_sl_yX7_refuse w7_cd_yX7_refuse rfl rfl (by decide +kernel) ⟨Nat.le_of_ble_eq_true rfl, Nat.le_of_ble_eq_true rfl⟩) rfl hl.1 rfl (Nat.le_of_ble_eq_true rfl) dX7_pattern_71 ⟨Nat.zero_le _, Nat.zero_le _⟩ (fun z_14 S_13 H locs hp_12 hM => ?_)
        obtain ⟨hp_12, he_hp_12⟩ := hp_12
        have he_hp_12 := he_hp_12.symm
        subst he_hp_12
        have hp_12 : 0 = z_14 := hp_12.symm
        subst hp_12
        have hq : M_pattern f S = (0, (mi (M_reads (mi (mi (M_patL f (S.1 2).toNat 0 (mi S 0 0)) 14 (S.1 2)) 2 0)).2 0 1)) := by unfold M_pattern; exact ((if_neg c_1).trans ((if_pos c_5).trans (if_pos c_9)))
        exact m_reti B hM (⟨(congrArg Prod.fst hq).symm, (congrArg Prod.snd hq).symm⟩) dX7_pattern_74
    · --
      refine lv_aload_n B.1 B.2.1 dX7_pattern_15 rfl (lv_at hl 0 rfl) ?_
      refine z_iconst B.1 B.2.1 dX7_pattern_16 ?_
      refine m_calli (As := [.int (zI 1)]) (rest := []) B hK hM (cX7_refuse_ok l D cy o q (mi S 0 0) 1 ) (cw7 1 B w7_mRX7_104 w7_im_yX7_refuse w7_sl_yX7_refuse w7_cd_yX7_refuse rfl rfl (by decide +kernel) ⟨Nat.le_of_ble_eq_true rfl, Nat.le_of_ble_eq_true rfl⟩) rfl hl.1 rfl (Nat.le_of_ble_eq_true rfl) dX7_pattern_17 ⟨Nat.zero_le _, Nat.zero_le _⟩ (fun z_17 S_16 H locs hp_15 hM => ?_)
      obtain ⟨hp_15, he_hp_15⟩ := hp_15
      have he_hp_15 := he_hp_15.symm
      subst he_hp_15
      have hp_15 : 0 = z_17 := hp_15.symm
      subst hp_15
      have hq : M_pattern f S = (0, (mi (mi S 0 0) 0 1)) := by unfold M_pattern; exact ((if_neg c_1).trans (if_neg c_5))
      exact m_reti B hM (⟨(congrArg Prod.fst hq).symm, (congrArg Prod.snd hq).symm⟩) dX7_pattern_20
