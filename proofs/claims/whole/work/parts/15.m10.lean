def M_isGroup (k : Int) (S : MSt) : Int := (if (S.1 42) = 0 then 0 else (if k < 0 then 0 else (if (S.1 12) < k then 0 else 1 : Int) : Int) : Int)
set_option maxHeartbeats 4000000 in
set_option maxRecDepth 100000 in
theorem cX7_isGroup_ok (l : Launch) (D : va_G) (cy : Nat → ClassId) (o : Nat) (q : Nat → Nat) (S : MSt) (k : Int) (hk0 : -2147483648 ≤ k) (hk1 : k ≤ 2147483647) (hf0 : 0 ≤ S.1 42) (hf1 : S.1 42 ≤ 1) (hg0 : 0 ≤ S.1 12) (hg1 : S.1 12 ≤ 9) : mMi l D cy o q yX7_isGroup (.code yX7_isGroup cX7_isGroup 2 (some .boolean) :: TB7) ({ frames := 0, cells := 0, slots := 0, locals := 0 }) S [.int (zI k)] (fun r S' => r = M_isGroup k S ∧ S' = S) := by
  refine m_of (cc := cX7_isGroup) (maxL := 2) (ret := (some .boolean)) (by decide) rfl rfl (Nat.le_of_ble_eq_true rfl) ?_
  intro p e s m args below meth c ls B hK hM hl
  have hl : lv_has ls 2 [(0, .ref o), (1, .int (zI k))] := hl
  refine lv_aload_n B.1 B.2.1 dX7_isGroup_0 rfl (lv_at hl 0 rfl) ?_
  refine m_get (x := S.1 42) B (i7 _) hK hM 42 (by decide) rfl rfl (List.mem_cons_of_mem _ w7_fRX7_199) dX7_isGroup_1 ?_
  refine z_joinH (P := fun v H' locs' => v = (if (S.1 42) = 0 then 0 else (if k < 0 then 0 else (if (S.1 12) < k then 0 else 1 : Int) : Int) : Int) ∧ mH D cy o q (mA o q) s.heap S H' locs') (pcJ := 24) (lsJ := ls) (stJ := []) (fun v_1 H locs hv_2 => ?_) (fun hJ_3 => ?_)
  · --
    obtain ⟨hv_2, hM⟩ := hv_2
    have hb_4 : (if (S.1 42) = 0 then 0 else (if k < 0 then 0 else (if (S.1 12) < k then 0 else 1 : Int) : Int) : Int) = 0 ∨ (if (S.1 42) = 0 then 0 else (if k < 0 then 0 else (if (S.1 12) < k then 0 else 1 : Int) : Int) : Int) = 1 := by (repeat' split) <;> simp
    have hv_2 := hv_2.symm
    subst hv_2
    exact m_retz B hM (by omega) (⟨rfl, rfl⟩) dX7_isGroup_24
  · --
    refine z_if_eq (tgt := 23) B.1 B.2.1 (zr_of (by omega) (by omega)) dX7_isGroup_4 (by decide) (fun c_5 => ?_) (fun c_5 => ?_)
    · --
      refine z_iconst B.1 B.2.1 dX7_isGroup_23 ?_
      exact hJ_3 _ _ _ ⟨(if_pos c_5).symm, hM⟩
    · --
      refine lv_iload_n B.1 B.2.1 dX7_isGroup_7 rfl (lv_at hl 1 rfl) ?_
      refine z_if_lt (tgt := 23) B.1 B.2.1 (zr_of (by omega) (by omega)) dX7_isGroup_8 (by decide) (fun c_6 => ?_) (fun c_6 => ?_)
      · --
        refine z_iconst B.1 B.2.1 dX7_isGroup_23 ?_
        exact hJ_3 _ _ _ ⟨((if_neg c_5).trans (if_pos c_6)).symm, hM⟩
      · --
        refine lv_iload_n B.1 B.2.1 dX7_isGroup_11 rfl (lv_at hl 1 rfl) ?_
        refine lv_aload_n B.1 B.2.1 dX7_isGroup_12 rfl (lv_at hl 0 rfl) ?_
        refine m_get (x := S.1 12) B (i7 _) hK hM 12 (by decide) rfl rfl (List.mem_cons_of_mem _ w7_fRX7_190) dX7_isGroup_13 ?_
        refine z_icmp_gt (tgt := 23) B.1 B.2.1 (zr_of (by omega) (by omega)) (zr_of (by omega) (by omega)) dX7_isGroup_16 (by decide) (fun c_7 => ?_) (fun c_7 => ?_)
        · --
          refine z_iconst B.1 B.2.1 dX7_isGroup_23 ?_
          exact hJ_3 _ _ _ ⟨((if_neg c_5).trans ((if_neg c_6).trans (if_pos c_7))).symm, hM⟩
        · --
          refine z_iconst B.1 B.2.1 dX7_isGroup_19 ?_
          refine lv_goto (tgt := 24) B.1 B.2.1 dX7_isGroup_20 (by decide) ?_
          exact hJ_3 _ _ _ ⟨((if_neg c_5).trans ((if_neg c_6).trans (if_neg c_7))).symm, hM⟩
theorem M_isGroup_01 (k : Int) (S : MSt) : M_isGroup k S = 0 ∨ M_isGroup k S = 1 := by
  unfold M_isGroup
  repeat' (first | exact Or.inl rfl | exact Or.inr rfl | apply ite01)
theorem M_isGroup_in {k : Int} {S : MSt} (h : ¬ M_isGroup k S = 0) : 0 ≤ k ∧ k ≤ S.1 12 := by
  unfold M_isGroup at h
  (repeat' split at h) <;> first | omega | (exact absurd rfl h)
def M_from (k : Int) (S : MSt) : Int × MSt := ((if (M_isGroup k S) = 0 then (-1) else S.2 43 k.toNat : Int), (mi S 0 0))
set_option maxHeartbeats 4000000 in
set_option maxRecDepth 100000 in
theorem cX7_from_ok (l : Launch) (D : va_G) (cy : Nat → ClassId) (o : Nat) (q : Nat → Nat) (S : MSt) (k : Int) (hk0 : -2147483648 ≤ k) (hk1 : k ≤ 2147483647) (hf0 : 0 ≤ S.1 42) (hf1 : S.1 42 ≤ 1) (hg0 : 0 ≤ S.1 12) (hg1 : S.1 12 ≤ 9) : mMi l D cy o q yX7_from (.code yX7_from cX7_from 2 (some .int) :: TB7) ({ frames := 1, cells := 0, slots := 0, locals := 21 }) S [.int (zI k)] (fun r S' => r = (M_from k S).1 ∧ S' = (M_from k S).2) := by
  refine m_of (cc := cX7_from) (maxL := 2) (ret := (some .int)) (by decide) rfl rfl (Nat.le_of_ble_eq_true rfl) ?_
  intro p e s m args below meth c ls B hK hM hl
  have hl : lv_has ls 2 [(0, .ref o), (1, .int (zI k))] := hl
  refine lv_aload_n B.1 B.2.1 dX7_from_0 rfl (lv_at hl 0 rfl) ?_
  refine z_iconst B.1 B.2.1 dX7_from_1 ?_
  refine m_put B (i7 _) hK hM 0 (by decide) rfl (by decide +kernel) (List.mem_cons_of_mem _ w7_fRX7_98) dX7_from_2 (fun H locs hM => ?_)
  refine lv_aload_n B.1 B.2.1 dX7_from_5 rfl (lv_at hl 0 rfl) ?_
  refine lv_iload_n B.1 B.2.1 dX7_from_6 rfl (lv_at hl 1 rfl) ?_
  refine m_calli (As := [.int (zI k)]) (rest := []) B hK hM (cX7_isGroup_ok l D cy o q (mi S 0 0) k (by show -2147483648 ≤ k; omega) (by show k ≤ 2147483647; omega) (by show 0 ≤ (S.1 42); omega) (by show (S.1 42) ≤ 1; omega) (by show 0 ≤ (S.1 12); omega) (by show (S.1 12) ≤ 9; omega)) (cw7 1 B w7_mRX7_289 w7_im_yX7_isGroup w7_sl_yX7_isGroup w7_cd_yX7_isGroup rfl rfl (by decide +kernel) ⟨Nat.le_of_ble_eq_true rfl, Nat.le_of_ble_eq_true rfl⟩) rfl hl.1 rfl (Nat.le_of_ble_eq_true rfl) dX7_from_7 ⟨Nat.zero_le _, Nat.zero_le _⟩ (fun z_3 S_2 H locs hp_1 hM => ?_)
  obtain ⟨hp_1, he_hp_1⟩ := hp_1
  have he_hp_1 := he_hp_1.symm
  subst he_hp_1
  have hp_1 : M_isGroup k S = z_3 := hp_1.symm
  subst hp_1
  have f_4 := M_isGroup_01 k S
  have higr : ¬ M_isGroup k S = 0 → 0 ≤ k ∧ k ≤ S.1 12 := M_isGroup_in
  refine z_joinH (P := fun v H' locs' => v = (if (M_isGroup k S) = 0 then (-1) else S.2 43 k.toNat : Int) ∧ mH D cy o q (mA o q) s.heap (mi S 0 0) H' locs') (pcJ := 23) (lsJ := ls) (stJ := []) (fun v_5 H locs hv_6 => ?_) (fun hJ_7 => ?_)
  · --
    obtain ⟨hv_6, hM⟩ := hv_6
    have hv_6 := hv_6.symm
    subst hv_6
    exact m_reti B hM (⟨rfl, rfl⟩) dX7_from_23
  · --
    refine z_if_eq (tgt := 22) B.1 B.2.1 (zr_of (by omega) (by omega)) dX7_from_10 (by decide) (fun c_8 => ?_) (fun c_8 => ?_)
    · --
      refine z_iconst B.1 B.2.1 dX7_from_22 ?_
      exact hJ_7 _ _ _ ⟨(if_pos c_8).symm, hM⟩
    · --
      have hi := higr (by assumption)
      refine lv_aload_n B.1 B.2.1 dX7_from_13 rfl (lv_at hl 0 rfl) ?_
      refine m_getr B (i7 _) hK hM 43 (by decide) rfl (List.mem_cons_of_mem _ w7_fRX7_74) dX7_from_14 ?_
      refine lv_iload_n B.1 B.2.1 dX7_from_17 rfl (lv_at hl 1 rfl) ?_
      refine m_iald (x := S.2 43 k.toNat) B hK hM 21 43 rfl rfl (by omega) (by simp only [mN]; omega) rfl dX7_from_18 ?_
      refine lv_goto (tgt := 23) B.1 B.2.1 dX7_from_19 (by decide) ?_
      exact hJ_7 _ _ _ ⟨(if_neg c_8).symm, hM⟩
def M_to (k : Int) (S : MSt) : Int × MSt := ((if (M_isGroup k S) = 0 then (-1) else S.2 44 k.toNat : Int), (mi S 0 0))
set_option maxHeartbeats 4000000 in
set_option maxRecDepth 100000 in
theorem cX7_to_ok (l : Launch) (D : va_G) (cy : Nat → ClassId) (o : Nat) (q : Nat → Nat) (S : MSt) (k : Int) (hk0 : -2147483648 ≤ k) (hk1 : k ≤ 2147483647) (hf0 : 0 ≤ S.1 42) (hf1 : S.1 42 ≤ 1) (hg0 : 0 ≤ S.1 12) (hg1 : S.1 12 ≤ 9) : mMi l D cy o q yX7_to (.code yX7_to cX7_to 2 (some .int) :: TB7) ({ frames := 1, cells := 0, slots := 0, locals := 21 }) S [.int (zI k)] (fun r S' => r = (M_to k S).1 ∧ S' = (M_to k S).2) := by
  refine m_of (cc := cX7_to) (maxL := 2) (ret := (some .int)) (by decide) rfl rfl (Nat.le_of_ble_eq_true rfl) ?_
  intro p e s m args below meth c ls B hK hM hl
  have hl : lv_has ls 2 [(0, .ref o), (1, .int (zI k))] := hl
  refine lv_aload_n B.1 B.2.1 dX7_to_0 rfl (lv_at hl 0 rfl) ?_
  refine z_iconst B.1 B.2.1 dX7_to_1 ?_
  refine m_put B (i7 _) hK hM 0 (by decide) rfl (by decide +kernel) (List.mem_cons_of_mem _ w7_fRX7_98) dX7_to_2 (fun H locs hM => ?_)
  refine lv_aload_n B.1 B.2.1 dX7_to_5 rfl (lv_at hl 0 rfl) ?_
  refine lv_iload_n B.1 B.2.1 dX7_to_6 rfl (lv_at hl 1 rfl) ?_
  refine m_calli (As := [.int (zI k)]) (rest := []) B hK hM (cX7_isGroup_ok l D cy o q (mi S 0 0) k (by show -2147483648 ≤ k; omega) (by show k ≤ 2147483647; omega) (by show 0 ≤ (S.1 42); omega) (by show (S.1 42) ≤ 1; omega) (by show 0 ≤ (S.1 12); omega) (by show (S.1 12) ≤ 9; omega)) (cw7 1 B w7_mRX7_289 w7_im_yX7_isGroup w7_sl_yX7_isGroup w7_cd_yX7_isGroup rfl rfl (by decide +kernel) ⟨Nat.le_of_ble_eq_true rfl, Nat.le_of_ble_eq_true rfl⟩) rfl hl.1 rfl (Nat.le_of_ble_eq_true rfl) dX7_to_7 ⟨Nat.zero_le _, Nat.zero_le _⟩ (fun z_3 S_2 H locs hp_1 hM => ?_)
  obtain ⟨hp_1, he_hp_1⟩ := hp_1
  have he_hp_1 := he_hp_1.symm
  subst he_hp_1
  have hp_1 : M_isGroup k S = z_3 := hp_1.symm
  subst hp_1
  have f_4 := M_isGroup_01 k S
  have higr : ¬ M_isGroup k S = 0 → 0 ≤ k ∧ k ≤ S.1 12 := M_isGroup_in
  refine z_joinH (P := fun v H' locs' => v = (if (M_isGroup k S) = 0 then (-1) else S.2 44 k.toNat : Int) ∧ mH D cy o q (mA o q) s.heap (mi S 0 0) H' locs') (pcJ := 23) (lsJ := ls) (stJ := []) (fun v_5 H locs hv_6 => ?_) (fun hJ_7 => ?_)
  · --
    obtain ⟨hv_6, hM⟩ := hv_6
    have hv_6 := hv_6.symm
    subst hv_6
    exact m_reti B hM (⟨rfl, rfl⟩) dX7_to_23
  · --
    refine z_if_eq (tgt := 22) B.1 B.2.1 (zr_of (by omega) (by omega)) dX7_to_10 (by decide) (fun c_8 => ?_) (fun c_8 => ?_)
    · --
      refine z_iconst B.1 B.2.1 dX7_to_22 ?_
      exact hJ_7 _ _ _ ⟨(if_pos c_8).symm, hM⟩
    · --
      have hi := higr (by assumption)
      refine lv_aload_n B.1 B.2.1 dX7_to_13 rfl (lv_at hl 0 rfl) ?_
      refine m_getr B (i7 _) hK hM 44 (by decide) rfl (List.mem_cons_of_mem _ w7_fRX7_77) dX7_to_14 ?_
      refine lv_iload_n B.1 B.2.1 dX7_to_17 rfl (lv_at hl 1 rfl) ?_
      refine m_iald (x := S.2 44 k.toNat) B hK hM 22 44 rfl rfl (by omega) (by simp only [mN]; omega) rfl dX7_to_18 ?_
      refine lv_goto (tgt := 23) B.1 B.2.1 dX7_to_19 (by decide) ?_
      exact hJ_7 _ _ _ ⟨(if_neg c_8).symm, hM⟩
def M_steps (S : MSt) : Int × MSt := (S.1 45, (mi S 0 0))
set_option maxHeartbeats 4000000 in
set_option maxRecDepth 100000 in
theorem cX7_steps_ok (l : Launch) (D : va_G) (cy : Nat → ClassId) (o : Nat) (q : Nat → Nat) (S : MSt)  : mMi l D cy o q yX7_steps (.code yX7_steps cX7_steps 1 (some .int) :: TB7) ({ frames := 0, cells := 0, slots := 0, locals := 0 }) S [] (fun r S' => r = (M_steps S).1 ∧ S' = (M_steps S).2) := by
  refine m_of (cc := cX7_steps) (maxL := 1) (ret := (some .int)) (by decide) rfl rfl (Nat.le_of_ble_eq_true rfl) ?_
  intro p e s m args below meth c ls B hK hM hl
  have hl : lv_has ls 1 [(0, .ref o)] := hl
  refine lv_aload_n B.1 B.2.1 dX7_steps_0 rfl (lv_at hl 0 rfl) ?_
  refine z_iconst B.1 B.2.1 dX7_steps_1 ?_
  refine m_put B (i7 _) hK hM 0 (by decide) rfl (by decide +kernel) (List.mem_cons_of_mem _ w7_fRX7_98) dX7_steps_2 (fun H locs hM => ?_)
  refine lv_aload_n B.1 B.2.1 dX7_steps_5 rfl (lv_at hl 0 rfl) ?_
  refine m_get (x := S.1 45) B (i7 _) hK hM 45 (by decide) rfl rfl (List.mem_cons_of_mem _ w7_fRX7_286) dX7_steps_6 ?_
  exact m_reti B hM (⟨rfl, rfl⟩) dX7_steps_9
def M_start (pl : Int) (S : MSt) : Int × MSt := (if pl < 0 then (0, (mi (mi S 0 0) 0 1)) else (if pl ≤ 24 then (pl, (mi (mi S 0 0) 5 pl)) else (0, (mi (mi S 0 0) 0 1))))
set_option maxHeartbeats 4000000 in
set_option maxRecDepth 100000 in
theorem cX7_start_ok (l : Launch) (D : va_G) (cy : Nat → ClassId) (o : Nat) (q : Nat → Nat) (S : MSt) (pl : Int) (hk0 : -2147483648 ≤ pl) (hk1 : pl ≤ 2147483647) : mMi l D cy o q yX7_start (.code yX7_start cX7_start 2 (some .int) :: TB7) ({ frames := 1, cells := 0, slots := 0, locals := 21 }) S [.int (zI pl)] (fun r S' => r = (M_start pl S).1 ∧ S' = (M_start pl S).2) := by
  refine m_of (cc := cX7_start) (maxL := 2) (ret := (some .int)) (by decide) rfl rfl (Nat.le_of_ble_eq_true rfl) ?_
  intro p e s m args below meth c ls B hK hM hl
  have hl : lv_has ls 2 [(0, .ref o), (1, .int (zI pl))] := hl
  refine lv_aload_n B.1 B.2.1 dX7_start_0 rfl (lv_at hl 0 rfl) ?_
  refine z_iconst B.1 B.2.1 dX7_start_1 ?_
  refine m_put B (i7 _) hK hM 0 (by decide) rfl (by decide +kernel) (List.mem_cons_of_mem _ w7_fRX7_98) dX7_start_2 (fun H locs hM => ?_)
  refine lv_iload_n B.1 B.2.1 dX7_start_5 rfl (lv_at hl 1 rfl) ?_
  refine z_if_lt (tgt := 15) B.1 B.2.1 (zr_of (by omega) (by omega)) dX7_start_6 (by decide) (fun c_1 => ?_) (fun c_1 => ?_)
  · --
    refine lv_aload_n B.1 B.2.1 dX7_start_15 rfl (lv_at hl 0 rfl) ?_
    refine z_iconst B.1 B.2.1 dX7_start_16 ?_
    refine m_calli (As := [.int (zI 1)]) (rest := []) B hK hM (cX7_refuse_ok l D cy o q (mi S 0 0) 1 ) (cw7 1 B w7_mRX7_104 w7_im_yX7_refuse w7_sl_yX7_refuse w7_cd_yX7_refuse rfl rfl (by decide +kernel) ⟨Nat.le_of_ble_eq_true rfl, Nat.le_of_ble_eq_true rfl⟩) rfl hl.1 rfl (Nat.le_of_ble_eq_true rfl) dX7_start_17 ⟨Nat.zero_le _, Nat.zero_le _⟩ (fun z_4 S_3 H locs hp_2 hM => ?_)
    obtain ⟨hp_2, he_hp_2⟩ := hp_2
    have he_hp_2 := he_hp_2.symm
    subst he_hp_2
    have hp_2 : 0 = z_4 := hp_2.symm
    subst hp_2
    have hq : M_start pl S = (0, (mi (mi S 0 0) 0 1)) := by unfold M_start; exact (if_pos c_1)
    exact m_reti B hM (⟨(congrArg Prod.fst hq).symm, (congrArg Prod.snd hq).symm⟩) dX7_start_20
  · --
    refine lv_iload_n B.1 B.2.1 dX7_start_9 rfl (lv_at hl 1 rfl) ?_
    refine z_bipush B.1 B.2.1 (by decide) dX7_start_10 ?_
    refine z_icmp_le (tgt := 21) B.1 B.2.1 (zr_of (by omega) (by omega)) (zr_of (by decide) (by decide)) dX7_start_12 (by decide) (fun c_5 => ?_) (fun c_5 => ?_)
    · --
      refine lv_aload_n B.1 B.2.1 dX7_start_21 rfl (lv_at hl 0 rfl) ?_
      refine lv_iload_n B.1 B.2.1 dX7_start_22 rfl (lv_at hl 1 rfl) ?_
      refine m_put B (i7 _) hK hM 5 (by decide) rfl (by decide +kernel) (List.mem_cons_of_mem _ w7_fRX7_196) dX7_start_23 (fun H locs hM => ?_)
      refine lv_iload_n B.1 B.2.1 dX7_start_26 rfl (lv_at hl 1 rfl) ?_
      have hq : M_start pl S = (pl, (mi (mi S 0 0) 5 pl)) := by unfold M_start; exact ((if_neg c_1).trans (if_pos c_5))
      exact m_reti B hM (⟨(congrArg Prod.fst hq).symm, (congrArg Prod.snd hq).symm⟩) dX7_start_27
    · --
      refine lv_aload_n B.1 B.2.1 dX7_start_15 rfl (lv_at hl 0 rfl) ?_
      refine z_iconst B.1 B.2.1 dX7_start_16 ?_
      refine m_calli (As := [.int (zI 1)]) (rest := []) B hK hM (cX7_refuse_ok l D cy o q (mi S 0 0) 1 ) (cw7 1 B w7_mRX7_104 w7_im_yX7_refuse w7_sl_yX7_refuse w7_cd_yX7_refuse rfl rfl (by decide +kernel) ⟨Nat.le_of_ble_eq_true rfl, Nat.le_of_ble_eq_true rfl⟩) rfl hl.1 rfl (Nat.le_of_ble_eq_true rfl) dX7_start_17 ⟨Nat.zero_le _, Nat.zero_le _⟩ (fun z_8 S_7 H locs hp_6 hM => ?_)
      obtain ⟨hp_6, he_hp_6⟩ := hp_6
      have he_hp_6 := he_hp_6.symm
      subst he_hp_6
      have hp_6 : 0 = z_8 := hp_6.symm
      subst hp_6
      have hq : M_start pl S = (0, (mi (mi S 0 0) 0 1)) := by unfold M_start; exact ((if_neg c_1).trans (if_neg c_5))
      exact m_reti B hM (⟨(congrArg Prod.fst hq).symm, (congrArg Prod.snd hq).symm⟩) dX7_start_20
def M_write (x : Int) (S : MSt) : MSt := (if 260 ≤ (S.1 49) then (mi S 49 ((S.1 49) + ((if 260 ≤ (S.1 49) then 0 else 1 : Int)))) else (mi (ma S 48 (S.1 49).toNat x) 49 ((S.1 49) + ((if 260 ≤ (S.1 49) then 0 else 1 : Int)))))
set_option maxHeartbeats 4000000 in
set_option maxRecDepth 100000 in
theorem cX7_write_ok (l : Launch) (D : va_G) (cy : Nat → ClassId) (o : Nat) (q : Nat → Nat) (S : MSt) (x : Int) (hx0 : 0 ≤ x) (hx1 : x < 65536) (hn0 : 0 ≤ S.1 49) (hn1 : S.1 49 ≤ 260) : mMv l D cy o q yX7_write (.code yX7_write cX7_write 2 none :: TB7) ({ frames := 0, cells := 0, slots := 0, locals := 0 }) S [.int (zI x)] (fun S' => S' = M_write x S) := by
  refine m_of (cc := cX7_write) (maxL := 2) (ret := none) (by decide) rfl rfl (Nat.le_of_ble_eq_true rfl) ?_
  intro p e s m args below meth c ls B hK hM hl
  have hl : lv_has ls 2 [(0, .ref o), (1, .int (zI x))] := hl
  refine lv_aload_n B.1 B.2.1 dX7_write_0 rfl (lv_at hl 0 rfl) ?_
  refine m_get (x := S.1 49) B (i7 _) hK hM 49 (by decide) rfl rfl (List.mem_cons_of_mem _ w7_fRX7_292) dX7_write_1 ?_
  refine z_sipush B.1 B.2.1 (by decide) dX7_write_4 ?_
  refine z_icmp_ge (tgt := 21) B.1 B.2.1 (zr_of (by omega) (by omega)) (zr_of (by decide) (by decide)) dX7_write_7 (by decide) (fun c_1 => ?_) (fun c_1 => ?_)
  · --
    refine lv_aload_n B.1 B.2.1 dX7_write_21 rfl (lv_at hl 0 rfl) ?_
    refine lv_dup B.1 B.2.1 dX7_write_22 rfl ?_
    refine m_get (x := S.1 49) B (i7 _) hK hM 49 (by decide) rfl rfl (List.mem_cons_of_mem _ w7_fRX7_292) dX7_write_23 ?_
    refine lv_aload_n B.1 B.2.1 dX7_write_26 rfl (lv_at hl 0 rfl) ?_
    refine m_get (x := S.1 49) B (i7 _) hK hM 49 (by decide) rfl rfl (List.mem_cons_of_mem _ w7_fRX7_292) dX7_write_27 ?_
    refine z_sipush B.1 B.2.1 (by decide) dX7_write_30 ?_
    refine z_joinH (P := fun v H' locs' => v = (if 260 ≤ (S.1 49) then 0 else 1 : Int) ∧ mH D cy o q (mA o q) s.heap S H' locs') (pcJ := 41) (lsJ := ls) (stJ := [.int (zI (S.1 49)), .ref o]) (fun v_2 H locs hv_3 => ?_) (fun hJ_4 => ?_)
    · --
      obtain ⟨hv_3, hM⟩ := hv_3
      have hb_5 : (if 260 ≤ (S.1 49) then 0 else 1 : Int) = 0 ∨ (if 260 ≤ (S.1 49) then 0 else 1 : Int) = 1 := by (repeat' split) <;> simp
      have hv_3 := hv_3.symm
      subst hv_3
      refine z_iadd (x := (S.1 49) + ((if 260 ≤ (S.1 49) then 0 else 1 : Int))) B.1 B.2.1 rfl dX7_write_41 ?_
      refine m_put B (i7 _) hK hM 49 (by decide) rfl (by decide +kernel) (List.mem_cons_of_mem _ w7_fRX7_292) dX7_write_42 (fun H locs hM => ?_)
      exact m_retv B hM (by unfold M_write; exact (if_pos c_1).symm) dX7_write_45
    · --
      refine z_icmp_ge (tgt := 40) B.1 B.2.1 (zr_of (by omega) (by omega)) (zr_of (by decide) (by decide)) dX7_write_33 (by decide) (fun c_6 => ?_) (fun c_6 => ?_)
      · --
        refine z_iconst B.1 B.2.1 dX7_write_40 ?_
        exact hJ_4 _ _ _ ⟨(if_pos c_6).symm, hM⟩
      · --
        refine z_iconst B.1 B.2.1 dX7_write_36 ?_
        refine lv_goto (tgt := 41) B.1 B.2.1 dX7_write_37 (by decide) ?_
        exact hJ_4 _ _ _ ⟨(if_neg c_6).symm, hM⟩
  · --
    refine lv_aload_n B.1 B.2.1 dX7_write_10 rfl (lv_at hl 0 rfl) ?_
    refine m_getr B (i7 _) hK hM 48 (by decide) rfl (List.mem_cons_of_mem _ w7_fRX7_83) dX7_write_11 ?_
    refine lv_aload_n B.1 B.2.1 dX7_write_14 rfl (lv_at hl 0 rfl) ?_
    refine m_get (x := S.1 49) B (i7 _) hK hM 49 (by decide) rfl rfl (List.mem_cons_of_mem _ w7_fRX7_292) dX7_write_15 ?_
    refine lv_iload_n B.1 B.2.1 dX7_write_18 rfl (lv_at hl 1 rfl) ?_
    refine z_i2c B.1 B.2.1 (by omega) (by omega) dX7_write_19 ?_
    refine m_cast B hK hM 24 48 rfl rfl (by omega) (by simp only [mN]; omega) (by omega) (by omega) dX7_write_20 (fun H locs hM => ?_)
    refine lv_aload_n B.1 B.2.1 dX7_write_21 rfl (lv_at hl 0 rfl) ?_
    refine lv_dup B.1 B.2.1 dX7_write_22 rfl ?_
    refine m_get (x := S.1 49) B (i7 _) hK hM 49 (by decide) rfl rfl (List.mem_cons_of_mem _ w7_fRX7_292) dX7_write_23 ?_
    refine lv_aload_n B.1 B.2.1 dX7_write_26 rfl (lv_at hl 0 rfl) ?_
    refine m_get (x := S.1 49) B (i7 _) hK hM 49 (by decide) rfl rfl (List.mem_cons_of_mem _ w7_fRX7_292) dX7_write_27 ?_
    refine z_sipush B.1 B.2.1 (by decide) dX7_write_30 ?_
    refine z_joinH (P := fun v H' locs' => v = (if 260 ≤ (S.1 49) then 0 else 1 : Int) ∧ mH D cy o q (mA o q) s.heap (ma S 48 (S.1 49).toNat x) H' locs') (pcJ := 41) (lsJ := ls) (stJ := [.int (zI (S.1 49)), .ref o]) (fun v_7 H locs hv_8 => ?_) (fun hJ_9 => ?_)
    · --
      obtain ⟨hv_8, hM⟩ := hv_8
      have hb_10 : (if 260 ≤ (S.1 49) then 0 else 1 : Int) = 0 ∨ (if 260 ≤ (S.1 49) then 0 else 1 : Int) = 1 := by (repeat' split) <;> simp
      have hv_8 := hv_8.symm
      subst hv_8
      refine z_iadd (x := (S.1 49) + ((if 260 ≤ (S.1 49) then 0 else 1 : Int))) B.1 B.2.1 rfl dX7_write_41 ?_
      refine m_put B (i7 _) hK hM 49 (by decide) rfl (by decide +kernel) (List.mem_cons_of_mem _ w7_fRX7_292) dX7_write_42 (fun H locs hM => ?_)
      exact m_retv B hM (by unfold M_write; exact (if_neg c_1).symm) dX7_write_45
    · --
      refine z_icmp_ge (tgt := 40) B.1 B.2.1 (zr_of (by omega) (by omega)) (zr_of (by decide) (by decide)) dX7_write_33 (by decide) (fun c_11 => ?_) (fun c_11 => ?_)
      · --
        refine z_iconst B.1 B.2.1 dX7_write_40 ?_
        exact hJ_9 _ _ _ ⟨(if_pos c_11).symm, hM⟩
      · --
        refine z_iconst B.1 B.2.1 dX7_write_36 ?_
        refine lv_goto (tgt := 41) B.1 B.2.1 dX7_write_37 (by decide) ?_
        exact hJ_9 _ _ _ ⟨(if_neg c_11).symm, hM⟩
def M_resetL (pp : Int) : Nat → Int → MSt → MSt
  | 0, _, T => T
  | n + 1, r, T => M_resetL pp n (r + 1) ((ma T 33 r.toNat (-1)))
theorem M_resetL_1 (pp : Int) : ∀ (n : Nat) (r : Int) (T : MSt), (M_resetL pp n r T).1 = T.1
  | 0, _, _ => rfl
  | n + 1, r, T => by rw [M_resetL, M_resetL_1 pp n]; rfl
theorem M_resetL_2 (pp : Int) {a : Nat} (h33 : a ≠ 33) : ∀ (n : Nat) (r : Int) (T : MSt), (M_resetL pp n r T).2 a = T.2 a
  | 0, _, _ => rfl
  | n + 1, r, T => by rw [M_resetL, M_resetL_2 pp h33 n]; rw [ma_ne h33]
set_option maxHeartbeats 4000000 in
set_option maxRecDepth 100000 in
theorem lp7_reset (l : Launch) (D : va_G) (cy : Nat → ClassId) (o : Nat) (q : Nat → Nat) (pp : Int)  {p : Program} {e : Env} {R : Room} {s : State} {m : MethodId} {args : Array Value} {below : List Frame} {meth : Method} {c : Code} {cells slots : Nat} {A : Nat → Prop} {H0 : Heap} {Q : State → Prop} (B : zAt p s m args meth c RX7 cX7_tries 3 (some .boolean) (.code yX7_tries cX7_tries 3 (some .boolean) :: TB7)) (hK : va_K D vwCl (zTY cy) s) :
    ∀ (n : Nat) (r : Int) (T : MSt) (H : Heap) (locs : List Loc) (ls : Array Slot), (0 ≤ r) → (r + n = 180) → mH D cy o q A H0 T H locs → lv_has ls 3 [(0, .ref o), (1, .int (zI pp)), (2, .int (zI r))] → (∀ (ls' : Array Slot) (H' : Heap) (locs' : List Loc), mH D cy o q A H0 (M_resetL pp n r T) H' locs' → lv_has ls' 3 [(0, .ref o), (1, .int (zI pp))] → W p l e R s m args below meth c H' locs' cells slots Q (F0 m 22 ls' [])) → W p l e R s m args below meth c H locs cells slots Q (F0 m 2 ls []) := by
  intro n
  induction n with
  | zero =>
    intro r T H locs ls hr0 hrn hM hl kk
    refine lv_iload_n B.1 B.2.1 dX7_tries_2 rfl (lv_at hl 2 rfl) ?_
    refine z_sipush B.1 B.2.1 (by decide) dX7_tries_3 ?_
    refine z_icmp_ge (tgt := 22) B.1 B.2.1 (zr_of (by omega) (by omega)) (zr_of (by decide) (by decide)) dX7_tries_6 (by decide) (fun c_1 => ?_) (fun c_1 => ?_)
    · --
      exact kk ls H locs hM (lv_sub hl [0, 1] rfl)
    · exact absurd c_1 (by omega)
  | succ n ih =>
    intro r T H locs ls hr0 hrn hM hl kk
    refine lv_iload_n B.1 B.2.1 dX7_tries_2 rfl (lv_at hl 2 rfl) ?_
    refine z_sipush B.1 B.2.1 (by decide) dX7_tries_3 ?_
    refine z_icmp_ge (tgt := 22) B.1 B.2.1 (zr_of (by omega) (by omega)) (zr_of (by decide) (by decide)) dX7_tries_6 (by decide) (fun c_1 => ?_) (fun c_1 => ?_)
    · exact absurd c_1 (by omega)
    · --
      refine lv_aload_n B.1 B.2.1 dX7_tries_9 rfl (lv_at hl 0 rfl) ?_
      refine m_getr B (i7 _) hK hM 33 (by decide) rfl (List.mem_cons_of_mem _ w7_fRX7_65) dX7_tries_10 ?_
      refine lv_iload_n B.1 B.2.1 dX7_tries_13 rfl (lv_at hl 2 rfl) ?_
      refine z_iconst B.1 B.2.1 dX7_tries_14 ?_
      refine m_iast B hK hM 18 33 rfl rfl (by omega) (by simp only [mN]; omega) dX7_tries_15 (fun H locs hM => ?_)
      refine z_iinc (v := r + 1) (lv' := [(2, .int (zI (r + 1))), (0, .ref o), (1, .int (zI pp))]) B.1 B.2.1 dX7_tries_16 hl (k := 2) rfl rfl (by decide) rfl (fun ls hl => ?_)
      refine lv_goto (tgt := 2) B.1 B.2.1 dX7_tries_19 (by decide) ?_
      exact ih (r + 1) ((ma T 33 r.toNat (-1))) H locs ls (by omega) (by omega) hM (lv_sub hl [1, 2, 0] rfl) kk
theorem m_retc {p : Program} {l : Launch} {e : Env} {R : Room} {s : State} {m : MethodId} {args : Array Value} {below : List Frame} {meth : Method} {c : Code} {H : Heap} {locs : List Loc} {cells slots : Nat} {cc : ByteArray} {pc : Nat} {ls : Array Slot} {D : va_G} {cy : Nat → ClassId} {o : Nat} {q : Nat → Nat} {S : MSt} {maxL : Nat} {ws : List Cond} {post : Int → MSt → Prop} (B : zAt p s m args meth c RX7 cc maxL (some .char) ws) (h : mH D cy o q (mA o q) s.heap S H locs) {r : Int} (h0 : 0 ≤ r) (h1 : r < 65536) (hp : post r S) (hd : decode cc pc = .ok (.ireturn, 1)) : W p l e R s m args below meth c H locs cells slots (MQ below (mQi D cy o q post) args s cells slots (mA o q)) (F0 m pc ls [.int (zI r)]) :=
  W.zret (v := zI r) B.1 B.2.1 B.2.2.2.2.2.1 (by
    obtain ⟨n, rfl⟩ : ∃ n : Nat, r = n := ⟨r.toNat, by omega⟩
    have h2 : zI n = nI n := Int32.ofInt_eq_ofNat
    rw [h2]
    exact (pk_charN (q := n) (by omega)).1) (fun t ht _ => ⟨⟨zI r, (r, S), rfl, ⟨rfl, hp⟩, by show va_P _ _ _ _; rw [ht]; exact h.1⟩, h.2.2.F ht⟩) h.2.2.2.2 hd B.2.2.2.2.2.2
def M_result (pl : Int) (S : MSt) : Int × MSt := ((if ((if pl < 0 then 1 else (if (S.1 47) ≤ pl then 1 else 0 : Int) : Int)) = 0 then S.2 46 pl.toNat else 32 : Int), (mi S 0 ((if pl < 0 then 1 else (if (S.1 47) ≤ pl then 1 else 0 : Int) : Int))))
set_option maxHeartbeats 4000000 in
set_option maxRecDepth 100000 in
theorem cX7_result_ok (l : Launch) (D : va_G) (cy : Nat → ClassId) (o : Nat) (q : Nat → Nat) (S : MSt) (pl : Int) (hk0 : -2147483648 ≤ pl) (hk1 : pl ≤ 2147483647) (hn0 : 0 ≤ S.1 47) (hn1 : S.1 47 ≤ 200) (hch : ∀ j, 0 ≤ S.2 46 j ∧ S.2 46 j ≤ 126) : mMi l D cy o q yX7_result (.code yX7_result cX7_result 2 (some .char) :: TB7) ({ frames := 0, cells := 0, slots := 0, locals := 0 }) S [.int (zI pl)] (fun r S' => r = (M_result pl S).1 ∧ S' = (M_result pl S).2) := by
  refine m_of (cc := cX7_result) (maxL := 2) (ret := (some .char)) (by decide) rfl rfl (Nat.le_of_ble_eq_true rfl) ?_
  intro p e s m args below meth c ls B hK hM hl
  have hl : lv_has ls 2 [(0, .ref o), (1, .int (zI pl))] := hl
  refine lv_aload_n B.1 B.2.1 dX7_result_0 rfl (lv_at hl 0 rfl) ?_
  refine lv_iload_n B.1 B.2.1 dX7_result_1 rfl (lv_at hl 1 rfl) ?_
  refine z_joinH (P := fun v H' locs' => v = (if pl < 0 then 1 else (if (S.1 47) ≤ pl then 1 else 0 : Int) : Int) ∧ mH D cy o q (mA o q) s.heap S H' locs') (pcJ := 18) (lsJ := ls) (stJ := [.ref o]) (fun v_1 H locs hv_2 => ?_) (fun hJ_3 => ?_)
  · --
    obtain ⟨hv_2, hM⟩ := hv_2
    have hb_4 : (if pl < 0 then 1 else (if (S.1 47) ≤ pl then 1 else 0 : Int) : Int) = 0 ∨ (if pl < 0 then 1 else (if (S.1 47) ≤ pl then 1 else 0 : Int) : Int) = 1 := by (repeat' split) <;> simp
    have hv_2 := hv_2.symm
    subst hv_2
    refine m_put B (i7 _) hK hM 0 (by decide) rfl (by decide +kernel) (List.mem_cons_of_mem _ w7_fRX7_98) dX7_result_18 (fun H locs hM => ?_)
    refine lv_aload_n B.1 B.2.1 dX7_result_21 rfl (lv_at hl 0 rfl) ?_
    refine m_get (x := (if pl < 0 then 1 else (if (S.1 47) ≤ pl then 1 else 0 : Int) : Int)) B (i7 _) hK hM 0 (by decide) rfl rfl (List.mem_cons_of_mem _ w7_fRX7_98) dX7_result_22 ?_
    refine z_joinH (P := fun v H' locs' => v = (if ((if pl < 0 then 1 else (if (S.1 47) ≤ pl then 1 else 0 : Int) : Int)) = 0 then S.2 46 pl.toNat else 32 : Int) ∧ mH D cy o q (mA o q) s.heap (mi S 0 ((if pl < 0 then 1 else (if (S.1 47) ≤ pl then 1 else 0 : Int) : Int))) H' locs') (pcJ := 39) (lsJ := ls) (stJ := []) (fun v_5 H locs hv_6 => ?_) (fun hJ_7 => ?_)
    · --
      obtain ⟨hv_6, hM⟩ := hv_6
      have hv_6 := hv_6.symm
      subst hv_6
      have hf9 := hch (pl).toNat
      exact m_retc B hM (by omega) (by omega) (⟨rfl, rfl⟩) dX7_result_39
    · --
      refine z_if_ne (tgt := 37) B.1 B.2.1 (zr_of (by omega) (by omega)) dX7_result_25 (by decide) (fun c_8 => ?_) (fun c_8 => ?_)
      · --
        refine z_bipush B.1 B.2.1 (by decide) dX7_result_37 ?_
        exact hJ_7 _ _ _ ⟨(if_neg c_8).symm, hM⟩
      · --
        refine lv_aload_n B.1 B.2.1 dX7_result_28 rfl (lv_at hl 0 rfl) ?_
        refine m_getr B (i7 _) hK hM 46 (by decide) rfl (List.mem_cons_of_mem _ w7_fRX7_80) dX7_result_29 ?_
        refine lv_iload_n B.1 B.2.1 dX7_result_32 rfl (lv_at hl 1 rfl) ?_
        have f_9 := hch pl.toNat
        refine m_cald (x := S.2 46 pl.toNat) B hK hM 23 46 rfl rfl (by omega) (by simp only [mN]; omega) rfl dX7_result_33 ?_
        refine lv_goto (tgt := 39) B.1 B.2.1 dX7_result_34 (by decide) ?_
        exact hJ_7 _ _ _ ⟨(if_pos c_8).symm, hM⟩
  · --
    refine z_if_lt (tgt := 17) B.1 B.2.1 (zr_of (by omega) (by omega)) dX7_result_2 (by decide) (fun c_10 => ?_) (fun c_10 => ?_)
    · --
      refine z_iconst B.1 B.2.1 dX7_result_17 ?_
      exact hJ_3 _ _ _ ⟨(if_pos c_10).symm, hM⟩
    · --
      refine lv_iload_n B.1 B.2.1 dX7_result_5 rfl (lv_at hl 1 rfl) ?_
      refine lv_aload_n B.1 B.2.1 dX7_result_6 rfl (lv_at hl 0 rfl) ?_
      refine m_get (x := S.1 47) B (i7 _) hK hM 47 (by decide) rfl rfl (List.mem_cons_of_mem _ w7_fRX7_304) dX7_result_7 ?_
      refine z_icmp_ge (tgt := 17) B.1 B.2.1 (zr_of (by omega) (by omega)) (zr_of (by omega) (by omega)) dX7_result_10 (by decide) (fun c_11 => ?_) (fun c_11 => ?_)
      · --
        refine z_iconst B.1 B.2.1 dX7_result_17 ?_
        exact hJ_3 _ _ _ ⟨((if_neg c_10).trans (if_pos c_11)).symm, hM⟩
      · --
        refine z_iconst B.1 B.2.1 dX7_result_13 ?_
        refine lv_goto (tgt := 18) B.1 B.2.1 dX7_result_14 (by decide) ?_
        exact hJ_3 _ _ _ ⟨((if_neg c_10).trans (if_neg c_11)).symm, hM⟩
def M_textL  : Nat → Int → MSt → MSt
  | 0, _, T => T
  | n + 1, k, T => M_textL  n (k + 1) ((ma T 3 k.toNat (T.2 1 k.toNat)))
theorem M_textL_1  : ∀ (n : Nat) (k : Int) (T : MSt), (M_textL  n k T).1 = T.1
  | 0, _, _ => rfl
  | n + 1, k, T => by rw [M_textL, M_textL_1  n]; rfl
theorem M_textL_2  {a : Nat} (h3 : a ≠ 3) : ∀ (n : Nat) (k : Int) (T : MSt), (M_textL  n k T).2 a = T.2 a
  | 0, _, _ => rfl
  | n + 1, k, T => by rw [M_textL, M_textL_2  h3 n]; rw [ma_ne h3]
set_option maxHeartbeats 4000000 in
set_option maxRecDepth 100000 in
theorem lp7_text (l : Launch) (D : va_G) (cy : Nat → ClassId) (o : Nat) (q : Nat → Nat)   {p : Program} {e : Env} {R : Room} {s : State} {m : MethodId} {args : Array Value} {below : List Frame} {meth : Method} {c : Code} {cells slots : Nat} {A : Nat → Prop} {H0 : Heap} {Q : State → Prop} (B : zAt p s m args meth c RX7 cX7_text 2 (some .int) (.code yX7_text cX7_text 2 (some .int) :: TB7)) (hK : va_K D vwCl (zTY cy) s) :
    ∀ (n : Nat) (k : Int) (T : MSt) (H : Heap) (locs : List Loc) (ls : Array Slot), (0 ≤ k) → (k + n = T.1 2) → (T.1 2 ≤ 24) → (∀ j, 0 ≤ T.2 1 j ∧ T.2 1 j ≤ 126) → mH D cy o q A H0 T H locs → lv_has ls 2 [(0, .ref o), (1, .int (zI k))] → (∀ (ls' : Array Slot) (H' : Heap) (locs' : List Loc), mH D cy o q A H0 (M_textL  n k T) H' locs' → lv_has ls' 2 [(0, .ref o)] → W p l e R s m args below meth c H' locs' cells slots Q (F0 m 48 ls' [])) → W p l e R s m args below meth c H locs cells slots Q (F0 m 22 ls []) := by
  intro n
  induction n with
  | zero =>
    intro k T H locs ls hk0 hkn hb hch hM hl kk
    refine lv_iload_n B.1 B.2.1 dX7_text_22 rfl (lv_at hl 1 rfl) ?_
    refine lv_aload_n B.1 B.2.1 dX7_text_23 rfl (lv_at hl 0 rfl) ?_
    refine m_get (x := T.1 2) B (i7 _) hK hM 2 (by decide) rfl rfl (List.mem_cons_of_mem _ w7_fRX7_101) dX7_text_24 ?_
    refine z_icmp_ge (tgt := 48) B.1 B.2.1 (zr_of (by omega) (by omega)) (zr_of (by omega) (by omega)) dX7_text_27 (by decide) (fun c_1 => ?_) (fun c_1 => ?_)
    · --
      exact kk ls H locs hM (lv_sub hl [0] rfl)
    · exact absurd c_1 (by omega)
  | succ n ih =>
    intro k T H locs ls hk0 hkn hb hch hM hl kk
    refine lv_iload_n B.1 B.2.1 dX7_text_22 rfl (lv_at hl 1 rfl) ?_
    refine lv_aload_n B.1 B.2.1 dX7_text_23 rfl (lv_at hl 0 rfl) ?_
    refine m_get (x := T.1 2) B (i7 _) hK hM 2 (by decide) rfl rfl (List.mem_cons_of_mem _ w7_fRX7_101) dX7_text_24 ?_
    refine z_icmp_ge (tgt := 48) B.1 B.2.1 (zr_of (by omega) (by omega)) (zr_of (by omega) (by omega)) dX7_text_27 (by decide) (fun c_1 => ?_) (fun c_1 => ?_)
    · exact absurd c_1 (by omega)
    · --
      refine lv_aload_n B.1 B.2.1 dX7_text_30 rfl (lv_at hl 0 rfl) ?_
      refine m_getr B (i7 _) hK hM 3 (by decide) rfl (List.mem_cons_of_mem _ w7_fRX7_13) dX7_text_31 ?_
      refine lv_iload_n B.1 B.2.1 dX7_text_34 rfl (lv_at hl 1 rfl) ?_
      refine lv_aload_n B.1 B.2.1 dX7_text_35 rfl (lv_at hl 0 rfl) ?_
      refine m_getr B (i7 _) hK hM 1 (by decide) rfl (List.mem_cons_of_mem _ w7_fRX7_7) dX7_text_36 ?_
      refine lv_iload_n B.1 B.2.1 dX7_text_39 rfl (lv_at hl 1 rfl) ?_
      have f_2 := hch k.toNat
      refine m_cald (x := T.2 1 k.toNat) B hK hM 0 1 rfl rfl (by omega) (by simp only [mN]; omega) rfl dX7_text_40 ?_
      refine m_cast B hK hM 1 3 rfl rfl (by omega) (by simp only [mN]; omega) (by omega) (by omega) dX7_text_41 (fun H locs hM => ?_)
      refine z_iinc (v := k + 1) (lv' := [(1, .int (zI (k + 1))), (0, .ref o)]) B.1 B.2.1 dX7_text_42 hl (k := 1) rfl rfl (by decide) rfl (fun ls hl => ?_)
      refine lv_goto (tgt := 22) B.1 B.2.1 dX7_text_45 (by decide) ?_
      exact ih (k + 1) ((ma T 3 k.toNat (T.2 1 k.toNat))) H locs ls (by omega) (by show k + 1 + n = T.1 2; omega) hb hch hM (lv_sub hl [1, 0] rfl) kk
def M_text (S : MSt) : Int × MSt := (if (S.1 2) ≤ 24 then (S.1 2, (mi (mi (mi (mi (M_textL (S.1 2).toNat 0 (mi S 0 0)) 4 (S.1 2)) 2 0) 5 0) 42 0)) else (0, (mi (mi S 0 0) 0 1)))
set_option maxHeartbeats 4000000 in
set_option maxRecDepth 100000 in
theorem cX7_text_ok (l : Launch) (D : va_G) (cy : Nat → ClassId) (o : Nat) (q : Nat → Nat) (S : MSt) (hc0 : 0 ≤ S.1 2) (hc1 : S.1 2 ≤ 40) (hch : ∀ j, 0 ≤ S.2 1 j ∧ S.2 1 j ≤ 126) : mMi l D cy o q yX7_text (.code yX7_text cX7_text 2 (some .int) :: TB7) ({ frames := 1, cells := 0, slots := 0, locals := 21 }) S [] (fun r S' => r = (M_text S).1 ∧ S' = (M_text S).2) := by
  refine m_of (cc := cX7_text) (maxL := 2) (ret := (some .int)) (by decide) rfl rfl (Nat.le_of_ble_eq_true rfl) ?_
  intro p e s m args below meth c ls B hK hM hl
  have hl : lv_has ls 2 [(0, .ref o)] := hl
  refine lv_aload_n B.1 B.2.1 dX7_text_0 rfl (lv_at hl 0 rfl) ?_
  refine z_iconst B.1 B.2.1 dX7_text_1 ?_
  refine m_put B (i7 _) hK hM 0 (by decide) rfl (by decide +kernel) (List.mem_cons_of_mem _ w7_fRX7_98) dX7_text_2 (fun H locs hM => ?_)
  refine lv_aload_n B.1 B.2.1 dX7_text_5 rfl (lv_at hl 0 rfl) ?_
  refine m_get (x := S.1 2) B (i7 _) hK hM 2 (by decide) rfl rfl (List.mem_cons_of_mem _ w7_fRX7_101) dX7_text_6 ?_
  refine z_bipush B.1 B.2.1 (by decide) dX7_text_9 ?_
  refine z_icmp_le (tgt := 20) B.1 B.2.1 (zr_of (by omega) (by omega)) (zr_of (by decide) (by decide)) dX7_text_11 (by decide) (fun c_1 => ?_) (fun c_1 => ?_)
  · --
    refine z_iconst B.1 B.2.1 dX7_text_20 ?_
    refine lv_istore_n (lv' := [(1, .int (zI 0)), (0, .ref o)]) B.1 B.2.1 dX7_text_21 rfl hl (by decide) rfl (fun ls hl => ?_)
    refine lp7_text l D cy o q  B hK (S.1 2).toNat 0 (mi S 0 0) _ _ ls (by omega) (by show (0 : Int) + ((S.1 2).toNat : Int) = S.1 2; omega) (by show S.1 2 ≤ 24; omega) hch hM (lv_sub hl [1, 0] rfl) (fun ls H locs hM hl => ?_)
    refine lv_aload_n B.1 B.2.1 dX7_text_48 rfl (lv_at hl 0 rfl) ?_
    refine lv_aload_n B.1 B.2.1 dX7_text_49 rfl (lv_at hl 0 rfl) ?_
    refine m_get (x := S.1 2) B (i7 _) hK hM 2 (by decide) rfl (by simp only [M_textL_1, mi_ne (show (2 : Nat) ≠ 0 by decide)]) (List.mem_cons_of_mem _ w7_fRX7_101) dX7_text_50 ?_
    refine m_put B (i7 _) hK hM 4 (by decide) rfl (by decide +kernel) (List.mem_cons_of_mem _ w7_fRX7_202) dX7_text_53 (fun H locs hM => ?_)
    refine lv_aload_n B.1 B.2.1 dX7_text_56 rfl (lv_at hl 0 rfl) ?_
    refine z_iconst B.1 B.2.1 dX7_text_57 ?_
    refine m_put B (i7 _) hK hM 2 (by decide) rfl (by decide +kernel) (List.mem_cons_of_mem _ w7_fRX7_101) dX7_text_58 (fun H locs hM => ?_)
    refine lv_aload_n B.1 B.2.1 dX7_text_61 rfl (lv_at hl 0 rfl) ?_
    refine z_iconst B.1 B.2.1 dX7_text_62 ?_
    refine m_put B (i7 _) hK hM 5 (by decide) rfl (by decide +kernel) (List.mem_cons_of_mem _ w7_fRX7_196) dX7_text_63 (fun H locs hM => ?_)
    refine lv_aload_n B.1 B.2.1 dX7_text_66 rfl (lv_at hl 0 rfl) ?_
    refine z_iconst B.1 B.2.1 dX7_text_67 ?_
    refine m_putz B (i7 _) hK hM 42 (by decide) rfl (by decide) (by decide +kernel) (List.mem_cons_of_mem _ w7_fRX7_199) dX7_text_68 (fun H locs hM => ?_)
    refine lv_aload_n B.1 B.2.1 dX7_text_71 rfl (lv_at hl 0 rfl) ?_
    refine m_get (x := S.1 2) B (i7 _) hK hM 4 (by decide) rfl rfl (List.mem_cons_of_mem _ w7_fRX7_202) dX7_text_72 ?_
    have hq : M_text S = (S.1 2, (mi (mi (mi (mi (M_textL (S.1 2).toNat 0 (mi S 0 0)) 4 (S.1 2)) 2 0) 5 0) 42 0)) := by unfold M_text; exact (if_pos c_1)
    exact m_reti B hM (⟨(congrArg Prod.fst hq).symm, (congrArg Prod.snd hq).symm⟩) dX7_text_75
  · --
    refine lv_aload_n B.1 B.2.1 dX7_text_14 rfl (lv_at hl 0 rfl) ?_
    refine z_iconst B.1 B.2.1 dX7_text_15 ?_
    refine m_calli (As := [.int (zI 1)]) (rest := []) B hK hM (cX7_refuse_ok l D cy o q (mi S 0 0) 1 ) (cw7 1 B w7_mRX7_104 w7_im_yX7_refuse w7_sl_yX7_refuse w7_cd_yX7_refuse rfl rfl (by decide +kernel) ⟨Nat.le_of_ble_eq_true rfl, Nat.le_of_ble_eq_true rfl⟩) rfl hl.1 rfl (Nat.le_of_ble_eq_true rfl) dX7_text_16 ⟨Nat.zero_le _, Nat.zero_le _⟩ (fun z_4 S_3 H locs hp_2 hM => ?_)
    obtain ⟨hp_2, he_hp_2⟩ := hp_2
    have he_hp_2 := he_hp_2.symm
    subst he_hp_2
    have hp_2 : 0 = z_4 := hp_2.symm
    subst hp_2
    have hq : M_text S = (0, (mi (mi S 0 0) 0 1)) := by unfold M_text; exact (if_neg c_1)
    exact m_reti B hM (⟨(congrArg Prod.fst hq).symm, (congrArg Prod.snd hq).symm⟩) dX7_text_19
def M_patL (f : Int) : Nat → Int → MSt → MSt
  | 0, _, T => T
  | n + 1, k, T => M_patL f n (k + 1) ((ma T 13 k.toNat (T.2 1 k.toNat)))
theorem M_patL_1 (f : Int) : ∀ (n : Nat) (k : Int) (T : MSt), (M_patL f n k T).1 = T.1
  | 0, _, _ => rfl
  | n + 1, k, T => by rw [M_patL, M_patL_1 f n]; rfl
theorem M_patL_2 (f : Int) {a : Nat} (h13 : a ≠ 13) : ∀ (n : Nat) (k : Int) (T : MSt), (M_patL f n k T).2 a = T.2 a
  | 0, _, _ => rfl
  | n + 1, k, T => by rw [M_patL, M_patL_2 f h13 n]; rw [ma_ne h13]
set_option maxHeartbeats 4000000 in
set_option maxRecDepth 100000 in
theorem lp7_pat (l : Launch) (D : va_G) (cy : Nat → ClassId) (o : Nat) (q : Nat → Nat) (f : Int)  {p : Program} {e : Env} {R : Room} {s : State} {m : MethodId} {args : Array Value} {below : List Frame} {meth : Method} {c : Code} {cells slots : Nat} {A : Nat → Prop} {H0 : Heap} {Q : State → Prop} (B : zAt p s m args meth c RX7 cX7_pattern 3 (some .int) (.code yX7_pattern cX7_pattern 3 (some .int) :: TB7)) (hK : va_K D vwCl (zTY cy) s) :
    ∀ (n : Nat) (k : Int) (T : MSt) (H : Heap) (locs : List Loc) (ls : Array Slot), (0 ≤ k) → (k + n = T.1 2) → (T.1 2 ≤ 40) → (∀ j, 0 ≤ T.2 1 j ∧ T.2 1 j ≤ 126) → mH D cy o q A H0 T H locs → lv_has ls 3 [(0, .ref o), (1, .int (zI f)), (2, .int (zI k))] → (∀ (ls' : Array Slot) (H' : Heap) (locs' : List Loc), mH D cy o q A H0 (M_patL f n k T) H' locs' → lv_has ls' 3 [(0, .ref o), (1, .int (zI f))] → W p l e R s m args below meth c H' locs' cells slots Q (F0 m 49 ls' [])) → W p l e R s m args below meth c H locs cells slots Q (F0 m 23 ls []) := by
  intro n
  induction n with
  | zero =>
    intro k T H locs ls hk0 hkn hb hch hM hl kk
    refine lv_iload_n B.1 B.2.1 dX7_pattern_23 rfl (lv_at hl 2 rfl) ?_
    refine lv_aload_n B.1 B.2.1 dX7_pattern_24 rfl (lv_at hl 0 rfl) ?_
    refine m_get (x := T.1 2) B (i7 _) hK hM 2 (by decide) rfl rfl (List.mem_cons_of_mem _ w7_fRX7_101) dX7_pattern_25 ?_
    refine z_icmp_ge (tgt := 49) B.1 B.2.1 (zr_of (by omega) (by omega)) (zr_of (by omega) (by omega)) dX7_pattern_28 (by decide) (fun c_1 => ?_) (fun c_1 => ?_)
    · --
      exact kk ls H locs hM (lv_sub hl [0, 1] rfl)
    · exact absurd c_1 (by omega)
  | succ n ih =>
    intro k T H locs ls hk0 hkn hb hch hM hl kk
    refine lv_iload_n B.1 B.2.1 dX7_pattern_23 rfl (lv_at hl 2 rfl) ?_
    refine lv_aload_n B.1 B.2.1 dX7_pattern_24 rfl (lv_at hl 0 rfl) ?_
    refine m_get (x := T.1 2) B (i7 _) hK hM 2 (by decide) rfl rfl (List.mem_cons_of_mem _ w7_fRX7_101) dX7_pattern_25 ?_
    refine z_icmp_ge (tgt := 49) B.1 B.2.1 (zr_of (by omega) (by omega)) (zr_of (by omega) (by omega)) dX7_pattern_28 (by decide) (fun c_1 => ?_) (fun c_1 => ?_)
    · exact absurd c_1 (by omega)
    · --
      refine lv_aload_n B.1 B.2.1 dX7_pattern_31 rfl (lv_at hl 0 rfl) ?_
      refine m_getr B (i7 _) hK hM 13 (by decide) rfl (List.mem_cons_of_mem _ w7_fRX7_32) dX7_pattern_32 ?_
      refine lv_iload_n B.1 B.2.1 dX7_pattern_35 rfl (lv_at hl 2 rfl) ?_
      refine lv_aload_n B.1 B.2.1 dX7_pattern_36 rfl (lv_at hl 0 rfl) ?_
      refine m_getr B (i7 _) hK hM 1 (by decide) rfl (List.mem_cons_of_mem _ w7_fRX7_7) dX7_pattern_37 ?_
      refine lv_iload_n B.1 B.2.1 dX7_pattern_40 rfl (lv_at hl 2 rfl) ?_
      have f_2 := hch k.toNat
      refine m_cald (x := T.2 1 k.toNat) B hK hM 0 1 rfl rfl (by omega) (by simp only [mN]; omega) rfl dX7_pattern_41 ?_
      refine m_cast B hK hM 7 13 rfl rfl (by omega) (by simp only [mN]; omega) (by omega) (by omega) dX7_pattern_42 (fun H locs hM => ?_)
      refine z_iinc (v := k + 1) (lv' := [(2, .int (zI (k + 1))), (0, .ref o), (1, .int (zI f))]) B.1 B.2.1 dX7_pattern_43 hl (k := 2) rfl rfl (by decide) rfl (fun ls hl => ?_)
      refine lv_goto (tgt := 23) B.1 B.2.1 dX7_pattern_46 (by decide) ?_
      exact ih (k + 1) ((ma T 13 k.toNat (T.2 1 k.toNat))) H locs ls (by omega) (by show k + 1 + n = T.1 2; omega) hb hch hM (lv_sub hl [1, 2, 0] rfl) kk
def M_takeA (f : Int) : Nat → Int → MSt → MSt
  | 0, _, T => T
  | n + 1, k, T => M_takeA f n (k + 1) ((ma (ma (ma (ma T 8 k.toNat (T.2 15 k.toNat)) 9 k.toNat (T.2 16 k.toNat)) 10 k.toNat (T.2 17 k.toNat)) 11 k.toNat (T.2 18 k.toNat)))
theorem M_takeA_1 (f : Int) : ∀ (n : Nat) (k : Int) (T : MSt), (M_takeA f n k T).1 = T.1
  | 0, _, _ => rfl
  | n + 1, k, T => by rw [M_takeA, M_takeA_1 f n]; rfl
theorem M_takeA_2 (f : Int) {a : Nat} (h8 : a ≠ 8) (h9 : a ≠ 9) (h10 : a ≠ 10) (h11 : a ≠ 11) : ∀ (n : Nat) (k : Int) (T : MSt), (M_takeA f n k T).2 a = T.2 a
  | 0, _, _ => rfl
  | n + 1, k, T => by rw [M_takeA, M_takeA_2 f h8 h9 h10 h11 n]; rw [ma_ne h11, ma_ne h10, ma_ne h9, ma_ne h8]
set_option maxHeartbeats 4000000 in
set_option maxRecDepth 100000 in
theorem lp7_takeA (l : Launch) (D : va_G) (cy : Nat → ClassId) (o : Nat) (q : Nat → Nat) (f : Int)  {p : Program} {e : Env} {R : Room} {s : State} {m : MethodId} {args : Array Value} {below : List Frame} {meth : Method} {c : Code} {cells slots : Nat} {A : Nat → Prop} {H0 : Heap} {Q : State → Prop} (B : zAt p s m args meth c RX7 cX7_take 3 none (.code yX7_take cX7_take 3 none :: TB7)) (hK : va_K D vwCl (zTY cy) s) :
    ∀ (n : Nat) (k : Int) (T : MSt) (H : Heap) (locs : List Loc) (ls : Array Slot), (0 ≤ k) → (k + n = T.1 19) → (T.1 19 ≤ 220) → mH D cy o q A H0 T H locs → lv_has ls 3 [(0, .ref o), (1, .int (zI f)), (2, .int (zI k))] → (∀ (ls' : Array Slot) (H' : Heap) (locs' : List Loc), mH D cy o q A H0 (M_takeA f n k T) H' locs' → lv_has ls' 3 [(0, .ref o), (1, .int (zI f))] → W p l e R s m args below meth c H' locs' cells slots Q (F0 m 64 ls' [])) → W p l e R s m args below meth c H locs cells slots Q (F0 m 2 ls []) := by
  intro n
  induction n with
  | zero =>
    intro k T H locs ls hk0 hkn hb hM hl kk
    refine lv_iload_n B.1 B.2.1 dX7_take_2 rfl (lv_at hl 2 rfl) ?_
    refine lv_aload_n B.1 B.2.1 dX7_take_3 rfl (lv_at hl 0 rfl) ?_
    refine m_get (x := T.1 19) B (i7 _) hK hM 19 (by decide) rfl rfl (List.mem_cons_of_mem _ w7_fRX7_114) dX7_take_4 ?_
    refine z_icmp_ge (tgt := 64) B.1 B.2.1 (zr_of (by omega) (by omega)) (zr_of (by omega) (by omega)) dX7_take_7 (by decide) (fun c_1 => ?_) (fun c_1 => ?_)
    · --
      exact kk ls H locs hM (lv_sub hl [0, 1] rfl)
    · exact absurd c_1 (by omega)
  | succ n ih =>
    intro k T H locs ls hk0 hkn hb hM hl kk
    refine lv_iload_n B.1 B.2.1 dX7_take_2 rfl (lv_at hl 2 rfl) ?_
    refine lv_aload_n B.1 B.2.1 dX7_take_3 rfl (lv_at hl 0 rfl) ?_
    refine m_get (x := T.1 19) B (i7 _) hK hM 19 (by decide) rfl rfl (List.mem_cons_of_mem _ w7_fRX7_114) dX7_take_4 ?_
    refine z_icmp_ge (tgt := 64) B.1 B.2.1 (zr_of (by omega) (by omega)) (zr_of (by omega) (by omega)) dX7_take_7 (by decide) (fun c_1 => ?_) (fun c_1 => ?_)
    · exact absurd c_1 (by omega)
    · --
      refine lv_aload_n B.1 B.2.1 dX7_take_10 rfl (lv_at hl 0 rfl) ?_
      refine m_getr B (i7 _) hK hM 8 (by decide) rfl (List.mem_cons_of_mem _ w7_fRX7_19) dX7_take_11 ?_
      refine lv_iload_n B.1 B.2.1 dX7_take_14 rfl (lv_at hl 2 rfl) ?_
      refine lv_aload_n B.1 B.2.1 dX7_take_15 rfl (lv_at hl 0 rfl) ?_
      refine m_getr B (i7 _) hK hM 15 (by decide) rfl (List.mem_cons_of_mem _ w7_fRX7_35) dX7_take_16 ?_
      refine lv_iload_n B.1 B.2.1 dX7_take_19 rfl (lv_at hl 2 rfl) ?_
      refine m_iald (x := T.2 15 k.toNat) B hK hM 8 15 rfl rfl (by omega) (by simp only [mN]; omega) rfl dX7_take_20 ?_
      refine m_iast B hK hM 3 8 rfl rfl (by omega) (by simp only [mN]; omega) dX7_take_21 (fun H locs hM => ?_)
      refine lv_aload_n B.1 B.2.1 dX7_take_22 rfl (lv_at hl 0 rfl) ?_
      refine m_getr B (i7 _) hK hM 9 (by decide) rfl (List.mem_cons_of_mem _ w7_fRX7_23) dX7_take_23 ?_
      refine lv_iload_n B.1 B.2.1 dX7_take_26 rfl (lv_at hl 2 rfl) ?_
      refine lv_aload_n B.1 B.2.1 dX7_take_27 rfl (lv_at hl 0 rfl) ?_
      refine m_getr B (i7 _) hK hM 16 (by decide) rfl (List.mem_cons_of_mem _ w7_fRX7_38) dX7_take_28 ?_
      refine lv_iload_n B.1 B.2.1 dX7_take_31 rfl (lv_at hl 2 rfl) ?_
      refine m_iald (x := T.2 16 k.toNat) B hK hM 9 16 rfl rfl (by omega) (by simp only [mN]; omega) rfl dX7_take_32 ?_
      refine m_iast B hK hM 4 9 rfl rfl (by omega) (by simp only [mN]; omega) dX7_take_33 (fun H locs hM => ?_)
      refine lv_aload_n B.1 B.2.1 dX7_take_34 rfl (lv_at hl 0 rfl) ?_
      refine m_getr B (i7 _) hK hM 10 (by decide) rfl (List.mem_cons_of_mem _ w7_fRX7_26) dX7_take_35 ?_
      refine lv_iload_n B.1 B.2.1 dX7_take_38 rfl (lv_at hl 2 rfl) ?_
      refine lv_aload_n B.1 B.2.1 dX7_take_39 rfl (lv_at hl 0 rfl) ?_
      refine m_getr B (i7 _) hK hM 17 (by decide) rfl (List.mem_cons_of_mem _ w7_fRX7_41) dX7_take_40 ?_
      refine lv_iload_n B.1 B.2.1 dX7_take_43 rfl (lv_at hl 2 rfl) ?_
      refine m_iald (x := T.2 17 k.toNat) B hK hM 10 17 rfl rfl (by omega) (by simp only [mN]; omega) rfl dX7_take_44 ?_
      refine m_iast B hK hM 5 10 rfl rfl (by omega) (by simp only [mN]; omega) dX7_take_45 (fun H locs hM => ?_)
      refine lv_aload_n B.1 B.2.1 dX7_take_46 rfl (lv_at hl 0 rfl) ?_
      refine m_getr B (i7 _) hK hM 11 (by decide) rfl (List.mem_cons_of_mem _ w7_fRX7_29) dX7_take_47 ?_
      refine lv_iload_n B.1 B.2.1 dX7_take_50 rfl (lv_at hl 2 rfl) ?_
      refine lv_aload_n B.1 B.2.1 dX7_take_51 rfl (lv_at hl 0 rfl) ?_
      refine m_getr B (i7 _) hK hM 18 (by decide) rfl (List.mem_cons_of_mem _ w7_fRX7_44) dX7_take_52 ?_
      refine lv_iload_n B.1 B.2.1 dX7_take_55 rfl (lv_at hl 2 rfl) ?_
      refine m_iald (x := T.2 18 k.toNat) B hK hM 11 18 rfl rfl (by omega) (by simp only [mN]; omega) rfl dX7_take_56 ?_
      refine m_iast B hK hM 6 11 rfl rfl (by omega) (by simp only [mN]; omega) dX7_take_57 (fun H locs hM => ?_)
      refine z_iinc (v := k + 1) (lv' := [(2, .int (zI (k + 1))), (0, .ref o), (1, .int (zI f))]) B.1 B.2.1 dX7_take_58 hl (k := 2) rfl rfl (by decide) rfl (fun ls hl => ?_)
      refine lv_goto (tgt := 2) B.1 B.2.1 dX7_take_61 (by decide) ?_
      exact ih (k + 1) ((ma (ma (ma (ma T 8 k.toNat (T.2 15 k.toNat)) 9 k.toNat (T.2 16 k.toNat)) 10 k.toNat (T.2 17 k.toNat)) 11 k.toNat (T.2 18 k.toNat))) H locs ls (by omega) (by show k + 1 + n = T.1 19; omega) hb hM (lv_sub hl [1, 2, 0] rfl) kk
def M_takeB (f : Int) : Nat → Int → MSt → MSt
  | 0, _, T => T
  | n + 1, k, T => M_takeB f n (k + 1) ((ma T 7 k.toNat (T.2 13 k.toNat)))
theorem M_takeB_1 (f : Int) : ∀ (n : Nat) (k : Int) (T : MSt), (M_takeB f n k T).1 = T.1
  | 0, _, _ => rfl
  | n + 1, k, T => by rw [M_takeB, M_takeB_1 f n]; rfl
theorem M_takeB_2 (f : Int) {a : Nat} (h7 : a ≠ 7) : ∀ (n : Nat) (k : Int) (T : MSt), (M_takeB f n k T).2 a = T.2 a
  | 0, _, _ => rfl
  | n + 1, k, T => by rw [M_takeB, M_takeB_2 f h7 n]; rw [ma_ne h7]
set_option maxHeartbeats 4000000 in
set_option maxRecDepth 100000 in
theorem lp7_takeB (l : Launch) (D : va_G) (cy : Nat → ClassId) (o : Nat) (q : Nat → Nat) (f : Int)  {p : Program} {e : Env} {R : Room} {s : State} {m : MethodId} {args : Array Value} {below : List Frame} {meth : Method} {c : Code} {cells slots : Nat} {A : Nat → Prop} {H0 : Heap} {Q : State → Prop} (B : zAt p s m args meth c RX7 cX7_take 3 none (.code yX7_take cX7_take 3 none :: TB7)) (hK : va_K D vwCl (zTY cy) s) :
    ∀ (n : Nat) (k : Int) (T : MSt) (H : Heap) (locs : List Loc) (ls : Array Slot), (0 ≤ k) → (k + n = T.1 14) → (T.1 14 ≤ 40) → (∀ j, 0 ≤ T.2 13 j ∧ T.2 13 j ≤ 126) → mH D cy o q A H0 T H locs → lv_has ls 3 [(0, .ref o), (1, .int (zI f)), (2, .int (zI k))] → (∀ (ls' : Array Slot) (H' : Heap) (locs' : List Loc), mH D cy o q A H0 (M_takeB f n k T) H' locs' → lv_has ls' 3 [(0, .ref o), (1, .int (zI f))] → W p l e R s m args below meth c H' locs' cells slots Q (F0 m 92 ls' [])) → W p l e R s m args below meth c H locs cells slots Q (F0 m 66 ls []) := by
  intro n
  induction n with
  | zero =>
    intro k T H locs ls hk0 hkn hb hch hM hl kk
    refine lv_iload_n B.1 B.2.1 dX7_take_66 rfl (lv_at hl 2 rfl) ?_
    refine lv_aload_n B.1 B.2.1 dX7_take_67 rfl (lv_at hl 0 rfl) ?_
    refine m_get (x := T.1 14) B (i7 _) hK hM 14 (by decide) rfl rfl (List.mem_cons_of_mem _ w7_fRX7_86) dX7_take_68 ?_
    refine z_icmp_ge (tgt := 92) B.1 B.2.1 (zr_of (by omega) (by omega)) (zr_of (by omega) (by omega)) dX7_take_71 (by decide) (fun c_1 => ?_) (fun c_1 => ?_)
    · --
      exact kk ls H locs hM (lv_sub hl [0, 1] rfl)
    · exact absurd c_1 (by omega)
  | succ n ih =>
    intro k T H locs ls hk0 hkn hb hch hM hl kk
    refine lv_iload_n B.1 B.2.1 dX7_take_66 rfl (lv_at hl 2 rfl) ?_
    refine lv_aload_n B.1 B.2.1 dX7_take_67 rfl (lv_at hl 0 rfl) ?_
    refine m_get (x := T.1 14) B (i7 _) hK hM 14 (by decide) rfl rfl (List.mem_cons_of_mem _ w7_fRX7_86) dX7_take_68 ?_
    refine z_icmp_ge (tgt := 92) B.1 B.2.1 (zr_of (by omega) (by omega)) (zr_of (by omega) (by omega)) dX7_take_71 (by decide) (fun c_1 => ?_) (fun c_1 => ?_)
    · exact absurd c_1 (by omega)
    · --
      refine lv_aload_n B.1 B.2.1 dX7_take_74 rfl (lv_at hl 0 rfl) ?_
      refine m_getr B (i7 _) hK hM 7 (by decide) rfl (List.mem_cons_of_mem _ w7_fRX7_16) dX7_take_75 ?_
      refine lv_iload_n B.1 B.2.1 dX7_take_78 rfl (lv_at hl 2 rfl) ?_
      refine lv_aload_n B.1 B.2.1 dX7_take_79 rfl (lv_at hl 0 rfl) ?_
      refine m_getr B (i7 _) hK hM 13 (by decide) rfl (List.mem_cons_of_mem _ w7_fRX7_32) dX7_take_80 ?_
      refine lv_iload_n B.1 B.2.1 dX7_take_83 rfl (lv_at hl 2 rfl) ?_
      have f_2 := hch k.toNat
      refine m_cald (x := T.2 13 k.toNat) B hK hM 7 13 rfl rfl (by omega) (by simp only [mN]; omega) rfl dX7_take_84 ?_
      refine m_cast B hK hM 2 7 rfl rfl (by omega) (by simp only [mN]; omega) (by omega) (by omega) dX7_take_85 (fun H locs hM => ?_)
      refine z_iinc (v := k + 1) (lv' := [(2, .int (zI (k + 1))), (0, .ref o), (1, .int (zI f))]) B.1 B.2.1 dX7_take_86 hl (k := 2) rfl rfl (by decide) rfl (fun ls hl => ?_)
      refine lv_goto (tgt := 66) B.1 B.2.1 dX7_take_89 (by decide) ?_
      exact ih (k + 1) ((ma T 7 k.toNat (T.2 13 k.toNat))) H locs ls (by omega) (by show k + 1 + n = T.1 14; omega) hb hch hM (lv_sub hl [1, 2, 0] rfl) kk
def M_take (f : Int) (S : MSt) : MSt := (mi (mi (mi (mi (M_takeB f (S.1 14).toNat 0 (M_takeA f (S.1 19).toNat 0 S)) 12 (S.1 20)) 6 f) 5 0) 42 0)
set_option maxHeartbeats 4000000 in
set_option maxRecDepth 100000 in
theorem cX7_take_ok (l : Launch) (D : va_G) (cy : Nat → ClassId) (o : Nat) (q : Nat → Nat) (S : MSt) (f : Int) (hc0 : 0 ≤ S.1 19) (hc1 : S.1 19 ≤ 220) (hn0 : 0 ≤ S.1 14) (hn1 : S.1 14 ≤ 40) (hch : ∀ j, 0 ≤ S.2 13 j ∧ S.2 13 j ≤ 126) : mMv l D cy o q yX7_take (.code yX7_take cX7_take 3 none :: TB7) ({ frames := 0, cells := 0, slots := 0, locals := 0 }) S [.int (zI f)] (fun S' => S' = M_take f S) := by
  refine m_of (cc := cX7_take) (maxL := 3) (ret := none) (by decide) rfl rfl (Nat.le_of_ble_eq_true rfl) ?_
  intro p e s m args below meth c ls B hK hM hl
  have hl : lv_has ls 3 [(0, .ref o), (1, .int (zI f))] := hl
  refine z_iconst B.1 B.2.1 dX7_take_0 ?_
  refine lv_istore_n (lv' := [(2, .int (zI 0)), (0, .ref o), (1, .int (zI f))]) B.1 B.2.1 dX7_take_1 rfl hl (by decide) rfl (fun ls hl => ?_)
  refine lp7_takeA l D cy o q f B hK (S.1 19).toNat 0 S _ _ ls (by omega) (by omega) hc1 hM (lv_sub hl [1, 2, 0] rfl) (fun ls H locs hM hl => ?_)
  refine z_iconst B.1 B.2.1 dX7_take_64 ?_
  refine lv_istore_n (lv' := [(2, .int (zI 0)), (0, .ref o), (1, .int (zI f))]) B.1 B.2.1 dX7_take_65 rfl hl (by decide) rfl (fun ls hl => ?_)
  refine lp7_takeB l D cy o q f B hK (S.1 14).toNat 0 (M_takeA f (S.1 19).toNat 0 S) _ _ ls (by omega) (by rw [M_takeA_1]; omega) (by rw [M_takeA_1]; exact hn1) (by rw [M_takeA_2 f (show (13 : Nat) ≠ 8 by decide) (show (13 : Nat) ≠ 9 by decide) (show (13 : Nat) ≠ 10 by decide) (show (13 : Nat) ≠ 11 by decide)]; exact hch) hM (lv_sub hl [1, 2, 0] rfl) (fun ls H locs hM hl => ?_)
  refine lv_aload_n B.1 B.2.1 dX7_take_92 rfl (lv_at hl 0 rfl) ?_
  refine lv_aload_n B.1 B.2.1 dX7_take_93 rfl (lv_at hl 0 rfl) ?_
  refine m_get (x := S.1 20) B (i7 _) hK hM 20 (by decide) rfl (by simp only [M_takeB_1, M_takeA_1]) (List.mem_cons_of_mem _ w7_fRX7_153) dX7_take_94 ?_
  refine m_put B (i7 _) hK hM 12 (by decide) rfl (by decide +kernel) (List.mem_cons_of_mem _ w7_fRX7_190) dX7_take_97 (fun H locs hM => ?_)
  refine lv_aload_n B.1 B.2.1 dX7_take_100 rfl (lv_at hl 0 rfl) ?_
  refine lv_iload_n B.1 B.2.1 dX7_take_101 rfl (lv_at hl 1 rfl) ?_
  refine m_put B (i7 _) hK hM 6 (by decide) rfl (by decide +kernel) (List.mem_cons_of_mem _ w7_fRX7_193) dX7_take_102 (fun H locs hM => ?_)
  refine lv_aload_n B.1 B.2.1 dX7_take_105 rfl (lv_at hl 0 rfl) ?_
  refine z_iconst B.1 B.2.1 dX7_take_106 ?_
  refine m_put B (i7 _) hK hM 5 (by decide) rfl (by decide +kernel) (List.mem_cons_of_mem _ w7_fRX7_196) dX7_take_107 (fun H locs hM => ?_)
  refine lv_aload_n B.1 B.2.1 dX7_take_110 rfl (lv_at hl 0 rfl) ?_
  refine z_iconst B.1 B.2.1 dX7_take_111 ?_
  refine m_putz B (i7 _) hK hM 42 (by decide) rfl (by decide) (by decide +kernel) (List.mem_cons_of_mem _ w7_fRX7_199) dX7_take_112 (fun H locs hM => ?_)
  exact m_retv B hM (rfl) dX7_take_115
