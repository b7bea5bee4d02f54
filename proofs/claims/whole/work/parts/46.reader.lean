def K_ix1 (x : Int) : Int := sIxL (fun j => sB1.getD j 0) (zI x) 14 0
def K_ix2 (x : Int) : Int := sIxL (fun j => sB2.getD j 0) (zI x) 6 0
theorem K_ix1_bd (x : Int) : -1 ≤ K_ix1 x ∧ K_ix1 x ≤ 14 := sIxL_bd _ _ _ _
theorem K_ix2_bd (x : Int) : -1 ≤ K_ix2 x ∧ K_ix2 x ≤ 6 := sIxL_bd _ _ _ _
theorem j_env1 {V : Nat × (Nat → Nat)} {n0 : Nat} {A : Nat → Prop} {s : State} {c : Code} {D : va_G} {cy : Nat → ClassId} {q : Nat → Nat} {S : CSt} {H : Heap} {locs : List Loc} (hG : gEn V n0 A s c) (h : cH D cy q A s.heap S H locs) : jE V.1 (V.2 15) (V.2 26) 14 sB1 s H := by
  obtain ⟨-, -, -, -, -, h5, -, h7⟩ := hG.1.go hG.2.1 h.2.2 (State.WarmedH.refl s)
  exact ⟨h5, h7⟩
theorem j_env2 {V : Nat × (Nat → Nat)} {n0 : Nat} {A : Nat → Prop} {s : State} {c : Code} {D : va_G} {cy : Nat → ClassId} {q : Nat → Nat} {S : CSt} {H : Heap} {locs : List Loc} (hG : gEn V n0 A s c) (h : cH D cy q A s.heap S H locs) : jE V.1 (V.2 16) (V.2 27) 6 sB2 s H := by
  obtain ⟨-, -, -, -, -, -, h6, h7⟩ := hG.1.go hG.2.1 h.2.2 (State.WarmedH.refl s)
  exact ⟨h6, h7⟩
/-- what holds of Reader, what it makes and what it reads -/
def rV (S : CSt) : Prop := pB 7 S ∧ 0 ≤ S.1 2 1 ∧ S.1 2 1 ≤ 40 ∧ (∀ j, 0 ≤ S.1 13 j ∧ S.1 13 j ≤ 126) ∧ 0 ≤ S.1 8 3 ∧ S.1 8 3 ≤ S.1 2 1 ∧ 0 ≤ S.1 8 4 ∧ S.1 8 4 ≤ 9 ∧ 0 ≤ S.1 8 5 ∧ S.1 8 5 ≤ 9 ∧ 0 ≤ S.1 8 6 ∧ (S.1 8 6 ≤ 9 ∨ S.1 8 6 = 1000000) ∧ (S.1 8 7 = 0 ∨ S.1 8 7 = 1)
theorem K4_at_b2 {S : CSt} (h : ∀ j, 0 ≤ S.1 13 j ∧ S.1 13 j ≤ 126) (i : Int) : 0 ≤ K4_at 2 i S ∧ K4_at 2 i S ≤ 126 ∧ (¬ K4_at 2 i S = 0 → 0 ≤ i ∧ i < S.1 2 1) := by
  unfold K4_at
  (repeat' split)
  all_goals first
    | (refine ⟨by omega, by omega, fun h => absurd rfl h⟩)
    | (have := h i.toNat
       refine ⟨this.1, this.2, fun _ => ⟨by omega, by omega⟩⟩)
theorem hcs_of {S : CSt} (h : ∀ j, 0 ≤ S.1 13 j ∧ S.1 13 j ≤ 126) : ∀ j, 0 ≤ S.1 (11 + 2) j ∧ S.1 (11 + 2) j < 65536 := fun j => ⟨(h j).1, by have := (h j).2; show S.1 13 j < 65536; omega⟩
def K3_take (x : Int) (S : CSt) : Int × CSt := (if ((K4_at 2 (S.1 8 3) S)) = x then (1, (ci S 8 3 ((S.1 8 3) + 1))) else (0, S))
set_option maxHeartbeats 1000000 in
set_option maxRecDepth 100000 in
theorem cX3_take_ok (l : Launch) (D : va_G) (cy : Nat → ClassId) (q : Nat → Nat) (b : Nat) (S : CSt) (hF : cFx 7 b S) (x : Int) (hV : rV S) (h0 : 1 ≤ x) (h1 : x < 65536) : cMi l D cy q yX3_take (.code yX3_take cX3_take 2 (some .boolean) :: TBC) ({ frames := 1, cells := 0, slots := 0, locals := 21 }) S 8 [.int (zI x)] (fun r S' => r = (K3_take x S).1 ∧ S' = (K3_take x S).2) := by
  refine c_of (cc := cX3_take) (maxL := 2) (ret := (some .boolean)) (C := RX3) (by decide) rfl rfl (Nat.le_of_ble_eq_true rfl) ?_
  intro p e s m args below meth c ls B hK hM hl
  have hl : lv_has ls 2 [(0, .ref (q 8)), (1, .int (zI x))] := hl
  obtain ⟨hP, hLa, hLb, hcs, ha0, ha1, hga, hgb, hna, hnb, hma, hmb, hzz⟩ := id hV
  refine lv_aload_n B.1 B.2.1 dX3_take_0 rfl (lv_at hl 0 rfl) ?_
  refine c_getr (q := q) (r := 2) B (iC3 _) hK hM 8 0 3 (by decide) rfl rfl (by decide) (by decide) rfl rfl rfl (cFx_r hF 8 0) (List.mem_cons_of_mem _ wC_fRX3_18) dX3_take_1 ?_
  refine lv_aload_n B.1 B.2.1 dX3_take_4 rfl (lv_at hl 0 rfl) ?_
  refine c_geti (q := q) (x := S.1 8 3) B (iC3 _) hK hM 8 3 3 (by decide) rfl rfl (by decide) (by decide) rfl rfl (by decide) rfl (List.mem_cons_of_mem _ wC_fRX3_32) dX3_take_5 ?_
  refine c_calli (q := q) (As := [.int (zI (S.1 8 3))]) (rest := []) B hK hM 2 (by decide) (by decide) rfl (cX4_at_ok l D cy q 7 b S hF 2 (by decide) (S.1 8 3) (by show 0 ≤ (S.1 2 1); omega) (by show (S.1 2 1) ≤ 100000; omega) (by show -10000000 ≤ (S.1 8 3); omega) (by show (S.1 8 3) ≤ 10000000; omega) (hcs_of hcs)) (cwC 1 B wC_mRX3_70 wC_im_yX4_at wC_sl_yX4_at wC_in_RX4 wC_cd_yX4_at rfl rfl (by decide +kernel) ⟨Nat.le_of_ble_eq_true rfl, Nat.le_of_ble_eq_true rfl⟩) rfl hl.1 rfl (Nat.le_of_ble_eq_true rfl) dX3_take_8 ⟨Nat.zero_le _, Nat.zero_le _⟩ (fun z_4 S_3 H locs hp_2 hM => ?_)
  obtain ⟨hp_2, he_hp_2⟩ := hp_2
  have he_hp_2 := he_hp_2.symm
  subst he_hp_2
  have hp_2 : (K4_at 2 (S.1 8 3) S) = z_4 := hp_2.symm
  subst hp_2
  have f_5 := K4_at_b2 (S := S) hcs (S.1 8 3)
  refine lv_iload_n B.1 B.2.1 dX3_take_11 rfl (lv_at hl 1 rfl) ?_
  refine z_icmp_eq (tgt := 17) B.1 B.2.1 (zr_of (by omega) (by omega)) (zr_of (by omega) (by omega)) dX3_take_12 (by decide) (fun c_6 => ?_) (fun c_6 => ?_)
  · --
    refine lv_aload_n B.1 B.2.1 dX3_take_17 rfl (lv_at hl 0 rfl) ?_
    refine lv_dup B.1 B.2.1 dX3_take_18 rfl ?_
    refine c_geti (q := q) (x := S.1 8 3) B (iC3 _) hK hM 8 3 3 (by decide) rfl rfl (by decide) (by decide) rfl rfl (by decide) rfl (List.mem_cons_of_mem _ wC_fRX3_32) dX3_take_19 ?_
    refine z_iconst B.1 B.2.1 dX3_take_22 ?_
    refine z_iadd (x := (S.1 8 3) + 1) B.1 B.2.1 rfl dX3_take_23 ?_
    refine c_puti (q := q) B (iC3 _) tyX3 tyX3_ok nmX3 hK hM 8 3 3 (by decide) rfl rfl (by decide) (by decide) rfl rfl rfl (by decide +kernel) (by decide) (List.mem_cons_of_mem _ wC_fRX3_32) dX3_take_24 (fun H locs hM => ?_)
    have hP : pB 7 (ci S 8 3 ((S.1 8 3) + 1)) := pB_ci (by decide) (by decide) hP
    refine z_iconst B.1 B.2.1 dX3_take_27 ?_
    have hq : K3_take x S = (1, (ci S 8 3 ((S.1 8 3) + 1))) := by unfold K3_take; exact (if_pos c_6)
    exact c_retz B hM (by decide) (⟨(congrArg Prod.fst hq).symm, (congrArg Prod.snd hq).symm⟩) dX3_take_28
  · --
    refine z_iconst B.1 B.2.1 dX3_take_15 ?_
    have hq : K3_take x S = (0, S) := by unfold K3_take; exact (if_neg c_6)
    exact c_retz B hM (by decide) (⟨(congrArg Prod.fst hq).symm, (congrArg Prod.snd hq).symm⟩) dX3_take_16
def K3_takeOpening (x : Int) (S : CSt) : Int × CSt := (if ((K4_at 2 (S.1 8 3) S)) = 40 then (if ((K4_at 2 ((S.1 8 3) + 1) S)) = 63 then (if ((K4_at 2 ((S.1 8 3) + 2) S)) = x then (1, (ci S 8 3 ((S.1 8 3) + 3))) else (0, S)) else (0, S)) else (0, S))
set_option maxHeartbeats 1000000 in
set_option maxRecDepth 100000 in
theorem cX3_takeOpening_ok (l : Launch) (D : va_G) (cy : Nat → ClassId) (q : Nat → Nat) (b : Nat) (S : CSt) (hF : cFx 7 b S) (x : Int) (hV : rV S) (h0 : 1 ≤ x) (h1 : x < 65536) : cMi l D cy q yX3_takeOpening (.code yX3_takeOpening cX3_takeOpening 2 (some .boolean) :: TBC) ({ frames := 1, cells := 0, slots := 0, locals := 21 }) S 8 [.int (zI x)] (fun r S' => r = (K3_takeOpening x S).1 ∧ S' = (K3_takeOpening x S).2) := by
  refine c_of (cc := cX3_takeOpening) (maxL := 2) (ret := (some .boolean)) (C := RX3) (by decide) rfl rfl (Nat.le_of_ble_eq_true rfl) ?_
  intro p e s m args below meth c ls B hK hM hl
  have hl : lv_has ls 2 [(0, .ref (q 8)), (1, .int (zI x))] := hl
  obtain ⟨hP, hLa, hLb, hcs, ha0, ha1, hga, hgb, hna, hnb, hma, hmb, hzz⟩ := id hV
  refine lv_aload_n B.1 B.2.1 dX3_takeOpening_0 rfl (lv_at hl 0 rfl) ?_
  refine c_getr (q := q) (r := 2) B (iC3 _) hK hM 8 0 3 (by decide) rfl rfl (by decide) (by decide) rfl rfl rfl (cFx_r hF 8 0) (List.mem_cons_of_mem _ wC_fRX3_18) dX3_takeOpening_1 ?_
  refine lv_aload_n B.1 B.2.1 dX3_takeOpening_4 rfl (lv_at hl 0 rfl) ?_
  refine c_geti (q := q) (x := S.1 8 3) B (iC3 _) hK hM 8 3 3 (by decide) rfl rfl (by decide) (by decide) rfl rfl (by decide) rfl (List.mem_cons_of_mem _ wC_fRX3_32) dX3_takeOpening_5 ?_
  refine c_calli (q := q) (As := [.int (zI (S.1 8 3))]) (rest := []) B hK hM 2 (by decide) (by decide) rfl (cX4_at_ok l D cy q 7 b S hF 2 (by decide) (S.1 8 3) (by show 0 ≤ (S.1 2 1); omega) (by show (S.1 2 1) ≤ 100000; omega) (by show -10000000 ≤ (S.1 8 3); omega) (by show (S.1 8 3) ≤ 10000000; omega) (hcs_of hcs)) (cwC 1 B wC_mRX3_70 wC_im_yX4_at wC_sl_yX4_at wC_in_RX4 wC_cd_yX4_at rfl rfl (by decide +kernel) ⟨Nat.le_of_ble_eq_true rfl, Nat.le_of_ble_eq_true rfl⟩) rfl hl.1 rfl (Nat.le_of_ble_eq_true rfl) dX3_takeOpening_8 ⟨Nat.zero_le _, Nat.zero_le _⟩ (fun z_4 S_3 H locs hp_2 hM => ?_)
  obtain ⟨hp_2, he_hp_2⟩ := hp_2
  have he_hp_2 := he_hp_2.symm
  subst he_hp_2
  have hp_2 : (K4_at 2 (S.1 8 3) S) = z_4 := hp_2.symm
  subst hp_2
  have f_5 := K4_at_b2 (S := S) hcs (S.1 8 3)
  refine z_bipush B.1 B.2.1 (by decide) dX3_takeOpening_11 ?_
  refine z_icmp_ne (tgt := 51) B.1 B.2.1 (zr_of (by omega) (by omega)) (zr_of (by decide) (by decide)) dX3_takeOpening_13 (by decide) (fun c_6 => ?_) (fun c_6 => ?_)
  · --
    refine z_iconst B.1 B.2.1 dX3_takeOpening_51 ?_
    have hq : K3_takeOpening x S = (0, S) := by unfold K3_takeOpening; exact (if_neg c_6)
    exact c_retz B hM (by decide) (⟨(congrArg Prod.fst hq).symm, (congrArg Prod.snd hq).symm⟩) dX3_takeOpening_52
  · --
    refine lv_aload_n B.1 B.2.1 dX3_takeOpening_16 rfl (lv_at hl 0 rfl) ?_
    refine c_getr (q := q) (r := 2) B (iC3 _) hK hM 8 0 3 (by decide) rfl rfl (by decide) (by decide) rfl rfl rfl (cFx_r hF 8 0) (List.mem_cons_of_mem _ wC_fRX3_18) dX3_takeOpening_17 ?_
    refine lv_aload_n B.1 B.2.1 dX3_takeOpening_20 rfl (lv_at hl 0 rfl) ?_
    refine c_geti (q := q) (x := S.1 8 3) B (iC3 _) hK hM 8 3 3 (by decide) rfl rfl (by decide) (by decide) rfl rfl (by decide) rfl (List.mem_cons_of_mem _ wC_fRX3_32) dX3_takeOpening_21 ?_
    refine z_iconst B.1 B.2.1 dX3_takeOpening_24 ?_
    refine z_iadd (x := (S.1 8 3) + 1) B.1 B.2.1 rfl dX3_takeOpening_25 ?_
    refine c_calli (q := q) (As := [.int (zI ((S.1 8 3) + 1))]) (rest := []) B hK hM 2 (by decide) (by decide) rfl (cX4_at_ok l D cy q 7 b S hF 2 (by decide) ((S.1 8 3) + 1) (by show 0 ≤ (S.1 2 1); omega) (by show (S.1 2 1) ≤ 100000; omega) (by show -10000000 ≤ ((S.1 8 3) + 1); omega) (by show ((S.1 8 3) + 1) ≤ 10000000; omega) (hcs_of hcs)) (cwC 1 B wC_mRX3_70 wC_im_yX4_at wC_sl_yX4_at wC_in_RX4 wC_cd_yX4_at rfl rfl (by decide +kernel) ⟨Nat.le_of_ble_eq_true rfl, Nat.le_of_ble_eq_true rfl⟩) rfl hl.1 rfl (Nat.le_of_ble_eq_true rfl) dX3_takeOpening_26 ⟨Nat.zero_le _, Nat.zero_le _⟩ (fun z_10 S_9 H locs hp_8 hM => ?_)
    obtain ⟨hp_8, he_hp_8⟩ := hp_8
    have he_hp_8 := he_hp_8.symm
    subst he_hp_8
    have hp_8 : (K4_at 2 ((S.1 8 3) + 1) S) = z_10 := hp_8.symm
    subst hp_8
    have f_11 := K4_at_b2 (S := S) hcs ((S.1 8 3) + 1)
    refine z_bipush B.1 B.2.1 (by decide) dX3_takeOpening_29 ?_
    refine z_icmp_ne (tgt := 51) B.1 B.2.1 (zr_of (by omega) (by omega)) (zr_of (by decide) (by decide)) dX3_takeOpening_31 (by decide) (fun c_12 => ?_) (fun c_12 => ?_)
    · --
      refine z_iconst B.1 B.2.1 dX3_takeOpening_51 ?_
      have hq : K3_takeOpening x S = (0, S) := by unfold K3_takeOpening; exact ((if_pos c_6).trans (if_neg c_12))
      exact c_retz B hM (by decide) (⟨(congrArg Prod.fst hq).symm, (congrArg Prod.snd hq).symm⟩) dX3_takeOpening_52
    · --
      refine lv_aload_n B.1 B.2.1 dX3_takeOpening_34 rfl (lv_at hl 0 rfl) ?_
      refine c_getr (q := q) (r := 2) B (iC3 _) hK hM 8 0 3 (by decide) rfl rfl (by decide) (by decide) rfl rfl rfl (cFx_r hF 8 0) (List.mem_cons_of_mem _ wC_fRX3_18) dX3_takeOpening_35 ?_
      refine lv_aload_n B.1 B.2.1 dX3_takeOpening_38 rfl (lv_at hl 0 rfl) ?_
      refine c_geti (q := q) (x := S.1 8 3) B (iC3 _) hK hM 8 3 3 (by decide) rfl rfl (by decide) (by decide) rfl rfl (by decide) rfl (List.mem_cons_of_mem _ wC_fRX3_32) dX3_takeOpening_39 ?_
      refine z_iconst B.1 B.2.1 dX3_takeOpening_42 ?_
      refine z_iadd (x := (S.1 8 3) + 2) B.1 B.2.1 rfl dX3_takeOpening_43 ?_
      refine c_calli (q := q) (As := [.int (zI ((S.1 8 3) + 2))]) (rest := []) B hK hM 2 (by decide) (by decide) rfl (cX4_at_ok l D cy q 7 b S hF 2 (by decide) ((S.1 8 3) + 2) (by show 0 ≤ (S.1 2 1); omega) (by show (S.1 2 1) ≤ 100000; omega) (by show -10000000 ≤ ((S.1 8 3) + 2); omega) (by show ((S.1 8 3) + 2) ≤ 10000000; omega) (hcs_of hcs)) (cwC 1 B wC_mRX3_70 wC_im_yX4_at wC_sl_yX4_at wC_in_RX4 wC_cd_yX4_at rfl rfl (by decide +kernel) ⟨Nat.le_of_ble_eq_true rfl, Nat.le_of_ble_eq_true rfl⟩) rfl hl.1 rfl (Nat.le_of_ble_eq_true rfl) dX3_takeOpening_44 ⟨Nat.zero_le _, Nat.zero_le _⟩ (fun z_16 S_15 H locs hp_14 hM => ?_)
      obtain ⟨hp_14, he_hp_14⟩ := hp_14
      have he_hp_14 := he_hp_14.symm
      subst he_hp_14
      have hp_14 : (K4_at 2 ((S.1 8 3) + 2) S) = z_16 := hp_14.symm
      subst hp_14
      have f_17 := K4_at_b2 (S := S) hcs ((S.1 8 3) + 2)
      refine lv_iload_n B.1 B.2.1 dX3_takeOpening_47 rfl (lv_at hl 1 rfl) ?_
      refine z_icmp_eq (tgt := 53) B.1 B.2.1 (zr_of (by omega) (by omega)) (zr_of (by omega) (by omega)) dX3_takeOpening_48 (by decide) (fun c_18 => ?_) (fun c_18 => ?_)
      · --
        refine lv_aload_n B.1 B.2.1 dX3_takeOpening_53 rfl (lv_at hl 0 rfl) ?_
        refine lv_dup B.1 B.2.1 dX3_takeOpening_54 rfl ?_
        refine c_geti (q := q) (x := S.1 8 3) B (iC3 _) hK hM 8 3 3 (by decide) rfl rfl (by decide) (by decide) rfl rfl (by decide) rfl (List.mem_cons_of_mem _ wC_fRX3_32) dX3_takeOpening_55 ?_
        refine z_iconst B.1 B.2.1 dX3_takeOpening_58 ?_
        refine z_iadd (x := (S.1 8 3) + 3) B.1 B.2.1 rfl dX3_takeOpening_59 ?_
        refine c_puti (q := q) B (iC3 _) tyX3 tyX3_ok nmX3 hK hM 8 3 3 (by decide) rfl rfl (by decide) (by decide) rfl rfl rfl (by decide +kernel) (by decide) (List.mem_cons_of_mem _ wC_fRX3_32) dX3_takeOpening_60 (fun H locs hM => ?_)
        have hP : pB 7 (ci S 8 3 ((S.1 8 3) + 3)) := pB_ci (by decide) (by decide) hP
        refine z_iconst B.1 B.2.1 dX3_takeOpening_63 ?_
        have hq : K3_takeOpening x S = (1, (ci S 8 3 ((S.1 8 3) + 3))) := by unfold K3_takeOpening; exact ((if_pos c_6).trans ((if_pos c_12).trans (if_pos c_18)))
        exact c_retz B hM (by decide) (⟨(congrArg Prod.fst hq).symm, (congrArg Prod.snd hq).symm⟩) dX3_takeOpening_64
      · --
        refine z_iconst B.1 B.2.1 dX3_takeOpening_51 ?_
        have hq : K3_takeOpening x S = (0, S) := by unfold K3_takeOpening; exact ((if_pos c_6).trans ((if_pos c_12).trans (if_neg c_18)))
        exact c_retz B hM (by decide) (⟨(congrArg Prod.fst hq).symm, (congrArg Prod.snd hq).symm⟩) dX3_takeOpening_52
theorem K3_take_1 {x : Int} {S : CSt} {n : Nat} (h : n ≠ 8) : (K3_take x S).2.1 n = S.1 n := by
  unfold K3_take
  split <;> first | rfl | exact ci_ne h
theorem K3_take_2 {x : Int} {S : CSt} : (K3_take x S).2.2 = S.2 := by
  unfold K3_take
  split <;> rfl
theorem K3_take_k {x : Int} {S : CSt} {k : Nat} (h : k ≠ 3) : (K3_take x S).2.1 8 k = S.1 8 k := by
  unfold K3_take
  split <;> first | rfl | (simp only [ci_eq, zu_ne h])
theorem K3_take_v {x : Int} {S : CSt} (hV : rV S) (hx : 1 ≤ x) : (K3_take x S).1 = 0 ∧ (K3_take x S).2 = S ∧ ¬ K4_at 2 (S.1 8 3) S = x ∨ (K3_take x S).1 = 1 ∧ (K3_take x S).2 = ci S 8 3 (S.1 8 3 + 1) ∧ K4_at 2 (S.1 8 3) S = x ∧ S.1 8 3 < S.1 2 1 := by
  have hb := K4_at_b2 hV.2.2.2.1 (S.1 8 3)
  unfold K3_take
  split
  · rename_i h
    exact Or.inr ⟨rfl, rfl, h, (hb.2.2 (by omega)).2⟩
  · rename_i h
    exact Or.inl ⟨rfl, rfl, h⟩
theorem rV_at {S : CSt} {v : Int} (hV : rV S) (h0 : 0 ≤ v) (h1 : v ≤ S.1 2 1) : rV (ci S 8 3 v) := by
  obtain ⟨hP, hl0, hl1, hcs, ha0, ha1, hr⟩ := hV
  exact ⟨pB_ci (by decide) (by decide) hP, hl0, hl1, hcs, h0, h1, hr⟩
theorem rV_take {x : Int} {S : CSt} (hV : rV S) (hx : 1 ≤ x) : rV (K3_take x S).2 := by
  rcases K3_take_v hV hx with ⟨-, h, -⟩ | ⟨-, h, -, h2⟩
  · rw [h]; exact hV
  · rw [h]; exact rV_at hV (by have := hV.2.2.2.2.1; omega) (by omega)
theorem K3_takeOpening_1 {x : Int} {S : CSt} {n : Nat} (h : n ≠ 8) : (K3_takeOpening x S).2.1 n = S.1 n := by
  unfold K3_takeOpening
  (repeat' split) <;> first | rfl | exact ci_ne h
theorem K3_takeOpening_2 {x : Int} {S : CSt} : (K3_takeOpening x S).2.2 = S.2 := by
  unfold K3_takeOpening
  (repeat' split) <;> rfl
theorem K3_takeOpening_v {x : Int} {S : CSt} (hV : rV S) (hx : 1 ≤ x) : (K3_takeOpening x S).1 = 0 ∧ (K3_takeOpening x S).2 = S ∧ ¬ (K4_at 2 (S.1 8 3) S = 40 ∧ K4_at 2 (S.1 8 3 + 1) S = 63 ∧ K4_at 2 (S.1 8 3 + 2) S = x) ∨ (K3_takeOpening x S).1 = 1 ∧ (K3_takeOpening x S).2 = ci S 8 3 (S.1 8 3 + 3) ∧ (K4_at 2 (S.1 8 3) S = 40 ∧ K4_at 2 (S.1 8 3 + 1) S = 63 ∧ K4_at 2 (S.1 8 3 + 2) S = x) ∧ S.1 8 3 + 2 < S.1 2 1 := by
  have hb := K4_at_b2 hV.2.2.2.1 (S.1 8 3 + 2)
  unfold K3_takeOpening
  by_cases h1 : K4_at 2 (S.1 8 3) S = 40
  · rw [if_pos h1]
    by_cases h2 : K4_at 2 (S.1 8 3 + 1) S = 63
    · rw [if_pos h2]
      by_cases h3 : K4_at 2 (S.1 8 3 + 2) S = x
      · rw [if_pos h3]
        exact Or.inr ⟨rfl, rfl, ⟨h1, h2, h3⟩, (hb.2.2 (by omega)).2⟩
      · rw [if_neg h3]
        exact Or.inl ⟨rfl, rfl, fun h => h3 h.2.2⟩
    · rw [if_neg h2]
      exact Or.inl ⟨rfl, rfl, fun h => h2 h.2.1⟩
  · rw [if_neg h1]
    exact Or.inl ⟨rfl, rfl, fun h => h1 h.1⟩
theorem rV_takeOpening {x : Int} {S : CSt} (hV : rV S) (hx : 1 ≤ x) : rV (K3_takeOpening x S).2 := by
  rcases K3_takeOpening_v hV hx with ⟨-, h, -⟩ | ⟨-, h, -, h2⟩
  · rw [h]; exact hV
  · rw [h]; exact rV_at hV (by have := hV.2.2.2.2.1; omega) (by omega)
def K3_rowGoesOn (S : CSt) : Int := (if ((K4_at 2 (S.1 8 3) S)) = 0 then 0 else (if ((K4_at 2 (S.1 8 3) S)) = 124 then 0 else (if ((K4_at 2 (S.1 8 3) S)) = 41 then 0 else 1 : Int) : Int) : Int)
set_option maxHeartbeats 1000000 in
set_option maxRecDepth 100000 in
theorem cX3_rowGoesOn_ok (l : Launch) (D : va_G) (cy : Nat → ClassId) (q : Nat → Nat) (b : Nat) (S : CSt) (hF : cFx 7 b S) (hV : rV S) : cMi l D cy q yX3_rowGoesOn (.code yX3_rowGoesOn cX3_rowGoesOn 2 (some .boolean) :: TBC) ({ frames := 1, cells := 0, slots := 0, locals := 21 }) S 8 [] (fun r S' => r = K3_rowGoesOn S ∧ S' = S) := by
  refine c_of (cc := cX3_rowGoesOn) (maxL := 2) (ret := (some .boolean)) (C := RX3) (by decide) rfl rfl (Nat.le_of_ble_eq_true rfl) ?_
  intro p e s m args below meth c ls B hK hM hl
  have hl : lv_has ls 2 [(0, .ref (q 8))] := hl
  obtain ⟨hP, hLa, hLb, hcs, ha0, ha1, hga, hgb, hna, hnb, hma, hmb, hzz⟩ := id hV
  refine lv_aload_n B.1 B.2.1 dX3_rowGoesOn_0 rfl (lv_at hl 0 rfl) ?_
  refine c_getr (q := q) (r := 2) B (iC3 _) hK hM 8 0 3 (by decide) rfl rfl (by decide) (by decide) rfl rfl rfl (cFx_r hF 8 0) (List.mem_cons_of_mem _ wC_fRX3_18) dX3_rowGoesOn_1 ?_
  refine lv_aload_n B.1 B.2.1 dX3_rowGoesOn_4 rfl (lv_at hl 0 rfl) ?_
  refine c_geti (q := q) (x := S.1 8 3) B (iC3 _) hK hM 8 3 3 (by decide) rfl rfl (by decide) (by decide) rfl rfl (by decide) rfl (List.mem_cons_of_mem _ wC_fRX3_32) dX3_rowGoesOn_5 ?_
  refine c_calli (q := q) (As := [.int (zI (S.1 8 3))]) (rest := []) B hK hM 2 (by decide) (by decide) rfl (cX4_at_ok l D cy q 7 b S hF 2 (by decide) (S.1 8 3) (by show 0 ≤ (S.1 2 1); omega) (by show (S.1 2 1) ≤ 100000; omega) (by show -10000000 ≤ (S.1 8 3); omega) (by show (S.1 8 3) ≤ 10000000; omega) (hcs_of hcs)) (cwC 1 B wC_mRX3_70 wC_im_yX4_at wC_sl_yX4_at wC_in_RX4 wC_cd_yX4_at rfl rfl (by decide +kernel) ⟨Nat.le_of_ble_eq_true rfl, Nat.le_of_ble_eq_true rfl⟩) rfl hl.1 rfl (Nat.le_of_ble_eq_true rfl) dX3_rowGoesOn_8 ⟨Nat.zero_le _, Nat.zero_le _⟩ (fun z_4 S_3 H locs hp_2 hM => ?_)
  obtain ⟨hp_2, he_hp_2⟩ := hp_2
  have he_hp_2 := he_hp_2.symm
  subst he_hp_2
  have hp_2 : (K4_at 2 (S.1 8 3) S) = z_4 := hp_2.symm
  subst hp_2
  have f_5 := K4_at_b2 (S := S) hcs (S.1 8 3)
  refine lv_istore_n (lv' := [(1, .int (zI ((K4_at 2 (S.1 8 3) S)))), (0, .ref (q 8))]) B.1 B.2.1 dX3_rowGoesOn_11 rfl hl (by decide) rfl (fun ls hl => ?_)
  refine lv_iload_n B.1 B.2.1 dX3_rowGoesOn_12 rfl (lv_at hl 0 rfl) ?_
  refine z_joinH (P := fun v H' locs' => v = (if ((K4_at 2 (S.1 8 3) S)) = 0 then 0 else (if ((K4_at 2 (S.1 8 3) S)) = 124 then 0 else (if ((K4_at 2 (S.1 8 3) S)) = 41 then 0 else 1 : Int) : Int) : Int) ∧ cH D cy q (cA q) s.heap S H' locs') (pcJ := 33) (lsJ := ls) (stJ := []) (fun v_6 H locs hv_7 => ?_) (fun hJ_8 => ?_)
  · --
    obtain ⟨hv_7, hM⟩ := hv_7
    have hb_9 : (if ((K4_at 2 (S.1 8 3) S)) = 0 then 0 else (if ((K4_at 2 (S.1 8 3) S)) = 124 then 0 else (if ((K4_at 2 (S.1 8 3) S)) = 41 then 0 else 1 : Int) : Int) : Int) = 0 ∨ (if ((K4_at 2 (S.1 8 3) S)) = 0 then 0 else (if ((K4_at 2 (S.1 8 3) S)) = 124 then 0 else (if ((K4_at 2 (S.1 8 3) S)) = 41 then 0 else 1 : Int) : Int) : Int) = 1 := by (repeat' split) <;> simp
    have hv_7 := hv_7.symm
    subst hv_7
    exact c_retz B hM (by omega) (⟨rfl, rfl⟩) dX3_rowGoesOn_33
  · --
    refine z_if_eq (tgt := 32) B.1 B.2.1 (zr_of (by omega) (by omega)) dX3_rowGoesOn_13 (by decide) (fun c_10 => ?_) (fun c_10 => ?_)
    · --
      refine z_iconst B.1 B.2.1 dX3_rowGoesOn_32 ?_
      exact hJ_8 _ _ _ ⟨(if_pos c_10).symm, hM⟩
    · --
      refine lv_iload_n B.1 B.2.1 dX3_rowGoesOn_16 rfl (lv_at hl 0 rfl) ?_
      refine z_bipush B.1 B.2.1 (by decide) dX3_rowGoesOn_17 ?_
      refine z_icmp_eq (tgt := 32) B.1 B.2.1 (zr_of (by omega) (by omega)) (zr_of (by decide) (by decide)) dX3_rowGoesOn_19 (by decide) (fun c_11 => ?_) (fun c_11 => ?_)
      · --
        refine z_iconst B.1 B.2.1 dX3_rowGoesOn_32 ?_
        exact hJ_8 _ _ _ ⟨((if_neg c_10).trans (if_pos c_11)).symm, hM⟩
      · --
        refine lv_iload_n B.1 B.2.1 dX3_rowGoesOn_22 rfl (lv_at hl 0 rfl) ?_
        refine z_bipush B.1 B.2.1 (by decide) dX3_rowGoesOn_23 ?_
        refine z_icmp_eq (tgt := 32) B.1 B.2.1 (zr_of (by omega) (by omega)) (zr_of (by decide) (by decide)) dX3_rowGoesOn_25 (by decide) (fun c_12 => ?_) (fun c_12 => ?_)
        · --
          refine z_iconst B.1 B.2.1 dX3_rowGoesOn_32 ?_
          exact hJ_8 _ _ _ ⟨((if_neg c_10).trans ((if_neg c_11).trans (if_pos c_12))).symm, hM⟩
        · --
          refine z_iconst B.1 B.2.1 dX3_rowGoesOn_28 ?_
          refine lv_goto (tgt := 33) B.1 B.2.1 dX3_rowGoesOn_29 (by decide) ?_
          exact hJ_8 _ _ _ ⟨((if_neg c_10).trans ((if_neg c_11).trans (if_neg c_12))).symm, hM⟩
theorem K3_rowGoesOn_v {S : CSt} : K3_rowGoesOn S = 0 ∨ K3_rowGoesOn S = 1 ∧ ¬ K4_at 2 (S.1 8 3) S = 0 := by
  unfold K3_rowGoesOn
  (repeat' split) <;> first | exact Or.inl rfl | (right; refine ⟨rfl, ?_⟩; assumption)
def K3_readDigit (S : CSt) : CR := (if ((K4_at 2 (S.1 8 3) S)) < 48 then (1, 0, S) else (if ((K4_at 2 (S.1 8 3) S)) ≤ 57 then (0, ((K4_at 2 (S.1 8 3) S)) - 48, (ci S 8 3 ((S.1 8 3) + 1))) else (1, 0, S)))
set_option maxHeartbeats 1000000 in
set_option maxRecDepth 100000 in
theorem cX3_readDigit_ok (l : Launch) (hl0 : l.stackTraces = false) (D : va_G) (cy : Nat → ClassId) (q : Nat → Nat) (V : Nat × (Nat → Nat)) (n0 x y b : Nat) (S : CSt) (hF : cFx 7 b S) (hV : rV S) : gMi l D cy q V n0 x y "java/lang/IllegalArgumentException" yX3_readDigit (.code yX3_readDigit cX3_readDigit 2 (some .int) :: TBC) 6 90 S [.ref (q 8)] (K3_readDigit S) := by
  refine g_of (cc := cX3_readDigit) (maxL := 2) (ret := (some .int)) (by decide) rfl rfl (Nat.le_of_ble_eq_true rfl) ?_
  intro p e s m args below meth c ls B hK hG hM hl
  generalize gA (cq q x y) n0 = A at hG hM ⊢
  have hR : (headSpec (.code yX3_readDigit cX3_readDigit 2 (some .int) :: TBC) (gRm 6 90 S)).room.cells = (gK - gl S) + 1 ∧ (headSpec (.code yX3_readDigit cX3_readDigit 2 (some .int) :: TBC) (gRm 6 90 S)).room.slots = 2 * (gK - gl S) + 6 := ⟨rfl, rfl⟩
  have hl : lv_has ls 2 [(0, .ref (q 8))] := hl
  obtain ⟨hP, hLa, hLb, hcs, ha0, ha1, hga, hgb, hna, hnb, hma, hmb, hzz⟩ := id hV
  refine lv_aload_n B.1 B.2.1 dX3_readDigit_0 rfl (lv_at hl 0 rfl) ?_
  refine c_getr (q := (cq q x y)) (r := 2) B (iC3 _) hK hM 8 0 3 (by decide) rfl rfl (by decide) (by decide) rfl rfl rfl (cFx_r hF 8 0) (List.mem_cons_of_mem _ wC_fRX3_18) dX3_readDigit_1 ?_
  refine lv_aload_n B.1 B.2.1 dX3_readDigit_4 rfl (lv_at hl 0 rfl) ?_
  refine c_geti (q := (cq q x y)) (x := S.1 8 3) B (iC3 _) hK hM 8 3 3 (by decide) rfl rfl (by decide) (by decide) rfl rfl (by decide) rfl (List.mem_cons_of_mem _ wC_fRX3_32) dX3_readDigit_5 ?_
  refine c_calli (q := (cq q x y)) (As := [.int (zI (S.1 8 3))]) (rest := []) B hK hM 2 (by decide) (by decide) rfl (cX4_at_ok l D cy (cq q x y) 7 b S hF 2 (by decide) (S.1 8 3) (by show 0 ≤ (S.1 2 1); omega) (by show (S.1 2 1) ≤ 100000; omega) (by show -10000000 ≤ (S.1 8 3); omega) (by show (S.1 8 3) ≤ 10000000; omega) (hcs_of hcs)) (cwC 1 B wC_mRX3_70 wC_im_yX4_at wC_sl_yX4_at wC_in_RX4 wC_cd_yX4_at rfl rfl (by decide +kernel) ⟨Nat.le_of_ble_eq_true rfl, Nat.le_of_ble_eq_true rfl⟩) rfl hl.1 rfl (Nat.le_of_ble_eq_true rfl) dX3_readDigit_8 ⟨g_rc hR (Nat.le_refl _) (cFx_gl (S := S) hF), g_rs hR (Nat.le_refl _) (cFx_gl (S := S) hF)⟩ (fun z_4 S_3 H locs hp_2 hM => ?_)
  obtain ⟨hp_2, he_hp_2⟩ := hp_2
  have he_hp_2 := he_hp_2.symm
  subst he_hp_2
  have hp_2 : (K4_at 2 (S.1 8 3) S) = z_4 := hp_2.symm
  subst hp_2
  have f_5 := K4_at_b2 (S := S) hcs (S.1 8 3)
  refine lv_istore_n (lv' := [(1, .int (zI ((K4_at 2 (S.1 8 3) S)))), (0, .ref (q 8))]) B.1 B.2.1 dX3_readDigit_11 rfl hl (by decide) rfl (fun ls hl => ?_)
  refine lv_iload_n B.1 B.2.1 dX3_readDigit_12 rfl (lv_at hl 0 rfl) ?_
  refine z_bipush B.1 B.2.1 (by decide) dX3_readDigit_13 ?_
  refine z_icmp_lt (tgt := 24) B.1 B.2.1 (zr_of (by omega) (by omega)) (zr_of (by decide) (by decide)) dX3_readDigit_15 (by decide) (fun c_6 => ?_) (fun c_6 => ?_)
  · --
    exact g_throw (E := "java/lang/IllegalArgumentException") (ik := 49) (is := 217) (ic := 53) 22 (by decide) hl0 B hG hM rfl sX_java_lang_IllegalArgumentException (by decide +kernel) (List.mem_cons_of_mem _ wC_cRX3_49) (List.mem_cons_of_mem _ wC_in__java_lang_IllegalArgumentException_) (tC_RX3_53 _) tN_RX3_53 hl.1 (Nat.le_of_ble_eq_true rfl) hR (Nat.le_of_ble_eq_true rfl) (Nat.le_of_ble_eq_true rfl) (Nat.le_refl _) (cFx_gl hF) (tO_RX3_53 _) dX3_readDigit_24 dX3_readDigit_27 dX3_readDigit_28 dX3_readDigit_30 dX3_readDigit_33 (by unfold K3_readDigit; exact (if_pos c_6))
  · --
    refine lv_iload_n B.1 B.2.1 dX3_readDigit_18 rfl (lv_at hl 0 rfl) ?_
    refine z_bipush B.1 B.2.1 (by decide) dX3_readDigit_19 ?_
    refine z_icmp_le (tgt := 34) B.1 B.2.1 (zr_of (by omega) (by omega)) (zr_of (by decide) (by decide)) dX3_readDigit_21 (by decide) (fun c_7 => ?_) (fun c_7 => ?_)
    · --
      refine lv_aload_n B.1 B.2.1 dX3_readDigit_34 rfl (lv_at hl 1 rfl) ?_
      refine lv_dup B.1 B.2.1 dX3_readDigit_35 rfl ?_
      refine c_geti (q := (cq q x y)) (x := S.1 8 3) B (iC3 _) hK hM 8 3 3 (by decide) rfl rfl (by decide) (by decide) rfl rfl (by decide) rfl (List.mem_cons_of_mem _ wC_fRX3_32) dX3_readDigit_36 ?_
      refine z_iconst B.1 B.2.1 dX3_readDigit_39 ?_
      refine z_iadd (x := (S.1 8 3) + 1) B.1 B.2.1 rfl dX3_readDigit_40 ?_
      refine c_puti (q := (cq q x y)) B (iC3 _) tyX3 tyX3_ok nmX3 hK hM 8 3 3 (by decide) rfl rfl (by decide) (by decide) rfl rfl rfl (by decide +kernel) (by decide) (List.mem_cons_of_mem _ wC_fRX3_32) dX3_readDigit_41 (fun H locs hM => ?_)
      have hP : pB 7 (ci S 8 3 ((S.1 8 3) + 1)) := pB_ci (by decide) (by decide) hP
      refine lv_iload_n B.1 B.2.1 dX3_readDigit_44 rfl (lv_at hl 0 rfl) ?_
      refine z_bipush B.1 B.2.1 (by decide) dX3_readDigit_45 ?_
      refine z_isub (x := ((K4_at 2 (S.1 8 3) S)) - 48) B.1 B.2.1 rfl dX3_readDigit_47 ?_
      exact g_reti (S := (ci S 8 3 ((S.1 8 3) + 1))) B hM (by unfold K3_readDigit; exact ((if_neg c_6).trans (if_pos c_7))) dX3_readDigit_48
    · --
      exact g_throw (E := "java/lang/IllegalArgumentException") (ik := 49) (is := 217) (ic := 53) 22 (by decide) hl0 B hG hM rfl sX_java_lang_IllegalArgumentException (by decide +kernel) (List.mem_cons_of_mem _ wC_cRX3_49) (List.mem_cons_of_mem _ wC_in__java_lang_IllegalArgumentException_) (tC_RX3_53 _) tN_RX3_53 hl.1 (Nat.le_of_ble_eq_true rfl) hR (Nat.le_of_ble_eq_true rfl) (Nat.le_of_ble_eq_true rfl) (Nat.le_refl _) (cFx_gl hF) (tO_RX3_53 _) dX3_readDigit_24 dX3_readDigit_27 dX3_readDigit_28 dX3_readDigit_30 dX3_readDigit_33 (by unfold K3_readDigit; exact ((if_neg c_6).trans (if_neg c_7)))
def K3_addAnySign (S : CSt) : CSt := (if ((K2_has 7 2 S)) = 0 then (K5_addRange 32 126 S) else (K5_addRange 48 126 (K5_addRange 32 46 S)))
set_option maxHeartbeats 1000000 in
set_option maxRecDepth 100000 in
theorem cX3_addAnySign_ok (l : Launch) (D : va_G) (cy : Nat → ClassId) (q : Nat → Nat) (b : Nat) (S : CSt) (hF : cFx 7 b S) (hP : pB 7 S) : cMv l D cy q yX3_addAnySign (.code yX3_addAnySign cX3_addAnySign 1 none :: TBC) ({ frames := 2, cells := 0, slots := 0, locals := 44 }) S 8 [] (fun S' => S' = K3_addAnySign S) := by
  refine c_of (cc := cX3_addAnySign) (maxL := 1) (ret := none) (C := RX3) (by decide) rfl rfl (Nat.le_of_ble_eq_true rfl) ?_
  intro p e s m args below meth c ls B hK hM hl
  have hl : lv_has ls 1 [(0, .ref (q 8))] := hl
  refine lv_aload_n B.1 B.2.1 dX3_addAnySign_0 rfl (lv_at hl 0 rfl) ?_
  refine c_getr (q := q) (r := 7) B (iC3 _) hK hM 8 2 3 (by decide) rfl rfl (by decide) (by decide) rfl rfl rfl (cFx_r hF 8 2) (List.mem_cons_of_mem _ wC_fRX3_22) dX3_addAnySign_1 ?_
  refine z_iconst B.1 B.2.1 dX3_addAnySign_4 ?_
  refine c_calli (q := q) (As := [.int (zI 2)]) (rest := []) B hK hM 7 (by decide) (by decide) rfl (cX2_has_ok l D cy q 7 b S hF 7 (by decide) 2 hP (by show 0 ≤ 2; omega) (by show 2 ≤ 100; omega)) (cwC 1 B wC_mRX3_172 wC_im_yX2_has wC_sl_yX2_has wC_in_RX2 wC_cd_yX2_has rfl rfl (by decide +kernel) ⟨Nat.le_of_ble_eq_true rfl, Nat.le_of_ble_eq_true rfl⟩) rfl hl.1 rfl (Nat.le_of_ble_eq_true rfl) dX3_addAnySign_5 ⟨Nat.zero_le _, Nat.zero_le _⟩ (fun z_4 S_3 H locs hp_2 hM => ?_)
  obtain ⟨hp_2, he_hp_2⟩ := hp_2
  have he_hp_2 := he_hp_2.symm
  subst he_hp_2
  have hp_2 : (K2_has 7 2 S) = z_4 := hp_2.symm
  subst hp_2
  have f_5 := K2_has_bd 7 2 S
  refine z_if_eq (tgt := 36) B.1 B.2.1 (zr_of (by omega) (by omega)) dX3_addAnySign_8 (by decide) (fun c_6 => ?_) (fun c_6 => ?_)
  · --
    refine lv_aload_n B.1 B.2.1 dX3_addAnySign_36 rfl (lv_at hl 0 rfl) ?_
    refine c_getr (q := q) (r := 9) B (iC3 _) hK hM 8 1 3 (by decide) rfl rfl (by decide) (by decide) rfl rfl rfl (cFx_r hF 8 1) (List.mem_cons_of_mem _ wC_fRX3_12) dX3_addAnySign_37 ?_
    refine z_bipush B.1 B.2.1 (by decide) dX3_addAnySign_40 ?_
    refine z_bipush B.1 B.2.1 (by decide) dX3_addAnySign_42 ?_
    refine c_callv (q := q) (As := [.int (zI 32), .int (zI 126)]) (rest := []) B hK hM 9 (by decide) (by decide) rfl (cX5_addRange_ok l D cy q 7 b S hF  32 126 (by show 0 ≤ 32; omega) (by show 32 ≤ 126 + 1; omega) (by show 126 < 65536; omega)) (cwC 2 B wC_mRX3_176 wC_im_yX5_addRange wC_sl_yX5_addRange wC_in_RX5 wC_cd_yX5_addRange rfl rfl (by decide +kernel) ⟨Nat.le_of_ble_eq_true rfl, Nat.le_of_ble_eq_true rfl⟩) rfl hl.1 rfl (Nat.le_of_ble_eq_true rfl) dX3_addAnySign_44 ⟨Nat.zero_le _, Nat.zero_le _⟩ (fun S_9 H locs hp_8 hM => ?_)
    have hp_8 := hp_8.symm
    subst hp_8
    have hF : cFx 7 b (K5_addRange 32 126 S) := cFx_of K5_addRange_22 hF
    have hP : pB 7 (K5_addRange 32 126 S) := pB_of (congrFun K5_addRange_1 _) (fun j hj => congrFun K5_addRange_1 _) hP
    exact c_retv B hM (by unfold K3_addAnySign; exact (if_pos c_6).symm) dX3_addAnySign_47
  · --
    refine lv_aload_n B.1 B.2.1 dX3_addAnySign_11 rfl (lv_at hl 0 rfl) ?_
    refine c_getr (q := q) (r := 9) B (iC3 _) hK hM 8 1 3 (by decide) rfl rfl (by decide) (by decide) rfl rfl rfl (cFx_r hF 8 1) (List.mem_cons_of_mem _ wC_fRX3_12) dX3_addAnySign_12 ?_
    refine z_bipush B.1 B.2.1 (by decide) dX3_addAnySign_15 ?_
    refine z_bipush B.1 B.2.1 (by decide) dX3_addAnySign_17 ?_
    refine c_callv (q := q) (As := [.int (zI 32), .int (zI 46)]) (rest := []) B hK hM 9 (by decide) (by decide) rfl (cX5_addRange_ok l D cy q 7 b S hF  32 46 (by show 0 ≤ 32; omega) (by show 32 ≤ 46 + 1; omega) (by show 46 < 65536; omega)) (cwC 2 B wC_mRX3_176 wC_im_yX5_addRange wC_sl_yX5_addRange wC_in_RX5 wC_cd_yX5_addRange rfl rfl (by decide +kernel) ⟨Nat.le_of_ble_eq_true rfl, Nat.le_of_ble_eq_true rfl⟩) rfl hl.1 rfl (Nat.le_of_ble_eq_true rfl) dX3_addAnySign_19 ⟨Nat.zero_le _, Nat.zero_le _⟩ (fun S_12 H locs hp_11 hM => ?_)
    have hp_11 := hp_11.symm
    subst hp_11
    have hF : cFx 7 b (K5_addRange 32 46 S) := cFx_of K5_addRange_22 hF
    have hP : pB 7 (K5_addRange 32 46 S) := pB_of (congrFun K5_addRange_1 _) (fun j hj => congrFun K5_addRange_1 _) hP
    refine lv_aload_n B.1 B.2.1 dX3_addAnySign_22 rfl (lv_at hl 0 rfl) ?_
    refine c_getr (q := q) (r := 9) B (iC3 _) hK hM 8 1 3 (by decide) rfl rfl (by decide) (by decide) rfl rfl rfl (cFx_r hF 8 1) (List.mem_cons_of_mem _ wC_fRX3_12) dX3_addAnySign_23 ?_
    refine z_bipush B.1 B.2.1 (by decide) dX3_addAnySign_26 ?_
    refine z_bipush B.1 B.2.1 (by decide) dX3_addAnySign_28 ?_
    refine c_callv (q := q) (As := [.int (zI 48), .int (zI 126)]) (rest := []) B hK hM 9 (by decide) (by decide) rfl (cX5_addRange_ok l D cy q 7 b (K5_addRange 32 46 S) hF  48 126 (by show 0 ≤ 48; omega) (by show 48 ≤ 126 + 1; omega) (by show 126 < 65536; omega)) (cwC 2 B wC_mRX3_176 wC_im_yX5_addRange wC_sl_yX5_addRange wC_in_RX5 wC_cd_yX5_addRange rfl rfl (by decide +kernel) ⟨Nat.le_of_ble_eq_true rfl, Nat.le_of_ble_eq_true rfl⟩) rfl hl.1 rfl (Nat.le_of_ble_eq_true rfl) dX3_addAnySign_30 ⟨Nat.zero_le _, Nat.zero_le _⟩ (fun S_15 H locs hp_14 hM => ?_)
    have hp_14 := hp_14.symm
    subst hp_14
    have hF : cFx 7 b (K5_addRange 48 126 (K5_addRange 32 46 S)) := cFx_of K5_addRange_22 hF
    have hP : pB 7 (K5_addRange 48 126 (K5_addRange 32 46 S)) := pB_of (congrFun K5_addRange_1 _) (fun j hj => congrFun K5_addRange_1 _) hP
    refine lv_goto (tgt := 47) B.1 B.2.1 dX3_addAnySign_33 (by decide) ?_
    exact c_retv B hM (by unfold K3_addAnySign; exact (if_neg c_6).symm) dX3_addAnySign_47
def K3_addOneSign (tu : Int) (S : CSt) : CR := (if ((K2_has 7 4 S)) = 0 then (if tu = 0 then (if (K2_addOneSign S).1 = 0 then (0, 1, (K2_addOneSign S).2.2) else (1, 0, (K2_addOneSign S).2.2)) else (if (K2_addOneSign (K5_turnRound S)).1 = 0 then (0, 1, (K2_addOneSign (K5_turnRound S)).2.2) else (1, 0, (K2_addOneSign (K5_turnRound S)).2.2))) else (if tu = 0 then (if (K2_addOneSign (K5_addSameLetters S)).1 = 0 then (0, 1, (K2_addOneSign (K5_addSameLetters S)).2.2) else (1, 0, (K2_addOneSign (K5_addSameLetters S)).2.2)) else (if (K2_addOneSign (K5_turnRound (K5_addSameLetters S))).1 = 0 then (0, 1, (K2_addOneSign (K5_turnRound (K5_addSameLetters S))).2.2) else (1, 0, (K2_addOneSign (K5_turnRound (K5_addSameLetters S))).2.2))))
set_option maxHeartbeats 1000000 in
set_option maxRecDepth 100000 in
theorem cX3_addOneSign_ok (l : Launch) (hl0 : l.stackTraces = false) (D : va_G) (cy : Nat → ClassId) (q : Nat → Nat) (V : Nat × (Nat → Nat)) (n0 x y b : Nat) (S : CSt) (hF : cFx 7 b S) (tu : Int) (hP : pB 7 S) (h0 : tu = 0 ∨ tu = 1) : gMi l D cy q V n0 x y "java/lang/IllegalArgumentException" yX3_addOneSign (.code yX3_addOneSign cX3_addOneSign 2 (some .int) :: TBC) 8 135 S [.ref (q 8), .int (zI tu)] (K3_addOneSign tu S) := by
  refine g_of (cc := cX3_addOneSign) (maxL := 2) (ret := (some .int)) (by decide) rfl rfl (Nat.le_of_ble_eq_true rfl) ?_
  intro p e s m args below meth c ls B hK hG hM hl
  generalize gA (cq q x y) n0 = A at hG hM ⊢
  have hR : (headSpec (.code yX3_addOneSign cX3_addOneSign 2 (some .int) :: TBC) (gRm 8 135 S)).room.cells = (gK - gl S) + 1 ∧ (headSpec (.code yX3_addOneSign cX3_addOneSign 2 (some .int) :: TBC) (gRm 8 135 S)).room.slots = 2 * (gK - gl S) + 6 := ⟨rfl, rfl⟩
  have hl : lv_has ls 2 [(0, .ref (q 8)), (1, .int (zI tu))] := hl
  refine lv_aload_n B.1 B.2.1 dX3_addOneSign_0 rfl (lv_at hl 0 rfl) ?_
  refine c_getr (q := (cq q x y)) (r := 7) B (iC3 _) hK hM 8 2 3 (by decide) rfl rfl (by decide) (by decide) rfl rfl rfl (cFx_r hF 8 2) (List.mem_cons_of_mem _ wC_fRX3_22) dX3_addOneSign_1 ?_
  refine z_iconst B.1 B.2.1 dX3_addOneSign_4 ?_
  refine c_calli (q := (cq q x y)) (As := [.int (zI 4)]) (rest := []) B hK hM 7 (by decide) (by decide) rfl (cX2_has_ok l D cy (cq q x y) 7 b S hF 7 (by decide) 4 hP (by show 0 ≤ 4; omega) (by show 4 ≤ 100; omega)) (cwC 1 B wC_mRX3_172 wC_im_yX2_has wC_sl_yX2_has wC_in_RX2 wC_cd_yX2_has rfl rfl (by decide +kernel) ⟨Nat.le_of_ble_eq_true rfl, Nat.le_of_ble_eq_true rfl⟩) rfl hl.1 rfl (Nat.le_of_ble_eq_true rfl) dX3_addOneSign_5 ⟨g_rc hR (Nat.le_refl _) (cFx_gl (S := S) hF), g_rs hR (Nat.le_refl _) (cFx_gl (S := S) hF)⟩ (fun z_4 S_3 H locs hp_2 hM => ?_)
  obtain ⟨hp_2, he_hp_2⟩ := hp_2
  have he_hp_2 := he_hp_2.symm
  subst he_hp_2
  have hp_2 : (K2_has 7 4 S) = z_4 := hp_2.symm
  subst hp_2
  have f_5 := K2_has_bd 7 4 S
  refine z_if_eq (tgt := 18) B.1 B.2.1 (zr_of (by omega) (by omega)) dX3_addOneSign_8 (by decide) (fun c_6 => ?_) (fun c_6 => ?_)
  · --
    refine lv_iload_n B.1 B.2.1 dX3_addOneSign_18 rfl (lv_at hl 1 rfl) ?_
    refine z_if_eq (tgt := 29) B.1 B.2.1 (zr_of (by omega) (by omega)) dX3_addOneSign_19 (by decide) (fun c_7 => ?_) (fun c_7 => ?_)
    · --
      refine lv_aload_n B.1 B.2.1 dX3_addOneSign_29 rfl (lv_at hl 0 rfl) ?_
      refine c_getr (q := (cq q x y)) (r := 7) B (iC3 _) hK hM 8 2 3 (by decide) rfl rfl (by decide) (by decide) rfl rfl rfl (cFx_r hF 8 2) (List.mem_cons_of_mem _ wC_fRX3_22) dX3_addOneSign_30 ?_
      refine lv_aload_n B.1 B.2.1 dX3_addOneSign_33 rfl (lv_at hl 0 rfl) ?_
      refine c_getr (q := (cq q x y)) (r := 9) B (iC3 _) hK hM 8 1 3 (by decide) rfl rfl (by decide) (by decide) rfl rfl rfl (cFx_r hF 8 1) (List.mem_cons_of_mem _ wC_fRX3_12) dX3_addOneSign_34 ?_
      refine g_callv (E := "java/lang/IllegalArgumentException") (As := [.ref (q 9)]) (rest := []) B hK hG hM 7 (by decide) (by decide) rfl (cX2_addOneSign_ok l hl0 D cy q V n0 x y 7 b S hF   hP) (cwC 1 B wC_mRX3_185 wC_im_yX2_addOneSign wC_sl_yX2_addOneSign wC_in_RX2 wC_cd_yX2_addOneSign rfl rfl (by decide +kernel) ⟨Nat.le_of_ble_eq_true rfl, Nat.le_of_ble_eq_true rfl⟩) rfl hl.1 rfl (Nat.le_of_ble_eq_true rfl) dX3_addOneSign_37 hR (Nat.le_refl _) (cFx_gl hF) (gl_of K2_addOneSign_22) (fun c_9 => (by unfold K3_addOneSign; exact ((if_pos c_6).trans ((if_pos c_7).trans (if_neg c_9))))) (fun x y H locs c_9 hM => ?_)
      have hg : gl S ≤ gl (K2_addOneSign S).2.2 := Nat.le_trans (Nat.le_refl _) (gl_of K2_addOneSign_22)
      have hP := pB_addOneSign  hP c_9
      have hF : cFx 7 b (K2_addOneSign S).2.2 := cFx_of K2_addOneSign_22 hF
      refine z_iconst B.1 B.2.1 dX3_addOneSign_40 ?_
      exact g_reti (S := (K2_addOneSign S).2.2) B hM (by unfold K3_addOneSign; exact ((if_pos c_6).trans ((if_pos c_7).trans (if_pos c_9)))) dX3_addOneSign_41
    · --
      refine lv_aload_n B.1 B.2.1 dX3_addOneSign_22 rfl (lv_at hl 0 rfl) ?_
      refine c_getr (q := (cq q x y)) (r := 9) B (iC3 _) hK hM 8 1 3 (by decide) rfl rfl (by decide) (by decide) rfl rfl rfl (cFx_r hF 8 1) (List.mem_cons_of_mem _ wC_fRX3_12) dX3_addOneSign_23 ?_
      refine c_callv (q := (cq q x y)) (As := []) (rest := []) B hK hM 9 (by decide) (by decide) rfl (cX5_turnRound_ok l D cy (cq q x y) 7 b S hF   ) (cwC 0 B wC_mRX3_182 wC_im_yX5_turnRound wC_sl_yX5_turnRound wC_in_RX5 wC_cd_yX5_turnRound rfl rfl (by decide +kernel) ⟨Nat.le_of_ble_eq_true rfl, Nat.le_of_ble_eq_true rfl⟩) rfl hl.1 rfl (Nat.le_of_ble_eq_true rfl) dX3_addOneSign_26 ⟨g_rc hR (Nat.le_refl _) (cFx_gl (S := S) hF), g_rs hR (Nat.le_refl _) (cFx_gl (S := S) hF)⟩ (fun S_12 H locs hp_11 hM => ?_)
      have hp_11 := hp_11.symm
      subst hp_11
      have hg : gl S ≤ gl (K5_turnRound S) := Nat.le_trans (Nat.le_refl _) (gl_of K5_turnRound_22)
      refine W.widen (k := gl (K5_turnRound S) - gl S) (n := 2 * (gl (K5_turnRound S) - gl S)) (Nat.sub_le_sub_right (gl_of (S := S) (S' := (K5_turnRound S)) K5_turnRound_22) _) (Nat.mul_le_mul_left 2 (Nat.sub_le_sub_right (gl_of (S := S) (S' := (K5_turnRound S)) K5_turnRound_22) _)) ?_
      have hF : cFx 7 b (K5_turnRound S) := cFx_of K5_turnRound_22 hF
      have hP : pB 7 (K5_turnRound S) := pB_of (congrFun K5_turnRound_1 _) (fun j hj => congrFun K5_turnRound_1 _) hP
      refine lv_aload_n B.1 B.2.1 dX3_addOneSign_29 rfl (lv_at hl 0 rfl) ?_
      refine c_getr (q := (cq q x y)) (r := 7) B (iC3 _) hK hM 8 2 3 (by decide) rfl rfl (by decide) (by decide) rfl rfl rfl (cFx_r hF 8 2) (List.mem_cons_of_mem _ wC_fRX3_22) dX3_addOneSign_30 ?_
      refine lv_aload_n B.1 B.2.1 dX3_addOneSign_33 rfl (lv_at hl 0 rfl) ?_
      refine c_getr (q := (cq q x y)) (r := 9) B (iC3 _) hK hM 8 1 3 (by decide) rfl rfl (by decide) (by decide) rfl rfl rfl (cFx_r hF 8 1) (List.mem_cons_of_mem _ wC_fRX3_12) dX3_addOneSign_34 ?_
      refine g_callv (E := "java/lang/IllegalArgumentException") (As := [.ref (q 9)]) (rest := []) B hK hG hM 7 (by decide) (by decide) rfl (cX2_addOneSign_ok l hl0 D cy q V n0 x y 7 b (K5_turnRound S) hF   hP) (cwC 1 B wC_mRX3_185 wC_im_yX2_addOneSign wC_sl_yX2_addOneSign wC_in_RX2 wC_cd_yX2_addOneSign rfl rfl (by decide +kernel) ⟨Nat.le_of_ble_eq_true rfl, Nat.le_of_ble_eq_true rfl⟩) rfl hl.1 rfl (Nat.le_of_ble_eq_true rfl) dX3_addOneSign_37 hR hg (cFx_gl hF) (gl_of K2_addOneSign_22) (fun c_14 => (by unfold K3_addOneSign; exact ((if_pos c_6).trans ((if_neg c_7).trans (if_neg c_14))))) (fun x y H locs c_14 hM => ?_)
      have hg : gl S ≤ gl (K2_addOneSign (K5_turnRound S)).2.2 := Nat.le_trans hg (gl_of K2_addOneSign_22)
      have hP := pB_addOneSign  hP c_14
      have hF : cFx 7 b (K2_addOneSign (K5_turnRound S)).2.2 := cFx_of K2_addOneSign_22 hF
      refine z_iconst B.1 B.2.1 dX3_addOneSign_40 ?_
      exact g_reti (S := (K2_addOneSign (K5_turnRound S)).2.2) B hM (by unfold K3_addOneSign; exact ((if_pos c_6).trans ((if_neg c_7).trans (if_pos c_14)))) dX3_addOneSign_41
  · --
    refine lv_aload_n B.1 B.2.1 dX3_addOneSign_11 rfl (lv_at hl 0 rfl) ?_
    refine c_getr (q := (cq q x y)) (r := 9) B (iC3 _) hK hM 8 1 3 (by decide) rfl rfl (by decide) (by decide) rfl rfl rfl (cFx_r hF 8 1) (List.mem_cons_of_mem _ wC_fRX3_12) dX3_addOneSign_12 ?_
    refine c_callv (q := (cq q x y)) (As := []) (rest := []) B hK hM 9 (by decide) (by decide) rfl (cX5_addSameLetters_ok l D cy (cq q x y) 7 b S hF   ) (cwC 0 B wC_mRX3_179 wC_im_yX5_addSameLetters wC_sl_yX5_addSameLetters wC_in_RX5 wC_cd_yX5_addSameLetters rfl rfl (by decide +kernel) ⟨Nat.le_of_ble_eq_true rfl, Nat.le_of_ble_eq_true rfl⟩) rfl hl.1 rfl (Nat.le_of_ble_eq_true rfl) dX3_addOneSign_15 ⟨g_rc hR (Nat.le_refl _) (cFx_gl (S := S) hF), g_rs hR (Nat.le_refl _) (cFx_gl (S := S) hF)⟩ (fun S_17 H locs hp_16 hM => ?_)
    have hp_16 := hp_16.symm
    subst hp_16
    have hg : gl S ≤ gl (K5_addSameLetters S) := Nat.le_trans (Nat.le_refl _) (gl_of K5_addSameLetters_22)
    refine W.widen (k := gl (K5_addSameLetters S) - gl S) (n := 2 * (gl (K5_addSameLetters S) - gl S)) (Nat.sub_le_sub_right (gl_of (S := S) (S' := (K5_addSameLetters S)) K5_addSameLetters_22) _) (Nat.mul_le_mul_left 2 (Nat.sub_le_sub_right (gl_of (S := S) (S' := (K5_addSameLetters S)) K5_addSameLetters_22) _)) ?_
    have hF : cFx 7 b (K5_addSameLetters S) := cFx_of K5_addSameLetters_22 hF
    have hP : pB 7 (K5_addSameLetters S) := pB_of (congrFun K5_addSameLetters_1 _) (fun j hj => congrFun K5_addSameLetters_1 _) hP
    refine lv_iload_n B.1 B.2.1 dX3_addOneSign_18 rfl (lv_at hl 1 rfl) ?_
    refine z_if_eq (tgt := 29) B.1 B.2.1 (zr_of (by omega) (by omega)) dX3_addOneSign_19 (by decide) (fun c_18 => ?_) (fun c_18 => ?_)
    · --
      refine lv_aload_n B.1 B.2.1 dX3_addOneSign_29 rfl (lv_at hl 0 rfl) ?_
      refine c_getr (q := (cq q x y)) (r := 7) B (iC3 _) hK hM 8 2 3 (by decide) rfl rfl (by decide) (by decide) rfl rfl rfl (cFx_r hF 8 2) (List.mem_cons_of_mem _ wC_fRX3_22) dX3_addOneSign_30 ?_
      refine lv_aload_n B.1 B.2.1 dX3_addOneSign_33 rfl (lv_at hl 0 rfl) ?_
      refine c_getr (q := (cq q x y)) (r := 9) B (iC3 _) hK hM 8 1 3 (by decide) rfl rfl (by decide) (by decide) rfl rfl rfl (cFx_r hF 8 1) (List.mem_cons_of_mem _ wC_fRX3_12) dX3_addOneSign_34 ?_
      refine g_callv (E := "java/lang/IllegalArgumentException") (As := [.ref (q 9)]) (rest := []) B hK hG hM 7 (by decide) (by decide) rfl (cX2_addOneSign_ok l hl0 D cy q V n0 x y 7 b (K5_addSameLetters S) hF   hP) (cwC 1 B wC_mRX3_185 wC_im_yX2_addOneSign wC_sl_yX2_addOneSign wC_in_RX2 wC_cd_yX2_addOneSign rfl rfl (by decide +kernel) ⟨Nat.le_of_ble_eq_true rfl, Nat.le_of_ble_eq_true rfl⟩) rfl hl.1 rfl (Nat.le_of_ble_eq_true rfl) dX3_addOneSign_37 hR hg (cFx_gl hF) (gl_of K2_addOneSign_22) (fun c_20 => (by unfold K3_addOneSign; exact ((if_neg c_6).trans ((if_pos c_18).trans (if_neg c_20))))) (fun x y H locs c_20 hM => ?_)
      have hg : gl S ≤ gl (K2_addOneSign (K5_addSameLetters S)).2.2 := Nat.le_trans hg (gl_of K2_addOneSign_22)
      have hP := pB_addOneSign  hP c_20
      have hF : cFx 7 b (K2_addOneSign (K5_addSameLetters S)).2.2 := cFx_of K2_addOneSign_22 hF
      refine z_iconst B.1 B.2.1 dX3_addOneSign_40 ?_
      exact g_reti (S := (K2_addOneSign (K5_addSameLetters S)).2.2) B hM (by unfold K3_addOneSign; exact ((if_neg c_6).trans ((if_pos c_18).trans (if_pos c_20)))) dX3_addOneSign_41
    · --
      refine lv_aload_n B.1 B.2.1 dX3_addOneSign_22 rfl (lv_at hl 0 rfl) ?_
      refine c_getr (q := (cq q x y)) (r := 9) B (iC3 _) hK hM 8 1 3 (by decide) rfl rfl (by decide) (by decide) rfl rfl rfl (cFx_r hF 8 1) (List.mem_cons_of_mem _ wC_fRX3_12) dX3_addOneSign_23 ?_
      refine c_callv (q := (cq q x y)) (As := []) (rest := []) B hK hM 9 (by decide) (by decide) rfl (cX5_turnRound_ok l D cy (cq q x y) 7 b (K5_addSameLetters S) hF   ) (cwC 0 B wC_mRX3_182 wC_im_yX5_turnRound wC_sl_yX5_turnRound wC_in_RX5 wC_cd_yX5_turnRound rfl rfl (by decide +kernel) ⟨Nat.le_of_ble_eq_true rfl, Nat.le_of_ble_eq_true rfl⟩) rfl hl.1 rfl (Nat.le_of_ble_eq_true rfl) dX3_addOneSign_26 ⟨g_rc hR hg (cFx_gl (S := (K5_addSameLetters S)) hF), g_rs hR hg (cFx_gl (S := (K5_addSameLetters S)) hF)⟩ (fun S_23 H locs hp_22 hM => ?_)
      have hp_22 := hp_22.symm
      subst hp_22
      have hg : gl S ≤ gl (K5_turnRound (K5_addSameLetters S)) := Nat.le_trans hg (gl_of K5_turnRound_22)
      refine W.widen (k := gl (K5_turnRound (K5_addSameLetters S)) - gl S) (n := 2 * (gl (K5_turnRound (K5_addSameLetters S)) - gl S)) (Nat.sub_le_sub_right (gl_of (S := (K5_addSameLetters S)) (S' := (K5_turnRound (K5_addSameLetters S))) K5_turnRound_22) _) (Nat.mul_le_mul_left 2 (Nat.sub_le_sub_right (gl_of (S := (K5_addSameLetters S)) (S' := (K5_turnRound (K5_addSameLetters S))) K5_turnRound_22) _)) ?_
      have hF : cFx 7 b (K5_turnRound (K5_addSameLetters S)) := cFx_of K5_turnRound_22 hF
      have hP : pB 7 (K5_turnRound (K5_addSameLetters S)) := pB_of (congrFun K5_turnRound_1 _) (fun j hj => congrFun K5_turnRound_1 _) hP
      refine lv_aload_n B.1 B.2.1 dX3_addOneSign_29 rfl (lv_at hl 0 rfl) ?_
      refine c_getr (q := (cq q x y)) (r := 7) B (iC3 _) hK hM 8 2 3 (by decide) rfl rfl (by decide) (by decide) rfl rfl rfl (cFx_r hF 8 2) (List.mem_cons_of_mem _ wC_fRX3_22) dX3_addOneSign_30 ?_
      refine lv_aload_n B.1 B.2.1 dX3_addOneSign_33 rfl (lv_at hl 0 rfl) ?_
      refine c_getr (q := (cq q x y)) (r := 9) B (iC3 _) hK hM 8 1 3 (by decide) rfl rfl (by decide) (by decide) rfl rfl rfl (cFx_r hF 8 1) (List.mem_cons_of_mem _ wC_fRX3_12) dX3_addOneSign_34 ?_
      refine g_callv (E := "java/lang/IllegalArgumentException") (As := [.ref (q 9)]) (rest := []) B hK hG hM 7 (by decide) (by decide) rfl (cX2_addOneSign_ok l hl0 D cy q V n0 x y 7 b (K5_turnRound (K5_addSameLetters S)) hF   hP) (cwC 1 B wC_mRX3_185 wC_im_yX2_addOneSign wC_sl_yX2_addOneSign wC_in_RX2 wC_cd_yX2_addOneSign rfl rfl (by decide +kernel) ⟨Nat.le_of_ble_eq_true rfl, Nat.le_of_ble_eq_true rfl⟩) rfl hl.1 rfl (Nat.le_of_ble_eq_true rfl) dX3_addOneSign_37 hR hg (cFx_gl hF) (gl_of K2_addOneSign_22) (fun c_25 => (by unfold K3_addOneSign; exact ((if_neg c_6).trans ((if_neg c_18).trans (if_neg c_25))))) (fun x y H locs c_25 hM => ?_)
      have hg : gl S ≤ gl (K2_addOneSign (K5_turnRound (K5_addSameLetters S))).2.2 := Nat.le_trans hg (gl_of K2_addOneSign_22)
      have hP := pB_addOneSign  hP c_25
      have hF : cFx 7 b (K2_addOneSign (K5_turnRound (K5_addSameLetters S))).2.2 := cFx_of K2_addOneSign_22 hF
      refine z_iconst B.1 B.2.1 dX3_addOneSign_40 ?_
      exact g_reti (S := (K2_addOneSign (K5_turnRound (K5_addSameLetters S))).2.2) B hM (by unfold K3_addOneSign; exact ((if_neg c_6).trans ((if_neg c_18).trans (if_pos c_25)))) dX3_addOneSign_41
