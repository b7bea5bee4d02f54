/-- what a turn of Matcher's loop needs, and that what comes has it, too -/
def K0_turnOK (Vv : Nat → Int → CSt → Prop) (n : Nat) (k : Int) (T : CSt) : Prop :=
  xV T ∧ T.1 11 4 ≤ 11900 ∧ T.1 11 3 ≤ 8990 ∧ 0 ≤ k ∧ k ≤ 1000 ∧
  ((K0_carryOut k T).1 = 0 → ¬ (K0_carryOut k T).2.1 = -2 → ¬ (K0_carryOut k T).2.1 = -1 → Vv n (K0_carryOut k T).2.1 (K0_carryOut k T).2.2) ∧
  ((K0_carryOut k T).1 = 0 → (K0_carryOut k T).2.1 = -1 → ¬ (K1_goBack (K0_carryOut k T).2.2).1 = -1 → Vv n (K1_goBack (K0_carryOut k T).2.2).1 (ci (K1_goBack (K0_carryOut k T).2.2).2 10 3 ((K1_goBack (K0_carryOut k T).2.2).2.1 11 5))) ∧
  ((K0_carryOut k T).1 = 0 → (K0_carryOut k T).2.1 = -2 → 0 ≤ (K0_carryOut k T).2.2.1 10 3 ∧ (K0_carryOut k T).2.2.1 10 3 ≤ 1000)
noncomputable def zMp : {n : Nat // n = 1000000} := Classical.choice ⟨⟨1000000, rfl⟩⟩
noncomputable def zM : Nat := zMp.1
theorem zM_eq : zM = 1000000 := zMp.2
def K0_foundOK (bg : Int) (S : CSt) : Prop := ∃ Vv : Nat → Int → CSt → Prop, (∀ n k T, Vv (n + 1) k T → K0_turnOK Vv n k T) ∧ Vv zM 0 (ci (K1_clear S) 10 3 bg)
def K0_foundL (bg : Int) : Nat → Int → Int → CSt → CR
  | 0, k, tr, T => (0, 0, T)
  | n + 1, k, tr, T => (if (K0_carryOut k T).1 = 0 then (if ((K0_carryOut k T).2.1) = (-2) then (if (K1_set 10 bg (K0_carryOut k T).2.2).1 = 0 then (if (K1_set 20 ((K0_carryOut k T).2.2.1 10 3) (K1_set 10 bg (K0_carryOut k T).2.2).2.2).1 = 0 then (0, 1, (K1_set 20 ((K0_carryOut k T).2.2.1 10 3) (K1_set 10 bg (K0_carryOut k T).2.2).2.2).2.2) else (1, 0, (K1_set 20 ((K0_carryOut k T).2.2.1 10 3) (K1_set 10 bg (K0_carryOut k T).2.2).2.2).2.2)) else (1, 0, (K1_set 10 bg (K0_carryOut k T).2.2).2.2)) else (if ((K0_carryOut k T).2.1) = (-1) then (if ((K1_goBack (K0_carryOut k T).2.2).1) = (-1) then (0, 0, (K1_goBack (K0_carryOut k T).2.2).2) else K0_foundL bg n ((K1_goBack (K0_carryOut k T).2.2).1) (tr + 1) ((ci (K1_goBack (K0_carryOut k T).2.2).2 10 3 ((K1_goBack (K0_carryOut k T).2.2).2.1 11 5)))) else K0_foundL bg n ((K0_carryOut k T).2.1) (tr + 1) ((K0_carryOut k T).2.2))) else (1, 0, (K0_carryOut k T).2.2))
set_option maxHeartbeats 1000000 in
set_option maxRecDepth 100000 in
theorem lp0_found (l : Launch) (hl0 : l.stackTraces = false) (D : va_G) (cy : Nat → ClassId) (q : Nat → Nat) (V : Nat × (Nat → Nat)) (n0 a : Nat)  (bg : Int) (Vv : Nat → Int → CSt → Prop) (hVs : ∀ n k T, Vv (n + 1) k T → K0_turnOK Vv n k T) (ha36 : a < 36) (hb0 : 0 ≤ bg) (hb1 : bg ≤ 1000) (S0 : CSt) (rc : CR) {A : Nat → Prop} {p : Program} {e : Env} {s : State} {m : MethodId} {args : Array Value} {below : List Frame} {meth : Method} {c : Code} (B : zAt p s m args meth c RX0 cX0_isFoundAt 4 (some .boolean) (.code yX0_isFoundAt cX0_isFoundAt 4 (some .boolean) :: TBC)) (hK : va_K D vwCl (zTY cy) s) (hG : gEn V n0 A s c) (hR : (headSpec (.code yX0_isFoundAt cX0_isFoundAt 4 (some .boolean) :: TBC) (gRm 9 174 S0)).room.cells = (gK - gl S0) + 1 ∧ (headSpec (.code yX0_isFoundAt cX0_isFoundAt 4 (some .boolean) :: TBC) (gRm 9 174 S0)).room.slots = 2 * (gK - gl S0) + 6) :
    ∀ (n : Nat) (k : Int) (tr : Int) (T : CSt) (x y : Nat) (H : Heap) (locs : List Loc) (ls : Array Slot), (cFx a 6 T) → (gl S0 ≤ gl T) → (Vv n k T) → (0 ≤ tr) → (1000000 - tr = n) → cH D cy (cq q x y) A s.heap T H locs → lv_has ls 4 [(0, .ref (q 10)), (1, .int (zI bg)), (2, .int (zI k)), (3, .int (zI tr))] → (rc = K0_foundL bg n k tr T) → W p l e (headSpec (.code yX0_isFoundAt cX0_isFoundAt 4 (some .boolean) :: TBC) (gRm 9 174 S0)).room s m args below meth c H locs (gl T - gl S0) (2 * (gl T - gl S0)) (vx_MQ below (gQi D cy q A rc) (gX D cy q A "java/lang/UnsupportedOperationException" rc) args s (gc S0 rc) (gs S0 rc) A) (F0 m 16 ls []) := by
  intro n
  induction n with
  | zero =>
    intro k tr T x y H locs ls hF hg hW htr htn hM hl hpost
    refine lv_iload_n B.1 B.2.1 dX0_isFoundAt_16 rfl (lv_at hl 3 rfl) ?_
    refine lv_ldc (v := zI 1000000) B.1 B.2.1 B.2.2.2.1 (B.2.2.2.2.1 _ (List.mem_cons_of_mem _ wC_kRX0_61)) dX0_isFoundAt_17 ?_
    refine z_icmp_ge (tgt := 96) B.1 B.2.1 (zr_of (by omega) (by omega)) (zr_of (by decide) (by decide)) dX0_isFoundAt_19 (by decide) (fun c_1 => ?_) (fun c_1 => ?_)
    · --
      refine z_iconst B.1 B.2.1 dX0_isFoundAt_96 ?_
      exact g_retz (S := T) B hM (by decide) (hpost.trans (by rw [K0_foundL])) dX0_isFoundAt_97
    · exact absurd c_1 (by omega)
  | succ n ih =>
    intro k tr T x y H locs ls hF hg hW htr htn hM hl hpost
    obtain ⟨hX, hc4, hc3, hk0, hk1, hcA, hcB, hcC⟩ := hVs n k T hW
    have hV := hX.1
    have hP := hX.2.1
    refine lv_iload_n B.1 B.2.1 dX0_isFoundAt_16 rfl (lv_at hl 3 rfl) ?_
    refine lv_ldc (v := zI 1000000) B.1 B.2.1 B.2.2.2.1 (B.2.2.2.2.1 _ (List.mem_cons_of_mem _ wC_kRX0_61)) dX0_isFoundAt_17 ?_
    refine z_icmp_ge (tgt := 96) B.1 B.2.1 (zr_of (by omega) (by omega)) (zr_of (by decide) (by decide)) dX0_isFoundAt_19 (by decide) (fun c_1 => ?_) (fun c_1 => ?_)
    · exact absurd c_1 (by omega)
    · --
      refine lv_aload_n B.1 B.2.1 dX0_isFoundAt_22 rfl (lv_at hl 0 rfl) ?_
      refine lv_iload_n B.1 B.2.1 dX0_isFoundAt_23 rfl (lv_at hl 2 rfl) ?_
      refine g_calli (E := "java/lang/UnsupportedOperationException") (As := [.int (zI k)]) (rest := []) B hK hG hM 10 (by decide) (by decide) rfl (cX0_carryOut_ok l hl0 D cy q V n0 x y a T hF  k ha36 hX (by show 0 ≤ k; omega) (by show k ≤ 1000; omega) (by show (T.1 11 4) ≤ 11900; omega) (by show (T.1 11 3) ≤ 8990; omega)) (cwC 1 B wC_mRX0_62 wC_im_yX0_carryOut wC_sl_yX0_carryOut wC_in_RX0 wC_cd_yX0_carryOut rfl rfl (by decide +kernel) ⟨Nat.le_of_ble_eq_true rfl, Nat.le_of_ble_eq_true rfl⟩) rfl hl.1 rfl (Nat.le_of_ble_eq_true rfl) dX0_isFoundAt_24 hR hg (cFx_gl hF) (K0_carryOut_ok (a := a) (i := k) (S := T) ⟨hF, hX.1, hX.2.1, hc4, hc3⟩ hX hk0 hk1).2.1 (fun c_2 => (hpost.trans (by rw [K0_foundL]; exact (if_neg c_2)))) (fun x y H locs c_2 hM => ?_)
      have hg : gl S0 ≤ gl (K0_carryOut k T).2.2 := Nat.le_trans hg (K0_carryOut_ok (a := a) (i := k) (S := T) ⟨hF, hX.1, hX.2.1, hc4, hc3⟩ hX hk0 hk1).2.1
      obtain ⟨⟨hF, hV, hP, hq4, hq3⟩, hqg, hqa, hqb, -⟩ := K0_carryOut_ok (a := a) (i := k) (S := T) ⟨hF, hX.1, hX.2.1, hc4, hc3⟩ hX hk0 hk1
      refine lv_istore_n (lv' := [(2, .int (zI ((K0_carryOut k T).2.1))), (0, .ref (q 10)), (1, .int (zI bg)), (3, .int (zI tr))]) B.1 B.2.1 dX0_isFoundAt_27 rfl hl (by decide) rfl (fun ls hl => ?_)
      refine lv_iload_n B.1 B.2.1 dX0_isFoundAt_28 rfl (lv_at hl 0 rfl) ?_
      refine z_bipush B.1 B.2.1 (by decide) dX0_isFoundAt_29 ?_
      refine z_icmp_ne (tgt := 59) B.1 B.2.1 (zr_of (by omega) (by omega)) (zr_of (by decide) (by decide)) dX0_isFoundAt_31 (by decide) (fun c_3 => ?_) (fun c_3 => ?_)
      · --
        refine lv_iload_n B.1 B.2.1 dX0_isFoundAt_59 rfl (lv_at hl 0 rfl) ?_
        refine z_iconst B.1 B.2.1 dX0_isFoundAt_60 ?_
        refine z_icmp_ne (tgt := 90) B.1 B.2.1 (zr_of (by omega) (by omega)) (zr_of (by decide) (by decide)) dX0_isFoundAt_61 (by decide) (fun c_4 => ?_) (fun c_4 => ?_)
        · --
          refine z_iinc (v := tr + 1) (lv' := [(3, .int (zI (tr + 1))), (2, .int (zI ((K0_carryOut k T).2.1))), (0, .ref (q 10)), (1, .int (zI bg))]) B.1 B.2.1 dX0_isFoundAt_90 hl (k := 3) rfl rfl (by decide) rfl (fun ls hl => ?_)
          refine lv_goto (tgt := 16) B.1 B.2.1 dX0_isFoundAt_93 (by decide) ?_
          have hq : K0_foundL bg (n + 1) k tr T = K0_foundL bg n ((K0_carryOut k T).2.1) (tr + 1) ((K0_carryOut k T).2.2) := by rw [K0_foundL]; exact ((if_pos c_2).trans ((if_neg c_3).trans (if_neg c_4)))
          rw [hq] at hpost
          exact ih ((K0_carryOut k T).2.1) (tr + 1) ((K0_carryOut k T).2.2) x y H locs ls hF hg (by first | exact hcA (by assumption) (by assumption) (by assumption) | exact hcB (by assumption) (by assumption) (by assumption)) (by omega) (by omega) hM (lv_sub hl [2, 3, 1, 0] rfl) hpost
        · --
          refine lv_aload_n B.1 B.2.1 dX0_isFoundAt_64 rfl (lv_at hl 1 rfl) ?_
          refine c_getr (q := (cq q x y)) (r := 11) B (iC0 _) hK hM 10 1 0 (by decide) rfl rfl (by decide) (by decide) rfl rfl rfl (cFx_r hF 10 1) (List.mem_cons_of_mem _ wC_fRX0_12) dX0_isFoundAt_65 ?_
          refine c_calli (q := (cq q x y)) (As := []) (rest := []) B hK hM 11 (by decide) (by decide) rfl (cX1_goBack_ok l D cy (cq q x y) a 6 (K0_carryOut k T).2.2 hF   hV) (cwC 0 B wC_mRX0_69 wC_im_yX1_goBack wC_sl_yX1_goBack wC_in_RX1 wC_cd_yX1_goBack rfl rfl (by decide +kernel) ⟨Nat.le_of_ble_eq_true rfl, Nat.le_of_ble_eq_true rfl⟩) rfl hl.1 rfl (Nat.le_of_ble_eq_true rfl) dX0_isFoundAt_68 ⟨g_rc hR hg (cFx_gl hF), g_rs hR hg (cFx_gl hF)⟩ (fun z_7 S_6 H locs hp_5 hM => ?_)
          obtain ⟨hp_5, he_hp_5⟩ := hp_5
          have he_hp_5 := he_hp_5.symm
          subst he_hp_5
          have hp_5 : (K1_goBack (K0_carryOut k T).2.2).1 = z_7 := hp_5.symm
          subst hp_5
          have hg : gl S0 ≤ gl (K1_goBack (K0_carryOut k T).2.2).2 := Nat.le_trans hg (gl_of (congrArg Prod.snd K1_goBack_2))
          refine W.widen (k := gl (K1_goBack (K0_carryOut k T).2.2).2 - gl S0) (n := 2 * (gl (K1_goBack (K0_carryOut k T).2.2).2 - gl S0)) (Nat.sub_le_sub_right (gl_of (S := (K0_carryOut k T).2.2) (S' := (K1_goBack (K0_carryOut k T).2.2).2) (congrArg Prod.snd K1_goBack_2)) _) (Nat.mul_le_mul_left 2 (Nat.sub_le_sub_right (gl_of (S := (K0_carryOut k T).2.2) (S' := (K1_goBack (K0_carryOut k T).2.2).2) (congrArg Prod.snd K1_goBack_2)) _)) ?_
          have hgb := K1_goBack_bd (S := (K0_carryOut k T).2.2) hV
          have hV : sV (K1_goBack (K0_carryOut k T).2.2).2 := sV_goBack hV
          have hF : cFx a 6 (K1_goBack (K0_carryOut k T).2.2).2 := cFx_of (congrArg Prod.snd K1_goBack_2) hF
          have hP : pB 6 (K1_goBack (K0_carryOut k T).2.2).2 := pB_of (K1_goBack_1 (by decide) (by decide)) (fun j hj => K1_goBack_1 (by unfold pA; omega) (by unfold pA; omega)) hP
          refine lv_istore_n (lv' := [(2, .int (zI ((K1_goBack (K0_carryOut k T).2.2).1))), (0, .ref (q 10)), (1, .int (zI bg)), (3, .int (zI tr))]) B.1 B.2.1 dX0_isFoundAt_71 rfl hl (by decide) rfl (fun ls hl => ?_)
          refine lv_iload_n B.1 B.2.1 dX0_isFoundAt_72 rfl (lv_at hl 0 rfl) ?_
          refine z_iconst B.1 B.2.1 dX0_isFoundAt_73 ?_
          refine z_icmp_ne (tgt := 79) B.1 B.2.1 (zr_of (by omega) (by omega)) (zr_of (by decide) (by decide)) dX0_isFoundAt_74 (by decide) (fun c_8 => ?_) (fun c_8 => ?_)
          · --
            refine lv_aload_n B.1 B.2.1 dX0_isFoundAt_79 rfl (lv_at hl 1 rfl) ?_
            refine lv_aload_n B.1 B.2.1 dX0_isFoundAt_80 rfl (lv_at hl 1 rfl) ?_
            refine c_getr (q := (cq q x y)) (r := 11) B (iC0 _) hK hM 10 1 0 (by decide) rfl rfl (by decide) (by decide) rfl rfl rfl (cFx_r hF 10 1) (List.mem_cons_of_mem _ wC_fRX0_12) dX0_isFoundAt_81 ?_
            refine c_calli (q := (cq q x y)) (As := []) (rest := [.ref (q 10)]) B hK hM 11 (by decide) (by decide) rfl (cX1_placeBack_ok l D cy (cq q x y) a 6 (K1_goBack (K0_carryOut k T).2.2).2 hF   ) (cwC 0 B wC_mRX0_72 wC_im_yX1_placeBack wC_sl_yX1_placeBack wC_in_RX1 wC_cd_yX1_placeBack rfl rfl (by decide +kernel) ⟨Nat.le_of_ble_eq_true rfl, Nat.le_of_ble_eq_true rfl⟩) rfl hl.1 rfl (Nat.le_of_ble_eq_true rfl) dX0_isFoundAt_84 ⟨g_rc hR hg (cFx_gl hF), g_rs hR hg (cFx_gl hF)⟩ (fun z_11 S_10 H locs hp_9 hM => ?_)
            obtain ⟨hp_9, he_hp_9⟩ := hp_9
            have he_hp_9 := he_hp_9.symm
            subst he_hp_9
            have hp_9 : (K1_goBack (K0_carryOut k T).2.2).2.1 11 5 = z_11 := hp_9.symm
            subst hp_9
            refine c_puti (q := (cq q x y)) B (iC0 _) tyX0 tyX0_ok nmX0 hK hM 10 3 0 (by decide) rfl rfl (by decide) (by decide) rfl rfl rfl (by decide +kernel) (by decide) (List.mem_cons_of_mem _ wC_fRX0_58) dX0_isFoundAt_87 (fun H locs hM => ?_)
            have hV : sV (ci (K1_goBack (K0_carryOut k T).2.2).2 10 3 ((K1_goBack (K0_carryOut k T).2.2).2.1 11 5)) := sV_ci hV (by decide)
            have hP : pB 6 (ci (K1_goBack (K0_carryOut k T).2.2).2 10 3 ((K1_goBack (K0_carryOut k T).2.2).2.1 11 5)) := pB_ci (by decide) (by decide) hP
            refine z_iinc (v := tr + 1) (lv' := [(3, .int (zI (tr + 1))), (2, .int (zI ((K1_goBack (K0_carryOut k T).2.2).1))), (0, .ref (q 10)), (1, .int (zI bg))]) B.1 B.2.1 dX0_isFoundAt_90 hl (k := 3) rfl rfl (by decide) rfl (fun ls hl => ?_)
            refine lv_goto (tgt := 16) B.1 B.2.1 dX0_isFoundAt_93 (by decide) ?_
            have hq : K0_foundL bg (n + 1) k tr T = K0_foundL bg n ((K1_goBack (K0_carryOut k T).2.2).1) (tr + 1) ((ci (K1_goBack (K0_carryOut k T).2.2).2 10 3 ((K1_goBack (K0_carryOut k T).2.2).2.1 11 5))) := by rw [K0_foundL]; exact ((if_pos c_2).trans ((if_neg c_3).trans ((if_pos c_4).trans (if_neg c_8))))
            rw [hq] at hpost
            exact ih ((K1_goBack (K0_carryOut k T).2.2).1) (tr + 1) ((ci (K1_goBack (K0_carryOut k T).2.2).2 10 3 ((K1_goBack (K0_carryOut k T).2.2).2.1 11 5))) x y H locs ls hF hg (by first | exact hcA (by assumption) (by assumption) (by assumption) | exact hcB (by assumption) (by assumption) (by assumption)) (by omega) (by omega) hM (lv_sub hl [2, 3, 1, 0] rfl) hpost
          · --
            refine z_iconst B.1 B.2.1 dX0_isFoundAt_77 ?_
            exact g_retz (S := (K1_goBack (K0_carryOut k T).2.2).2) B hM (by decide) (hpost.trans (by rw [K0_foundL]; exact ((if_pos c_2).trans ((if_neg c_3).trans ((if_pos c_4).trans (if_pos c_8)))))) dX0_isFoundAt_78
      · --
        have hcC := hcC (by assumption) (by assumption)
        refine lv_aload_n B.1 B.2.1 dX0_isFoundAt_34 rfl (lv_at hl 1 rfl) ?_
        refine c_getr (q := (cq q x y)) (r := 11) B (iC0 _) hK hM 10 1 0 (by decide) rfl rfl (by decide) (by decide) rfl rfl rfl (cFx_r hF 10 1) (List.mem_cons_of_mem _ wC_fRX0_12) dX0_isFoundAt_35 ?_
        refine z_bipush B.1 B.2.1 (by decide) dX0_isFoundAt_38 ?_
        refine lv_iload_n B.1 B.2.1 dX0_isFoundAt_40 rfl (lv_at hl 2 rfl) ?_
        have hvo4 := hV.2.2.2.1
        refine g_callv (E := "java/lang/UnsupportedOperationException") (As := [.int (zI 10), .int (zI bg)]) (rest := []) B hK hG hM 11 (by decide) (by decide) rfl (cX1_set_ok l hl0 D cy q V n0 x y a 6 (K0_carryOut k T).2.2 hF  10 bg ha36 (by decide) "java/lang/UnsupportedOperationException" (by show -2000000 ≤ 10; omega) (by show 10 ≤ 2000000; omega) (by show -1 ≤ bg; omega) (by show bg ≤ 100000; omega) hV (by show ((K0_carryOut k T).2.2.1 11 4) ≤ 12000; omega)) (cwC 2 B wC_mRX0_65 wC_im_yX1_set wC_sl_yX1_set wC_in_RX1 wC_cd_yX1_set rfl rfl (by decide +kernel) ⟨Nat.le_of_ble_eq_true rfl, Nat.le_of_ble_eq_true rfl⟩) rfl hl.1 rfl (Nat.le_of_ble_eq_true rfl) dX0_isFoundAt_41 hR hg (cFx_gl hF) (K1_set_F (S := (K0_carryOut k T).2.2) hF hvo4 (by show ((K0_carryOut k T).2.2.1 11 4) ≤ 12000; omega)).2 (fun c_12 => (hpost.trans (by rw [K0_foundL]; exact ((if_pos c_2).trans ((if_pos c_3).trans (if_neg c_12)))))) (fun x y H locs c_12 hM => ?_)
        have hg : gl S0 ≤ gl (K1_set 10 bg (K0_carryOut k T).2.2).2.2 := Nat.le_trans hg (K1_set_F (S := (K0_carryOut k T).2.2) hF hvo4 (by show ((K0_carryOut k T).2.2.1 11 4) ≤ 12000; omega)).2
        have hFo : cFx a 6 (K0_carryOut k T).2.2 := hF
        have f_13 := K1_set_u (i := 10) (v := bg) (S := (K0_carryOut k T).2.2) hFo hV.2.2.2.1 hV.2.2.2.2.1
        have f_13b := K1_set_3 (i := 10) (v := bg) (S := (K0_carryOut k T).2.2)
        have hV : sV (K1_set 10 bg (K0_carryOut k T).2.2).2.2 := sV_set (i := 10) (v := bg) (S := (K0_carryOut k T).2.2) hFo hV (by omega) (by omega)
        have hF : cFx a 6 (K1_set 10 bg (K0_carryOut k T).2.2).2.2 := (K1_set_F (i := 10) (v := bg) (S := (K0_carryOut k T).2.2) hFo hvo4 (by show ((K0_carryOut k T).2.2.1 11 4) ≤ 12000; omega)).1
        have hP := pB_set (i := 10) (v := bg) (S := (K0_carryOut k T).2.2) hP
        refine lv_aload_n B.1 B.2.1 dX0_isFoundAt_44 rfl (lv_at hl 1 rfl) ?_
        refine c_getr (q := (cq q x y)) (r := 11) B (iC0 _) hK hM 10 1 0 (by decide) rfl rfl (by decide) (by decide) rfl rfl rfl (cFx_r hF 10 1) (List.mem_cons_of_mem _ wC_fRX0_12) dX0_isFoundAt_45 ?_
        refine z_bipush B.1 B.2.1 (by decide) dX0_isFoundAt_48 ?_
        refine lv_aload_n B.1 B.2.1 dX0_isFoundAt_50 rfl (lv_at hl 1 rfl) ?_
        refine c_geti (q := (cq q x y)) (x := (K0_carryOut k T).2.2.1 10 3) B (iC0 _) hK hM 10 3 0 (by decide) rfl rfl (by decide) (by decide) rfl rfl (by decide) (by simp only [K1_set_1 (m := 10) (by decide) (by decide) (by decide)]) (List.mem_cons_of_mem _ wC_fRX0_58) dX0_isFoundAt_51 ?_
        have hvo4 := hV.2.2.2.1
        refine g_callv (E := "java/lang/UnsupportedOperationException") (As := [.int (zI 20), .int (zI ((K0_carryOut k T).2.2.1 10 3))]) (rest := []) B hK hG hM 11 (by decide) (by decide) rfl (cX1_set_ok l hl0 D cy q V n0 x y a 6 (K1_set 10 bg (K0_carryOut k T).2.2).2.2 hF  20 ((K0_carryOut k T).2.2.1 10 3) ha36 (by decide) "java/lang/UnsupportedOperationException" (by show -2000000 ≤ 20; omega) (by show 20 ≤ 2000000; omega) (by show -1 ≤ ((K0_carryOut k T).2.2.1 10 3); omega) (by show ((K0_carryOut k T).2.2.1 10 3) ≤ 100000; omega) hV (by show ((K1_set 10 bg (K0_carryOut k T).2.2).2.2.1 11 4) ≤ 12000; omega)) (cwC 2 B wC_mRX0_65 wC_im_yX1_set wC_sl_yX1_set wC_in_RX1 wC_cd_yX1_set rfl rfl (by decide +kernel) ⟨Nat.le_of_ble_eq_true rfl, Nat.le_of_ble_eq_true rfl⟩) rfl hl.1 rfl (Nat.le_of_ble_eq_true rfl) dX0_isFoundAt_54 hR hg (cFx_gl hF) (K1_set_F (S := (K1_set 10 bg (K0_carryOut k T).2.2).2.2) hF hvo4 (by show ((K1_set 10 bg (K0_carryOut k T).2.2).2.2.1 11 4) ≤ 12000; omega)).2 (fun c_14 => (hpost.trans (by rw [K0_foundL]; exact ((if_pos c_2).trans ((if_pos c_3).trans ((if_pos c_12).trans (if_neg c_14))))))) (fun x y H locs c_14 hM => ?_)
        have hg : gl S0 ≤ gl (K1_set 20 ((K0_carryOut k T).2.2.1 10 3) (K1_set 10 bg (K0_carryOut k T).2.2).2.2).2.2 := Nat.le_trans hg (K1_set_F (S := (K1_set 10 bg (K0_carryOut k T).2.2).2.2) hF hvo4 (by show ((K1_set 10 bg (K0_carryOut k T).2.2).2.2.1 11 4) ≤ 12000; omega)).2
        have hFo : cFx a 6 (K1_set 10 bg (K0_carryOut k T).2.2).2.2 := hF
        have f_15 := K1_set_u (i := 20) (v := (K0_carryOut k T).2.2.1 10 3) (S := (K1_set 10 bg (K0_carryOut k T).2.2).2.2) hFo hV.2.2.2.1 hV.2.2.2.2.1
        have f_15b := K1_set_3 (i := 20) (v := (K0_carryOut k T).2.2.1 10 3) (S := (K1_set 10 bg (K0_carryOut k T).2.2).2.2)
        have hV : sV (K1_set 20 ((K0_carryOut k T).2.2.1 10 3) (K1_set 10 bg (K0_carryOut k T).2.2).2.2).2.2 := sV_set (i := 20) (v := (K0_carryOut k T).2.2.1 10 3) (S := (K1_set 10 bg (K0_carryOut k T).2.2).2.2) hFo hV (by omega) (by omega)
        have hF : cFx a 6 (K1_set 20 ((K0_carryOut k T).2.2.1 10 3) (K1_set 10 bg (K0_carryOut k T).2.2).2.2).2.2 := (K1_set_F (i := 20) (v := (K0_carryOut k T).2.2.1 10 3) (S := (K1_set 10 bg (K0_carryOut k T).2.2).2.2) hFo hvo4 (by show ((K1_set 10 bg (K0_carryOut k T).2.2).2.2.1 11 4) ≤ 12000; omega)).1
        have hP := pB_set (i := 20) (v := (K0_carryOut k T).2.2.1 10 3) (S := (K1_set 10 bg (K0_carryOut k T).2.2).2.2) hP
        refine z_iconst B.1 B.2.1 dX0_isFoundAt_57 ?_
        exact g_retz (S := (K1_set 20 ((K0_carryOut k T).2.2.1 10 3) (K1_set 10 bg (K0_carryOut k T).2.2).2.2).2.2) B hM (by decide) (hpost.trans (by rw [K0_foundL]; exact ((if_pos c_2).trans ((if_pos c_3).trans ((if_pos c_12).trans (if_pos c_14)))))) dX0_isFoundAt_58
noncomputable def K0_isFoundAt (bg : Int) (S : CSt) : CR := (K0_foundL bg zM 0 0 (ci (K1_clear S) 10 3 bg))
set_option maxHeartbeats 1000000 in
set_option maxRecDepth 100000 in
theorem cX0_isFoundAt_ok (l : Launch) (hl0 : l.stackTraces = false) (D : va_G) (cy : Nat → ClassId) (q : Nat → Nat) (V : Nat × (Nat → Nat)) (n0 x y a : Nat) (S : CSt) (hF : cFx a 6 S) (bg : Int) (ha36 : a < 36) (hX : xV S) (hb0 : 0 ≤ bg) (hb1 : bg ≤ 1000) (hOK : K0_foundOK bg S) : gMi l D cy q V n0 x y "java/lang/UnsupportedOperationException" yX0_isFoundAt (.code yX0_isFoundAt cX0_isFoundAt 4 (some .boolean) :: TBC) 9 174 S [.ref (q 10), .int (zI bg)] (K0_isFoundAt bg S) := by
  refine g_of (cc := cX0_isFoundAt) (maxL := 4) (ret := (some .boolean)) (by decide) rfl rfl (Nat.le_of_ble_eq_true rfl) ?_
  intro p e s m args below meth c ls B hK hG hM hl
  generalize gA (cq q x y) n0 = A at hG hM ⊢
  have hR : (headSpec (.code yX0_isFoundAt cX0_isFoundAt 4 (some .boolean) :: TBC) (gRm 9 174 S)).room.cells = (gK - gl S) + 1 ∧ (headSpec (.code yX0_isFoundAt cX0_isFoundAt 4 (some .boolean) :: TBC) (gRm 9 174 S)).room.slots = 2 * (gK - gl S) + 6 := ⟨rfl, rfl⟩
  have hl : lv_has ls 4 [(0, .ref (q 10)), (1, .int (zI bg))] := hl
  obtain ⟨hV, hP, ht0, ht1, hcs, hp0, hp1, hs0, hs1, h18, h24, h25, h35⟩ := id hX
  obtain ⟨hMk, hu30, hu31, hu40, hu41, hM6, hM7⟩ := id hV
  refine lv_aload_n B.1 B.2.1 dX0_isFoundAt_0 rfl (lv_at hl 0 rfl) ?_
  refine c_getr (q := (cq q x y)) (r := 11) B (iC0 _) hK hM 10 1 0 (by decide) rfl rfl (by decide) (by decide) rfl rfl rfl (cFx_r hF 10 1) (List.mem_cons_of_mem _ wC_fRX0_12) dX0_isFoundAt_1 ?_
  refine c_callv (q := (cq q x y)) (As := []) (rest := []) B hK hM 11 (by decide) (by decide) rfl (cX1_clear_ok l D cy (cq q x y) a 6 S hF   ) (cwC 0 B wC_mRX0_55 wC_im_yX1_clear wC_sl_yX1_clear wC_in_RX1 wC_cd_yX1_clear rfl rfl (by decide +kernel) ⟨Nat.le_of_ble_eq_true rfl, Nat.le_of_ble_eq_true rfl⟩) rfl hl.1 rfl (Nat.le_of_ble_eq_true rfl) dX0_isFoundAt_4 ⟨g_rc hR (Nat.le_refl _) (cFx_gl hF), g_rs hR (Nat.le_refl _) (cFx_gl hF)⟩ (fun S_2 H locs hp_1 hM => ?_)
  have hp_1 := hp_1.symm
  subst hp_1
  have hg : gl S ≤ gl (K1_clear S) := Nat.le_trans (Nat.le_refl _) (gl_of (congrArg Prod.snd K1_clear_2))
  refine W.widen (k := gl (K1_clear S) - gl S) (n := 2 * (gl (K1_clear S) - gl S)) (Nat.sub_le_sub_right (gl_of (S := S) (S' := (K1_clear S)) (congrArg Prod.snd K1_clear_2)) _) (Nat.mul_le_mul_left 2 (Nat.sub_le_sub_right (gl_of (S := S) (S' := (K1_clear S)) (congrArg Prod.snd K1_clear_2)) _)) ?_
  have hF : cFx a 6 (K1_clear S) := cFx_of (congrArg Prod.snd K1_clear_2) hF
  have hV : sV (K1_clear S) := sV_clear hV
  have hP : pB 6 (K1_clear S) := pB_of (K1_clear_1 (by decide) (by decide)) (fun j hj => K1_clear_1 (by unfold pA; omega) (by unfold pA; omega)) hP
  refine lv_aload_n B.1 B.2.1 dX0_isFoundAt_7 rfl (lv_at hl 0 rfl) ?_
  refine lv_iload_n B.1 B.2.1 dX0_isFoundAt_8 rfl (lv_at hl 1 rfl) ?_
  refine c_puti (q := (cq q x y)) B (iC0 _) tyX0 tyX0_ok nmX0 hK hM 10 3 0 (by decide) rfl rfl (by decide) (by decide) rfl rfl rfl (by decide +kernel) (by decide) (List.mem_cons_of_mem _ wC_fRX0_58) dX0_isFoundAt_9 (fun H locs hM => ?_)
  have hV : sV (ci (K1_clear S) 10 3 bg) := sV_ci hV (by decide)
  have hP : pB 6 (ci (K1_clear S) 10 3 bg) := pB_ci (by decide) (by decide) hP
  refine z_iconst B.1 B.2.1 dX0_isFoundAt_12 ?_
  refine lv_istore_n (lv' := [(2, .int (zI 0)), (0, .ref (q 10)), (1, .int (zI bg))]) B.1 B.2.1 dX0_isFoundAt_13 rfl hl (by decide) rfl (fun ls hl => ?_)
  refine z_iconst B.1 B.2.1 dX0_isFoundAt_14 ?_
  refine lv_istore_n (lv' := [(3, .int (zI 0)), (2, .int (zI 0)), (0, .ref (q 10)), (1, .int (zI bg))]) B.1 B.2.1 dX0_isFoundAt_15 rfl hl (by decide) rfl (fun ls hl => ?_)
  obtain ⟨Vv, hVs, hW0⟩ := hOK
  exact lp0_found l hl0 D cy q V n0 a bg Vv hVs ha36 hb0 hb1 S _ B hK hG hR zM 0 0 (ci (K1_clear S) 10 3 bg) x y H locs ls hF hg hW0 (by omega) (by have := zM_eq; omega) hM (lv_sub hl [2, 3, 1, 0] rfl) (by unfold K0_isFoundAt; rfl)
