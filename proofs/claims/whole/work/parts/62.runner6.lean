/-- what replace's loop needs, and that what comes has it, too -/
def K6_repStep (Vr : Nat → Int → Int → CSt → Prop) (n : Nat) (s c : Int) (T : CSt) : Prop :=
  0 ≤ s ∧ s ≤ 1000 ∧ K0_searchOK (K0_last s T) s (ci (cr T 10 2 6) 10 4 0) ∧
  ((K0_search s T).1 = 0 → ¬ (K0_search s T).2.1 = -1 → (K6_writeText c (K0_search s T).2.1 (K0_search s T).2.2).1 = 0 → (K6_writeTemplate (K6_writeText c (K0_search s T).2.1 (K0_search s T).2.2).2.2).1 = 0 →
    Vr n (if K0_tookTo 0 (K0_search s T).2.2 ≤ (K0_search s T).2.1 then K0_tookTo 0 (K0_search s T).2.2 + 1 else K0_tookTo 0 (K0_search s T).2.2) (K0_tookTo 0 (K0_search s T).2.2) (K6_writeTemplate (K6_writeText c (K0_search s T).2.1 (K0_search s T).2.2).2.2).2.2)
def K6_repOK (S : CSt) : Prop := ∃ Vr : Nat → Int → Int → CSt → Prop, (∀ n s c T, Vr n s c T → fV T ∧ -1 ≤ c ∧ c ≤ 1000) ∧ (∀ n s c T, Vr (n + 1) s c T → K6_repStep Vr n s c T) ∧ Vr 25 0 0 (ci S 5 1 0)
def cSt (S : CSt) : CSt := (fun n => S.1 (swp 1 n), fun n => S.2.1 (swp 1 n), S.2.2.1, fun n => S.2.2.2 (swp 1 n))
theorem cSt_eq {a b : Nat} {S : CSt} (h1 : S.2.2.1 = cRef a b) : cSn1 a b S = cSt S := by
  unfold cSn1 cSt
  rw [h1]
noncomputable def K6_repL  : Nat → Int → Int → Int → Int → CSt → CR
  | 0, co, s9, c9, tr, T => (gBd (K6_writeText c9 (T.1 3 1) T) (fun _ S_8 => (0, co, (cSw 1 (K6_forgetFound (ci (ci (cSt S_8) 1 1 0) 0 11 0))))))
  | n + 1, co, s9, c9, tr, T => (if 24 < tr then (gBd (K6_writeText c9 (T.1 3 1) T) (fun _ S_8 => (0, co, (cSw 1 (K6_forgetFound (ci (ci (cSt S_8) 1 1 0) 0 11 0)))))) else (gBd (K0_search s9 T) (fun v_17 S_18 => (if v_17 = (-1) then (gBd (K6_writeText c9 (S_18.1 3 1) S_18) (fun _ S_41 => (0, co, (cSw 1 (K6_forgetFound (ci (ci (cSt S_41) 1 1 0) 0 11 0)))))) else (gBd (K6_writeText c9 v_17 S_18) (fun _ S_27 => (gBd (K6_writeTemplate S_27) (fun _ S_30 => K6_repL n (co + 1) ((if ((K0_tookTo 0 S_18)) ≤ v_17 then ((K0_tookTo 0 S_18)) + 1 else (K0_tookTo 0 S_18) : Int)) ((K0_tookTo 0 S_18)) (tr + 1) S_30))))))))
set_option maxHeartbeats 1000000 in
set_option maxRecDepth 100000 in
theorem lp6_rep (l : Launch) (hl0 : l.stackTraces = false) (D : va_G) (cy : Nat → ClassId) (q : Nat → Nat) (V : Nat × (Nat → Nat)) (n0 a : Nat)   (Vr : Nat → Int → Int → CSt → Prop) (hVf : ∀ n s c T, Vr n s c T → fV T ∧ -1 ≤ c ∧ c ≤ 1000) (hVs : ∀ n s c T, Vr (n + 1) s c T → K6_repStep Vr n s c T) (ha67 : a = 6 ∨ a = 7) (ha36 : a < 36) (S0 : CSt) (rc : CR) {A : Nat → Prop} {p : Program} {e : Env} {s : State} {m : MethodId} {args : Array Value} {below : List Frame} {meth : Method} {c : Code} (B : zAt p s m args meth c RX6 cX6_replace 7 (some .int) (.code yX6_replace cX6_replace 7 (some .int) :: TBC)) (hK : va_K D vwCl (zTY cy) s) (hG : gEn V n0 A s c) (hR : (headSpec (.code yX6_replace cX6_replace 7 (some .int) :: TBC) (gRm 11 221 S0)).room.cells = (gK - gl S0) + 1 ∧ (headSpec (.code yX6_replace cX6_replace 7 (some .int) :: TBC) (gRm 11 221 S0)).room.slots = 2 * (gK - gl S0) + 6) :
    ∀ (n : Nat) (b : Nat) (co : Int) (s9 : Int) (c9 : Int) (tr : Int) (T : CSt) (x y : Nat) (H : Heap) (locs : List Loc) (ls : Array Slot), (cFx a b T) → (gl S0 ≤ gl T) → (b = 6 ∨ b = 7) → (Vr n s9 c9 T) → (0 ≤ co) → (co ≤ tr) → (0 ≤ tr) → (25 - tr = n) → cH D cy (cq q x y) A s.heap T H locs → lv_has ls 7 [(0, .ref (swq 1 q 0)), (1, .int (zI co)), (2, .int (zI s9)), (3, .int (zI c9)), (4, .int (zI tr))] → (rc = K6_repL n co s9 c9 tr T) → W p l e (headSpec (.code yX6_replace cX6_replace 7 (some .int) :: TBC) (gRm 11 221 S0)).room s m args below meth c H locs (gl T - gl S0) (2 * (gl T - gl S0)) (vx_MQ below (gQi D cy q A rc) (gX D cy q A "java/lang/UnsupportedOperationException" rc) args s (gc S0 rc) (gs S0 rc) A) (F0 m 16 ls []) := by
  intro n
  induction n with
  | zero =>
    intro b co s9 c9 tr T x y H locs ls hF hg hb67 hR9 hco0 hco1 htr htn hM hl hpost
    obtain ⟨hW, hc0, hc1'⟩ := hVf _ s9 c9 T hR9
    obtain ⟨hV, hP, hta, htb, hc1, hba, hbb, hc3, hda, hdb⟩ := id hW
    obtain ⟨-, -, -, -, -, -, -, pga, pgb, -, -⟩ := id hP
    refine lv_iload B.1 B.2.1 dX6_replace_16 (lv_at hl 4 rfl) ?_
    refine z_bipush B.1 B.2.1 (by decide) dX6_replace_18 ?_
    refine z_icmp_gt (tgt := 96) B.1 B.2.1 (zr_of (by omega) (by omega)) (zr_of (by decide) (by decide)) dX6_replace_20 (by decide) (fun c_1 => ?_) (fun c_1 => ?_)
    · --
      refine lv_aload_n B.1 B.2.1 dX6_replace_96 rfl (lv_at hl 0 rfl) ?_
      refine lv_iload_n B.1 B.2.1 dX6_replace_97 rfl (lv_at hl 3 rfl) ?_
      refine lv_aload_n B.1 B.2.1 dX6_replace_98 rfl (lv_at hl 0 rfl) ?_
      refine c_getr (q := (cq q x y)) (r := 3) B (iC6 _) hK hM 0 2 6 (by decide) rfl rfl (by decide) (by decide) rfl rfl rfl (cFx_r hF 0 2) (List.mem_cons_of_mem _ wC_fRX6_21) dX6_replace_99 ?_
      refine c_calli (q := (cq q x y)) (As := []) (rest := [.int (zI c9), .ref (q 0)]) B hK hM 3 (by decide) (by decide) rfl (cX4_length_ok l D cy (cq q x y) a b T hF 3 (by decide)  ) (cwC 0 B wC_mRX6_80 wC_im_yX4_length wC_sl_yX4_length wC_in_RX4 wC_cd_yX4_length rfl rfl (by decide +kernel) ⟨Nat.le_of_ble_eq_true rfl, Nat.le_of_ble_eq_true rfl⟩) rfl hl.1 rfl (Nat.le_of_ble_eq_true rfl) dX6_replace_102 ⟨g_rc hR hg (cFx_gl (S := T) hF), g_rs hR hg (cFx_gl (S := T) hF)⟩ (fun z_5 S_4 H locs hp_3 hM => ?_)
      obtain ⟨hp_3, he_hp_3⟩ := hp_3
      have he_hp_3 := he_hp_3.symm
      subst he_hp_3
      have hp_3 : T.1 3 1 = z_5 := hp_3.symm
      subst hp_3
      refine g_callv (E := "java/lang/UnsupportedOperationException") (As := [.int (zI c9), .int (zI (T.1 3 1))]) (rest := []) B hK hG hM 0 (by decide) (by decide) rfl (cX6_writeText_ok l hl0 D cy q V n0 x y a b T hF  c9 (T.1 3 1) hW (by show -1 ≤ c9; omega) (by show c9 ≤ 100000; omega) (by show -1 ≤ (T.1 3 1); omega) (by show (T.1 3 1) ≤ 100000; omega)) (cwC 2 B wC_mRX6_132 wC_im_yX6_writeText wC_sl_yX6_writeText wC_in_RX6 wC_cd_yX6_writeText rfl rfl (by decide +kernel) ⟨Nat.le_of_ble_eq_true rfl, Nat.le_of_ble_eq_true rfl⟩) rfl hl.1 rfl (Nat.le_of_ble_eq_true rfl) dX6_replace_105 hR hg (cFx_gl hF) (gl_of (congrArg Prod.snd (K6_writeText_R (bg := c9) (en := T.1 3 1) (S := T) hW).1.1)) (fun c_7 => (hpost.trans (by rw [K6_repL]; exact (if_neg c_7)))) (fun x y H locs c_7 hM => ?_)
      have hg : gl S0 ≤ gl (K6_writeText c9 (T.1 3 1) T).2.2 := Nat.le_trans hg (gl_of (congrArg Prod.snd (K6_writeText_R (bg := c9) (en := T.1 3 1) (S := T) hW).1.1))
      obtain ⟨k_6, hW, -⟩ := K6_writeText_R (bg := c9) (en := T.1 3 1) (S := T) hW
      have hF : cFx a b (K6_writeText c9 (T.1 3 1) T).2.2 := cFx_of (congrArg Prod.snd k_6.1) hF
      generalize hS_8 : (K6_writeText c9 (T.1 3 1) T).2.2 = S_8 at *
      obtain ⟨hV, hP, hta, htb, hc1, hba, hbb, hc3, hda, hdb⟩ := id hW
      obtain ⟨-, -, -, -, -, -, -, pga, pgb, -, -⟩ := id hP
      refine lv_aload_n B.1 B.2.1 dX6_replace_108 rfl (lv_at hl 0 rfl) ?_
      refine c_getr (q := (cq q x y)) (r := 4) B (iC6 _) hK hM 0 3 6 (by decide) rfl rfl (by decide) (by decide) rfl rfl rfl (cFx_r hF 0 3) (List.mem_cons_of_mem _ wC_fRX6_24) dX6_replace_109 ?_
      refine lv_astore (lv' := [(4, .ref (q 4)), (0, .ref (q 0)), (1, .int (zI co)), (2, .int (zI s9)), (3, .int (zI c9))]) B.1 B.2.1 dX6_replace_112 hl (by decide) rfl (fun ls hl => ?_)
      refine lv_aload_n B.1 B.2.1 dX6_replace_114 rfl (lv_at hl 1 rfl) ?_
      refine lv_aload_n B.1 B.2.1 dX6_replace_115 rfl (lv_at hl 1 rfl) ?_
      refine c_getr (q := (cq q x y)) (r := 5) B (iC6 _) hK hM 0 4 6 (by decide) rfl rfl (by decide) (by decide) rfl rfl rfl (cFx_r hF 0 4) (List.mem_cons_of_mem _ wC_fRX6_27) dX6_replace_116 ?_
      refine c_putr (r := 5) (q := (cq q x y)) B (iC6 _) tyX6 tyX6_ok nmX6 hK hM 0 3 6 (by decide) rfl rfl (by decide) (by decide) rfl rfl rfl (ty := tyX6 3) (by decide +kernel) rfl rfl rfl (List.mem_cons_of_mem _ wC_fRX6_24) dX6_replace_119 (fun H locs hM => ?_)
      refine lv_aload_n B.1 B.2.1 dX6_replace_122 rfl (lv_at hl 1 rfl) ?_
      refine lv_aload B.1 B.2.1 dX6_replace_123 (lv_at hl 0 rfl) ?_
      refine c_putr (r := 4) (q := (cq q x y)) B (iC6 _) tyX6 tyX6_ok nmX6 hK hM 0 4 6 (by decide) rfl rfl (by decide) (by decide) rfl rfl rfl (ty := tyX6 4) (by decide +kernel) rfl rfl rfl (List.mem_cons_of_mem _ wC_fRX6_27) dX6_replace_125 (fun H locs hM => ?_)
      have hM := cSn1_H (a := a) (b := b) (S := S_8) hF.1 ha67 hb67 hM
      rw [cSt_eq (S := S_8) hF.1] at hM
      have hF : cFx a b (cSt S_8) := by rw [← cSt_eq (S := S_8) hF.1]; exact cSn1_F (a := a) (b := b) (S := S_8) hF
      refine lv_aload_n B.1 B.2.1 dX6_replace_128 rfl (lv_at hl 1 rfl) ?_
      refine c_getr (q := (cq (swq 1 q) x y)) (r := 1) B (iC6 _) hK hM 0 0 6 (by decide) rfl rfl (by decide) (by decide) rfl rfl rfl (cFx_r hF 0 0) (List.mem_cons_of_mem _ wC_fRX6_14) dX6_replace_129 ?_
      refine c_callv (q := (cq (swq 1 q) x y)) (As := []) (rest := []) B hK hM 1 (by decide) (by decide) rfl (cX4_clear_ok l D cy (cq (swq 1 q) x y) a b (cSt S_8) hF 1 (by decide)  ) (cwC 0 B wC_mRX6_102 wC_im_yX4_clear wC_sl_yX4_clear wC_in_RX4 wC_cd_yX4_clear rfl rfl (by decide +kernel) ⟨Nat.le_of_ble_eq_true rfl, Nat.le_of_ble_eq_true rfl⟩) rfl hl.1 rfl (Nat.le_of_ble_eq_true rfl) dX6_replace_132 ⟨g_rc hR hg (cFx_gl (S := (cSt S_8)) hF), g_rs hR hg (cFx_gl (S := (cSt S_8)) hF)⟩ (fun S_11 H locs hp_10 hM => ?_)
      have hp_10 := hp_10.symm
      subst hp_10
      refine lv_aload_n B.1 B.2.1 dX6_replace_135 rfl (lv_at hl 1 rfl) ?_
      refine z_iconst B.1 B.2.1 dX6_replace_136 ?_
      refine c_puti (q := (cq (swq 1 q) x y)) B (iC6 _) tyX6 tyX6_ok nmX6 hK hM 0 11 6 (by decide) rfl rfl (by decide) (by decide) rfl rfl rfl (by decide +kernel) (by decide) (List.mem_cons_of_mem _ wC_fRX6_63) dX6_replace_137 (fun H locs hM => ?_)
      refine lv_aload_n B.1 B.2.1 dX6_replace_140 rfl (lv_at hl 1 rfl) ?_
      refine c_callv (q := (cq (swq 1 q) x y)) (As := []) (rest := []) B hK hM 0 (by decide) (by decide) rfl (cX6_forgetFound_ok l D cy (cq (swq 1 q) x y) a b (ci (ci (cSt S_8) 1 1 0) 0 11 0) hF   ) (cwC 0 B wC_mRX6_70 wC_im_yX6_forgetFound wC_sl_yX6_forgetFound wC_in_RX6 wC_cd_yX6_forgetFound rfl rfl (by decide +kernel) ⟨Nat.le_of_ble_eq_true rfl, Nat.le_of_ble_eq_true rfl⟩) rfl hl.1 rfl (Nat.le_of_ble_eq_true rfl) dX6_replace_141 ⟨g_rc hR hg (cFx_gl (S := (ci (ci (cSt S_8) 1 1 0) 0 11 0)) hF), g_rs hR hg (cFx_gl (S := (ci (ci (cSt S_8) 1 1 0) 0 11 0)) hF)⟩ (fun S_14 H locs hp_13 hM => ?_)
      have hp_13 := hp_13.symm
      subst hp_13
      have hg : gl S0 ≤ gl (K6_forgetFound (ci (ci (cSt S_8) 1 1 0) 0 11 0)) := Nat.le_trans hg (gl_of (S := (ci (ci (cSt S_8) 1 1 0) 0 11 0)) (S' := (K6_forgetFound (ci (ci (cSt S_8) 1 1 0) 0 11 0))) (congrArg Prod.snd K6_forgetFound_2))
      refine W.widen (k := gl (K6_forgetFound (ci (ci (cSt S_8) 1 1 0) 0 11 0)) - gl S0) (n := 2 * (gl (K6_forgetFound (ci (ci (cSt S_8) 1 1 0) 0 11 0)) - gl S0)) (Nat.sub_le_sub_right (gl_of (S := (ci (ci (cSt S_8) 1 1 0) 0 11 0)) (S' := (K6_forgetFound (ci (ci (cSt S_8) 1 1 0) 0 11 0))) (congrArg Prod.snd K6_forgetFound_2)) _) (Nat.mul_le_mul_left 2 (Nat.sub_le_sub_right (gl_of (S := (ci (ci (cSt S_8) 1 1 0) 0 11 0)) (S' := (K6_forgetFound (ci (ci (cSt S_8) 1 1 0) 0 11 0))) (congrArg Prod.snd K6_forgetFound_2)) _)) ?_
      have hF : cFx a b (K6_forgetFound (ci (ci (cSt S_8) 1 1 0) 0 11 0)) := cFx_of (congrArg Prod.snd K6_forgetFound_2) hF
      refine lv_iload_n B.1 B.2.1 dX6_replace_144 rfl (lv_at hl 2 rfl) ?_
      have hM := cH_sw.mpr (by rw [cq_sw]; exact hM : cH D cy (swq 1 (cq q x y)) A s.heap (K6_forgetFound (ci (ci (cSt S_8) 1 1 0) 0 11 0)) H locs)
      exact g_reti (S := (cSw 1 (K6_forgetFound (ci (ci (cSt S_8) 1 1 0) 0 11 0)))) B hM (hpost.trans (by subst hS_8; rw [K6_repL]; exact (if_pos c_7))) dX6_replace_145
    · exact absurd c_1 (by omega)
  | succ n ih =>
    intro b co s9 c9 tr T x y H locs ls hF hg hb67 hR9 hco0 hco1 htr htn hM hl hpost
    obtain ⟨hW, hc0, hc1'⟩ := hVf _ s9 c9 T hR9
    obtain ⟨hV, hP, hta, htb, hc1, hba, hbb, hc3, hda, hdb⟩ := id hW
    obtain ⟨-, -, -, -, -, -, -, pga, pgb, -, -⟩ := id hP
    refine lv_iload B.1 B.2.1 dX6_replace_16 (lv_at hl 4 rfl) ?_
    refine z_bipush B.1 B.2.1 (by decide) dX6_replace_18 ?_
    refine z_icmp_gt (tgt := 96) B.1 B.2.1 (zr_of (by omega) (by omega)) (zr_of (by decide) (by decide)) dX6_replace_20 (by decide) (fun c_1 => ?_) (fun c_1 => ?_)
    · --
      refine lv_aload_n B.1 B.2.1 dX6_replace_96 rfl (lv_at hl 0 rfl) ?_
      refine lv_iload_n B.1 B.2.1 dX6_replace_97 rfl (lv_at hl 3 rfl) ?_
      refine lv_aload_n B.1 B.2.1 dX6_replace_98 rfl (lv_at hl 0 rfl) ?_
      refine c_getr (q := (cq q x y)) (r := 3) B (iC6 _) hK hM 0 2 6 (by decide) rfl rfl (by decide) (by decide) rfl rfl rfl (cFx_r hF 0 2) (List.mem_cons_of_mem _ wC_fRX6_21) dX6_replace_99 ?_
      refine c_calli (q := (cq q x y)) (As := []) (rest := [.int (zI c9), .ref (q 0)]) B hK hM 3 (by decide) (by decide) rfl (cX4_length_ok l D cy (cq q x y) a b T hF 3 (by decide)  ) (cwC 0 B wC_mRX6_80 wC_im_yX4_length wC_sl_yX4_length wC_in_RX4 wC_cd_yX4_length rfl rfl (by decide +kernel) ⟨Nat.le_of_ble_eq_true rfl, Nat.le_of_ble_eq_true rfl⟩) rfl hl.1 rfl (Nat.le_of_ble_eq_true rfl) dX6_replace_102 ⟨g_rc hR hg (cFx_gl (S := T) hF), g_rs hR hg (cFx_gl (S := T) hF)⟩ (fun z_5 S_4 H locs hp_3 hM => ?_)
      obtain ⟨hp_3, he_hp_3⟩ := hp_3
      have he_hp_3 := he_hp_3.symm
      subst he_hp_3
      have hp_3 : T.1 3 1 = z_5 := hp_3.symm
      subst hp_3
      refine g_callv (E := "java/lang/UnsupportedOperationException") (As := [.int (zI c9), .int (zI (T.1 3 1))]) (rest := []) B hK hG hM 0 (by decide) (by decide) rfl (cX6_writeText_ok l hl0 D cy q V n0 x y a b T hF  c9 (T.1 3 1) hW (by show -1 ≤ c9; omega) (by show c9 ≤ 100000; omega) (by show -1 ≤ (T.1 3 1); omega) (by show (T.1 3 1) ≤ 100000; omega)) (cwC 2 B wC_mRX6_132 wC_im_yX6_writeText wC_sl_yX6_writeText wC_in_RX6 wC_cd_yX6_writeText rfl rfl (by decide +kernel) ⟨Nat.le_of_ble_eq_true rfl, Nat.le_of_ble_eq_true rfl⟩) rfl hl.1 rfl (Nat.le_of_ble_eq_true rfl) dX6_replace_105 hR hg (cFx_gl hF) (gl_of (congrArg Prod.snd (K6_writeText_R (bg := c9) (en := T.1 3 1) (S := T) hW).1.1)) (fun c_7 => (hpost.trans (by rw [K6_repL]; exact ((if_pos c_1).trans (if_neg c_7))))) (fun x y H locs c_7 hM => ?_)
      have hg : gl S0 ≤ gl (K6_writeText c9 (T.1 3 1) T).2.2 := Nat.le_trans hg (gl_of (congrArg Prod.snd (K6_writeText_R (bg := c9) (en := T.1 3 1) (S := T) hW).1.1))
      obtain ⟨k_6, hW, -⟩ := K6_writeText_R (bg := c9) (en := T.1 3 1) (S := T) hW
      have hF : cFx a b (K6_writeText c9 (T.1 3 1) T).2.2 := cFx_of (congrArg Prod.snd k_6.1) hF
      generalize hS_8 : (K6_writeText c9 (T.1 3 1) T).2.2 = S_8 at *
      obtain ⟨hV, hP, hta, htb, hc1, hba, hbb, hc3, hda, hdb⟩ := id hW
      obtain ⟨-, -, -, -, -, -, -, pga, pgb, -, -⟩ := id hP
      refine lv_aload_n B.1 B.2.1 dX6_replace_108 rfl (lv_at hl 0 rfl) ?_
      refine c_getr (q := (cq q x y)) (r := 4) B (iC6 _) hK hM 0 3 6 (by decide) rfl rfl (by decide) (by decide) rfl rfl rfl (cFx_r hF 0 3) (List.mem_cons_of_mem _ wC_fRX6_24) dX6_replace_109 ?_
      refine lv_astore (lv' := [(4, .ref (q 4)), (0, .ref (q 0)), (1, .int (zI co)), (2, .int (zI s9)), (3, .int (zI c9))]) B.1 B.2.1 dX6_replace_112 hl (by decide) rfl (fun ls hl => ?_)
      refine lv_aload_n B.1 B.2.1 dX6_replace_114 rfl (lv_at hl 1 rfl) ?_
      refine lv_aload_n B.1 B.2.1 dX6_replace_115 rfl (lv_at hl 1 rfl) ?_
      refine c_getr (q := (cq q x y)) (r := 5) B (iC6 _) hK hM 0 4 6 (by decide) rfl rfl (by decide) (by decide) rfl rfl rfl (cFx_r hF 0 4) (List.mem_cons_of_mem _ wC_fRX6_27) dX6_replace_116 ?_
      refine c_putr (r := 5) (q := (cq q x y)) B (iC6 _) tyX6 tyX6_ok nmX6 hK hM 0 3 6 (by decide) rfl rfl (by decide) (by decide) rfl rfl rfl (ty := tyX6 3) (by decide +kernel) rfl rfl rfl (List.mem_cons_of_mem _ wC_fRX6_24) dX6_replace_119 (fun H locs hM => ?_)
      refine lv_aload_n B.1 B.2.1 dX6_replace_122 rfl (lv_at hl 1 rfl) ?_
      refine lv_aload B.1 B.2.1 dX6_replace_123 (lv_at hl 0 rfl) ?_
      refine c_putr (r := 4) (q := (cq q x y)) B (iC6 _) tyX6 tyX6_ok nmX6 hK hM 0 4 6 (by decide) rfl rfl (by decide) (by decide) rfl rfl rfl (ty := tyX6 4) (by decide +kernel) rfl rfl rfl (List.mem_cons_of_mem _ wC_fRX6_27) dX6_replace_125 (fun H locs hM => ?_)
      have hM := cSn1_H (a := a) (b := b) (S := S_8) hF.1 ha67 hb67 hM
      rw [cSt_eq (S := S_8) hF.1] at hM
      have hF : cFx a b (cSt S_8) := by rw [← cSt_eq (S := S_8) hF.1]; exact cSn1_F (a := a) (b := b) (S := S_8) hF
      refine lv_aload_n B.1 B.2.1 dX6_replace_128 rfl (lv_at hl 1 rfl) ?_
      refine c_getr (q := (cq (swq 1 q) x y)) (r := 1) B (iC6 _) hK hM 0 0 6 (by decide) rfl rfl (by decide) (by decide) rfl rfl rfl (cFx_r hF 0 0) (List.mem_cons_of_mem _ wC_fRX6_14) dX6_replace_129 ?_
      refine c_callv (q := (cq (swq 1 q) x y)) (As := []) (rest := []) B hK hM 1 (by decide) (by decide) rfl (cX4_clear_ok l D cy (cq (swq 1 q) x y) a b (cSt S_8) hF 1 (by decide)  ) (cwC 0 B wC_mRX6_102 wC_im_yX4_clear wC_sl_yX4_clear wC_in_RX4 wC_cd_yX4_clear rfl rfl (by decide +kernel) ⟨Nat.le_of_ble_eq_true rfl, Nat.le_of_ble_eq_true rfl⟩) rfl hl.1 rfl (Nat.le_of_ble_eq_true rfl) dX6_replace_132 ⟨g_rc hR hg (cFx_gl (S := (cSt S_8)) hF), g_rs hR hg (cFx_gl (S := (cSt S_8)) hF)⟩ (fun S_11 H locs hp_10 hM => ?_)
      have hp_10 := hp_10.symm
      subst hp_10
      refine lv_aload_n B.1 B.2.1 dX6_replace_135 rfl (lv_at hl 1 rfl) ?_
      refine z_iconst B.1 B.2.1 dX6_replace_136 ?_
      refine c_puti (q := (cq (swq 1 q) x y)) B (iC6 _) tyX6 tyX6_ok nmX6 hK hM 0 11 6 (by decide) rfl rfl (by decide) (by decide) rfl rfl rfl (by decide +kernel) (by decide) (List.mem_cons_of_mem _ wC_fRX6_63) dX6_replace_137 (fun H locs hM => ?_)
      refine lv_aload_n B.1 B.2.1 dX6_replace_140 rfl (lv_at hl 1 rfl) ?_
      refine c_callv (q := (cq (swq 1 q) x y)) (As := []) (rest := []) B hK hM 0 (by decide) (by decide) rfl (cX6_forgetFound_ok l D cy (cq (swq 1 q) x y) a b (ci (ci (cSt S_8) 1 1 0) 0 11 0) hF   ) (cwC 0 B wC_mRX6_70 wC_im_yX6_forgetFound wC_sl_yX6_forgetFound wC_in_RX6 wC_cd_yX6_forgetFound rfl rfl (by decide +kernel) ⟨Nat.le_of_ble_eq_true rfl, Nat.le_of_ble_eq_true rfl⟩) rfl hl.1 rfl (Nat.le_of_ble_eq_true rfl) dX6_replace_141 ⟨g_rc hR hg (cFx_gl (S := (ci (ci (cSt S_8) 1 1 0) 0 11 0)) hF), g_rs hR hg (cFx_gl (S := (ci (ci (cSt S_8) 1 1 0) 0 11 0)) hF)⟩ (fun S_14 H locs hp_13 hM => ?_)
      have hp_13 := hp_13.symm
      subst hp_13
      have hg : gl S0 ≤ gl (K6_forgetFound (ci (ci (cSt S_8) 1 1 0) 0 11 0)) := Nat.le_trans hg (gl_of (S := (ci (ci (cSt S_8) 1 1 0) 0 11 0)) (S' := (K6_forgetFound (ci (ci (cSt S_8) 1 1 0) 0 11 0))) (congrArg Prod.snd K6_forgetFound_2))
      refine W.widen (k := gl (K6_forgetFound (ci (ci (cSt S_8) 1 1 0) 0 11 0)) - gl S0) (n := 2 * (gl (K6_forgetFound (ci (ci (cSt S_8) 1 1 0) 0 11 0)) - gl S0)) (Nat.sub_le_sub_right (gl_of (S := (ci (ci (cSt S_8) 1 1 0) 0 11 0)) (S' := (K6_forgetFound (ci (ci (cSt S_8) 1 1 0) 0 11 0))) (congrArg Prod.snd K6_forgetFound_2)) _) (Nat.mul_le_mul_left 2 (Nat.sub_le_sub_right (gl_of (S := (ci (ci (cSt S_8) 1 1 0) 0 11 0)) (S' := (K6_forgetFound (ci (ci (cSt S_8) 1 1 0) 0 11 0))) (congrArg Prod.snd K6_forgetFound_2)) _)) ?_
      have hF : cFx a b (K6_forgetFound (ci (ci (cSt S_8) 1 1 0) 0 11 0)) := cFx_of (congrArg Prod.snd K6_forgetFound_2) hF
      refine lv_iload_n B.1 B.2.1 dX6_replace_144 rfl (lv_at hl 2 rfl) ?_
      have hM := cH_sw.mpr (by rw [cq_sw]; exact hM : cH D cy (swq 1 (cq q x y)) A s.heap (K6_forgetFound (ci (ci (cSt S_8) 1 1 0) 0 11 0)) H locs)
      exact g_reti (S := (cSw 1 (K6_forgetFound (ci (ci (cSt S_8) 1 1 0) 0 11 0)))) B hM (hpost.trans (by subst hS_8; rw [K6_repL]; exact ((if_pos c_1).trans (if_pos c_7)))) dX6_replace_145
    · --
      obtain ⟨hs0, hs1, hOK, hcl⟩ := hVs n s9 c9 T hR9
      refine lv_aload_n B.1 B.2.1 dX6_replace_23 rfl (lv_at hl 0 rfl) ?_
      refine c_getr (q := (cq q x y)) (r := 10) B (iC6 _) hK hM 0 8 6 (by decide) rfl rfl (by decide) (by decide) rfl rfl rfl (cFx_r hF 0 8) (List.mem_cons_of_mem _ wC_fRX6_52) dX6_replace_24 ?_
      refine lv_aload_n B.1 B.2.1 dX6_replace_27 rfl (lv_at hl 0 rfl) ?_
      refine c_getr (q := (cq q x y)) (r := 6) B (iC6 _) hK hM 0 5 6 (by decide) rfl rfl (by decide) (by decide) rfl rfl rfl (cFx_r hF 0 5) (List.mem_cons_of_mem _ wC_fRX6_33) dX6_replace_28 ?_
      refine lv_iload_n B.1 B.2.1 dX6_replace_31 rfl (lv_at hl 2 rfl) ?_
      refine g_calli (E := "java/lang/UnsupportedOperationException") (As := [.ref (q 6), .int (zI s9)]) (rest := []) B hK hG hM 10 (by decide) (by decide) rfl (cX0_search_ok l hl0 D cy q V n0 x y a b T hF  s9 ha36 hV hP (by show 0 ≤ (T.1 3 1); omega) (by show (T.1 3 1) ≤ 24; omega) (by show 0 ≤ s9; omega) (by show s9 ≤ 1000; omega) hOK) (cwC 2 B wC_mRX6_119 wC_im_yX0_search wC_sl_yX0_search wC_in_RX0 wC_cd_yX0_search rfl rfl (by decide +kernel) ⟨Nat.le_of_ble_eq_true rfl, Nat.le_of_ble_eq_true rfl⟩) rfl hl.1 rfl (Nat.le_of_ble_eq_true rfl) dX6_replace_32 hR hg (cFx_gl hF) (K0_search_F (a := a) (b := b) (bg := s9) (S := T) hOK hF hV (by omega) (by omega) (by omega)).2.2.1 (fun c_16 => (hpost.trans (by rw [K6_repL]; exact ((if_neg c_1).trans (if_neg c_16))))) (fun x y H locs c_16 hM => ?_)
      have hg : gl S0 ≤ gl (K0_search s9 T).2.2 := Nat.le_trans hg (K0_search_F (a := a) (b := b) (bg := s9) (S := T) hOK hF hV (by omega) (by omega) (by omega)).2.2.1
      have k_15 := mK.search (bg := s9) (S := T)
      obtain ⟨hF, hV, k_15g, k_15a, k_15b⟩ := K0_search_F (a := a) (b := b) (bg := s9) (S := T) hOK hF hV (by omega) (by omega) (by omega)
      have hP := pB_mK k_15 hP
      have hW := fV_mK k_15 hW hV
      generalize hS_18 : (K0_search s9 T).2.2 = S_18 at *
      generalize hv_17 : (K0_search s9 T).2.1 = v_17 at *
      obtain ⟨hV, hP, hta, htb, hc1, hba, hbb, hc3, hda, hdb⟩ := id hW
      obtain ⟨-, -, -, -, -, -, -, pga, pgb, -, -⟩ := id hP
      refine lv_istore (lv' := [(5, .int (zI v_17)), (0, .ref (q 0)), (1, .int (zI co)), (2, .int (zI s9)), (3, .int (zI c9)), (4, .int (zI tr))]) B.1 B.2.1 dX6_replace_35 hl (by decide) rfl (fun ls hl => ?_)
      refine lv_iload B.1 B.2.1 dX6_replace_37 (lv_at hl 0 rfl) ?_
      refine z_iconst B.1 B.2.1 dX6_replace_39 ?_
      refine z_icmp_ne (tgt := 46) B.1 B.2.1 (zr_of (by omega) (by omega)) (zr_of (by decide) (by decide)) dX6_replace_40 (by decide) (fun c_19 => ?_) (fun c_19 => ?_)
      · --
        refine lv_aload_n B.1 B.2.1 dX6_replace_46 rfl (lv_at hl 1 rfl) ?_
        refine c_getr (q := (cq q x y)) (r := 10) B (iC6 _) hK hM 0 8 6 (by decide) rfl rfl (by decide) (by decide) rfl rfl rfl (cFx_r hF 0 8) (List.mem_cons_of_mem _ wC_fRX6_52) dX6_replace_47 ?_
        refine z_iconst B.1 B.2.1 dX6_replace_50 ?_
        refine c_calli (q := (cq q x y)) (As := [.int (zI 0)]) (rest := []) B hK hM 10 (by decide) (by decide) rfl (cX0_tookTo_ok l D cy (cq q x y) a S_18 hF  0 hV (by show -1 ≤ 0; omega) (by show 0 ≤ 1000000; omega)) (cwC 1 B wC_mRX6_125 wC_im_yX0_tookTo wC_sl_yX0_tookTo wC_in_RX0 wC_cd_yX0_tookTo rfl rfl (by decide +kernel) ⟨Nat.le_of_ble_eq_true rfl, Nat.le_of_ble_eq_true rfl⟩) rfl hl.1 rfl (Nat.le_of_ble_eq_true rfl) dX6_replace_51 ⟨g_rc hR hg (cFx_gl (S := S_18) hF), g_rs hR hg (cFx_gl (S := S_18) hF)⟩ (fun z_23 S_22 H locs hp_21 hM => ?_)
        obtain ⟨hp_21, he_hp_21⟩ := hp_21
        have he_hp_21 := he_hp_21.symm
        subst he_hp_21
        have hp_21 : (K0_tookTo 0 S_18) = z_23 := hp_21.symm
        subst hp_21
        have f_24 : -1 ≤ (K0_tookTo 0 S_18) ∧ (K0_tookTo 0 S_18) ≤ 100000 := K1_mark_bd (S := S_18) (20 + 0) hV
        refine lv_istore (lv' := [(6, .int (zI ((K0_tookTo 0 S_18)))), (5, .int (zI v_17)), (0, .ref (q 0)), (1, .int (zI co)), (2, .int (zI s9)), (3, .int (zI c9)), (4, .int (zI tr))]) B.1 B.2.1 dX6_replace_54 hl (by decide) rfl (fun ls hl => ?_)
        refine lv_aload_n B.1 B.2.1 dX6_replace_56 rfl (lv_at hl 2 rfl) ?_
        refine lv_iload_n B.1 B.2.1 dX6_replace_57 rfl (lv_at hl 5 rfl) ?_
        refine lv_iload B.1 B.2.1 dX6_replace_58 (lv_at hl 1 rfl) ?_
        refine g_callv (E := "java/lang/UnsupportedOperationException") (As := [.int (zI c9), .int (zI v_17)]) (rest := []) B hK hG hM 0 (by decide) (by decide) rfl (cX6_writeText_ok l hl0 D cy q V n0 x y a 6 S_18 hF  c9 v_17 hW (by show -1 ≤ c9; omega) (by show c9 ≤ 100000; omega) (by show -1 ≤ v_17; omega) (by show v_17 ≤ 100000; omega)) (cwC 2 B wC_mRX6_132 wC_im_yX6_writeText wC_sl_yX6_writeText wC_in_RX6 wC_cd_yX6_writeText rfl rfl (by decide +kernel) ⟨Nat.le_of_ble_eq_true rfl, Nat.le_of_ble_eq_true rfl⟩) rfl hl.1 rfl (Nat.le_of_ble_eq_true rfl) dX6_replace_60 hR hg (cFx_gl hF) (gl_of (congrArg Prod.snd (K6_writeText_R (bg := c9) (en := v_17) (S := S_18) hW).1.1)) (fun c_26 => (hpost.trans (by subst hS_18; subst hv_17; rw [K6_repL]; exact ((if_neg c_1).trans ((if_pos c_16).trans ((if_neg c_19).trans (if_neg c_26))))))) (fun x y H locs c_26 hM => ?_)
        have hg : gl S0 ≤ gl (K6_writeText c9 v_17 S_18).2.2 := Nat.le_trans hg (gl_of (congrArg Prod.snd (K6_writeText_R (bg := c9) (en := v_17) (S := S_18) hW).1.1))
        obtain ⟨k_25, hW, -⟩ := K6_writeText_R (bg := c9) (en := v_17) (S := S_18) hW
        have hF : cFx a 6 (K6_writeText c9 v_17 S_18).2.2 := cFx_of (congrArg Prod.snd k_25.1) hF
        generalize hS_27 : (K6_writeText c9 v_17 S_18).2.2 = S_27 at *
        obtain ⟨hV, hP, hta, htb, hc1, hba, hbb, hc3, hda, hdb⟩ := id hW
        obtain ⟨-, -, -, -, -, -, -, pga, pgb, -, -⟩ := id hP
        refine lv_aload_n B.1 B.2.1 dX6_replace_63 rfl (lv_at hl 2 rfl) ?_
        refine g_callv (E := "java/lang/UnsupportedOperationException") (As := []) (rest := []) B hK hG hM 0 (by decide) (by decide) rfl (cX6_writeTemplate_ok l hl0 D cy q V n0 x y a S_27 hF   hW) (cwC 0 B wC_mRX6_136 wC_im_yX6_writeTemplate wC_sl_yX6_writeTemplate wC_in_RX6 wC_cd_yX6_writeTemplate rfl rfl (by decide +kernel) ⟨Nat.le_of_ble_eq_true rfl, Nat.le_of_ble_eq_true rfl⟩) rfl hl.1 rfl (Nat.le_of_ble_eq_true rfl) dX6_replace_64 hR hg (cFx_gl hF) (gl_of (congrArg Prod.snd (K6_writeTemplate_R  (S := S_27) hW).1.1)) (fun c_29 => (hpost.trans (by subst hS_18; subst hv_17; subst hS_27; rw [K6_repL]; exact ((if_neg c_1).trans ((if_pos c_16).trans ((if_neg c_19).trans ((if_pos c_26).trans (if_neg c_29)))))))) (fun x y H locs c_29 hM => ?_)
        have hg : gl S0 ≤ gl (K6_writeTemplate S_27).2.2 := Nat.le_trans hg (gl_of (congrArg Prod.snd (K6_writeTemplate_R  (S := S_27) hW).1.1))
        obtain ⟨k_28, hW, -⟩ := K6_writeTemplate_R  (S := S_27) hW
        have hF : cFx a 6 (K6_writeTemplate S_27).2.2 := cFx_of (congrArg Prod.snd k_28.1) hF
        generalize hS_30 : (K6_writeTemplate S_27).2.2 = S_30 at *
        obtain ⟨hV, hP, hta, htb, hc1, hba, hbb, hc3, hda, hdb⟩ := id hW
        obtain ⟨-, -, -, -, -, -, -, pga, pgb, -, -⟩ := id hP
        refine lv_iload B.1 B.2.1 dX6_replace_67 (lv_at hl 0 rfl) ?_
        refine lv_istore_n (lv' := [(3, .int (zI ((K0_tookTo 0 S_18)))), (6, .int (zI ((K0_tookTo 0 S_18)))), (5, .int (zI v_17)), (0, .ref (q 0)), (1, .int (zI co)), (2, .int (zI s9)), (4, .int (zI tr))]) B.1 B.2.1 dX6_replace_69 rfl hl (by decide) rfl (fun ls hl => ?_)
        refine lv_iload B.1 B.2.1 dX6_replace_70 (lv_at hl 1 rfl) ?_
        refine lv_iload B.1 B.2.1 dX6_replace_72 (lv_at hl 2 rfl) ?_
        refine z_joinH (P := fun v H' locs' => v = (if ((K0_tookTo 0 S_18)) ≤ v_17 then ((K0_tookTo 0 S_18)) + 1 else (K0_tookTo 0 S_18) : Int) ∧ cH D cy (cq q x y) A s.heap S_30 H' locs') (pcJ := 86) (lsJ := ls) (stJ := []) (fun v_31 H locs hv_32 => ?_) (fun hJ_33 => ?_)
        · --
          obtain ⟨hv_32, hM⟩ := hv_32
          have hv_32 := hv_32.symm
          subst hv_32
          refine lv_istore_n (lv' := [(2, .int (zI ((if ((K0_tookTo 0 S_18)) ≤ v_17 then ((K0_tookTo 0 S_18)) + 1 else (K0_tookTo 0 S_18) : Int)))), (3, .int (zI ((K0_tookTo 0 S_18)))), (6, .int (zI ((K0_tookTo 0 S_18)))), (5, .int (zI v_17)), (0, .ref (q 0)), (1, .int (zI co)), (4, .int (zI tr))]) B.1 B.2.1 dX6_replace_86 rfl hl (by decide) rfl (fun ls hl => ?_)
          refine z_iinc (v := co + 1) (lv' := [(1, .int (zI (co + 1))), (2, .int (zI ((if ((K0_tookTo 0 S_18)) ≤ v_17 then ((K0_tookTo 0 S_18)) + 1 else (K0_tookTo 0 S_18) : Int)))), (3, .int (zI ((K0_tookTo 0 S_18)))), (6, .int (zI ((K0_tookTo 0 S_18)))), (5, .int (zI v_17)), (0, .ref (q 0)), (4, .int (zI tr))]) B.1 B.2.1 dX6_replace_87 hl (k := 5) rfl rfl (by decide) rfl (fun ls hl => ?_)
          refine z_iinc (v := tr + 1) (lv' := [(4, .int (zI (tr + 1))), (1, .int (zI (co + 1))), (2, .int (zI ((if ((K0_tookTo 0 S_18)) ≤ v_17 then ((K0_tookTo 0 S_18)) + 1 else (K0_tookTo 0 S_18) : Int)))), (3, .int (zI ((K0_tookTo 0 S_18)))), (6, .int (zI ((K0_tookTo 0 S_18)))), (5, .int (zI v_17)), (0, .ref (q 0))]) B.1 B.2.1 dX6_replace_90 hl (k := 6) rfl rfl (by decide) rfl (fun ls hl => ?_)
          refine lv_goto (tgt := 16) B.1 B.2.1 dX6_replace_93 (by decide) ?_
          have hq : K6_repL (n + 1) co s9 c9 tr T = K6_repL n (co + 1) ((if ((K0_tookTo 0 S_18)) ≤ v_17 then ((K0_tookTo 0 S_18)) + 1 else (K0_tookTo 0 S_18) : Int)) ((K0_tookTo 0 S_18)) (tr + 1) S_30 := by subst hS_18; subst hv_17; subst hS_27; subst hS_30; rw [K6_repL]; exact ((if_neg c_1).trans ((if_pos c_16).trans ((if_neg c_19).trans ((if_pos c_26).trans (if_pos c_29)))))
          rw [hq] at hpost
          exact ih 6 (co + 1) ((if ((K0_tookTo 0 S_18)) ≤ v_17 then ((K0_tookTo 0 S_18)) + 1 else (K0_tookTo 0 S_18) : Int)) ((K0_tookTo 0 S_18)) (tr + 1) S_30 x y H locs ls hF hg (by decide) (by have h9 := hcl (by assumption) (by assumption) (by assumption) (by assumption); first | exact h9 | (rw [if_pos (by omega)] at h9; exact h9) | (rw [if_neg (by omega)] at h9; exact h9)) (by omega) (by omega) (by omega) (by omega) hM (lv_sub hl [6, 1, 2, 3, 0] rfl) hpost
        · --
          refine z_icmp_le (tgt := 82) B.1 B.2.1 (zr_of (by omega) (by omega)) (zr_of (by omega) (by omega)) dX6_replace_74 (by decide) (fun c_34 => ?_) (fun c_34 => ?_)
          · --
            refine lv_iload B.1 B.2.1 dX6_replace_82 (lv_at hl 1 rfl) ?_
            refine z_iconst B.1 B.2.1 dX6_replace_84 ?_
            refine z_iadd (x := ((K0_tookTo 0 S_18)) + 1) B.1 B.2.1 rfl dX6_replace_85 ?_
            exact hJ_33 _ _ _ ⟨(if_pos c_34).symm, hM⟩
          · --
            refine lv_iload B.1 B.2.1 dX6_replace_77 (lv_at hl 1 rfl) ?_
            refine lv_goto (tgt := 86) B.1 B.2.1 dX6_replace_79 (by decide) ?_
            exact hJ_33 _ _ _ ⟨(if_neg c_34).symm, hM⟩
      · --
        refine lv_goto (tgt := 96) B.1 B.2.1 dX6_replace_43 (by decide) ?_
        refine lv_aload_n B.1 B.2.1 dX6_replace_96 rfl (lv_at hl 1 rfl) ?_
        refine lv_iload_n B.1 B.2.1 dX6_replace_97 rfl (lv_at hl 4 rfl) ?_
        refine lv_aload_n B.1 B.2.1 dX6_replace_98 rfl (lv_at hl 1 rfl) ?_
        refine c_getr (q := (cq q x y)) (r := 3) B (iC6 _) hK hM 0 2 6 (by decide) rfl rfl (by decide) (by decide) rfl rfl rfl (cFx_r hF 0 2) (List.mem_cons_of_mem _ wC_fRX6_21) dX6_replace_99 ?_
        refine c_calli (q := (cq q x y)) (As := []) (rest := [.int (zI c9), .ref (q 0)]) B hK hM 3 (by decide) (by decide) rfl (cX4_length_ok l D cy (cq q x y) a 6 S_18 hF 3 (by decide)  ) (cwC 0 B wC_mRX6_80 wC_im_yX4_length wC_sl_yX4_length wC_in_RX4 wC_cd_yX4_length rfl rfl (by decide +kernel) ⟨Nat.le_of_ble_eq_true rfl, Nat.le_of_ble_eq_true rfl⟩) rfl hl.1 rfl (Nat.le_of_ble_eq_true rfl) dX6_replace_102 ⟨g_rc hR hg (cFx_gl (S := S_18) hF), g_rs hR hg (cFx_gl (S := S_18) hF)⟩ (fun z_38 S_37 H locs hp_36 hM => ?_)
        obtain ⟨hp_36, he_hp_36⟩ := hp_36
        have he_hp_36 := he_hp_36.symm
        subst he_hp_36
        have hp_36 : S_18.1 3 1 = z_38 := hp_36.symm
        subst hp_36
        refine g_callv (E := "java/lang/UnsupportedOperationException") (As := [.int (zI c9), .int (zI (S_18.1 3 1))]) (rest := []) B hK hG hM 0 (by decide) (by decide) rfl (cX6_writeText_ok l hl0 D cy q V n0 x y a 6 S_18 hF  c9 (S_18.1 3 1) hW (by show -1 ≤ c9; omega) (by show c9 ≤ 100000; omega) (by show -1 ≤ (S_18.1 3 1); omega) (by show (S_18.1 3 1) ≤ 100000; omega)) (cwC 2 B wC_mRX6_132 wC_im_yX6_writeText wC_sl_yX6_writeText wC_in_RX6 wC_cd_yX6_writeText rfl rfl (by decide +kernel) ⟨Nat.le_of_ble_eq_true rfl, Nat.le_of_ble_eq_true rfl⟩) rfl hl.1 rfl (Nat.le_of_ble_eq_true rfl) dX6_replace_105 hR hg (cFx_gl hF) (gl_of (congrArg Prod.snd (K6_writeText_R (bg := c9) (en := S_18.1 3 1) (S := S_18) hW).1.1)) (fun c_40 => (hpost.trans (by subst hS_18; subst hv_17; rw [K6_repL]; exact ((if_neg c_1).trans ((if_pos c_16).trans ((if_pos c_19).trans (if_neg c_40))))))) (fun x y H locs c_40 hM => ?_)
        have hg : gl S0 ≤ gl (K6_writeText c9 (S_18.1 3 1) S_18).2.2 := Nat.le_trans hg (gl_of (congrArg Prod.snd (K6_writeText_R (bg := c9) (en := S_18.1 3 1) (S := S_18) hW).1.1))
        obtain ⟨k_39, hW, -⟩ := K6_writeText_R (bg := c9) (en := S_18.1 3 1) (S := S_18) hW
        have hF : cFx a 6 (K6_writeText c9 (S_18.1 3 1) S_18).2.2 := cFx_of (congrArg Prod.snd k_39.1) hF
        generalize hS_41 : (K6_writeText c9 (S_18.1 3 1) S_18).2.2 = S_41 at *
        obtain ⟨hV, hP, hta, htb, hc1, hba, hbb, hc3, hda, hdb⟩ := id hW
        obtain ⟨-, -, -, -, -, -, -, pga, pgb, -, -⟩ := id hP
        refine lv_aload_n B.1 B.2.1 dX6_replace_108 rfl (lv_at hl 1 rfl) ?_
        refine c_getr (q := (cq q x y)) (r := 4) B (iC6 _) hK hM 0 3 6 (by decide) rfl rfl (by decide) (by decide) rfl rfl rfl (cFx_r hF 0 3) (List.mem_cons_of_mem _ wC_fRX6_24) dX6_replace_109 ?_
        refine lv_astore (lv' := [(4, .ref (q 4)), (5, .int (zI v_17)), (0, .ref (q 0)), (1, .int (zI co)), (2, .int (zI s9)), (3, .int (zI c9))]) B.1 B.2.1 dX6_replace_112 hl (by decide) rfl (fun ls hl => ?_)
        refine lv_aload_n B.1 B.2.1 dX6_replace_114 rfl (lv_at hl 2 rfl) ?_
        refine lv_aload_n B.1 B.2.1 dX6_replace_115 rfl (lv_at hl 2 rfl) ?_
        refine c_getr (q := (cq q x y)) (r := 5) B (iC6 _) hK hM 0 4 6 (by decide) rfl rfl (by decide) (by decide) rfl rfl rfl (cFx_r hF 0 4) (List.mem_cons_of_mem _ wC_fRX6_27) dX6_replace_116 ?_
        refine c_putr (r := 5) (q := (cq q x y)) B (iC6 _) tyX6 tyX6_ok nmX6 hK hM 0 3 6 (by decide) rfl rfl (by decide) (by decide) rfl rfl rfl (ty := tyX6 3) (by decide +kernel) rfl rfl rfl (List.mem_cons_of_mem _ wC_fRX6_24) dX6_replace_119 (fun H locs hM => ?_)
        refine lv_aload_n B.1 B.2.1 dX6_replace_122 rfl (lv_at hl 2 rfl) ?_
        refine lv_aload B.1 B.2.1 dX6_replace_123 (lv_at hl 0 rfl) ?_
        refine c_putr (r := 4) (q := (cq q x y)) B (iC6 _) tyX6 tyX6_ok nmX6 hK hM 0 4 6 (by decide) rfl rfl (by decide) (by decide) rfl rfl rfl (ty := tyX6 4) (by decide +kernel) rfl rfl rfl (List.mem_cons_of_mem _ wC_fRX6_27) dX6_replace_125 (fun H locs hM => ?_)
        have hM := cSn1_H (a := a) (b := 6) (S := S_41) hF.1 ha67 (by decide) hM
        rw [cSt_eq (S := S_41) hF.1] at hM
        have hF : cFx a 6 (cSt S_41) := by rw [← cSt_eq (S := S_41) hF.1]; exact cSn1_F (a := a) (b := 6) (S := S_41) hF
        refine lv_aload_n B.1 B.2.1 dX6_replace_128 rfl (lv_at hl 2 rfl) ?_
        refine c_getr (q := (cq (swq 1 q) x y)) (r := 1) B (iC6 _) hK hM 0 0 6 (by decide) rfl rfl (by decide) (by decide) rfl rfl rfl (cFx_r hF 0 0) (List.mem_cons_of_mem _ wC_fRX6_14) dX6_replace_129 ?_
        refine c_callv (q := (cq (swq 1 q) x y)) (As := []) (rest := []) B hK hM 1 (by decide) (by decide) rfl (cX4_clear_ok l D cy (cq (swq 1 q) x y) a 6 (cSt S_41) hF 1 (by decide)  ) (cwC 0 B wC_mRX6_102 wC_im_yX4_clear wC_sl_yX4_clear wC_in_RX4 wC_cd_yX4_clear rfl rfl (by decide +kernel) ⟨Nat.le_of_ble_eq_true rfl, Nat.le_of_ble_eq_true rfl⟩) rfl hl.1 rfl (Nat.le_of_ble_eq_true rfl) dX6_replace_132 ⟨g_rc hR hg (cFx_gl (S := (cSt S_41)) hF), g_rs hR hg (cFx_gl (S := (cSt S_41)) hF)⟩ (fun S_44 H locs hp_43 hM => ?_)
        have hp_43 := hp_43.symm
        subst hp_43
        refine lv_aload_n B.1 B.2.1 dX6_replace_135 rfl (lv_at hl 2 rfl) ?_
        refine z_iconst B.1 B.2.1 dX6_replace_136 ?_
        refine c_puti (q := (cq (swq 1 q) x y)) B (iC6 _) tyX6 tyX6_ok nmX6 hK hM 0 11 6 (by decide) rfl rfl (by decide) (by decide) rfl rfl rfl (by decide +kernel) (by decide) (List.mem_cons_of_mem _ wC_fRX6_63) dX6_replace_137 (fun H locs hM => ?_)
        refine lv_aload_n B.1 B.2.1 dX6_replace_140 rfl (lv_at hl 2 rfl) ?_
        refine c_callv (q := (cq (swq 1 q) x y)) (As := []) (rest := []) B hK hM 0 (by decide) (by decide) rfl (cX6_forgetFound_ok l D cy (cq (swq 1 q) x y) a 6 (ci (ci (cSt S_41) 1 1 0) 0 11 0) hF   ) (cwC 0 B wC_mRX6_70 wC_im_yX6_forgetFound wC_sl_yX6_forgetFound wC_in_RX6 wC_cd_yX6_forgetFound rfl rfl (by decide +kernel) ⟨Nat.le_of_ble_eq_true rfl, Nat.le_of_ble_eq_true rfl⟩) rfl hl.1 rfl (Nat.le_of_ble_eq_true rfl) dX6_replace_141 ⟨g_rc hR hg (cFx_gl (S := (ci (ci (cSt S_41) 1 1 0) 0 11 0)) hF), g_rs hR hg (cFx_gl (S := (ci (ci (cSt S_41) 1 1 0) 0 11 0)) hF)⟩ (fun S_47 H locs hp_46 hM => ?_)
        have hp_46 := hp_46.symm
        subst hp_46
        have hg : gl S0 ≤ gl (K6_forgetFound (ci (ci (cSt S_41) 1 1 0) 0 11 0)) := Nat.le_trans hg (gl_of (S := (ci (ci (cSt S_41) 1 1 0) 0 11 0)) (S' := (K6_forgetFound (ci (ci (cSt S_41) 1 1 0) 0 11 0))) (congrArg Prod.snd K6_forgetFound_2))
        refine W.widen (k := gl (K6_forgetFound (ci (ci (cSt S_41) 1 1 0) 0 11 0)) - gl S0) (n := 2 * (gl (K6_forgetFound (ci (ci (cSt S_41) 1 1 0) 0 11 0)) - gl S0)) (Nat.sub_le_sub_right (gl_of (S := (ci (ci (cSt S_41) 1 1 0) 0 11 0)) (S' := (K6_forgetFound (ci (ci (cSt S_41) 1 1 0) 0 11 0))) (congrArg Prod.snd K6_forgetFound_2)) _) (Nat.mul_le_mul_left 2 (Nat.sub_le_sub_right (gl_of (S := (ci (ci (cSt S_41) 1 1 0) 0 11 0)) (S' := (K6_forgetFound (ci (ci (cSt S_41) 1 1 0) 0 11 0))) (congrArg Prod.snd K6_forgetFound_2)) _)) ?_
        have hF : cFx a 6 (K6_forgetFound (ci (ci (cSt S_41) 1 1 0) 0 11 0)) := cFx_of (congrArg Prod.snd K6_forgetFound_2) hF
        refine lv_iload_n B.1 B.2.1 dX6_replace_144 rfl (lv_at hl 3 rfl) ?_
        have hM := cH_sw.mpr (by rw [cq_sw]; exact hM : cH D cy (swq 1 (cq q x y)) A s.heap (K6_forgetFound (ci (ci (cSt S_41) 1 1 0) 0 11 0)) H locs)
        exact g_reti (S := (cSw 1 (K6_forgetFound (ci (ci (cSt S_41) 1 1 0) 0 11 0)))) B hM (hpost.trans (by subst hS_18; subst hv_17; subst hS_41; rw [K6_repL]; exact ((if_neg c_1).trans ((if_pos c_16).trans ((if_pos c_19).trans (if_pos c_40)))))) dX6_replace_145
noncomputable def K6_replace (S : CSt) : CR := (K6_repL 25 0 0 0 0 (ci S 5 1 0))
set_option maxHeartbeats 1000000 in
set_option maxRecDepth 100000 in
theorem cX6_replace_ok (l : Launch) (hl0 : l.stackTraces = false) (D : va_G) (cy : Nat → ClassId) (q : Nat → Nat) (V : Nat × (Nat → Nat)) (n0 x y a b : Nat) (S : CSt) (hF : cFx a b S) (ha67 : a = 6 ∨ a = 7) (hb67 : b = 6 ∨ b = 7) (hOK : K6_repOK S) : gMi l D cy q V n0 x y "java/lang/UnsupportedOperationException" yX6_replace (.code yX6_replace cX6_replace 7 (some .int) :: TBC) 11 221 S [.ref (q 0)] (K6_replace S) := by
  refine g_of (cc := cX6_replace) (maxL := 7) (ret := (some .int)) (by decide) rfl rfl (Nat.le_of_ble_eq_true rfl) ?_
  intro p e s m args below meth c ls B hK hG hM hl
  generalize gA (cq q x y) n0 = A at hG hM ⊢
  have hR : (headSpec (.code yX6_replace cX6_replace 7 (some .int) :: TBC) (gRm 11 221 S)).room.cells = (gK - gl S) + 1 ∧ (headSpec (.code yX6_replace cX6_replace 7 (some .int) :: TBC) (gRm 11 221 S)).room.slots = 2 * (gK - gl S) + 6 := ⟨rfl, rfl⟩
  have hl : lv_has ls 7 [(0, .ref (q 0))] := hl
  refine lv_aload_n B.1 B.2.1 dX6_replace_0 rfl (lv_at hl 0 rfl) ?_
  refine c_getr (q := (cq q x y)) (r := 5) B (iC6 _) hK hM 0 4 6 (by decide) rfl rfl (by decide) (by decide) rfl rfl rfl (cFx_r hF 0 4) (List.mem_cons_of_mem _ wC_fRX6_27) dX6_replace_1 ?_
  refine c_callv (q := (cq q x y)) (As := []) (rest := []) B hK hM 5 (by decide) (by decide) rfl (cX4_clear_ok l D cy (cq q x y) a b S hF 5 (by decide)  ) (cwC 0 B wC_mRX6_102 wC_im_yX4_clear wC_sl_yX4_clear wC_in_RX4 wC_cd_yX4_clear rfl rfl (by decide +kernel) ⟨Nat.le_of_ble_eq_true rfl, Nat.le_of_ble_eq_true rfl⟩) rfl hl.1 rfl (Nat.le_of_ble_eq_true rfl) dX6_replace_4 ⟨g_rc hR (Nat.le_refl _) (cFx_gl (S := S) hF), g_rs hR (Nat.le_refl _) (cFx_gl (S := S) hF)⟩ (fun S_3 H locs hp_2 hM => ?_)
  have hp_2 := hp_2.symm
  subst hp_2
  refine z_iconst B.1 B.2.1 dX6_replace_7 ?_
  refine lv_istore_n (lv' := [(1, .int (zI 0)), (0, .ref (q 0))]) B.1 B.2.1 dX6_replace_8 rfl hl (by decide) rfl (fun ls hl => ?_)
  refine z_iconst B.1 B.2.1 dX6_replace_9 ?_
  refine lv_istore_n (lv' := [(2, .int (zI 0)), (1, .int (zI 0)), (0, .ref (q 0))]) B.1 B.2.1 dX6_replace_10 rfl hl (by decide) rfl (fun ls hl => ?_)
  refine z_iconst B.1 B.2.1 dX6_replace_11 ?_
  refine lv_istore_n (lv' := [(3, .int (zI 0)), (2, .int (zI 0)), (1, .int (zI 0)), (0, .ref (q 0))]) B.1 B.2.1 dX6_replace_12 rfl hl (by decide) rfl (fun ls hl => ?_)
  refine z_iconst B.1 B.2.1 dX6_replace_13 ?_
  refine lv_istore (lv' := [(4, .int (zI 0)), (3, .int (zI 0)), (2, .int (zI 0)), (1, .int (zI 0)), (0, .ref (q 0))]) B.1 B.2.1 dX6_replace_14 hl (by decide) rfl (fun ls hl => ?_)
  obtain ⟨Vr, hVf, hVs, hR0⟩ := hOK
  exact lp6_rep l hl0 D cy q V n0 a Vr hVf hVs ha67 (by omega) S _ B hK hG hR 25 b 0 0 0 0 (ci S 5 1 0) x y _ _ ls hF (Nat.le_refl _) hb67 hR0 (by omega) (by omega) (by omega) (by omega) hM (lv_sub hl [4, 3, 2, 1, 0] rfl) (by unfold K6_replace; rfl)
