def K6_tyL2 (s9 : Int64) (n9 : Int) : Nat → Int → CSt → CR
  | 0, i, T => (0, T.1 1 1, T)
  | n + 1, i, T => (if n9 ≤ i then (0, T.1 1 1, T) else K6_tyL2 s9 n9 n (i + 1) ((K4_add 1 ((K6_byteOf s9 i)) T).2))
set_option maxHeartbeats 1000000 in
set_option maxRecDepth 100000 in
theorem lp6_ty2 (l : Launch) (hl0 : l.stackTraces = false) (D : va_G) (cy : Nat → ClassId) (q : Nat → Nat) (V : Nat × (Nat → Nat)) (n0 a b : Nat)  (s9 : Int64) (n9 : Int) (hn0 : 1 ≤ n9) (hn1 : n9 ≤ 8) (S0 : CSt) (rc : CR) {A : Nat → Prop} {p : Program} {e : Env} {s : State} {m : MethodId} {args : Array Value} {below : List Frame} {meth : Method} {c : Code} (B : zAt p s m args meth c RX6 cX6_type 6 (some .int) (.code yX6_type cX6_type 6 (some .int) :: TBC)) (hK : va_K D vwCl (zTY cy) s) (hG : gEn V n0 A s c) (hR : (headSpec (.code yX6_type cX6_type 6 (some .int) :: TBC) (gRm 6 90 S0)).room.cells = (gK - gl S0) + 1 ∧ (headSpec (.code yX6_type cX6_type 6 (some .int) :: TBC) (gRm 6 90 S0)).room.slots = 2 * (gK - gl S0) + 6) :
    ∀ (n : Nat) (i : Int) (T : CSt) (x y : Nat) (H : Heap) (locs : List Loc) (ls : Array Slot), (cFx a b T) → (gl S0 ≤ gl T) → (0 ≤ i) → (i ≤ n9) → (0 ≤ T.1 1 1) → (T.1 1 1 + (n9 - i) ≤ 40) → (n9 - i = n) → cH D cy (cq q x y) A s.heap T H locs → lv_has ls 6 [(0, .ref (q 0)), (1, .long s9), (3, .int (zI n9)), (4, .int (zI i))] → (rc = K6_tyL2 s9 n9 n i T) → W p l e (headSpec (.code yX6_type cX6_type 6 (some .int) :: TBC) (gRm 6 90 S0)).room s m args below meth c H locs (gl T - gl S0) (2 * (gl T - gl S0)) (vx_MQ below (gQi D cy q A rc) (gX D cy q A "java/lang/IllegalArgumentException" rc) args s (gc S0 rc) (gs S0 rc) A) (F0 m 95 ls []) := by
  intro n
  induction n with
  | zero =>
    intro i T x y H locs ls hF hg hi0 hi1 hl0 hl1 hn hM hl hpost
    refine lv_iload B.1 B.2.1 dX6_type_95 (lv_at hl 3 rfl) ?_
    refine lv_iload_n B.1 B.2.1 dX6_type_97 rfl (lv_at hl 2 rfl) ?_
    refine z_icmp_ge (tgt := 122) B.1 B.2.1 (zr_of (by omega) (by omega)) (zr_of (by omega) (by omega)) dX6_type_98 (by decide) (fun c_1 => ?_) (fun c_1 => ?_)
    · --
      refine lv_aload_n B.1 B.2.1 dX6_type_122 rfl (lv_at hl 0 rfl) ?_
      refine c_getr (q := (cq q x y)) (r := 1) B (iC6 _) hK hM 0 0 6 (by decide) rfl rfl (by decide) (by decide) rfl rfl rfl (cFx_r hF 0 0) (List.mem_cons_of_mem _ wC_fRX6_14) dX6_type_123 ?_
      refine c_calli (q := (cq q x y)) (As := []) (rest := []) B hK hM 1 (by decide) (by decide) rfl (cX4_length_ok l D cy (cq q x y) a b T hF 1 (by decide)  ) (cwC 0 B wC_mRX6_80 wC_im_yX4_length wC_sl_yX4_length wC_in_RX4 wC_cd_yX4_length rfl rfl (by decide +kernel) ⟨Nat.le_of_ble_eq_true rfl, Nat.le_of_ble_eq_true rfl⟩) rfl hl.1 rfl (Nat.le_of_ble_eq_true rfl) dX6_type_126 ⟨g_rc hR hg (cFx_gl (S := T) hF), g_rs hR hg (cFx_gl (S := T) hF)⟩ (fun z_5 S_4 H locs hp_3 hM => ?_)
      obtain ⟨hp_3, he_hp_3⟩ := hp_3
      have he_hp_3 := he_hp_3.symm
      subst he_hp_3
      have hp_3 : T.1 1 1 = z_5 := hp_3.symm
      subst hp_3
      exact g_reti (S := T) B hM (hpost.trans (by rw [K6_tyL2])) dX6_type_129
    · exact absurd c_1 (by omega)
  | succ n ih =>
    intro i T x y H locs ls hF hg hi0 hi1 hl0 hl1 hn hM hl hpost
    refine lv_iload B.1 B.2.1 dX6_type_95 (lv_at hl 3 rfl) ?_
    refine lv_iload_n B.1 B.2.1 dX6_type_97 rfl (lv_at hl 2 rfl) ?_
    refine z_icmp_ge (tgt := 122) B.1 B.2.1 (zr_of (by omega) (by omega)) (zr_of (by omega) (by omega)) dX6_type_98 (by decide) (fun c_1 => ?_) (fun c_1 => ?_)
    · --
      refine lv_aload_n B.1 B.2.1 dX6_type_122 rfl (lv_at hl 0 rfl) ?_
      refine c_getr (q := (cq q x y)) (r := 1) B (iC6 _) hK hM 0 0 6 (by decide) rfl rfl (by decide) (by decide) rfl rfl rfl (cFx_r hF 0 0) (List.mem_cons_of_mem _ wC_fRX6_14) dX6_type_123 ?_
      refine c_calli (q := (cq q x y)) (As := []) (rest := []) B hK hM 1 (by decide) (by decide) rfl (cX4_length_ok l D cy (cq q x y) a b T hF 1 (by decide)  ) (cwC 0 B wC_mRX6_80 wC_im_yX4_length wC_sl_yX4_length wC_in_RX4 wC_cd_yX4_length rfl rfl (by decide +kernel) ⟨Nat.le_of_ble_eq_true rfl, Nat.le_of_ble_eq_true rfl⟩) rfl hl.1 rfl (Nat.le_of_ble_eq_true rfl) dX6_type_126 ⟨g_rc hR hg (cFx_gl (S := T) hF), g_rs hR hg (cFx_gl (S := T) hF)⟩ (fun z_5 S_4 H locs hp_3 hM => ?_)
      obtain ⟨hp_3, he_hp_3⟩ := hp_3
      have he_hp_3 := he_hp_3.symm
      subst he_hp_3
      have hp_3 : T.1 1 1 = z_5 := hp_3.symm
      subst hp_3
      exact g_reti (S := T) B hM (hpost.trans (by rw [K6_tyL2]; exact (if_pos c_1))) dX6_type_129
    · --
      refine lv_aload_n B.1 B.2.1 dX6_type_101 rfl (lv_at hl 0 rfl) ?_
      refine c_getr (q := (cq q x y)) (r := 1) B (iC6 _) hK hM 0 0 6 (by decide) rfl rfl (by decide) (by decide) rfl rfl rfl (cFx_r hF 0 0) (List.mem_cons_of_mem _ wC_fRX6_14) dX6_type_102 ?_
      refine lv_lload_n B.1 B.2.1 dX6_type_105 rfl (lv_at hl 1 rfl) ?_
      refine lv_iload B.1 B.2.1 dX6_type_106 (lv_at hl 3 rfl) ?_
      refine s_calli (As := [.long s9, .int (zI i)]) (rest := [.ref (q 1)]) B (cX6_byteOf_ok l s9 i ) (csC 2 B wC_mRX6_86 wC_st_yX6_byteOf wC_in_RX6 wC_cd_yX6_byteOf rfl rfl (by decide +kernel) ⟨Nat.le_of_ble_eq_true rfl, Nat.le_of_ble_eq_true rfl⟩) rfl hl.1 rfl (Nat.le_of_ble_eq_true rfl) dX6_type_108 ⟨g_rc hR hg (cFx_gl (S := T) hF), g_rs hR hg (cFx_gl (S := T) hF)⟩ (fun z_7 hz_8 => ?_)
      have hz_8 := hz_8.symm
      subst hz_8
      have f_9 := K6_byteOf_bd s9 i
      refine z_i2c B.1 B.2.1 (by omega) (by omega) dX6_type_111 ?_
      refine c_calli (q := (cq q x y)) (As := [.int (zI ((K6_byteOf s9 i)))]) (rest := []) B hK hM 1 (by decide) (by decide) rfl (cX4_add_ok l D cy (cq q x y) a b T hF 1 (by decide) ((K6_byteOf s9 i)) (by show 0 ≤ (T.1 1 1); omega) (by show (T.1 1 1) ≤ 100000; omega) (by show 0 ≤ ((K6_byteOf s9 i)); omega) (by show ((K6_byteOf s9 i)) < 65536; omega)) (cwC 1 B wC_mRX6_92 wC_im_yX4_add wC_sl_yX4_add wC_in_RX4 wC_cd_yX4_add rfl rfl (by decide +kernel) ⟨Nat.le_of_ble_eq_true rfl, Nat.le_of_ble_eq_true rfl⟩) rfl hl.1 rfl (Nat.le_of_ble_eq_true rfl) dX6_type_112 ⟨g_rc hR hg (cFx_gl (S := T) hF), g_rs hR hg (cFx_gl (S := T) hF)⟩ (fun z_13 S_12 H locs hp_11 hM => ?_)
      obtain ⟨hp_11, he_hp_11⟩ := hp_11
      have he_hp_11 := he_hp_11.symm
      subst he_hp_11
      have hp_11 : (K4_add 1 ((K6_byteOf s9 i)) T).1 = z_13 := hp_11.symm
      subst hp_11
      have hg : gl S0 ≤ gl (K4_add 1 ((K6_byteOf s9 i)) T).2 := Nat.le_trans hg (gl_of (S := T) (S' := (K4_add 1 ((K6_byteOf s9 i)) T).2) (congrArg Prod.snd K4_add_2))
      refine W.widen (k := gl (K4_add 1 ((K6_byteOf s9 i)) T).2 - gl S0) (n := 2 * (gl (K4_add 1 ((K6_byteOf s9 i)) T).2 - gl S0)) (Nat.sub_le_sub_right (gl_of (S := T) (S' := (K4_add 1 ((K6_byteOf s9 i)) T).2) (congrArg Prod.snd K4_add_2)) _) (Nat.mul_le_mul_left 2 (Nat.sub_le_sub_right (gl_of (S := T) (S' := (K4_add 1 ((K6_byteOf s9 i)) T).2) (congrArg Prod.snd K4_add_2)) _)) ?_
      have hF : cFx a b (K4_add 1 ((K6_byteOf s9 i)) T).2 := cFx_of (congrArg Prod.snd K4_add_2) hF
      refine lv_pop B.1 B.2.1 dX6_type_115 rfl ?_
      refine z_iinc (v := i + 1) (lv' := [(4, .int (zI (i + 1))), (0, .ref (q 0)), (1, .long s9), (3, .int (zI n9))]) B.1 B.2.1 dX6_type_116 hl (k := 3) rfl rfl (by decide) rfl (fun ls hl => ?_)
      refine lv_goto (tgt := 95) B.1 B.2.1 dX6_type_119 (by decide) ?_
      have hq : K6_tyL2 s9 n9 (n + 1) i T = K6_tyL2 s9 n9 n (i + 1) ((K4_add 1 ((K6_byteOf s9 i)) T).2) := by rw [K6_tyL2]; exact (if_neg c_1)
      rw [hq] at hpost
      exact ih (i + 1) ((K4_add 1 ((K6_byteOf s9 i)) T).2) x y H locs ls hF hg (by omega) (by omega) (by have := K4_add_l (t := 1) (sign := K6_byteOf s9 i) hl0; omega) (by have := K4_add_l (t := 1) (sign := K6_byteOf s9 i) hl0; omega) (by omega) hM (lv_sub hl [1, 2, 3, 0] rfl) hpost
def K6_tyL1 (s9 : Int64) (n9 : Int) : Nat → Int → CSt → CR
  | 0, i, T => (K6_tyL2 s9 n9 n9.toNat 0 T)
  | n + 1, i, T => (if n9 ≤ i then (K6_tyL2 s9 n9 n9.toNat 0 T) else (if ((K6_byteOf s9 i)) < 32 then (1, 0, T) else (if ((K6_byteOf s9 i)) ≤ 126 then K6_tyL1 s9 n9 n (i + 1) T else (1, 0, T))))
set_option maxHeartbeats 1000000 in
set_option maxRecDepth 100000 in
theorem lp6_ty1 (l : Launch) (hl0q : l.stackTraces = false) (D : va_G) (cy : Nat → ClassId) (q : Nat → Nat) (V : Nat × (Nat → Nat)) (n0 a b : Nat)  (s9 : Int64) (n9 : Int) (hn0 : 1 ≤ n9) (hn1 : n9 ≤ 8) (S0 : CSt) (rc : CR) {A : Nat → Prop} {p : Program} {e : Env} {s : State} {m : MethodId} {args : Array Value} {below : List Frame} {meth : Method} {c : Code} (B : zAt p s m args meth c RX6 cX6_type 6 (some .int) (.code yX6_type cX6_type 6 (some .int) :: TBC)) (hK : va_K D vwCl (zTY cy) s) (hG : gEn V n0 A s c) (hR : (headSpec (.code yX6_type cX6_type 6 (some .int) :: TBC) (gRm 6 90 S0)).room.cells = (gK - gl S0) + 1 ∧ (headSpec (.code yX6_type cX6_type 6 (some .int) :: TBC) (gRm 6 90 S0)).room.slots = 2 * (gK - gl S0) + 6) :
    ∀ (n : Nat) (i : Int) (T : CSt) (x y : Nat) (H : Heap) (locs : List Loc) (ls : Array Slot), (cFx a b T) → (gl S0 ≤ gl T) → (0 ≤ i) → (i ≤ n9) → (0 ≤ T.1 1 1) → (T.1 1 1 + n9 ≤ 40) → (n9 - i = n) → cH D cy (cq q x y) A s.heap T H locs → lv_has ls 6 [(0, .ref (q 0)), (1, .long s9), (3, .int (zI n9)), (4, .int (zI i))] → (rc = K6_tyL1 s9 n9 n i T) → W p l e (headSpec (.code yX6_type cX6_type 6 (some .int) :: TBC) (gRm 6 90 S0)).room s m args below meth c H locs (gl T - gl S0) (2 * (gl T - gl S0)) (vx_MQ below (gQi D cy q A rc) (gX D cy q A "java/lang/IllegalArgumentException" rc) args s (gc S0 rc) (gs S0 rc) A) (F0 m 48 ls []) := by
  intro n
  induction n with
  | zero =>
    intro i T x y H locs ls hF hg hi0 hi1 hl0 hl1 hn hM hl hpost
    refine lv_iload B.1 B.2.1 dX6_type_48 (lv_at hl 3 rfl) ?_
    refine lv_iload_n B.1 B.2.1 dX6_type_50 rfl (lv_at hl 2 rfl) ?_
    refine z_icmp_ge (tgt := 92) B.1 B.2.1 (zr_of (by omega) (by omega)) (zr_of (by omega) (by omega)) dX6_type_51 (by decide) (fun c_1 => ?_) (fun c_1 => ?_)
    · --
      refine z_iconst B.1 B.2.1 dX6_type_92 ?_
      refine lv_istore (lv' := [(4, .int (zI 0)), (0, .ref (q 0)), (1, .long s9), (3, .int (zI n9))]) B.1 B.2.1 dX6_type_93 hl (by decide) rfl (fun ls hl => ?_)
      exact lp6_ty2 l hl0q D cy q V n0 a b s9 n9 hn0 hn1 S0 rc B hK hG hR n9.toNat 0 T x y H locs ls hF hg (by omega) (by omega) hl0 (by omega) (by omega) hM (lv_sub hl [1, 2, 3, 0] rfl) (hpost.trans (by rw [K6_tyL1]))
    · exact absurd c_1 (by omega)
  | succ n ih =>
    intro i T x y H locs ls hF hg hi0 hi1 hl0 hl1 hn hM hl hpost
    refine lv_iload B.1 B.2.1 dX6_type_48 (lv_at hl 3 rfl) ?_
    refine lv_iload_n B.1 B.2.1 dX6_type_50 rfl (lv_at hl 2 rfl) ?_
    refine z_icmp_ge (tgt := 92) B.1 B.2.1 (zr_of (by omega) (by omega)) (zr_of (by omega) (by omega)) dX6_type_51 (by decide) (fun c_1 => ?_) (fun c_1 => ?_)
    · --
      refine z_iconst B.1 B.2.1 dX6_type_92 ?_
      refine lv_istore (lv' := [(4, .int (zI 0)), (0, .ref (q 0)), (1, .long s9), (3, .int (zI n9))]) B.1 B.2.1 dX6_type_93 hl (by decide) rfl (fun ls hl => ?_)
      exact lp6_ty2 l hl0q D cy q V n0 a b s9 n9 hn0 hn1 S0 rc B hK hG hR n9.toNat 0 T x y H locs ls hF hg (by omega) (by omega) hl0 (by omega) (by omega) hM (lv_sub hl [1, 2, 3, 0] rfl) (hpost.trans (by rw [K6_tyL1]; exact (if_pos c_1)))
    · --
      refine lv_lload_n B.1 B.2.1 dX6_type_54 rfl (lv_at hl 1 rfl) ?_
      refine lv_iload B.1 B.2.1 dX6_type_55 (lv_at hl 3 rfl) ?_
      refine s_calli (As := [.long s9, .int (zI i)]) (rest := []) B (cX6_byteOf_ok l s9 i ) (csC 2 B wC_mRX6_86 wC_st_yX6_byteOf wC_in_RX6 wC_cd_yX6_byteOf rfl rfl (by decide +kernel) ⟨Nat.le_of_ble_eq_true rfl, Nat.le_of_ble_eq_true rfl⟩) rfl hl.1 rfl (Nat.le_of_ble_eq_true rfl) dX6_type_57 ⟨g_rc hR hg (cFx_gl (S := T) hF), g_rs hR hg (cFx_gl (S := T) hF)⟩ (fun z_3 hz_4 => ?_)
      have hz_4 := hz_4.symm
      subst hz_4
      have f_5 := K6_byteOf_bd s9 i
      refine lv_istore (lv' := [(5, .int (zI ((K6_byteOf s9 i)))), (0, .ref (q 0)), (1, .long s9), (3, .int (zI n9)), (4, .int (zI i))]) B.1 B.2.1 dX6_type_60 hl (by decide) rfl (fun ls hl => ?_)
      refine lv_iload B.1 B.2.1 dX6_type_62 (lv_at hl 0 rfl) ?_
      refine z_bipush B.1 B.2.1 (by decide) dX6_type_64 ?_
      refine z_icmp_lt (tgt := 76) B.1 B.2.1 (zr_of (by omega) (by omega)) (zr_of (by decide) (by decide)) dX6_type_66 (by decide) (fun c_6 => ?_) (fun c_6 => ?_)
      · --
        exact g_throw (S := T) (E := "java/lang/IllegalArgumentException") (ik := 73) (is := 90) (ic := 77) 6 (by decide) hl0q B hG hM rfl sX_java_lang_IllegalArgumentException (by decide +kernel) (List.mem_cons_of_mem _ wC_cRX6_73) (List.mem_cons_of_mem _ wC_in__java_lang_IllegalArgumentException_) (tC_RX6_77 _) tN_RX6_77 hl.1 (Nat.le_of_ble_eq_true rfl) hR (Nat.le_of_ble_eq_true rfl) (Nat.le_of_ble_eq_true rfl) hg (cFx_gl hF) (tO_RX6_77 _) dX6_type_76 dX6_type_79 dX6_type_80 dX6_type_82 dX6_type_85 (hpost.trans (by rw [K6_tyL1]; exact ((if_neg c_1).trans (if_pos c_6))))
      · --
        refine lv_iload B.1 B.2.1 dX6_type_69 (lv_at hl 0 rfl) ?_
        refine z_bipush B.1 B.2.1 (by decide) dX6_type_71 ?_
        refine z_icmp_le (tgt := 86) B.1 B.2.1 (zr_of (by omega) (by omega)) (zr_of (by decide) (by decide)) dX6_type_73 (by decide) (fun c_7 => ?_) (fun c_7 => ?_)
        · --
          refine z_iinc (v := i + 1) (lv' := [(4, .int (zI (i + 1))), (5, .int (zI ((K6_byteOf s9 i)))), (0, .ref (q 0)), (1, .long s9), (3, .int (zI n9))]) B.1 B.2.1 dX6_type_86 hl (k := 4) rfl rfl (by decide) rfl (fun ls hl => ?_)
          refine lv_goto (tgt := 48) B.1 B.2.1 dX6_type_89 (by decide) ?_
          have hq : K6_tyL1 s9 n9 (n + 1) i T = K6_tyL1 s9 n9 n (i + 1) T := by rw [K6_tyL1]; exact ((if_neg c_1).trans ((if_neg c_6).trans (if_pos c_7)))
          rw [hq] at hpost
          exact ih (i + 1) T x y H locs ls hF hg (by omega) (by omega) hl0 hl1 (by omega) hM (lv_sub hl [2, 3, 4, 0] rfl) hpost
        · --
          exact g_throw (S := T) (E := "java/lang/IllegalArgumentException") (ik := 73) (is := 90) (ic := 77) 6 (by decide) hl0q B hG hM rfl sX_java_lang_IllegalArgumentException (by decide +kernel) (List.mem_cons_of_mem _ wC_cRX6_73) (List.mem_cons_of_mem _ wC_in__java_lang_IllegalArgumentException_) (tC_RX6_77 _) tN_RX6_77 hl.1 (Nat.le_of_ble_eq_true rfl) hR (Nat.le_of_ble_eq_true rfl) (Nat.le_of_ble_eq_true rfl) hg (cFx_gl hF) (tO_RX6_77 _) dX6_type_76 dX6_type_79 dX6_type_80 dX6_type_82 dX6_type_85 (hpost.trans (by rw [K6_tyL1]; exact ((if_neg c_1).trans ((if_neg c_6).trans (if_neg c_7)))))
def K6_type (s9 : Int64) (n9 : Int) (S : CSt) : CR := (if n9 < 1 then (1, 0, S) else (if n9 ≤ 8 then (if ((S.1 1 1) + n9) ≤ 40 then (K6_tyL1 s9 n9 n9.toNat 0 S) else (1, 0, S)) else (1, 0, S)))
set_option maxHeartbeats 1000000 in
set_option maxRecDepth 100000 in
theorem cX6_type_ok (l : Launch) (hl0 : l.stackTraces = false) (D : va_G) (cy : Nat → ClassId) (q : Nat → Nat) (V : Nat × (Nat → Nat)) (n0 x y a b : Nat) (S : CSt) (hF : cFx a b S) (s9 : Int64) (n9 : Int) (hn9a : -2147483648 ≤ n9) (hn9b : n9 ≤ 2147483647) (hz0 : 0 ≤ S.1 1 1) (hz1 : S.1 1 1 ≤ 40) : gMi l D cy q V n0 x y "java/lang/IllegalArgumentException" yX6_type (.code yX6_type cX6_type 6 (some .int) :: TBC) 6 90 S [.ref (q 0), .long s9, .int (zI n9)] (K6_type s9 n9 S) := by
  refine g_of (cc := cX6_type) (maxL := 6) (ret := (some .int)) (by decide) rfl rfl (Nat.le_of_ble_eq_true rfl) ?_
  intro p e s m args below meth c ls B hK hG hM hl
  generalize gA (cq q x y) n0 = A at hG hM ⊢
  have hR : (headSpec (.code yX6_type cX6_type 6 (some .int) :: TBC) (gRm 6 90 S)).room.cells = (gK - gl S) + 1 ∧ (headSpec (.code yX6_type cX6_type 6 (some .int) :: TBC) (gRm 6 90 S)).room.slots = 2 * (gK - gl S) + 6 := ⟨rfl, rfl⟩
  have hl : lv_has ls 6 [(0, .ref (q 0)), (1, .long s9), (3, .int (zI n9))] := hl
  refine lv_iload_n B.1 B.2.1 dX6_type_0 rfl (lv_at hl 2 rfl) ?_
  refine z_iconst B.1 B.2.1 dX6_type_1 ?_
  refine z_icmp_lt (tgt := 11) B.1 B.2.1 (zr_of (by omega) (by omega)) (zr_of (by decide) (by decide)) dX6_type_2 (by decide) (fun c_1 => ?_) (fun c_1 => ?_)
  · --
    exact g_throw (S := S) (E := "java/lang/IllegalArgumentException") (ik := 73) (is := 75) (ic := 77) 4 (by decide) hl0 B hG hM rfl sX_java_lang_IllegalArgumentException (by decide +kernel) (List.mem_cons_of_mem _ wC_cRX6_73) (List.mem_cons_of_mem _ wC_in__java_lang_IllegalArgumentException_) (tC_RX6_77 _) tN_RX6_77 hl.1 (Nat.le_of_ble_eq_true rfl) hR (Nat.le_of_ble_eq_true rfl) (Nat.le_of_ble_eq_true rfl) (Nat.le_refl _) (cFx_gl hF) (tO_RX6_77 _) dX6_type_11 dX6_type_14 dX6_type_15 dX6_type_17 dX6_type_20 (by unfold K6_type; exact (if_pos c_1))
  · --
    refine lv_iload_n B.1 B.2.1 dX6_type_5 rfl (lv_at hl 2 rfl) ?_
    refine z_bipush B.1 B.2.1 (by decide) dX6_type_6 ?_
    refine z_icmp_le (tgt := 21) B.1 B.2.1 (zr_of (by omega) (by omega)) (zr_of (by decide) (by decide)) dX6_type_8 (by decide) (fun c_2 => ?_) (fun c_2 => ?_)
    · --
      refine lv_aload_n B.1 B.2.1 dX6_type_21 rfl (lv_at hl 0 rfl) ?_
      refine c_getr (q := (cq q x y)) (r := 1) B (iC6 _) hK hM 0 0 6 (by decide) rfl rfl (by decide) (by decide) rfl rfl rfl (cFx_r hF 0 0) (List.mem_cons_of_mem _ wC_fRX6_14) dX6_type_22 ?_
      refine c_calli (q := (cq q x y)) (As := []) (rest := []) B hK hM 1 (by decide) (by decide) rfl (cX4_length_ok l D cy (cq q x y) a b S hF 1 (by decide)  ) (cwC 0 B wC_mRX6_80 wC_im_yX4_length wC_sl_yX4_length wC_in_RX4 wC_cd_yX4_length rfl rfl (by decide +kernel) ⟨Nat.le_of_ble_eq_true rfl, Nat.le_of_ble_eq_true rfl⟩) rfl hl.1 rfl (Nat.le_of_ble_eq_true rfl) dX6_type_25 ⟨g_rc hR (Nat.le_refl _) (cFx_gl (S := S) hF), g_rs hR (Nat.le_refl _) (cFx_gl (S := S) hF)⟩ (fun z_6 S_5 H locs hp_4 hM => ?_)
      obtain ⟨hp_4, he_hp_4⟩ := hp_4
      have he_hp_4 := he_hp_4.symm
      subst he_hp_4
      have hp_4 : S.1 1 1 = z_6 := hp_4.symm
      subst hp_4
      refine lv_iload_n B.1 B.2.1 dX6_type_28 rfl (lv_at hl 2 rfl) ?_
      refine z_iadd (x := (S.1 1 1) + n9) B.1 B.2.1 rfl dX6_type_29 ?_
      refine z_bipush B.1 B.2.1 (by decide) dX6_type_30 ?_
      refine z_icmp_le (tgt := 45) B.1 B.2.1 (zr_of (by omega) (by omega)) (zr_of (by decide) (by decide)) dX6_type_32 (by decide) (fun c_7 => ?_) (fun c_7 => ?_)
      · --
        refine z_iconst B.1 B.2.1 dX6_type_45 ?_
        refine lv_istore (lv' := [(4, .int (zI 0)), (0, .ref (q 0)), (1, .long s9), (3, .int (zI n9))]) B.1 B.2.1 dX6_type_46 hl (by decide) rfl (fun ls hl => ?_)
        exact lp6_ty1 l hl0 D cy q V n0 a b s9 n9 (by omega) (by omega) S _ B hK hG hR n9.toNat 0 S x y _ _ ls hF (Nat.le_refl _) (by omega) (by omega) (by omega) (by omega) (by omega) hM (lv_sub hl [1, 2, 3, 0] rfl) (by unfold K6_type; exact ((if_neg c_1).trans ((if_pos c_2).trans (if_pos c_7))))
      · --
        exact g_throw (S := S) (E := "java/lang/IllegalArgumentException") (ik := 73) (is := 84) (ic := 77) 5 (by decide) hl0 B hG hM rfl sX_java_lang_IllegalArgumentException (by decide +kernel) (List.mem_cons_of_mem _ wC_cRX6_73) (List.mem_cons_of_mem _ wC_in__java_lang_IllegalArgumentException_) (tC_RX6_77 _) tN_RX6_77 hl.1 (Nat.le_of_ble_eq_true rfl) hR (Nat.le_of_ble_eq_true rfl) (Nat.le_of_ble_eq_true rfl) (Nat.le_refl _) (cFx_gl hF) (tO_RX6_77 _) dX6_type_35 dX6_type_38 dX6_type_39 dX6_type_41 dX6_type_44 (by unfold K6_type; exact ((if_neg c_1).trans ((if_pos c_2).trans (if_neg c_7))))
    · --
      exact g_throw (S := S) (E := "java/lang/IllegalArgumentException") (ik := 73) (is := 75) (ic := 77) 4 (by decide) hl0 B hG hM rfl sX_java_lang_IllegalArgumentException (by decide +kernel) (List.mem_cons_of_mem _ wC_cRX6_73) (List.mem_cons_of_mem _ wC_in__java_lang_IllegalArgumentException_) (tC_RX6_77 _) tN_RX6_77 hl.1 (Nat.le_of_ble_eq_true rfl) hR (Nat.le_of_ble_eq_true rfl) (Nat.le_of_ble_eq_true rfl) (Nat.le_refl _) (cFx_gl hF) (tO_RX6_77 _) dX6_type_11 dX6_type_14 dX6_type_15 dX6_type_17 dX6_type_20 (by unfold K6_type; exact ((if_neg c_1).trans (if_neg c_2)))
