theorem pB_mK {S S' : CSt} (h : mK S S') (hP : pB 6 S) : pB 6 S' := pB_of (h.1 6 (by decide) (by decide) (by decide) (by decide) (by decide)) (fun j hj => h.1 _ (by unfold pA; omega) (by unfold pA; omega) (by unfold pA; omega) (by unfold pA; omega) (by unfold pA; omega)) hP
theorem fV_mK {S S' : CSt} (h : mK S S') (hW : fV S) (hV : sV S') : fV S' := by
  obtain ⟨-, a2, a3, a4, a5, a6, a7, a8, a9, a10⟩ := hW
  have k : ∀ n, n < 10 ∨ (11 < n ∧ n < 35) → S'.1 n = S.1 n := fun n hn => h.1 n (by omega) (by omega) (by omega) (by omega) (by omega)
  refine ⟨hV, pB_mK h a2, ?_, ?_, ?_, ?_, ?_, ?_, ?_, ?_⟩
  · rw [k 1 (by decide)]; exact a3
  · rw [k 1 (by decide)]; exact a4
  · rw [k 12 (by decide)]; exact a5
  · rw [k 3 (by decide)]; exact a6
  · rw [k 3 (by decide)]; exact a7
  · rw [k 14 (by decide)]; exact a8
  · rw [k 5 (by decide)]; exact a9
  · rw [k 5 (by decide)]; exact a10
def K6_findL (wh : Int) : Nat → Int → CSt → CR
  | 0, k, T => (0, wh, T)
  | n + 1, k, T => (if 10 ≤ k then (0, wh, T) else (if 10 ≤ k then (0, wh, T) else K6_findL wh n (k + 1) ((ci (ci T 38 k.toNat ((K0_tookFrom k T))) 39 k.toNat ((K0_tookTo k (ci T 38 k.toNat ((K0_tookFrom k T)))))))))
set_option maxHeartbeats 1000000 in
set_option maxRecDepth 100000 in
theorem lp6_find (l : Launch) (hl0 : l.stackTraces = false) (D : va_G) (cy : Nat → ClassId) (q : Nat → Nat) (V : Nat × (Nat → Nat)) (n0 a : Nat)  (wh : Int) (ha36 : a < 36) (S0 : CSt) (rc : CR) {A : Nat → Prop} {p : Program} {e : Env} {s : State} {m : MethodId} {args : Array Value} {below : List Frame} {meth : Method} {c : Code} (B : zAt p s m args meth c RX6 cX6_find 3 (some .int) (.code yX6_find cX6_find 3 (some .int) :: TBC)) (hK : va_K D vwCl (zTY cy) s) (hG : gEn V n0 A s c) (hR : (headSpec (.code yX6_find cX6_find 3 (some .int) :: TBC) (gRm 11 221 S0)).room.cells = (gK - gl S0) + 1 ∧ (headSpec (.code yX6_find cX6_find 3 (some .int) :: TBC) (gRm 11 221 S0)).room.slots = 2 * (gK - gl S0) + 6) :
    ∀ (n : Nat) (k : Int) (T : CSt) (x y : Nat) (H : Heap) (locs : List Loc) (ls : Array Slot), (cFx a 6 T) → (gl S0 ≤ gl T) → (sV T) → (0 ≤ k) → (k ≤ 10) → (10 - k = n) → cH D cy (cq q x y) A s.heap T H locs → lv_has ls 3 [(0, .ref (q 0)), (1, .int (zI wh)), (2, .int (zI k))] → (rc = K6_findL wh n k T) → W p l e (headSpec (.code yX6_find cX6_find 3 (some .int) :: TBC) (gRm 11 221 S0)).room s m args below meth c H locs (gl T - gl S0) (2 * (gl T - gl S0)) (vx_MQ below (gQi D cy q A rc) (gX D cy q A "java/lang/UnsupportedOperationException" rc) args s (gc S0 rc) (gs S0 rc) A) (F0 m 57 ls []) := by
  intro n
  induction n with
  | zero =>
    intro k T x y H locs ls hF hg hV hk0 hk1 hn hM hl hpost
    refine lv_iload_n B.1 B.2.1 dX6_find_57 rfl (lv_at hl 2 rfl) ?_
    refine lv_aload_n B.1 B.2.1 dX6_find_58 rfl (lv_at hl 0 rfl) ?_
    refine c_getr (q := (cq q x y)) (r := 38) B (iC6 _) hK hM 0 9 6 (by decide) rfl rfl (by decide) (by decide) rfl rfl rfl (cFx_r hF 0 9) (List.mem_cons_of_mem _ wC_fRX6_56) dX6_find_59 ?_
    refine c_alen (q := (cq q x y)) B hK hM 38 (by decide) (by decide) dX6_find_62 ?_
    rw [show T.2.2.2 38 = 10 from hF.2.1 38 (by decide) (by decide)]
    refine z_icmp_ge (tgt := 109) B.1 B.2.1 (zr_of (by omega) (by omega)) (zr_of (by decide) (by decide)) dX6_find_63 (by decide) (fun c_2 => ?_) (fun c_2 => ?_)
    · --
      refine lv_iload_n B.1 B.2.1 dX6_find_109 rfl (lv_at hl 1 rfl) ?_
      exact g_reti (S := T) B hM (hpost.trans (by rw [K6_findL])) dX6_find_110
    · exact absurd c_2 (by omega)
  | succ n ih =>
    intro k T x y H locs ls hF hg hV hk0 hk1 hn hM hl hpost
    refine lv_iload_n B.1 B.2.1 dX6_find_57 rfl (lv_at hl 2 rfl) ?_
    refine lv_aload_n B.1 B.2.1 dX6_find_58 rfl (lv_at hl 0 rfl) ?_
    refine c_getr (q := (cq q x y)) (r := 38) B (iC6 _) hK hM 0 9 6 (by decide) rfl rfl (by decide) (by decide) rfl rfl rfl (cFx_r hF 0 9) (List.mem_cons_of_mem _ wC_fRX6_56) dX6_find_59 ?_
    refine c_alen (q := (cq q x y)) B hK hM 38 (by decide) (by decide) dX6_find_62 ?_
    rw [show T.2.2.2 38 = 10 from hF.2.1 38 (by decide) (by decide)]
    refine z_icmp_ge (tgt := 109) B.1 B.2.1 (zr_of (by omega) (by omega)) (zr_of (by decide) (by decide)) dX6_find_63 (by decide) (fun c_2 => ?_) (fun c_2 => ?_)
    · --
      refine lv_iload_n B.1 B.2.1 dX6_find_109 rfl (lv_at hl 1 rfl) ?_
      exact g_reti (S := T) B hM (hpost.trans (by rw [K6_findL]; exact (if_pos c_2))) dX6_find_110
    · --
      refine lv_iload_n B.1 B.2.1 dX6_find_66 rfl (lv_at hl 2 rfl) ?_
      refine lv_aload_n B.1 B.2.1 dX6_find_67 rfl (lv_at hl 0 rfl) ?_
      refine c_getr (q := (cq q x y)) (r := 39) B (iC6 _) hK hM 0 10 6 (by decide) rfl rfl (by decide) (by decide) rfl rfl rfl (cFx_r hF 0 10) (List.mem_cons_of_mem _ wC_fRX6_60) dX6_find_68 ?_
      refine c_alen (q := (cq q x y)) B hK hM 39 (by decide) (by decide) dX6_find_71 ?_
      rw [show T.2.2.2 39 = 10 from hF.2.1 39 (by decide) (by decide)]
      refine z_icmp_ge (tgt := 109) B.1 B.2.1 (zr_of (by omega) (by omega)) (zr_of (by decide) (by decide)) dX6_find_72 (by decide) (fun c_4 => ?_) (fun c_4 => ?_)
      · --
        refine lv_iload_n B.1 B.2.1 dX6_find_109 rfl (lv_at hl 1 rfl) ?_
        exact g_reti (S := T) B hM (hpost.trans (by rw [K6_findL]; exact ((if_neg c_2).trans (if_pos c_4)))) dX6_find_110
      · --
        refine lv_aload_n B.1 B.2.1 dX6_find_75 rfl (lv_at hl 0 rfl) ?_
        refine c_getr (q := (cq q x y)) (r := 38) B (iC6 _) hK hM 0 9 6 (by decide) rfl rfl (by decide) (by decide) rfl rfl rfl (cFx_r hF 0 9) (List.mem_cons_of_mem _ wC_fRX6_56) dX6_find_76 ?_
        refine lv_iload_n B.1 B.2.1 dX6_find_79 rfl (lv_at hl 2 rfl) ?_
        refine lv_aload_n B.1 B.2.1 dX6_find_80 rfl (lv_at hl 0 rfl) ?_
        refine c_getr (q := (cq q x y)) (r := 10) B (iC6 _) hK hM 0 8 6 (by decide) rfl rfl (by decide) (by decide) rfl rfl rfl (cFx_r hF 0 8) (List.mem_cons_of_mem _ wC_fRX6_52) dX6_find_81 ?_
        refine lv_iload_n B.1 B.2.1 dX6_find_84 rfl (lv_at hl 2 rfl) ?_
        refine c_calli (q := (cq q x y)) (As := [.int (zI k)]) (rest := [.int (zI k), .ref (q 38)]) B hK hM 10 (by decide) (by decide) rfl (cX0_tookFrom_ok l D cy (cq q x y) a T hF  k hV (by show -1 ≤ k; omega) (by show k ≤ 1000000; omega)) (cwC 1 B wC_mRX6_129 wC_im_yX0_tookFrom wC_sl_yX0_tookFrom wC_in_RX0 wC_cd_yX0_tookFrom rfl rfl (by decide +kernel) ⟨Nat.le_of_ble_eq_true rfl, Nat.le_of_ble_eq_true rfl⟩) rfl hl.1 rfl (Nat.le_of_ble_eq_true rfl) dX6_find_85 ⟨g_rc hR hg (cFx_gl (S := T) hF), g_rs hR hg (cFx_gl (S := T) hF)⟩ (fun z_8 S_7 H locs hp_6 hM => ?_)
        obtain ⟨hp_6, he_hp_6⟩ := hp_6
        have he_hp_6 := he_hp_6.symm
        subst he_hp_6
        have hp_6 : (K0_tookFrom k T) = z_8 := hp_6.symm
        subst hp_6
        have f_9 : -1 ≤ (K0_tookFrom k T) ∧ (K0_tookFrom k T) ≤ 100000 := K1_mark_bd (S := T) (10 + k) hV
        refine c_iast (q := (cq q x y)) B hK hM 38 (by decide) rfl (zr_of (by omega) (by omega)) (by omega) (by rw [show T.2.2.2 38 = 10 from hF.2.1 38 (by decide) (by decide)]; omega) dX6_find_88 (fun H locs hM => ?_)
        refine lv_aload_n B.1 B.2.1 dX6_find_89 rfl (lv_at hl 0 rfl) ?_
        refine c_getr (q := (cq q x y)) (r := 39) B (iC6 _) hK hM 0 10 6 (by decide) rfl rfl (by decide) (by decide) rfl rfl rfl (cFx_r hF 0 10) (List.mem_cons_of_mem _ wC_fRX6_60) dX6_find_90 ?_
        refine lv_iload_n B.1 B.2.1 dX6_find_93 rfl (lv_at hl 2 rfl) ?_
        refine lv_aload_n B.1 B.2.1 dX6_find_94 rfl (lv_at hl 0 rfl) ?_
        refine c_getr (q := (cq q x y)) (r := 10) B (iC6 _) hK hM 0 8 6 (by decide) rfl rfl (by decide) (by decide) rfl rfl rfl (cFx_r hF 0 8) (List.mem_cons_of_mem _ wC_fRX6_52) dX6_find_95 ?_
        refine lv_iload_n B.1 B.2.1 dX6_find_98 rfl (lv_at hl 2 rfl) ?_
        refine c_calli (q := (cq q x y)) (As := [.int (zI k)]) (rest := [.int (zI k), .ref (q 39)]) B hK hM 10 (by decide) (by decide) rfl (cX0_tookTo_ok l D cy (cq q x y) a (ci T 38 k.toNat ((K0_tookFrom k T))) hF  k hV (by show -1 ≤ k; omega) (by show k ≤ 1000000; omega)) (cwC 1 B wC_mRX6_125 wC_im_yX0_tookTo wC_sl_yX0_tookTo wC_in_RX0 wC_cd_yX0_tookTo rfl rfl (by decide +kernel) ⟨Nat.le_of_ble_eq_true rfl, Nat.le_of_ble_eq_true rfl⟩) rfl hl.1 rfl (Nat.le_of_ble_eq_true rfl) dX6_find_99 ⟨g_rc hR hg (cFx_gl (S := (ci T 38 k.toNat ((K0_tookFrom k T)))) hF), g_rs hR hg (cFx_gl (S := (ci T 38 k.toNat ((K0_tookFrom k T)))) hF)⟩ (fun z_13 S_12 H locs hp_11 hM => ?_)
        obtain ⟨hp_11, he_hp_11⟩ := hp_11
        have he_hp_11 := he_hp_11.symm
        subst he_hp_11
        have hp_11 : (K0_tookTo k (ci T 38 k.toNat ((K0_tookFrom k T)))) = z_13 := hp_11.symm
        subst hp_11
        have f_14 : -1 ≤ (K0_tookTo k (ci T 38 k.toNat ((K0_tookFrom k T)))) ∧ (K0_tookTo k (ci T 38 k.toNat ((K0_tookFrom k T)))) ≤ 100000 := K1_mark_bd (S := (ci T 38 k.toNat ((K0_tookFrom k T)))) (20 + k) hV
        refine c_iast (q := (cq q x y)) B hK hM 39 (by decide) rfl (zr_of (by omega) (by omega)) (by omega) (by rw [show (ci T 38 k.toNat ((K0_tookFrom k T))).2.2.2 39 = 10 from hF.2.1 39 (by decide) (by decide)]; omega) dX6_find_102 (fun H locs hM => ?_)
        refine z_iinc (v := k + 1) (lv' := [(2, .int (zI (k + 1))), (0, .ref (q 0)), (1, .int (zI wh))]) B.1 B.2.1 dX6_find_103 hl (k := 2) rfl rfl (by decide) rfl (fun ls hl => ?_)
        refine lv_goto (tgt := 57) B.1 B.2.1 dX6_find_106 (by decide) ?_
        have hq : K6_findL wh (n + 1) k T = K6_findL wh n (k + 1) ((ci (ci T 38 k.toNat ((K0_tookFrom k T))) 39 k.toNat ((K0_tookTo k (ci T 38 k.toNat ((K0_tookFrom k T))))))) := by rw [K6_findL]; exact ((if_neg c_2).trans (if_neg c_4))
        rw [hq] at hpost
        exact ih (k + 1) ((ci (ci T 38 k.toNat ((K0_tookFrom k T))) 39 k.toNat ((K0_tookTo k (ci T 38 k.toNat ((K0_tookFrom k T))))))) x y H locs ls hF hg (sV_ci (sV_ci hV (by decide)) (by decide)) (by omega) (by omega) (by omega) hM (lv_sub hl [1, 2, 0] rfl) hpost
noncomputable def K6_find (S : CSt) : CR := (gBd (K0_search (S.1 0 11) S) (fun v_3 S_4 => (if v_3 = (-1) then (0, (-1), (K6_forgetFound (ci (ci S_4 0 12 (S_4.1 10 4)) 0 11 0))) else (K6_findL v_3 10 0 (ci (ci S_4 0 12 (S_4.1 10 4)) 0 11 ((K0_tookTo 0 (ci S_4 0 12 (S_4.1 10 4)))))))))
set_option maxHeartbeats 1000000 in
set_option maxRecDepth 100000 in
theorem cX6_find_ok (l : Launch) (hl0 : l.stackTraces = false) (D : va_G) (cy : Nat → ClassId) (q : Nat → Nat) (V : Nat × (Nat → Nat)) (n0 x y a b : Nat) (S : CSt) (hF : cFx a b S) (ha36 : a < 36) (hV : sV S) (hP : pB 6 S) (ht0 : 0 ≤ S.1 3 1) (ht1 : S.1 3 1 ≤ 24) (hb0 : 0 ≤ S.1 0 11) (hb1 : S.1 0 11 ≤ 1000) (hOK : K0_searchOK (K0_last (S.1 0 11) S) (S.1 0 11) (ci (cr S 10 2 6) 10 4 0)) : gMi l D cy q V n0 x y "java/lang/UnsupportedOperationException" yX6_find (.code yX6_find cX6_find 3 (some .int) :: TBC) 11 221 S [.ref (q 0)] (K6_find S) := by
  refine g_of (cc := cX6_find) (maxL := 3) (ret := (some .int)) (by decide) rfl rfl (Nat.le_of_ble_eq_true rfl) ?_
  intro p e s m args below meth c ls B hK hG hM hl
  generalize gA (cq q x y) n0 = A at hG hM ⊢
  have hR : (headSpec (.code yX6_find cX6_find 3 (some .int) :: TBC) (gRm 11 221 S)).room.cells = (gK - gl S) + 1 ∧ (headSpec (.code yX6_find cX6_find 3 (some .int) :: TBC) (gRm 11 221 S)).room.slots = 2 * (gK - gl S) + 6 := ⟨rfl, rfl⟩
  have hl : lv_has ls 3 [(0, .ref (q 0))] := hl
  refine lv_aload_n B.1 B.2.1 dX6_find_0 rfl (lv_at hl 0 rfl) ?_
  refine c_getr (q := (cq q x y)) (r := 10) B (iC6 _) hK hM 0 8 6 (by decide) rfl rfl (by decide) (by decide) rfl rfl rfl (cFx_r hF 0 8) (List.mem_cons_of_mem _ wC_fRX6_52) dX6_find_1 ?_
  refine lv_aload_n B.1 B.2.1 dX6_find_4 rfl (lv_at hl 0 rfl) ?_
  refine c_getr (q := (cq q x y)) (r := 6) B (iC6 _) hK hM 0 5 6 (by decide) rfl rfl (by decide) (by decide) rfl rfl rfl (cFx_r hF 0 5) (List.mem_cons_of_mem _ wC_fRX6_33) dX6_find_5 ?_
  refine lv_aload_n B.1 B.2.1 dX6_find_8 rfl (lv_at hl 0 rfl) ?_
  refine c_geti (q := (cq q x y)) (x := S.1 0 11) B (iC6 _) hK hM 0 11 6 (by decide) rfl rfl (by decide) (by decide) rfl rfl (by decide) rfl (List.mem_cons_of_mem _ wC_fRX6_63) dX6_find_9 ?_
  refine g_calli (E := "java/lang/UnsupportedOperationException") (As := [.ref (q 6), .int (zI (S.1 0 11))]) (rest := []) B hK hG hM 10 (by decide) (by decide) rfl (cX0_search_ok l hl0 D cy q V n0 x y a b S hF  (S.1 0 11) ha36 hV hP (by show 0 ≤ (S.1 3 1); omega) (by show (S.1 3 1) ≤ 24; omega) (by show 0 ≤ (S.1 0 11); omega) (by show (S.1 0 11) ≤ 1000; omega) hOK) (cwC 2 B wC_mRX6_119 wC_im_yX0_search wC_sl_yX0_search wC_in_RX0 wC_cd_yX0_search rfl rfl (by decide +kernel) ⟨Nat.le_of_ble_eq_true rfl, Nat.le_of_ble_eq_true rfl⟩) rfl hl.1 rfl (Nat.le_of_ble_eq_true rfl) dX6_find_12 hR (Nat.le_refl _) (cFx_gl hF) (K0_search_F (a := a) (b := b) (bg := S.1 0 11) (S := S) hOK hF hV (by omega) (by omega) (by omega)).2.2.1 (fun c_2 => (by unfold K6_find; exact (if_neg c_2))) (fun x y H locs c_2 hM => ?_)
  have hg : gl S ≤ gl (K0_search (S.1 0 11) S).2.2 := Nat.le_trans (Nat.le_refl _) (K0_search_F (a := a) (b := b) (bg := S.1 0 11) (S := S) hOK hF hV (by omega) (by omega) (by omega)).2.2.1
  have k_1 := mK.search (bg := S.1 0 11) (S := S)
  obtain ⟨hF, hV, k_1g, k_1a, k_1b⟩ := K0_search_F (a := a) (b := b) (bg := S.1 0 11) (S := S) hOK hF hV (by omega) (by omega) (by omega)
  have hP := pB_mK k_1 hP
  generalize hS_4 : (K0_search (S.1 0 11) S).2.2 = S_4 at *
  generalize hv_3 : (K0_search (S.1 0 11) S).2.1 = v_3 at *
  refine lv_istore_n (lv' := [(1, .int (zI v_3)), (0, .ref (q 0))]) B.1 B.2.1 dX6_find_15 rfl hl (by decide) rfl (fun ls hl => ?_)
  refine lv_aload_n B.1 B.2.1 dX6_find_16 rfl (lv_at hl 1 rfl) ?_
  refine lv_aload_n B.1 B.2.1 dX6_find_17 rfl (lv_at hl 1 rfl) ?_
  refine c_getr (q := (cq q x y)) (r := 10) B (iC6 _) hK hM 0 8 6 (by decide) rfl rfl (by decide) (by decide) rfl rfl rfl (cFx_r hF 0 8) (List.mem_cons_of_mem _ wC_fRX6_52) dX6_find_18 ?_
  refine c_calli (q := (cq q x y)) (As := []) (rest := [.ref (q 0)]) B hK hM 10 (by decide) (by decide) rfl (cX0_stepsMade_ok l D cy (cq q x y) a S_4 hF   ) (cwC 0 B wC_mRX6_123 wC_im_yX0_stepsMade wC_sl_yX0_stepsMade wC_in_RX0 wC_cd_yX0_stepsMade rfl rfl (by decide +kernel) ⟨Nat.le_of_ble_eq_true rfl, Nat.le_of_ble_eq_true rfl⟩) rfl hl.1 rfl (Nat.le_of_ble_eq_true rfl) dX6_find_21 ⟨g_rc hR hg (cFx_gl (S := S_4) hF), g_rs hR hg (cFx_gl (S := S_4) hF)⟩ (fun z_8 S_7 H locs hp_6 hM => ?_)
  obtain ⟨hp_6, he_hp_6⟩ := hp_6
  have he_hp_6 := he_hp_6.symm
  subst he_hp_6
  have hp_6 : S_4.1 10 4 = z_8 := hp_6.symm
  subst hp_6
  refine c_puti (q := (cq q x y)) B (iC6 _) tyX6 tyX6_ok nmX6 hK hM 0 12 6 (by decide) rfl rfl (by decide) (by decide) rfl rfl rfl (by decide +kernel) (by decide) (List.mem_cons_of_mem _ wC_fRX6_67) dX6_find_24 (fun H locs hM => ?_)
  refine lv_iload_n B.1 B.2.1 dX6_find_27 rfl (lv_at hl 0 rfl) ?_
  refine z_iconst B.1 B.2.1 dX6_find_28 ?_
  refine z_icmp_ne (tgt := 43) B.1 B.2.1 (zr_of (by omega) (by omega)) (zr_of (by decide) (by decide)) dX6_find_29 (by decide) (fun c_9 => ?_) (fun c_9 => ?_)
  · --
    refine lv_aload_n B.1 B.2.1 dX6_find_43 rfl (lv_at hl 1 rfl) ?_
    refine lv_aload_n B.1 B.2.1 dX6_find_44 rfl (lv_at hl 1 rfl) ?_
    refine c_getr (q := (cq q x y)) (r := 10) B (iC6 _) hK hM 0 8 6 (by decide) rfl rfl (by decide) (by decide) rfl rfl rfl (cFx_r hF 0 8) (List.mem_cons_of_mem _ wC_fRX6_52) dX6_find_45 ?_
    refine z_iconst B.1 B.2.1 dX6_find_48 ?_
    refine c_calli (q := (cq q x y)) (As := [.int (zI 0)]) (rest := [.ref (q 0)]) B hK hM 10 (by decide) (by decide) rfl (cX0_tookTo_ok l D cy (cq q x y) a (ci S_4 0 12 (S_4.1 10 4)) hF  0 hV (by show -1 ≤ 0; omega) (by show 0 ≤ 1000000; omega)) (cwC 1 B wC_mRX6_125 wC_im_yX0_tookTo wC_sl_yX0_tookTo wC_in_RX0 wC_cd_yX0_tookTo rfl rfl (by decide +kernel) ⟨Nat.le_of_ble_eq_true rfl, Nat.le_of_ble_eq_true rfl⟩) rfl hl.1 rfl (Nat.le_of_ble_eq_true rfl) dX6_find_49 ⟨g_rc hR hg (cFx_gl (S := (ci S_4 0 12 (S_4.1 10 4))) hF), g_rs hR hg (cFx_gl (S := (ci S_4 0 12 (S_4.1 10 4))) hF)⟩ (fun z_13 S_12 H locs hp_11 hM => ?_)
    obtain ⟨hp_11, he_hp_11⟩ := hp_11
    have he_hp_11 := he_hp_11.symm
    subst he_hp_11
    have hp_11 : (K0_tookTo 0 (ci S_4 0 12 (S_4.1 10 4))) = z_13 := hp_11.symm
    subst hp_11
    have f_14 : -1 ≤ (K0_tookTo 0 (ci S_4 0 12 (S_4.1 10 4))) ∧ (K0_tookTo 0 (ci S_4 0 12 (S_4.1 10 4))) ≤ 100000 := K1_mark_bd (S := (ci S_4 0 12 (S_4.1 10 4))) (20 + 0) hV
    refine c_puti (q := (cq q x y)) B (iC6 _) tyX6 tyX6_ok nmX6 hK hM 0 11 6 (by decide) rfl rfl (by decide) (by decide) rfl rfl rfl (by decide +kernel) (by decide) (List.mem_cons_of_mem _ wC_fRX6_63) dX6_find_52 (fun H locs hM => ?_)
    refine z_iconst B.1 B.2.1 dX6_find_55 ?_
    refine lv_istore_n (lv' := [(2, .int (zI 0)), (1, .int (zI v_3)), (0, .ref (q 0))]) B.1 B.2.1 dX6_find_56 rfl hl (by decide) rfl (fun ls hl => ?_)
    exact lp6_find l hl0 D cy q V n0 a v_3 ha36 S _ B hK hG hR 10 0 (ci (ci S_4 0 12 (S_4.1 10 4)) 0 11 ((K0_tookTo 0 (ci S_4 0 12 (S_4.1 10 4))))) x y H locs ls hF hg (sV_ci (sV_ci hV (by decide)) (by decide)) (by omega) (by omega) (by omega) hM (lv_sub hl [2, 1, 0] rfl) (by subst hS_4; subst hv_3; unfold K6_find; exact ((if_pos c_2).trans (if_neg c_9)))
  · --
    refine lv_aload_n B.1 B.2.1 dX6_find_32 rfl (lv_at hl 1 rfl) ?_
    refine z_iconst B.1 B.2.1 dX6_find_33 ?_
    refine c_puti (q := (cq q x y)) B (iC6 _) tyX6 tyX6_ok nmX6 hK hM 0 11 6 (by decide) rfl rfl (by decide) (by decide) rfl rfl rfl (by decide +kernel) (by decide) (List.mem_cons_of_mem _ wC_fRX6_63) dX6_find_34 (fun H locs hM => ?_)
    refine lv_aload_n B.1 B.2.1 dX6_find_37 rfl (lv_at hl 1 rfl) ?_
    refine c_callv (q := (cq q x y)) (As := []) (rest := []) B hK hM 0 (by decide) (by decide) rfl (cX6_forgetFound_ok l D cy (cq q x y) a 6 (ci (ci S_4 0 12 (S_4.1 10 4)) 0 11 0) hF   ) (cwC 0 B wC_mRX6_70 wC_im_yX6_forgetFound wC_sl_yX6_forgetFound wC_in_RX6 wC_cd_yX6_forgetFound rfl rfl (by decide +kernel) ⟨Nat.le_of_ble_eq_true rfl, Nat.le_of_ble_eq_true rfl⟩) rfl hl.1 rfl (Nat.le_of_ble_eq_true rfl) dX6_find_38 ⟨g_rc hR hg (cFx_gl (S := (ci (ci S_4 0 12 (S_4.1 10 4)) 0 11 0)) hF), g_rs hR hg (cFx_gl (S := (ci (ci S_4 0 12 (S_4.1 10 4)) 0 11 0)) hF)⟩ (fun S_17 H locs hp_16 hM => ?_)
    have hp_16 := hp_16.symm
    subst hp_16
    have hg : gl S ≤ gl (K6_forgetFound (ci (ci S_4 0 12 (S_4.1 10 4)) 0 11 0)) := Nat.le_trans hg (gl_of (S := (ci (ci S_4 0 12 (S_4.1 10 4)) 0 11 0)) (S' := (K6_forgetFound (ci (ci S_4 0 12 (S_4.1 10 4)) 0 11 0))) (congrArg Prod.snd K6_forgetFound_2))
    refine W.widen (k := gl (K6_forgetFound (ci (ci S_4 0 12 (S_4.1 10 4)) 0 11 0)) - gl S) (n := 2 * (gl (K6_forgetFound (ci (ci S_4 0 12 (S_4.1 10 4)) 0 11 0)) - gl S)) (Nat.sub_le_sub_right (gl_of (S := (ci (ci S_4 0 12 (S_4.1 10 4)) 0 11 0)) (S' := (K6_forgetFound (ci (ci S_4 0 12 (S_4.1 10 4)) 0 11 0))) (congrArg Prod.snd K6_forgetFound_2)) _) (Nat.mul_le_mul_left 2 (Nat.sub_le_sub_right (gl_of (S := (ci (ci S_4 0 12 (S_4.1 10 4)) 0 11 0)) (S' := (K6_forgetFound (ci (ci S_4 0 12 (S_4.1 10 4)) 0 11 0))) (congrArg Prod.snd K6_forgetFound_2)) _)) ?_
    have hF : cFx a 6 (K6_forgetFound (ci (ci S_4 0 12 (S_4.1 10 4)) 0 11 0)) := cFx_of (congrArg Prod.snd K6_forgetFound_2) hF
    refine z_iconst B.1 B.2.1 dX6_find_41 ?_
    exact g_reti (S := (K6_forgetFound (ci (ci S_4 0 12 (S_4.1 10 4)) 0 11 0))) B hM (by subst hS_4; subst hv_3; unfold K6_find; exact ((if_pos c_2).trans (if_pos c_9))) dX6_find_42
