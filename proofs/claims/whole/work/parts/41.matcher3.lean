theorem K1_set_gl {i v : Int} {S : CSt} : gl S ≤ gl (K1_set i v S).2.2 := by
  unfold K1_set
  (repeat' split)
  all_goals first
    | exact Nat.le_refl _
    | (show gl S ≤ gl (cG 37 S)
       have := cG_gl (n := 37) (S := S) (by decide)
       omega)
theorem K1_choose_gl {ow pl : Int} {S : CSt} : gl S ≤ gl (K1_choose ow pl S).2.2 := by
  unfold K1_choose
  (repeat' split)
  all_goals first
    | exact Nat.le_refl _
    | (show gl S ≤ gl (cG 36 S)
       have := cG_gl (n := 36) (S := S) (by decide)
       omega)
/-- Past in order, at most N changes' cells and M choices' cells used -/
def oK (a : Nat) (N M : Int) (S : CSt) : Prop := cFx a 6 S ∧ sV S ∧ pB 6 S ∧ S.1 11 4 ≤ N ∧ S.1 11 3 ≤ M
theorem oK_mono {a : Nat} {N M N' M' : Int} {S : CSt} (h : oK a N M S) (h1 : N ≤ N') (h2 : M ≤ M') : oK a N' M' S := ⟨h.1, h.2.1, h.2.2.1, by have := h.2.2.2.1; omega, by have := h.2.2.2.2; omega⟩
theorem oK_set {a : Nat} {N M i v : Int} {S : CSt} (h : oK a N M S) (hN : N ≤ 12000) (h0 : -1 ≤ v) (h1 : v ≤ 100000) : oK a (N + 2) M (K1_set i v S).2.2 := by
  obtain ⟨hF, hV, hP, h4, h3⟩ := h
  have hu := K1_set_u (i := i) (v := v) hF hV.2.2.2.1 hV.2.2.2.2.1
  have hu2 := K1_set_3 (i := i) (v := v) (S := S)
  exact ⟨(K1_set_F hF hV.2.2.2.1 (by omega)).1, sV_set hF hV h0 h1, pB_set hP, by omega, by omega⟩
theorem oK_choose {a : Nat} {N M ow pl : Int} {S : CSt} (h : oK a N M S) (hM : M ≤ 9000) (hN : N ≤ 12000) (h0 : -1 ≤ ow) (h1 : ow ≤ 100000) (h2 : -1 ≤ pl) (h3 : pl ≤ 100000) : oK a N (M + 3) (K1_choose ow pl S).2.2 := by
  obtain ⟨hF, hV, hP, h4, h5⟩ := h
  have hu := K1_choose_u (ow := ow) (pl := pl) hF hV.2.1 hV.2.2.1
  have hu2 := K1_choose_4 (ow := ow) (pl := pl) (S := S)
  exact ⟨(K1_choose_F hF hV.2.1 (by omega)).1, sV_choose hF hV h0 h1 h2 h3 (by omega), pB_choose hP, by omega, by omega⟩
theorem oK_10 {a k : Nat} {N M v : Int} {S : CSt} (h : oK a N M S) : oK a N M (ci S 10 k v) := ⟨h.1, sV_ci h.2.1 (by decide), pB_ci (by decide) (by decide) h.2.2.1, h.2.2.2.1, h.2.2.2.2⟩
theorem oK_cut {a : Nat} {N M x : Int} {S : CSt} (h : oK a N M S) : oK a N M (K1_cut x S) := by
  obtain ⟨hF, hV, hP, h4, h3⟩ := h
  obtain ⟨e1, e2, -⟩ := K1_cut_v (h := x) (S := S)
  refine ⟨cFx_of (congrArg Prod.snd K1_cut_2) hF, sV_cut hV, pB_of (K1_cut_1 (by decide)) (fun j hj => K1_cut_1 (by unfold pA; omega)) hP, by rw [e2]; exact h4, ?_⟩
  rw [e1]
  split <;> omega
theorem K0_beginGroup_eq {i : Int} {S : CSt} : K0_beginGroup i S = (0, i + 1, (K1_set (0 + K2_number 6 i S) (S.1 10 3) S).2.2) := by
  unfold K0_beginGroup
  rw [if_pos K1_set_0]
theorem K0_endGroup_eq {i : Int} {S : CSt} : K0_endGroup i S = (0, i + 1, (K1_set (20 + K2_number 6 i S) (S.1 10 3) (K1_set (10 + K2_number 6 i S) (K1_mark (0 + K2_number 6 i S) S) S).2.2).2.2) := by
  unfold K0_endGroup
  rw [if_pos K1_set_0, if_pos K1_set_0]
theorem K0_choosePass_eq {i : Int} {S : CSt} : K0_choosePass i S = (if K1_mark (30 + K2_number 6 i S) S < K2_least 6 (K2_number 6 i S) S then (0, i + 1, S) else if K2_most 6 (K2_number 6 i S) S ≤ K1_mark (30 + K2_number 6 i S) S then (0, i + 2, S) else if K2_kind 6 i S = 10 then (0, i + 1, (K1_choose (i + 2) (S.1 10 3) S).2.2) else (0, i + 2, (K1_choose (i + 1) (S.1 10 3) S).2.2)) := by
  unfold K0_choosePass
  by_cases c1 : K1_mark (30 + K2_number 6 i S) S < K2_least 6 (K2_number 6 i S) S
  · rw [if_pos c1, if_neg (by omega)]
  · by_cases c2 : K2_most 6 (K2_number 6 i S) S ≤ K1_mark (30 + K2_number 6 i S) S
    · rw [if_neg c1, if_pos c2, if_pos (by omega), if_neg (by omega)]
    · by_cases c3 : K2_kind 6 i S = 10
      · simp only [if_neg c1, if_neg c2, if_pos c3, if_pos (show K2_least 6 (K2_number 6 i S) S ≤ K1_mark (30 + K2_number 6 i S) S by omega), if_pos (show K1_mark (30 + K2_number 6 i S) S < K2_most 6 (K2_number 6 i S) S by omega), if_neg z1n0, if_pos K1_choose_0]
      · simp only [if_neg c1, if_neg c2, if_neg c3, if_pos (show K2_least 6 (K2_number 6 i S) S ≤ K1_mark (30 + K2_number 6 i S) S by omega), if_pos (show K1_mark (30 + K2_number 6 i S) S < K2_most 6 (K2_number 6 i S) S by omega), if_true, if_pos K1_choose_0]
theorem K0_enterLoop_eq {i : Int} {S : CSt} : K0_enterLoop i S = (if K2_aim 6 i S = -1 then (0, i + 1, S) else K0_choosePass (K2_aim 6 i S) (K1_set (30 + K2_number 6 (K2_aim 6 i S) S) 0 S).2.2) := by
  unfold K0_enterLoop
  by_cases c1 : K2_aim 6 i S = -1
  · rw [if_pos c1, if_pos c1]
  · rw [if_neg c1, if_neg c1, if_pos K1_set_0, if_pos K0_choosePass_0]
    have := K0_choosePass_0 (i := K2_aim 6 i S) (S := (K1_set (30 + K2_number 6 (K2_aim 6 i S) S) 0 S).2.2)
    generalize K0_choosePass (K2_aim 6 i S) (K1_set (30 + K2_number 6 (K2_aim 6 i S) S) 0 S).2.2 = r at this ⊢
    obtain ⟨r1, r2, r3⟩ := r
    rw [show r1 = 0 from this]
theorem K0_endPass_eq {i : Int} {S : CSt} : K0_endPass i S = (if K2_least 6 (K2_number 6 i S) S < K1_mark (30 + K2_number 6 i S) S + 1 ∧ K1_mark (50 + K2_number 6 i S) S = S.1 10 3 then (0, -1, S) else K0_choosePass i (K1_set (30 + K2_number 6 i S) (K1_mark (30 + K2_number 6 i S) S + 1) S).2.2) := by
  unfold K0_endPass
  have key : ∀ (T : CSt), (if (K0_choosePass i T).1 = 0 then ((0, (K0_choosePass i T).2.1, (K0_choosePass i T).2.2) : CR) else (1, 0, (K0_choosePass i T).2.2)) = K0_choosePass i T := by
    intro T
    have := K0_choosePass_0 (i := i) (S := T)
    rw [if_pos this]
    generalize K0_choosePass i T = r at this ⊢
    obtain ⟨r1, r2, r3⟩ := r
    rw [show r1 = 0 from this]
  simp only [if_pos K1_set_0, key]
  by_cases c1 : K1_mark (30 + K2_number 6 i S) S + 1 ≤ K2_least 6 (K2_number 6 i S) S
  · rw [if_pos c1, if_neg (by omega)]
  · by_cases c2 : K1_mark (50 + K2_number 6 i S) S = S.1 10 3
    · rw [if_neg c1, if_pos c2, if_pos ⟨by omega, c2⟩]
    · rw [if_neg c1, if_neg c2, if_neg (fun h => c2 h.2)]
def K0_bpL (i : Int) (l9 : Int) : Nat → Int → CSt → CR
  | 0, g, T => (0, (K2_aim 6 i T), T)
  | n + 1, g, T => (if ((K2_lastGroup 6 l9 T)) < g then (0, (K2_aim 6 i T), T) else (if (K1_set (10 + g) (-1) T).1 = 0 then (if (K1_set (20 + g) (-1) (K1_set (10 + g) (-1) T).2.2).1 = 0 then K0_bpL i l9 n (g + 1) ((K1_set (20 + g) (-1) (K1_set (10 + g) (-1) T).2.2).2.2) else (1, 0, (K1_set (20 + g) (-1) (K1_set (10 + g) (-1) T).2.2).2.2)) else (1, 0, (K1_set (10 + g) (-1) T).2.2)))
set_option maxHeartbeats 1000000 in
set_option maxRecDepth 100000 in
theorem lp0_bp (l : Launch) (hl0 : l.stackTraces = false) (D : va_G) (cy : Nat → ClassId) (q : Nat → Nat) (V : Nat × (Nat → Nat)) (n0 a : Nat)  (i : Int) (l9 : Int) (ha36 : a < 36) (h0 : 0 ≤ i) (h1 : i ≤ 1000) (hl9 : -1 ≤ l9) (hl8 : l9 ≤ 1000000) (S0 : CSt) (rc : CR) {A : Nat → Prop} {p : Program} {e : Env} {s : State} {m : MethodId} {args : Array Value} {below : List Frame} {meth : Method} {c : Code} (B : zAt p s m args meth c RX0 cX0_beginPass 4 (some .int) (.code yX0_beginPass cX0_beginPass 4 (some .int) :: TBC)) (hK : va_K D vwCl (zTY cy) s) (hG : gEn V n0 A s c) (hR : (headSpec (.code yX0_beginPass cX0_beginPass 4 (some .int) :: TBC) (gRm 3 104 S0)).room.cells = (gK - gl S0) + 1 ∧ (headSpec (.code yX0_beginPass cX0_beginPass 4 (some .int) :: TBC) (gRm 3 104 S0)).room.slots = 2 * (gK - gl S0) + 6) :
    ∀ (n : Nat) (g : Int) (T : CSt) (x y : Nat) (H : Heap) (locs : List Loc) (ls : Array Slot), (cFx a 6 T) → (gl S0 ≤ gl T) → (sV T) → (pB 6 T) → (∀ j, T.1 25 j ≤ 9) → (∀ j, T.1 18 j ≤ 1000) → (0 ≤ g) → (g ≤ 1000000) → (10 - g ≤ n) → (T.1 11 4 + 4 * n ≤ 11950) → (T.1 11 3 ≤ 9000) → cH D cy (cq q x y) A s.heap T H locs → lv_has ls 4 [(0, .ref (q 10)), (1, .int (zI i)), (2, .int (zI l9)), (3, .int (zI g))] → (rc = K0_bpL i l9 n g T) → W p l e (headSpec (.code yX0_beginPass cX0_beginPass 4 (some .int) :: TBC) (gRm 3 104 S0)).room s m args below meth c H locs (gl T - gl S0) (2 * (gl T - gl S0)) (vx_MQ below (gQi D cy q A rc) (gX D cy q A "java/lang/UnsupportedOperationException" rc) args s (gc S0 rc) (gs S0 rc) A) (F0 m 33 ls []) := by
  intro n
  induction n with
  | zero =>
    intro g T x y H locs ls hF hg hV hP h25 h18 hi0 hi1 hn hc4 hc3 hM hl hpost
    refine lv_iload_n B.1 B.2.1 dX0_beginPass_33 rfl (lv_at hl 3 rfl) ?_
    refine lv_aload_n B.1 B.2.1 dX0_beginPass_34 rfl (lv_at hl 0 rfl) ?_
    refine c_getr (q := (cq q x y)) (r := 6) B (iC0 _) hK hM 10 2 0 (by decide) rfl rfl (by decide) (by decide) rfl rfl rfl (cFx_r hF 10 2) (List.mem_cons_of_mem _ wC_fRX0_22) dX0_beginPass_35 ?_
    refine lv_iload_n B.1 B.2.1 dX0_beginPass_38 rfl (lv_at hl 2 rfl) ?_
    refine c_calli (q := (cq q x y)) (As := [.int (zI l9)]) (rest := [.int (zI g)]) B hK hM 6 (by decide) (by decide) rfl (cX2_lastGroup_ok l D cy (cq q x y) a 6 T hF 6 (by decide) l9 hP (by show -1000000000 ≤ l9; omega) (by show l9 ≤ 1000000000; omega)) (cwC 1 B wC_mRX0_174 wC_im_yX2_lastGroup wC_sl_yX2_lastGroup wC_in_RX2 wC_cd_yX2_lastGroup rfl rfl (by decide +kernel) ⟨Nat.le_of_ble_eq_true rfl, Nat.le_of_ble_eq_true rfl⟩) rfl hl.1 rfl (Nat.le_of_ble_eq_true rfl) dX0_beginPass_39 ⟨g_rc hR hg (cFx_gl hF), g_rs hR hg (cFx_gl hF)⟩ (fun z_3 S_2 H locs hp_1 hM => ?_)
    obtain ⟨hp_1, he_hp_1⟩ := hp_1
    have he_hp_1 := he_hp_1.symm
    subst he_hp_1
    have hp_1 : (K2_lastGroup 6 l9 T) = z_3 := hp_1.symm
    subst hp_1
    have f_4 := K2_lastGroup_bd l9 hP
    have f_5 := K2_lg_b2 (S := T) l9 h25
    refine z_icmp_gt (tgt := 75) B.1 B.2.1 (zr_of (by omega) (by omega)) (zr_of (by omega) (by omega)) dX0_beginPass_42 (by decide) (fun c_6 => ?_) (fun c_6 => ?_)
    · --
      refine lv_aload_n B.1 B.2.1 dX0_beginPass_75 rfl (lv_at hl 0 rfl) ?_
      refine c_getr (q := (cq q x y)) (r := 6) B (iC0 _) hK hM 10 2 0 (by decide) rfl rfl (by decide) (by decide) rfl rfl rfl (cFx_r hF 10 2) (List.mem_cons_of_mem _ wC_fRX0_22) dX0_beginPass_76 ?_
      refine lv_iload_n B.1 B.2.1 dX0_beginPass_79 rfl (lv_at hl 1 rfl) ?_
      refine c_calli (q := (cq q x y)) (As := [.int (zI i)]) (rest := []) B hK hM 6 (by decide) (by decide) rfl (cX2_aim_ok l D cy (cq q x y) a 6 T hF 6 (by decide) i hP (by show -1000000000 ≤ i; omega) (by show i ≤ 1000000000; omega)) (cwC 1 B wC_mRX0_94 wC_im_yX2_aim wC_sl_yX2_aim wC_in_RX2 wC_cd_yX2_aim rfl rfl (by decide +kernel) ⟨Nat.le_of_ble_eq_true rfl, Nat.le_of_ble_eq_true rfl⟩) rfl hl.1 rfl (Nat.le_of_ble_eq_true rfl) dX0_beginPass_80 ⟨g_rc hR hg (cFx_gl hF), g_rs hR hg (cFx_gl hF)⟩ (fun z_9 S_8 H locs hp_7 hM => ?_)
      obtain ⟨hp_7, he_hp_7⟩ := hp_7
      have he_hp_7 := he_hp_7.symm
      subst he_hp_7
      have hp_7 : (K2_aim 6 i T) = z_9 := hp_7.symm
      subst hp_7
      have f_10 := K2_aim_bd i hP
      have f_11 := K2_aim_b2 (S := T) i h18
      exact g_reti (S := T) B hM (hpost.trans (by rw [K0_bpL])) dX0_beginPass_83
    · exact absurd c_6 (by omega)
  | succ n ih =>
    intro g T x y H locs ls hF hg hV hP h25 h18 hi0 hi1 hn hc4 hc3 hM hl hpost
    refine lv_iload_n B.1 B.2.1 dX0_beginPass_33 rfl (lv_at hl 3 rfl) ?_
    refine lv_aload_n B.1 B.2.1 dX0_beginPass_34 rfl (lv_at hl 0 rfl) ?_
    refine c_getr (q := (cq q x y)) (r := 6) B (iC0 _) hK hM 10 2 0 (by decide) rfl rfl (by decide) (by decide) rfl rfl rfl (cFx_r hF 10 2) (List.mem_cons_of_mem _ wC_fRX0_22) dX0_beginPass_35 ?_
    refine lv_iload_n B.1 B.2.1 dX0_beginPass_38 rfl (lv_at hl 2 rfl) ?_
    refine c_calli (q := (cq q x y)) (As := [.int (zI l9)]) (rest := [.int (zI g)]) B hK hM 6 (by decide) (by decide) rfl (cX2_lastGroup_ok l D cy (cq q x y) a 6 T hF 6 (by decide) l9 hP (by show -1000000000 ≤ l9; omega) (by show l9 ≤ 1000000000; omega)) (cwC 1 B wC_mRX0_174 wC_im_yX2_lastGroup wC_sl_yX2_lastGroup wC_in_RX2 wC_cd_yX2_lastGroup rfl rfl (by decide +kernel) ⟨Nat.le_of_ble_eq_true rfl, Nat.le_of_ble_eq_true rfl⟩) rfl hl.1 rfl (Nat.le_of_ble_eq_true rfl) dX0_beginPass_39 ⟨g_rc hR hg (cFx_gl hF), g_rs hR hg (cFx_gl hF)⟩ (fun z_3 S_2 H locs hp_1 hM => ?_)
    obtain ⟨hp_1, he_hp_1⟩ := hp_1
    have he_hp_1 := he_hp_1.symm
    subst he_hp_1
    have hp_1 : (K2_lastGroup 6 l9 T) = z_3 := hp_1.symm
    subst hp_1
    have f_4 := K2_lastGroup_bd l9 hP
    have f_5 := K2_lg_b2 (S := T) l9 h25
    refine z_icmp_gt (tgt := 75) B.1 B.2.1 (zr_of (by omega) (by omega)) (zr_of (by omega) (by omega)) dX0_beginPass_42 (by decide) (fun c_6 => ?_) (fun c_6 => ?_)
    · --
      refine lv_aload_n B.1 B.2.1 dX0_beginPass_75 rfl (lv_at hl 0 rfl) ?_
      refine c_getr (q := (cq q x y)) (r := 6) B (iC0 _) hK hM 10 2 0 (by decide) rfl rfl (by decide) (by decide) rfl rfl rfl (cFx_r hF 10 2) (List.mem_cons_of_mem _ wC_fRX0_22) dX0_beginPass_76 ?_
      refine lv_iload_n B.1 B.2.1 dX0_beginPass_79 rfl (lv_at hl 1 rfl) ?_
      refine c_calli (q := (cq q x y)) (As := [.int (zI i)]) (rest := []) B hK hM 6 (by decide) (by decide) rfl (cX2_aim_ok l D cy (cq q x y) a 6 T hF 6 (by decide) i hP (by show -1000000000 ≤ i; omega) (by show i ≤ 1000000000; omega)) (cwC 1 B wC_mRX0_94 wC_im_yX2_aim wC_sl_yX2_aim wC_in_RX2 wC_cd_yX2_aim rfl rfl (by decide +kernel) ⟨Nat.le_of_ble_eq_true rfl, Nat.le_of_ble_eq_true rfl⟩) rfl hl.1 rfl (Nat.le_of_ble_eq_true rfl) dX0_beginPass_80 ⟨g_rc hR hg (cFx_gl hF), g_rs hR hg (cFx_gl hF)⟩ (fun z_9 S_8 H locs hp_7 hM => ?_)
      obtain ⟨hp_7, he_hp_7⟩ := hp_7
      have he_hp_7 := he_hp_7.symm
      subst he_hp_7
      have hp_7 : (K2_aim 6 i T) = z_9 := hp_7.symm
      subst hp_7
      have f_10 := K2_aim_bd i hP
      have f_11 := K2_aim_b2 (S := T) i h18
      exact g_reti (S := T) B hM (hpost.trans (by rw [K0_bpL]; exact (if_pos c_6))) dX0_beginPass_83
    · --
      refine lv_aload_n B.1 B.2.1 dX0_beginPass_45 rfl (lv_at hl 0 rfl) ?_
      refine c_getr (q := (cq q x y)) (r := 11) B (iC0 _) hK hM 10 1 0 (by decide) rfl rfl (by decide) (by decide) rfl rfl rfl (cFx_r hF 10 1) (List.mem_cons_of_mem _ wC_fRX0_12) dX0_beginPass_46 ?_
      refine z_bipush B.1 B.2.1 (by decide) dX0_beginPass_49 ?_
      refine lv_iload_n B.1 B.2.1 dX0_beginPass_51 rfl (lv_at hl 3 rfl) ?_
      refine z_iadd (x := 10 + g) B.1 B.2.1 rfl dX0_beginPass_52 ?_
      refine z_iconst B.1 B.2.1 dX0_beginPass_53 ?_
      have hvo4 := hV.2.2.2.1
      refine g_callv (E := "java/lang/UnsupportedOperationException") (As := [.int (zI (10 + g)), .int (zI (-1))]) (rest := []) B hK hG hM 11 (by decide) (by decide) rfl (cX1_set_ok l hl0 D cy q V n0 x y a 6 T hF  (10 + g) (-1) ha36 (by decide) "java/lang/UnsupportedOperationException" (by show -2000000 ≤ (10 + g); omega) (by show (10 + g) ≤ 2000000; omega) (by show -1 ≤ (-1); omega) (by show (-1) ≤ 100000; omega) hV (by show (T.1 11 4) ≤ 12000; omega)) (cwC 2 B wC_mRX0_65 wC_im_yX1_set wC_sl_yX1_set wC_in_RX1 wC_cd_yX1_set rfl rfl (by decide +kernel) ⟨Nat.le_of_ble_eq_true rfl, Nat.le_of_ble_eq_true rfl⟩) rfl hl.1 rfl (Nat.le_of_ble_eq_true rfl) dX0_beginPass_54 hR hg (cFx_gl hF) (K1_set_F (S := T) hF hvo4 (by show (T.1 11 4) ≤ 12000; omega)).2 (fun c_12 => (hpost.trans (by rw [K0_bpL]; exact ((if_neg c_6).trans (if_neg c_12))))) (fun x y H locs c_12 hM => ?_)
      have hg : gl S0 ≤ gl (K1_set (10 + g) (-1) T).2.2 := Nat.le_trans hg (K1_set_F (S := T) hF hvo4 (by show (T.1 11 4) ≤ 12000; omega)).2
      have hFo : cFx a 6 T := hF
      have f_13 := K1_set_u (i := 10 + g) (v := (-1)) (S := T) hFo hV.2.2.2.1 hV.2.2.2.2.1
      have f_13b := K1_set_3 (i := 10 + g) (v := (-1)) (S := T)
      have hV : sV (K1_set (10 + g) (-1) T).2.2 := sV_set (i := 10 + g) (v := (-1)) (S := T) hFo hV (by omega) (by omega)
      have hF : cFx a 6 (K1_set (10 + g) (-1) T).2.2 := (K1_set_F (i := 10 + g) (v := (-1)) (S := T) hFo hvo4 (by show (T.1 11 4) ≤ 12000; omega)).1
      have hP := pB_set (i := 10 + g) (v := (-1)) (S := T) hP
      refine lv_aload_n B.1 B.2.1 dX0_beginPass_57 rfl (lv_at hl 0 rfl) ?_
      refine c_getr (q := (cq q x y)) (r := 11) B (iC0 _) hK hM 10 1 0 (by decide) rfl rfl (by decide) (by decide) rfl rfl rfl (cFx_r hF 10 1) (List.mem_cons_of_mem _ wC_fRX0_12) dX0_beginPass_58 ?_
      refine z_bipush B.1 B.2.1 (by decide) dX0_beginPass_61 ?_
      refine lv_iload_n B.1 B.2.1 dX0_beginPass_63 rfl (lv_at hl 3 rfl) ?_
      refine z_iadd (x := 20 + g) B.1 B.2.1 rfl dX0_beginPass_64 ?_
      refine z_iconst B.1 B.2.1 dX0_beginPass_65 ?_
      have hvo4 := hV.2.2.2.1
      refine g_callv (E := "java/lang/UnsupportedOperationException") (As := [.int (zI (20 + g)), .int (zI (-1))]) (rest := []) B hK hG hM 11 (by decide) (by decide) rfl (cX1_set_ok l hl0 D cy q V n0 x y a 6 (K1_set (10 + g) (-1) T).2.2 hF  (20 + g) (-1) ha36 (by decide) "java/lang/UnsupportedOperationException" (by show -2000000 ≤ (20 + g); omega) (by show (20 + g) ≤ 2000000; omega) (by show -1 ≤ (-1); omega) (by show (-1) ≤ 100000; omega) hV (by show ((K1_set (10 + g) (-1) T).2.2.1 11 4) ≤ 12000; omega)) (cwC 2 B wC_mRX0_65 wC_im_yX1_set wC_sl_yX1_set wC_in_RX1 wC_cd_yX1_set rfl rfl (by decide +kernel) ⟨Nat.le_of_ble_eq_true rfl, Nat.le_of_ble_eq_true rfl⟩) rfl hl.1 rfl (Nat.le_of_ble_eq_true rfl) dX0_beginPass_66 hR hg (cFx_gl hF) (K1_set_F (S := (K1_set (10 + g) (-1) T).2.2) hF hvo4 (by show ((K1_set (10 + g) (-1) T).2.2.1 11 4) ≤ 12000; omega)).2 (fun c_14 => (hpost.trans (by rw [K0_bpL]; exact ((if_neg c_6).trans ((if_pos c_12).trans (if_neg c_14)))))) (fun x y H locs c_14 hM => ?_)
      have hg : gl S0 ≤ gl (K1_set (20 + g) (-1) (K1_set (10 + g) (-1) T).2.2).2.2 := Nat.le_trans hg (K1_set_F (S := (K1_set (10 + g) (-1) T).2.2) hF hvo4 (by show ((K1_set (10 + g) (-1) T).2.2.1 11 4) ≤ 12000; omega)).2
      have hFo : cFx a 6 (K1_set (10 + g) (-1) T).2.2 := hF
      have f_15 := K1_set_u (i := 20 + g) (v := (-1)) (S := (K1_set (10 + g) (-1) T).2.2) hFo hV.2.2.2.1 hV.2.2.2.2.1
      have f_15b := K1_set_3 (i := 20 + g) (v := (-1)) (S := (K1_set (10 + g) (-1) T).2.2)
      have hV : sV (K1_set (20 + g) (-1) (K1_set (10 + g) (-1) T).2.2).2.2 := sV_set (i := 20 + g) (v := (-1)) (S := (K1_set (10 + g) (-1) T).2.2) hFo hV (by omega) (by omega)
      have hF : cFx a 6 (K1_set (20 + g) (-1) (K1_set (10 + g) (-1) T).2.2).2.2 := (K1_set_F (i := 20 + g) (v := (-1)) (S := (K1_set (10 + g) (-1) T).2.2) hFo hvo4 (by show ((K1_set (10 + g) (-1) T).2.2.1 11 4) ≤ 12000; omega)).1
      have hP := pB_set (i := 20 + g) (v := (-1)) (S := (K1_set (10 + g) (-1) T).2.2) hP
      refine z_iinc (v := g + 1) (lv' := [(3, .int (zI (g + 1))), (0, .ref (q 10)), (1, .int (zI i)), (2, .int (zI l9))]) B.1 B.2.1 dX0_beginPass_69 hl (k := 3) rfl rfl (by decide) rfl (fun ls hl => ?_)
      refine lv_goto (tgt := 33) B.1 B.2.1 dX0_beginPass_72 (by decide) ?_
      have hq : K0_bpL i l9 (n + 1) g T = K0_bpL i l9 n (g + 1) ((K1_set (20 + g) (-1) (K1_set (10 + g) (-1) T).2.2).2.2) := by rw [K0_bpL]; exact ((if_neg c_6).trans ((if_pos c_12).trans (if_pos c_14)))
      rw [hq] at hpost
      exact ih (g + 1) ((K1_set (20 + g) (-1) (K1_set (10 + g) (-1) T).2.2).2.2) x y H locs ls hF hg hV hP (fun j => by rw [show (K1_set (20 + g) (-1) (K1_set (10 + g) (-1) T).2.2).2.2.1 25 j = T.1 25 j from (by simp only [K1_set_1 (m := 25) (by decide) (by decide) (by decide)])]; exact h25 j) (fun j => by rw [show (K1_set (20 + g) (-1) (K1_set (10 + g) (-1) T).2.2).2.2.1 18 j = T.1 18 j from (by simp only [K1_set_1 (m := 18) (by decide) (by decide) (by decide)])]; exact h18 j) (by omega) (by omega) (by omega) (by omega) (by omega) hM (lv_sub hl [1, 2, 3, 0] rfl) hpost
def K0_beginPass (i : Int) (S : CSt) : CR := (if (K1_set (50 + ((K2_number 6 i S))) (S.1 10 3) S).1 = 0 then (K0_bpL i ((K2_number 6 i S)) (10 - ((K2_firstGroup 6 ((K2_number 6 i S)) (K1_set (50 + ((K2_number 6 i S))) (S.1 10 3) S).2.2))).toNat ((K2_firstGroup 6 ((K2_number 6 i S)) (K1_set (50 + ((K2_number 6 i S))) (S.1 10 3) S).2.2)) (K1_set (50 + ((K2_number 6 i S))) (S.1 10 3) S).2.2) else (1, 0, (K1_set (50 + ((K2_number 6 i S))) (S.1 10 3) S).2.2))
set_option maxHeartbeats 1000000 in
set_option maxRecDepth 100000 in
theorem cX0_beginPass_ok (l : Launch) (hl0 : l.stackTraces = false) (D : va_G) (cy : Nat → ClassId) (q : Nat → Nat) (V : Nat × (Nat → Nat)) (n0 x y a : Nat) (S : CSt) (hF : cFx a 6 S) (i : Int) (ha36 : a < 36) (hX : xV S) (h0 : 0 ≤ i) (h1 : i ≤ 1000)(hc4 : S.1 11 4 ≤ 11900) (hc3 : S.1 11 3 ≤ 8990) : gMi l D cy q V n0 x y "java/lang/UnsupportedOperationException" yX0_beginPass (.code yX0_beginPass cX0_beginPass 4 (some .int) :: TBC) 3 104 S [.ref (q 10), .int (zI i)] (K0_beginPass i S) := by
  refine g_of (cc := cX0_beginPass) (maxL := 4) (ret := (some .int)) (by decide) rfl rfl (Nat.le_of_ble_eq_true rfl) ?_
  intro p e s m args below meth c ls B hK hG hM hl
  generalize gA (cq q x y) n0 = A at hG hM ⊢
  have hR : (headSpec (.code yX0_beginPass cX0_beginPass 4 (some .int) :: TBC) (gRm 3 104 S)).room.cells = (gK - gl S) + 1 ∧ (headSpec (.code yX0_beginPass cX0_beginPass 4 (some .int) :: TBC) (gRm 3 104 S)).room.slots = 2 * (gK - gl S) + 6 := ⟨rfl, rfl⟩
  have hl : lv_has ls 4 [(0, .ref (q 10)), (1, .int (zI i))] := hl
  obtain ⟨hV, hP, ht0, ht1, hcs, hp0, hp1, hs0, hs1, h18, h24, h25, h35⟩ := id hX
  obtain ⟨hMk, hu30, hu31, hu40, hu41, hM6, hM7⟩ := id hV
  refine lv_aload_n B.1 B.2.1 dX0_beginPass_0 rfl (lv_at hl 0 rfl) ?_
  refine c_getr (q := (cq q x y)) (r := 6) B (iC0 _) hK hM 10 2 0 (by decide) rfl rfl (by decide) (by decide) rfl rfl rfl (cFx_r hF 10 2) (List.mem_cons_of_mem _ wC_fRX0_22) dX0_beginPass_1 ?_
  refine lv_iload_n B.1 B.2.1 dX0_beginPass_4 rfl (lv_at hl 1 rfl) ?_
  refine c_calli (q := (cq q x y)) (As := [.int (zI i)]) (rest := []) B hK hM 6 (by decide) (by decide) rfl (cX2_number_ok l D cy (cq q x y) a 6 S hF 6 (by decide) i hP (by show -1000000000 ≤ i; omega) (by show i ≤ 1000000000; omega)) (cwC 1 B wC_mRX0_142 wC_im_yX2_number wC_sl_yX2_number wC_in_RX2 wC_cd_yX2_number rfl rfl (by decide +kernel) ⟨Nat.le_of_ble_eq_true rfl, Nat.le_of_ble_eq_true rfl⟩) rfl hl.1 rfl (Nat.le_of_ble_eq_true rfl) dX0_beginPass_5 ⟨g_rc hR (Nat.le_refl _) (cFx_gl hF), g_rs hR (Nat.le_refl _) (cFx_gl hF)⟩ (fun z_3 S_2 H locs hp_1 hM => ?_)
  obtain ⟨hp_1, he_hp_1⟩ := hp_1
  have he_hp_1 := he_hp_1.symm
  subst he_hp_1
  have hp_1 : (K2_number 6 i S) = z_3 := hp_1.symm
  subst hp_1
  have f_4 := K2_number_bd i hP
  refine lv_istore_n (lv' := [(2, .int (zI ((K2_number 6 i S)))), (0, .ref (q 10)), (1, .int (zI i))]) B.1 B.2.1 dX0_beginPass_8 rfl hl (by decide) rfl (fun ls hl => ?_)
  refine lv_aload_n B.1 B.2.1 dX0_beginPass_9 rfl (lv_at hl 1 rfl) ?_
  refine c_getr (q := (cq q x y)) (r := 11) B (iC0 _) hK hM 10 1 0 (by decide) rfl rfl (by decide) (by decide) rfl rfl rfl (cFx_r hF 10 1) (List.mem_cons_of_mem _ wC_fRX0_12) dX0_beginPass_10 ?_
  refine z_bipush B.1 B.2.1 (by decide) dX0_beginPass_13 ?_
  refine lv_iload_n B.1 B.2.1 dX0_beginPass_15 rfl (lv_at hl 0 rfl) ?_
  refine z_iadd (x := 50 + ((K2_number 6 i S))) B.1 B.2.1 rfl dX0_beginPass_16 ?_
  refine lv_aload_n B.1 B.2.1 dX0_beginPass_17 rfl (lv_at hl 1 rfl) ?_
  refine c_geti (q := (cq q x y)) (x := S.1 10 3) B (iC0 _) hK hM 10 3 0 (by decide) rfl rfl (by decide) (by decide) rfl rfl (by decide) rfl (List.mem_cons_of_mem _ wC_fRX0_58) dX0_beginPass_18 ?_
  have hvo4 := hV.2.2.2.1
  refine g_callv (E := "java/lang/UnsupportedOperationException") (As := [.int (zI (50 + ((K2_number 6 i S)))), .int (zI (S.1 10 3))]) (rest := []) B hK hG hM 11 (by decide) (by decide) rfl (cX1_set_ok l hl0 D cy q V n0 x y a 6 S hF  (50 + ((K2_number 6 i S))) (S.1 10 3) ha36 (by decide) "java/lang/UnsupportedOperationException" (by show -2000000 ≤ (50 + ((K2_number 6 i S))); omega) (by show (50 + ((K2_number 6 i S))) ≤ 2000000; omega) (by show -1 ≤ (S.1 10 3); omega) (by show (S.1 10 3) ≤ 100000; omega) hV (by show (S.1 11 4) ≤ 12000; omega)) (cwC 2 B wC_mRX0_65 wC_im_yX1_set wC_sl_yX1_set wC_in_RX1 wC_cd_yX1_set rfl rfl (by decide +kernel) ⟨Nat.le_of_ble_eq_true rfl, Nat.le_of_ble_eq_true rfl⟩) rfl hl.1 rfl (Nat.le_of_ble_eq_true rfl) dX0_beginPass_21 hR (Nat.le_refl _) (cFx_gl hF) (K1_set_F (S := S) hF hvo4 (by show (S.1 11 4) ≤ 12000; omega)).2 (fun c_5 => (by unfold K0_beginPass; exact (if_neg c_5))) (fun x y H locs c_5 hM => ?_)
  have hg : gl S ≤ gl (K1_set (50 + ((K2_number 6 i S))) (S.1 10 3) S).2.2 := Nat.le_trans (Nat.le_refl _) (K1_set_F (S := S) hF hvo4 (by show (S.1 11 4) ≤ 12000; omega)).2
  have hFo : cFx a 6 S := hF
  have f_6 := K1_set_u (i := 50 + ((K2_number 6 i S))) (v := S.1 10 3) (S := S) hFo hV.2.2.2.1 hV.2.2.2.2.1
  have f_6b := K1_set_3 (i := 50 + ((K2_number 6 i S))) (v := S.1 10 3) (S := S)
  have hV : sV (K1_set (50 + ((K2_number 6 i S))) (S.1 10 3) S).2.2 := sV_set (i := 50 + ((K2_number 6 i S))) (v := S.1 10 3) (S := S) hFo hV (by omega) (by omega)
  have hF : cFx a 6 (K1_set (50 + ((K2_number 6 i S))) (S.1 10 3) S).2.2 := (K1_set_F (i := 50 + ((K2_number 6 i S))) (v := S.1 10 3) (S := S) hFo hvo4 (by show (S.1 11 4) ≤ 12000; omega)).1
  have hP := pB_set (i := 50 + ((K2_number 6 i S))) (v := S.1 10 3) (S := S) hP
  refine lv_aload_n B.1 B.2.1 dX0_beginPass_24 rfl (lv_at hl 1 rfl) ?_
  refine c_getr (q := (cq q x y)) (r := 6) B (iC0 _) hK hM 10 2 0 (by decide) rfl rfl (by decide) (by decide) rfl rfl rfl (cFx_r hF 10 2) (List.mem_cons_of_mem _ wC_fRX0_22) dX0_beginPass_25 ?_
  refine lv_iload_n B.1 B.2.1 dX0_beginPass_28 rfl (lv_at hl 0 rfl) ?_
  refine c_calli (q := (cq q x y)) (As := [.int (zI ((K2_number 6 i S)))]) (rest := []) B hK hM 6 (by decide) (by decide) rfl (cX2_firstGroup_ok l D cy (cq q x y) a 6 (K1_set (50 + ((K2_number 6 i S))) (S.1 10 3) S).2.2 hF 6 (by decide) ((K2_number 6 i S)) hP (by show -1000000000 ≤ ((K2_number 6 i S)); omega) (by show ((K2_number 6 i S)) ≤ 1000000000; omega)) (cwC 1 B wC_mRX0_171 wC_im_yX2_firstGroup wC_sl_yX2_firstGroup wC_in_RX2 wC_cd_yX2_firstGroup rfl rfl (by decide +kernel) ⟨Nat.le_of_ble_eq_true rfl, Nat.le_of_ble_eq_true rfl⟩) rfl hl.1 rfl (Nat.le_of_ble_eq_true rfl) dX0_beginPass_29 ⟨g_rc hR hg (cFx_gl hF), g_rs hR hg (cFx_gl hF)⟩ (fun z_9 S_8 H locs hp_7 hM => ?_)
  obtain ⟨hp_7, he_hp_7⟩ := hp_7
  have he_hp_7 := he_hp_7.symm
  subst he_hp_7
  have hp_7 : (K2_firstGroup 6 ((K2_number 6 i S)) (K1_set (50 + ((K2_number 6 i S))) (S.1 10 3) S).2.2) = z_9 := hp_7.symm
  subst hp_7
  have f_10 := K2_firstGroup_bd ((K2_number 6 i S)) hP
  have f_11 := K2_fg_b2 (S := (K1_set (50 + ((K2_number 6 i S))) (S.1 10 3) S).2.2) ((K2_number 6 i S)) (fun j => by rw [show (K1_set (50 + ((K2_number 6 i S))) (S.1 10 3) S).2.2.1 24 j = S.1 24 j from (by simp only [K1_set_1 (m := 24) (by decide) (by decide) (by decide)])]; exact h24 j)
  refine lv_istore_n (lv' := [(3, .int (zI ((K2_firstGroup 6 ((K2_number 6 i S)) (K1_set (50 + ((K2_number 6 i S))) (S.1 10 3) S).2.2)))), (2, .int (zI ((K2_number 6 i S)))), (0, .ref (q 10)), (1, .int (zI i))]) B.1 B.2.1 dX0_beginPass_32 rfl hl (by decide) rfl (fun ls hl => ?_)
  exact lp0_bp l hl0 D cy q V n0 a i ((K2_number 6 i S)) ha36 h0 h1 (by omega) (by omega) S _ B hK hG hR (10 - ((K2_firstGroup 6 ((K2_number 6 i S)) (K1_set (50 + ((K2_number 6 i S))) (S.1 10 3) S).2.2))).toNat ((K2_firstGroup 6 ((K2_number 6 i S)) (K1_set (50 + ((K2_number 6 i S))) (S.1 10 3) S).2.2)) (K1_set (50 + ((K2_number 6 i S))) (S.1 10 3) S).2.2 x y H locs ls hF hg hV hP (fun j => by rw [show (K1_set (50 + ((K2_number 6 i S))) (S.1 10 3) S).2.2.1 25 j = S.1 25 j from (by simp only [K1_set_1 (m := 25) (by decide) (by decide) (by decide)])]; exact h25 j) (fun j => by rw [show (K1_set (50 + ((K2_number 6 i S))) (S.1 10 3) S).2.2.1 18 j = S.1 18 j from (by simp only [K1_set_1 (m := 18) (by decide) (by decide) (by decide)])]; exact h18 j) (by omega) (by omega) (by omega) (by omega) (by omega) hM (lv_sub hl [2, 3, 1, 0] rfl) (by unfold K0_beginPass; exact (if_pos c_5))
def K0_beginLook (i : Int) (S : CSt) : CR := (if (K1_set (70 + ((K2_number 6 i S))) (S.1 11 3) S).1 = 0 then (if (K1_set (80 + ((K2_number 6 i S))) (S.1 10 3) (K1_set (70 + ((K2_number 6 i S))) (S.1 11 3) S).2.2).1 = 0 then (0, i + 1, (K1_set (80 + ((K2_number 6 i S))) (S.1 10 3) (K1_set (70 + ((K2_number 6 i S))) (S.1 11 3) S).2.2).2.2) else (1, 0, (K1_set (80 + ((K2_number 6 i S))) (S.1 10 3) (K1_set (70 + ((K2_number 6 i S))) (S.1 11 3) S).2.2).2.2)) else (1, 0, (K1_set (70 + ((K2_number 6 i S))) (S.1 11 3) S).2.2))
set_option maxHeartbeats 1000000 in
set_option maxRecDepth 100000 in
theorem cX0_beginLook_ok (l : Launch) (hl0 : l.stackTraces = false) (D : va_G) (cy : Nat → ClassId) (q : Nat → Nat) (V : Nat × (Nat → Nat)) (n0 x y a : Nat) (S : CSt) (hF : cFx a 6 S) (i : Int) (ha36 : a < 36) (hX : xV S) (h0 : 0 ≤ i) (h1 : i ≤ 1000)(hc4 : S.1 11 4 ≤ 11900) (hc3 : S.1 11 3 ≤ 8990) : gMi l D cy q V n0 x y "java/lang/UnsupportedOperationException" yX0_beginLook (.code yX0_beginLook cX0_beginLook 3 (some .int) :: TBC) 3 104 S [.ref (q 10), .int (zI i)] (K0_beginLook i S) := by
  refine g_of (cc := cX0_beginLook) (maxL := 3) (ret := (some .int)) (by decide) rfl rfl (Nat.le_of_ble_eq_true rfl) ?_
  intro p e s m args below meth c ls B hK hG hM hl
  generalize gA (cq q x y) n0 = A at hG hM ⊢
  have hR : (headSpec (.code yX0_beginLook cX0_beginLook 3 (some .int) :: TBC) (gRm 3 104 S)).room.cells = (gK - gl S) + 1 ∧ (headSpec (.code yX0_beginLook cX0_beginLook 3 (some .int) :: TBC) (gRm 3 104 S)).room.slots = 2 * (gK - gl S) + 6 := ⟨rfl, rfl⟩
  have hl : lv_has ls 3 [(0, .ref (q 10)), (1, .int (zI i))] := hl
  obtain ⟨hV, hP, ht0, ht1, hcs, hp0, hp1, hs0, hs1, h18, h24, h25, h35⟩ := id hX
  obtain ⟨hMk, hu30, hu31, hu40, hu41, hM6, hM7⟩ := id hV
  refine lv_aload_n B.1 B.2.1 dX0_beginLook_0 rfl (lv_at hl 0 rfl) ?_
  refine c_getr (q := (cq q x y)) (r := 6) B (iC0 _) hK hM 10 2 0 (by decide) rfl rfl (by decide) (by decide) rfl rfl rfl (cFx_r hF 10 2) (List.mem_cons_of_mem _ wC_fRX0_22) dX0_beginLook_1 ?_
  refine lv_iload_n B.1 B.2.1 dX0_beginLook_4 rfl (lv_at hl 1 rfl) ?_
  refine c_calli (q := (cq q x y)) (As := [.int (zI i)]) (rest := []) B hK hM 6 (by decide) (by decide) rfl (cX2_number_ok l D cy (cq q x y) a 6 S hF 6 (by decide) i hP (by show -1000000000 ≤ i; omega) (by show i ≤ 1000000000; omega)) (cwC 1 B wC_mRX0_142 wC_im_yX2_number wC_sl_yX2_number wC_in_RX2 wC_cd_yX2_number rfl rfl (by decide +kernel) ⟨Nat.le_of_ble_eq_true rfl, Nat.le_of_ble_eq_true rfl⟩) rfl hl.1 rfl (Nat.le_of_ble_eq_true rfl) dX0_beginLook_5 ⟨g_rc hR (Nat.le_refl _) (cFx_gl hF), g_rs hR (Nat.le_refl _) (cFx_gl hF)⟩ (fun z_3 S_2 H locs hp_1 hM => ?_)
  obtain ⟨hp_1, he_hp_1⟩ := hp_1
  have he_hp_1 := he_hp_1.symm
  subst he_hp_1
  have hp_1 : (K2_number 6 i S) = z_3 := hp_1.symm
  subst hp_1
  have f_4 := K2_number_bd i hP
  refine lv_istore_n (lv' := [(2, .int (zI ((K2_number 6 i S)))), (0, .ref (q 10)), (1, .int (zI i))]) B.1 B.2.1 dX0_beginLook_8 rfl hl (by decide) rfl (fun ls hl => ?_)
  refine lv_aload_n B.1 B.2.1 dX0_beginLook_9 rfl (lv_at hl 1 rfl) ?_
  refine c_getr (q := (cq q x y)) (r := 11) B (iC0 _) hK hM 10 1 0 (by decide) rfl rfl (by decide) (by decide) rfl rfl rfl (cFx_r hF 10 1) (List.mem_cons_of_mem _ wC_fRX0_12) dX0_beginLook_10 ?_
  refine z_bipush B.1 B.2.1 (by decide) dX0_beginLook_13 ?_
  refine lv_iload_n B.1 B.2.1 dX0_beginLook_15 rfl (lv_at hl 0 rfl) ?_
  refine z_iadd (x := 70 + ((K2_number 6 i S))) B.1 B.2.1 rfl dX0_beginLook_16 ?_
  refine lv_aload_n B.1 B.2.1 dX0_beginLook_17 rfl (lv_at hl 1 rfl) ?_
  refine c_getr (q := (cq q x y)) (r := 11) B (iC0 _) hK hM 10 1 0 (by decide) rfl rfl (by decide) (by decide) rfl rfl rfl (cFx_r hF 10 1) (List.mem_cons_of_mem _ wC_fRX0_12) dX0_beginLook_18 ?_
  refine c_calli (q := (cq q x y)) (As := []) (rest := [.int (zI (70 + ((K2_number 6 i S)))), .ref (q 11)]) B hK hM 11 (by decide) (by decide) rfl (cX1_height_ok l D cy (cq q x y) a 6 S hF   ) (cwC 0 B wC_mRX0_177 wC_im_yX1_height wC_sl_yX1_height wC_in_RX1 wC_cd_yX1_height rfl rfl (by decide +kernel) ⟨Nat.le_of_ble_eq_true rfl, Nat.le_of_ble_eq_true rfl⟩) rfl hl.1 rfl (Nat.le_of_ble_eq_true rfl) dX0_beginLook_21 ⟨g_rc hR (Nat.le_refl _) (cFx_gl hF), g_rs hR (Nat.le_refl _) (cFx_gl hF)⟩ (fun z_7 S_6 H locs hp_5 hM => ?_)
  obtain ⟨hp_5, he_hp_5⟩ := hp_5
  have he_hp_5 := he_hp_5.symm
  subst he_hp_5
  have hp_5 : S.1 11 3 = z_7 := hp_5.symm
  subst hp_5
  have hvo4 := hV.2.2.2.1
  refine g_callv (E := "java/lang/UnsupportedOperationException") (As := [.int (zI (70 + ((K2_number 6 i S)))), .int (zI (S.1 11 3))]) (rest := []) B hK hG hM 11 (by decide) (by decide) rfl (cX1_set_ok l hl0 D cy q V n0 x y a 6 S hF  (70 + ((K2_number 6 i S))) (S.1 11 3) ha36 (by decide) "java/lang/UnsupportedOperationException" (by show -2000000 ≤ (70 + ((K2_number 6 i S))); omega) (by show (70 + ((K2_number 6 i S))) ≤ 2000000; omega) (by show -1 ≤ (S.1 11 3); omega) (by show (S.1 11 3) ≤ 100000; omega) hV (by show (S.1 11 4) ≤ 12000; omega)) (cwC 2 B wC_mRX0_65 wC_im_yX1_set wC_sl_yX1_set wC_in_RX1 wC_cd_yX1_set rfl rfl (by decide +kernel) ⟨Nat.le_of_ble_eq_true rfl, Nat.le_of_ble_eq_true rfl⟩) rfl hl.1 rfl (Nat.le_of_ble_eq_true rfl) dX0_beginLook_24 hR (Nat.le_refl _) (cFx_gl hF) (K1_set_F (S := S) hF hvo4 (by show (S.1 11 4) ≤ 12000; omega)).2 (fun c_8 => (by unfold K0_beginLook; exact (if_neg c_8))) (fun x y H locs c_8 hM => ?_)
  have hg : gl S ≤ gl (K1_set (70 + ((K2_number 6 i S))) (S.1 11 3) S).2.2 := Nat.le_trans (Nat.le_refl _) (K1_set_F (S := S) hF hvo4 (by show (S.1 11 4) ≤ 12000; omega)).2
  have hFo : cFx a 6 S := hF
  have f_9 := K1_set_u (i := 70 + ((K2_number 6 i S))) (v := S.1 11 3) (S := S) hFo hV.2.2.2.1 hV.2.2.2.2.1
  have f_9b := K1_set_3 (i := 70 + ((K2_number 6 i S))) (v := S.1 11 3) (S := S)
  have hV : sV (K1_set (70 + ((K2_number 6 i S))) (S.1 11 3) S).2.2 := sV_set (i := 70 + ((K2_number 6 i S))) (v := S.1 11 3) (S := S) hFo hV (by omega) (by omega)
  have hF : cFx a 6 (K1_set (70 + ((K2_number 6 i S))) (S.1 11 3) S).2.2 := (K1_set_F (i := 70 + ((K2_number 6 i S))) (v := S.1 11 3) (S := S) hFo hvo4 (by show (S.1 11 4) ≤ 12000; omega)).1
  have hP := pB_set (i := 70 + ((K2_number 6 i S))) (v := S.1 11 3) (S := S) hP
  refine lv_aload_n B.1 B.2.1 dX0_beginLook_27 rfl (lv_at hl 1 rfl) ?_
  refine c_getr (q := (cq q x y)) (r := 11) B (iC0 _) hK hM 10 1 0 (by decide) rfl rfl (by decide) (by decide) rfl rfl rfl (cFx_r hF 10 1) (List.mem_cons_of_mem _ wC_fRX0_12) dX0_beginLook_28 ?_
  refine z_bipush B.1 B.2.1 (by decide) dX0_beginLook_31 ?_
  refine lv_iload_n B.1 B.2.1 dX0_beginLook_33 rfl (lv_at hl 0 rfl) ?_
  refine z_iadd (x := 80 + ((K2_number 6 i S))) B.1 B.2.1 rfl dX0_beginLook_34 ?_
  refine lv_aload_n B.1 B.2.1 dX0_beginLook_35 rfl (lv_at hl 1 rfl) ?_
  refine c_geti (q := (cq q x y)) (x := S.1 10 3) B (iC0 _) hK hM 10 3 0 (by decide) rfl rfl (by decide) (by decide) rfl rfl (by decide) (by simp only [K1_set_1 (m := 10) (by decide) (by decide) (by decide)]) (List.mem_cons_of_mem _ wC_fRX0_58) dX0_beginLook_36 ?_
  have hvo4 := hV.2.2.2.1
  refine g_callv (E := "java/lang/UnsupportedOperationException") (As := [.int (zI (80 + ((K2_number 6 i S)))), .int (zI (S.1 10 3))]) (rest := []) B hK hG hM 11 (by decide) (by decide) rfl (cX1_set_ok l hl0 D cy q V n0 x y a 6 (K1_set (70 + ((K2_number 6 i S))) (S.1 11 3) S).2.2 hF  (80 + ((K2_number 6 i S))) (S.1 10 3) ha36 (by decide) "java/lang/UnsupportedOperationException" (by show -2000000 ≤ (80 + ((K2_number 6 i S))); omega) (by show (80 + ((K2_number 6 i S))) ≤ 2000000; omega) (by show -1 ≤ (S.1 10 3); omega) (by show (S.1 10 3) ≤ 100000; omega) hV (by show ((K1_set (70 + ((K2_number 6 i S))) (S.1 11 3) S).2.2.1 11 4) ≤ 12000; omega)) (cwC 2 B wC_mRX0_65 wC_im_yX1_set wC_sl_yX1_set wC_in_RX1 wC_cd_yX1_set rfl rfl (by decide +kernel) ⟨Nat.le_of_ble_eq_true rfl, Nat.le_of_ble_eq_true rfl⟩) rfl hl.1 rfl (Nat.le_of_ble_eq_true rfl) dX0_beginLook_39 hR hg (cFx_gl hF) (K1_set_F (S := (K1_set (70 + ((K2_number 6 i S))) (S.1 11 3) S).2.2) hF hvo4 (by show ((K1_set (70 + ((K2_number 6 i S))) (S.1 11 3) S).2.2.1 11 4) ≤ 12000; omega)).2 (fun c_10 => (by unfold K0_beginLook; exact ((if_pos c_8).trans (if_neg c_10)))) (fun x y H locs c_10 hM => ?_)
  have hg : gl S ≤ gl (K1_set (80 + ((K2_number 6 i S))) (S.1 10 3) (K1_set (70 + ((K2_number 6 i S))) (S.1 11 3) S).2.2).2.2 := Nat.le_trans hg (K1_set_F (S := (K1_set (70 + ((K2_number 6 i S))) (S.1 11 3) S).2.2) hF hvo4 (by show ((K1_set (70 + ((K2_number 6 i S))) (S.1 11 3) S).2.2.1 11 4) ≤ 12000; omega)).2
  have hFo : cFx a 6 (K1_set (70 + ((K2_number 6 i S))) (S.1 11 3) S).2.2 := hF
  have f_11 := K1_set_u (i := 80 + ((K2_number 6 i S))) (v := S.1 10 3) (S := (K1_set (70 + ((K2_number 6 i S))) (S.1 11 3) S).2.2) hFo hV.2.2.2.1 hV.2.2.2.2.1
  have f_11b := K1_set_3 (i := 80 + ((K2_number 6 i S))) (v := S.1 10 3) (S := (K1_set (70 + ((K2_number 6 i S))) (S.1 11 3) S).2.2)
  have hV : sV (K1_set (80 + ((K2_number 6 i S))) (S.1 10 3) (K1_set (70 + ((K2_number 6 i S))) (S.1 11 3) S).2.2).2.2 := sV_set (i := 80 + ((K2_number 6 i S))) (v := S.1 10 3) (S := (K1_set (70 + ((K2_number 6 i S))) (S.1 11 3) S).2.2) hFo hV (by omega) (by omega)
  have hF : cFx a 6 (K1_set (80 + ((K2_number 6 i S))) (S.1 10 3) (K1_set (70 + ((K2_number 6 i S))) (S.1 11 3) S).2.2).2.2 := (K1_set_F (i := 80 + ((K2_number 6 i S))) (v := S.1 10 3) (S := (K1_set (70 + ((K2_number 6 i S))) (S.1 11 3) S).2.2) hFo hvo4 (by show ((K1_set (70 + ((K2_number 6 i S))) (S.1 11 3) S).2.2.1 11 4) ≤ 12000; omega)).1
  have hP := pB_set (i := 80 + ((K2_number 6 i S))) (v := S.1 10 3) (S := (K1_set (70 + ((K2_number 6 i S))) (S.1 11 3) S).2.2) hP
  refine lv_iload_n B.1 B.2.1 dX0_beginLook_42 rfl (lv_at hl 2 rfl) ?_
  refine z_iconst B.1 B.2.1 dX0_beginLook_43 ?_
  refine z_iadd (x := i + 1) B.1 B.2.1 rfl dX0_beginLook_44 ?_
  exact g_reti (S := (K1_set (80 + ((K2_number 6 i S))) (S.1 10 3) (K1_set (70 + ((K2_number 6 i S))) (S.1 11 3) S).2.2).2.2) B hM (by unfold K0_beginLook; exact ((if_pos c_8).trans (if_pos c_10))) dX0_beginLook_45
def K0_endLook (i : Int) (S : CSt) : CR := (0, i + 1, (ci (K1_cut ((K1_mark (70 + ((K2_number 6 i S))) S)) S) 10 3 ((K1_mark (80 + ((K2_number 6 i S))) (K1_cut ((K1_mark (70 + ((K2_number 6 i S))) S)) S)))))
set_option maxHeartbeats 1000000 in
set_option maxRecDepth 100000 in
theorem cX0_endLook_ok (l : Launch) (hl0 : l.stackTraces = false) (D : va_G) (cy : Nat → ClassId) (q : Nat → Nat) (V : Nat × (Nat → Nat)) (n0 x y a : Nat) (S : CSt) (hF : cFx a 6 S) (i : Int) (ha36 : a < 36) (hX : xV S) (h0 : 0 ≤ i) (h1 : i ≤ 1000)(hc4 : S.1 11 4 ≤ 11900) (hc3 : S.1 11 3 ≤ 8990) : gMi l D cy q V n0 x y "java/lang/UnsupportedOperationException" yX0_endLook (.code yX0_endLook cX0_endLook 3 (some .int) :: TBC) 2 42 S [.ref (q 10), .int (zI i)] (K0_endLook i S) := by
  refine g_of (cc := cX0_endLook) (maxL := 3) (ret := (some .int)) (by decide) rfl rfl (Nat.le_of_ble_eq_true rfl) ?_
  intro p e s m args below meth c ls B hK hG hM hl
  generalize gA (cq q x y) n0 = A at hG hM ⊢
  have hR : (headSpec (.code yX0_endLook cX0_endLook 3 (some .int) :: TBC) (gRm 2 42 S)).room.cells = (gK - gl S) + 1 ∧ (headSpec (.code yX0_endLook cX0_endLook 3 (some .int) :: TBC) (gRm 2 42 S)).room.slots = 2 * (gK - gl S) + 6 := ⟨rfl, rfl⟩
  have hl : lv_has ls 3 [(0, .ref (q 10)), (1, .int (zI i))] := hl
  obtain ⟨hV, hP, ht0, ht1, hcs, hp0, hp1, hs0, hs1, h18, h24, h25, h35⟩ := id hX
  obtain ⟨hMk, hu30, hu31, hu40, hu41, hM6, hM7⟩ := id hV
  refine lv_aload_n B.1 B.2.1 dX0_endLook_0 rfl (lv_at hl 0 rfl) ?_
  refine c_getr (q := (cq q x y)) (r := 6) B (iC0 _) hK hM 10 2 0 (by decide) rfl rfl (by decide) (by decide) rfl rfl rfl (cFx_r hF 10 2) (List.mem_cons_of_mem _ wC_fRX0_22) dX0_endLook_1 ?_
  refine lv_iload_n B.1 B.2.1 dX0_endLook_4 rfl (lv_at hl 1 rfl) ?_
  refine c_calli (q := (cq q x y)) (As := [.int (zI i)]) (rest := []) B hK hM 6 (by decide) (by decide) rfl (cX2_number_ok l D cy (cq q x y) a 6 S hF 6 (by decide) i hP (by show -1000000000 ≤ i; omega) (by show i ≤ 1000000000; omega)) (cwC 1 B wC_mRX0_142 wC_im_yX2_number wC_sl_yX2_number wC_in_RX2 wC_cd_yX2_number rfl rfl (by decide +kernel) ⟨Nat.le_of_ble_eq_true rfl, Nat.le_of_ble_eq_true rfl⟩) rfl hl.1 rfl (Nat.le_of_ble_eq_true rfl) dX0_endLook_5 ⟨g_rc hR (Nat.le_refl _) (cFx_gl hF), g_rs hR (Nat.le_refl _) (cFx_gl hF)⟩ (fun z_3 S_2 H locs hp_1 hM => ?_)
  obtain ⟨hp_1, he_hp_1⟩ := hp_1
  have he_hp_1 := he_hp_1.symm
  subst he_hp_1
  have hp_1 : (K2_number 6 i S) = z_3 := hp_1.symm
  subst hp_1
  have f_4 := K2_number_bd i hP
  refine lv_istore_n (lv' := [(2, .int (zI ((K2_number 6 i S)))), (0, .ref (q 10)), (1, .int (zI i))]) B.1 B.2.1 dX0_endLook_8 rfl hl (by decide) rfl (fun ls hl => ?_)
  refine lv_aload_n B.1 B.2.1 dX0_endLook_9 rfl (lv_at hl 1 rfl) ?_
  refine c_getr (q := (cq q x y)) (r := 11) B (iC0 _) hK hM 10 1 0 (by decide) rfl rfl (by decide) (by decide) rfl rfl rfl (cFx_r hF 10 1) (List.mem_cons_of_mem _ wC_fRX0_12) dX0_endLook_10 ?_
  refine lv_aload_n B.1 B.2.1 dX0_endLook_13 rfl (lv_at hl 1 rfl) ?_
  refine c_getr (q := (cq q x y)) (r := 11) B (iC0 _) hK hM 10 1 0 (by decide) rfl rfl (by decide) (by decide) rfl rfl rfl (cFx_r hF 10 1) (List.mem_cons_of_mem _ wC_fRX0_12) dX0_endLook_14 ?_
  refine z_bipush B.1 B.2.1 (by decide) dX0_endLook_17 ?_
  refine lv_iload_n B.1 B.2.1 dX0_endLook_19 rfl (lv_at hl 0 rfl) ?_
  refine z_iadd (x := 70 + ((K2_number 6 i S))) B.1 B.2.1 rfl dX0_endLook_20 ?_
  refine c_calli (q := (cq q x y)) (As := [.int (zI (70 + ((K2_number 6 i S))))]) (rest := [.ref (q 11)]) B hK hM 11 (by decide) (by decide) rfl (cX1_mark_ok l D cy (cq q x y) a 6 S hF  (70 + ((K2_number 6 i S))) (by show -2000000 ≤ (70 + ((K2_number 6 i S))); omega) (by show (70 + ((K2_number 6 i S))) ≤ 2000000; omega)) (cwC 1 B wC_mRX0_51 wC_im_yX1_mark wC_sl_yX1_mark wC_in_RX1 wC_cd_yX1_mark rfl rfl (by decide +kernel) ⟨Nat.le_of_ble_eq_true rfl, Nat.le_of_ble_eq_true rfl⟩) rfl hl.1 rfl (Nat.le_of_ble_eq_true rfl) dX0_endLook_21 ⟨g_rc hR (Nat.le_refl _) (cFx_gl hF), g_rs hR (Nat.le_refl _) (cFx_gl hF)⟩ (fun z_7 S_6 H locs hp_5 hM => ?_)
  obtain ⟨hp_5, he_hp_5⟩ := hp_5
  have he_hp_5 := he_hp_5.symm
  subst he_hp_5
  have hp_5 : (K1_mark (70 + ((K2_number 6 i S))) S) = z_7 := hp_5.symm
  subst hp_5
  have f_8 := K1_mark_bd (S := S) (70 + ((K2_number 6 i S))) hV
  refine c_callv (q := (cq q x y)) (As := [.int (zI ((K1_mark (70 + ((K2_number 6 i S))) S)))]) (rest := []) B hK hM 11 (by decide) (by decide) rfl (cX1_cut_ok l D cy (cq q x y) a 6 S hF  ((K1_mark (70 + ((K2_number 6 i S))) S)) (by show -1000000 ≤ ((K1_mark (70 + ((K2_number 6 i S))) S)); omega) (by show ((K1_mark (70 + ((K2_number 6 i S))) S)) ≤ 1000000; omega) hV) (cwC 1 B wC_mRX0_180 wC_im_yX1_cut wC_sl_yX1_cut wC_in_RX1 wC_cd_yX1_cut rfl rfl (by decide +kernel) ⟨Nat.le_of_ble_eq_true rfl, Nat.le_of_ble_eq_true rfl⟩) rfl hl.1 rfl (Nat.le_of_ble_eq_true rfl) dX0_endLook_24 ⟨g_rc hR (Nat.le_refl _) (cFx_gl hF), g_rs hR (Nat.le_refl _) (cFx_gl hF)⟩ (fun S_10 H locs hp_9 hM => ?_)
  have hp_9 := hp_9.symm
  subst hp_9
  have hg : gl S ≤ gl (K1_cut ((K1_mark (70 + ((K2_number 6 i S))) S)) S) := Nat.le_trans (Nat.le_refl _) (gl_of (congrArg Prod.snd K1_cut_2))
  refine W.widen (k := gl (K1_cut ((K1_mark (70 + ((K2_number 6 i S))) S)) S) - gl S) (n := 2 * (gl (K1_cut ((K1_mark (70 + ((K2_number 6 i S))) S)) S) - gl S)) (Nat.sub_le_sub_right (gl_of (S := S) (S' := (K1_cut ((K1_mark (70 + ((K2_number 6 i S))) S)) S)) (congrArg Prod.snd K1_cut_2)) _) (Nat.mul_le_mul_left 2 (Nat.sub_le_sub_right (gl_of (S := S) (S' := (K1_cut ((K1_mark (70 + ((K2_number 6 i S))) S)) S)) (congrArg Prod.snd K1_cut_2)) _)) ?_
  have hV : sV (K1_cut ((K1_mark (70 + ((K2_number 6 i S))) S)) S) := sV_cut hV
  have hF : cFx a 6 (K1_cut ((K1_mark (70 + ((K2_number 6 i S))) S)) S) := cFx_of (congrArg Prod.snd K1_cut_2) hF
  have hP : pB 6 (K1_cut ((K1_mark (70 + ((K2_number 6 i S))) S)) S) := pB_of (K1_cut_1 (by decide)) (fun j hj => K1_cut_1 (by unfold pA; omega)) hP
  refine lv_aload_n B.1 B.2.1 dX0_endLook_27 rfl (lv_at hl 1 rfl) ?_
  refine lv_aload_n B.1 B.2.1 dX0_endLook_28 rfl (lv_at hl 1 rfl) ?_
  refine c_getr (q := (cq q x y)) (r := 11) B (iC0 _) hK hM 10 1 0 (by decide) rfl rfl (by decide) (by decide) rfl rfl rfl (cFx_r hF 10 1) (List.mem_cons_of_mem _ wC_fRX0_12) dX0_endLook_29 ?_
  refine z_bipush B.1 B.2.1 (by decide) dX0_endLook_32 ?_
  refine lv_iload_n B.1 B.2.1 dX0_endLook_34 rfl (lv_at hl 0 rfl) ?_
  refine z_iadd (x := 80 + ((K2_number 6 i S))) B.1 B.2.1 rfl dX0_endLook_35 ?_
  refine c_calli (q := (cq q x y)) (As := [.int (zI (80 + ((K2_number 6 i S))))]) (rest := [.ref (q 10)]) B hK hM 11 (by decide) (by decide) rfl (cX1_mark_ok l D cy (cq q x y) a 6 (K1_cut ((K1_mark (70 + ((K2_number 6 i S))) S)) S) hF  (80 + ((K2_number 6 i S))) (by show -2000000 ≤ (80 + ((K2_number 6 i S))); omega) (by show (80 + ((K2_number 6 i S))) ≤ 2000000; omega)) (cwC 1 B wC_mRX0_51 wC_im_yX1_mark wC_sl_yX1_mark wC_in_RX1 wC_cd_yX1_mark rfl rfl (by decide +kernel) ⟨Nat.le_of_ble_eq_true rfl, Nat.le_of_ble_eq_true rfl⟩) rfl hl.1 rfl (Nat.le_of_ble_eq_true rfl) dX0_endLook_36 ⟨g_rc hR hg (cFx_gl hF), g_rs hR hg (cFx_gl hF)⟩ (fun z_13 S_12 H locs hp_11 hM => ?_)
  obtain ⟨hp_11, he_hp_11⟩ := hp_11
  have he_hp_11 := he_hp_11.symm
  subst he_hp_11
  have hp_11 : (K1_mark (80 + ((K2_number 6 i S))) (K1_cut ((K1_mark (70 + ((K2_number 6 i S))) S)) S)) = z_13 := hp_11.symm
  subst hp_11
  have f_14 := K1_mark_bd (S := (K1_cut ((K1_mark (70 + ((K2_number 6 i S))) S)) S)) (80 + ((K2_number 6 i S))) hV
  refine c_puti (q := (cq q x y)) B (iC0 _) tyX0 tyX0_ok nmX0 hK hM 10 3 0 (by decide) rfl rfl (by decide) (by decide) rfl rfl rfl (by decide +kernel) (by decide) (List.mem_cons_of_mem _ wC_fRX0_58) dX0_endLook_39 (fun H locs hM => ?_)
  have hV : sV (ci (K1_cut ((K1_mark (70 + ((K2_number 6 i S))) S)) S) 10 3 ((K1_mark (80 + ((K2_number 6 i S))) (K1_cut ((K1_mark (70 + ((K2_number 6 i S))) S)) S)))) := sV_ci hV (by decide)
  have hP : pB 6 (ci (K1_cut ((K1_mark (70 + ((K2_number 6 i S))) S)) S) 10 3 ((K1_mark (80 + ((K2_number 6 i S))) (K1_cut ((K1_mark (70 + ((K2_number 6 i S))) S)) S)))) := pB_ci (by decide) (by decide) hP
  refine lv_iload_n B.1 B.2.1 dX0_endLook_42 rfl (lv_at hl 2 rfl) ?_
  refine z_iconst B.1 B.2.1 dX0_endLook_43 ?_
  refine z_iadd (x := i + 1) B.1 B.2.1 rfl dX0_endLook_44 ?_
  exact g_reti (S := (ci (K1_cut ((K1_mark (70 + ((K2_number 6 i S))) S)) S) 10 3 ((K1_mark (80 + ((K2_number 6 i S))) (K1_cut ((K1_mark (70 + ((K2_number 6 i S))) S)) S))))) B hM (by unfold K0_endLook; rfl) dX0_endLook_45
def K0_beginLookNot (i : Int) (S : CSt) : CR := (if (K1_set (70 + ((K2_number 6 i S))) (S.1 11 3) S).1 = 0 then (if (K1_choose ((K2_aim 6 i (K1_set (70 + ((K2_number 6 i S))) (S.1 11 3) S).2.2)) (S.1 10 3) (K1_set (70 + ((K2_number 6 i S))) (S.1 11 3) S).2.2).1 = 0 then (0, i + 1, (K1_choose ((K2_aim 6 i (K1_set (70 + ((K2_number 6 i S))) (S.1 11 3) S).2.2)) (S.1 10 3) (K1_set (70 + ((K2_number 6 i S))) (S.1 11 3) S).2.2).2.2) else (1, 0, (K1_choose ((K2_aim 6 i (K1_set (70 + ((K2_number 6 i S))) (S.1 11 3) S).2.2)) (S.1 10 3) (K1_set (70 + ((K2_number 6 i S))) (S.1 11 3) S).2.2).2.2)) else (1, 0, (K1_set (70 + ((K2_number 6 i S))) (S.1 11 3) S).2.2))
set_option maxHeartbeats 1000000 in
set_option maxRecDepth 100000 in
theorem cX0_beginLookNot_ok (l : Launch) (hl0 : l.stackTraces = false) (D : va_G) (cy : Nat → ClassId) (q : Nat → Nat) (V : Nat × (Nat → Nat)) (n0 x y a : Nat) (S : CSt) (hF : cFx a 6 S) (i : Int) (ha36 : a < 36) (hX : xV S) (h0 : 0 ≤ i) (h1 : i ≤ 1000)(hc4 : S.1 11 4 ≤ 11900) (hc3 : S.1 11 3 ≤ 8990) : gMi l D cy q V n0 x y "java/lang/UnsupportedOperationException" yX0_beginLookNot (.code yX0_beginLookNot cX0_beginLookNot 2 (some .int) :: TBC) 3 104 S [.ref (q 10), .int (zI i)] (K0_beginLookNot i S) := by
  refine g_of (cc := cX0_beginLookNot) (maxL := 2) (ret := (some .int)) (by decide) rfl rfl (Nat.le_of_ble_eq_true rfl) ?_
  intro p e s m args below meth c ls B hK hG hM hl
  generalize gA (cq q x y) n0 = A at hG hM ⊢
  have hR : (headSpec (.code yX0_beginLookNot cX0_beginLookNot 2 (some .int) :: TBC) (gRm 3 104 S)).room.cells = (gK - gl S) + 1 ∧ (headSpec (.code yX0_beginLookNot cX0_beginLookNot 2 (some .int) :: TBC) (gRm 3 104 S)).room.slots = 2 * (gK - gl S) + 6 := ⟨rfl, rfl⟩
  have hl : lv_has ls 2 [(0, .ref (q 10)), (1, .int (zI i))] := hl
  obtain ⟨hV, hP, ht0, ht1, hcs, hp0, hp1, hs0, hs1, h18, h24, h25, h35⟩ := id hX
  obtain ⟨hMk, hu30, hu31, hu40, hu41, hM6, hM7⟩ := id hV
  refine lv_aload_n B.1 B.2.1 dX0_beginLookNot_0 rfl (lv_at hl 0 rfl) ?_
  refine c_getr (q := (cq q x y)) (r := 11) B (iC0 _) hK hM 10 1 0 (by decide) rfl rfl (by decide) (by decide) rfl rfl rfl (cFx_r hF 10 1) (List.mem_cons_of_mem _ wC_fRX0_12) dX0_beginLookNot_1 ?_
  refine z_bipush B.1 B.2.1 (by decide) dX0_beginLookNot_4 ?_
  refine lv_aload_n B.1 B.2.1 dX0_beginLookNot_6 rfl (lv_at hl 0 rfl) ?_
  refine c_getr (q := (cq q x y)) (r := 6) B (iC0 _) hK hM 10 2 0 (by decide) rfl rfl (by decide) (by decide) rfl rfl rfl (cFx_r hF 10 2) (List.mem_cons_of_mem _ wC_fRX0_22) dX0_beginLookNot_7 ?_
  refine lv_iload_n B.1 B.2.1 dX0_beginLookNot_10 rfl (lv_at hl 1 rfl) ?_
  refine c_calli (q := (cq q x y)) (As := [.int (zI i)]) (rest := [.int (zI 70), .ref (q 11)]) B hK hM 6 (by decide) (by decide) rfl (cX2_number_ok l D cy (cq q x y) a 6 S hF 6 (by decide) i hP (by show -1000000000 ≤ i; omega) (by show i ≤ 1000000000; omega)) (cwC 1 B wC_mRX0_142 wC_im_yX2_number wC_sl_yX2_number wC_in_RX2 wC_cd_yX2_number rfl rfl (by decide +kernel) ⟨Nat.le_of_ble_eq_true rfl, Nat.le_of_ble_eq_true rfl⟩) rfl hl.1 rfl (Nat.le_of_ble_eq_true rfl) dX0_beginLookNot_11 ⟨g_rc hR (Nat.le_refl _) (cFx_gl hF), g_rs hR (Nat.le_refl _) (cFx_gl hF)⟩ (fun z_3 S_2 H locs hp_1 hM => ?_)
  obtain ⟨hp_1, he_hp_1⟩ := hp_1
  have he_hp_1 := he_hp_1.symm
  subst he_hp_1
  have hp_1 : (K2_number 6 i S) = z_3 := hp_1.symm
  subst hp_1
  have f_4 := K2_number_bd i hP
  refine z_iadd (x := 70 + ((K2_number 6 i S))) B.1 B.2.1 rfl dX0_beginLookNot_14 ?_
  refine lv_aload_n B.1 B.2.1 dX0_beginLookNot_15 rfl (lv_at hl 0 rfl) ?_
  refine c_getr (q := (cq q x y)) (r := 11) B (iC0 _) hK hM 10 1 0 (by decide) rfl rfl (by decide) (by decide) rfl rfl rfl (cFx_r hF 10 1) (List.mem_cons_of_mem _ wC_fRX0_12) dX0_beginLookNot_16 ?_
  refine c_calli (q := (cq q x y)) (As := []) (rest := [.int (zI (70 + ((K2_number 6 i S)))), .ref (q 11)]) B hK hM 11 (by decide) (by decide) rfl (cX1_height_ok l D cy (cq q x y) a 6 S hF   ) (cwC 0 B wC_mRX0_177 wC_im_yX1_height wC_sl_yX1_height wC_in_RX1 wC_cd_yX1_height rfl rfl (by decide +kernel) ⟨Nat.le_of_ble_eq_true rfl, Nat.le_of_ble_eq_true rfl⟩) rfl hl.1 rfl (Nat.le_of_ble_eq_true rfl) dX0_beginLookNot_19 ⟨g_rc hR (Nat.le_refl _) (cFx_gl hF), g_rs hR (Nat.le_refl _) (cFx_gl hF)⟩ (fun z_7 S_6 H locs hp_5 hM => ?_)
  obtain ⟨hp_5, he_hp_5⟩ := hp_5
  have he_hp_5 := he_hp_5.symm
  subst he_hp_5
  have hp_5 : S.1 11 3 = z_7 := hp_5.symm
  subst hp_5
  have hvo4 := hV.2.2.2.1
  refine g_callv (E := "java/lang/UnsupportedOperationException") (As := [.int (zI (70 + ((K2_number 6 i S)))), .int (zI (S.1 11 3))]) (rest := []) B hK hG hM 11 (by decide) (by decide) rfl (cX1_set_ok l hl0 D cy q V n0 x y a 6 S hF  (70 + ((K2_number 6 i S))) (S.1 11 3) ha36 (by decide) "java/lang/UnsupportedOperationException" (by show -2000000 ≤ (70 + ((K2_number 6 i S))); omega) (by show (70 + ((K2_number 6 i S))) ≤ 2000000; omega) (by show -1 ≤ (S.1 11 3); omega) (by show (S.1 11 3) ≤ 100000; omega) hV (by show (S.1 11 4) ≤ 12000; omega)) (cwC 2 B wC_mRX0_65 wC_im_yX1_set wC_sl_yX1_set wC_in_RX1 wC_cd_yX1_set rfl rfl (by decide +kernel) ⟨Nat.le_of_ble_eq_true rfl, Nat.le_of_ble_eq_true rfl⟩) rfl hl.1 rfl (Nat.le_of_ble_eq_true rfl) dX0_beginLookNot_22 hR (Nat.le_refl _) (cFx_gl hF) (K1_set_F (S := S) hF hvo4 (by show (S.1 11 4) ≤ 12000; omega)).2 (fun c_8 => (by unfold K0_beginLookNot; exact (if_neg c_8))) (fun x y H locs c_8 hM => ?_)
  have hg : gl S ≤ gl (K1_set (70 + ((K2_number 6 i S))) (S.1 11 3) S).2.2 := Nat.le_trans (Nat.le_refl _) (K1_set_F (S := S) hF hvo4 (by show (S.1 11 4) ≤ 12000; omega)).2
  have hFo : cFx a 6 S := hF
  have f_9 := K1_set_u (i := 70 + ((K2_number 6 i S))) (v := S.1 11 3) (S := S) hFo hV.2.2.2.1 hV.2.2.2.2.1
  have f_9b := K1_set_3 (i := 70 + ((K2_number 6 i S))) (v := S.1 11 3) (S := S)
  have hV : sV (K1_set (70 + ((K2_number 6 i S))) (S.1 11 3) S).2.2 := sV_set (i := 70 + ((K2_number 6 i S))) (v := S.1 11 3) (S := S) hFo hV (by omega) (by omega)
  have hF : cFx a 6 (K1_set (70 + ((K2_number 6 i S))) (S.1 11 3) S).2.2 := (K1_set_F (i := 70 + ((K2_number 6 i S))) (v := S.1 11 3) (S := S) hFo hvo4 (by show (S.1 11 4) ≤ 12000; omega)).1
  have hP := pB_set (i := 70 + ((K2_number 6 i S))) (v := S.1 11 3) (S := S) hP
  refine lv_aload_n B.1 B.2.1 dX0_beginLookNot_25 rfl (lv_at hl 0 rfl) ?_
  refine c_getr (q := (cq q x y)) (r := 11) B (iC0 _) hK hM 10 1 0 (by decide) rfl rfl (by decide) (by decide) rfl rfl rfl (cFx_r hF 10 1) (List.mem_cons_of_mem _ wC_fRX0_12) dX0_beginLookNot_26 ?_
  refine lv_aload_n B.1 B.2.1 dX0_beginLookNot_29 rfl (lv_at hl 0 rfl) ?_
  refine c_getr (q := (cq q x y)) (r := 6) B (iC0 _) hK hM 10 2 0 (by decide) rfl rfl (by decide) (by decide) rfl rfl rfl (cFx_r hF 10 2) (List.mem_cons_of_mem _ wC_fRX0_22) dX0_beginLookNot_30 ?_
  refine lv_iload_n B.1 B.2.1 dX0_beginLookNot_33 rfl (lv_at hl 1 rfl) ?_
  refine c_calli (q := (cq q x y)) (As := [.int (zI i)]) (rest := [.ref (q 11)]) B hK hM 6 (by decide) (by decide) rfl (cX2_aim_ok l D cy (cq q x y) a 6 (K1_set (70 + ((K2_number 6 i S))) (S.1 11 3) S).2.2 hF 6 (by decide) i hP (by show -1000000000 ≤ i; omega) (by show i ≤ 1000000000; omega)) (cwC 1 B wC_mRX0_94 wC_im_yX2_aim wC_sl_yX2_aim wC_in_RX2 wC_cd_yX2_aim rfl rfl (by decide +kernel) ⟨Nat.le_of_ble_eq_true rfl, Nat.le_of_ble_eq_true rfl⟩) rfl hl.1 rfl (Nat.le_of_ble_eq_true rfl) dX0_beginLookNot_34 ⟨g_rc hR hg (cFx_gl hF), g_rs hR hg (cFx_gl hF)⟩ (fun z_12 S_11 H locs hp_10 hM => ?_)
  obtain ⟨hp_10, he_hp_10⟩ := hp_10
  have he_hp_10 := he_hp_10.symm
  subst he_hp_10
  have hp_10 : (K2_aim 6 i (K1_set (70 + ((K2_number 6 i S))) (S.1 11 3) S).2.2) = z_12 := hp_10.symm
  subst hp_10
  have f_13 := K2_aim_bd i hP
  have f_14 := K2_aim_b2 (S := (K1_set (70 + ((K2_number 6 i S))) (S.1 11 3) S).2.2) i (fun j => by rw [show (K1_set (70 + ((K2_number 6 i S))) (S.1 11 3) S).2.2.1 18 j = S.1 18 j from (by simp only [K1_set_1 (m := 18) (by decide) (by decide) (by decide)])]; exact h18 j)
  refine lv_aload_n B.1 B.2.1 dX0_beginLookNot_37 rfl (lv_at hl 0 rfl) ?_
  refine c_geti (q := (cq q x y)) (x := S.1 10 3) B (iC0 _) hK hM 10 3 0 (by decide) rfl rfl (by decide) (by decide) rfl rfl (by decide) (by simp only [K1_set_1 (m := 10) (by decide) (by decide) (by decide)]) (List.mem_cons_of_mem _ wC_fRX0_58) dX0_beginLookNot_38 ?_
  have hvo3 := hV.2.1
  refine g_callv (E := "java/lang/UnsupportedOperationException") (As := [.int (zI ((K2_aim 6 i (K1_set (70 + ((K2_number 6 i S))) (S.1 11 3) S).2.2))), .int (zI (S.1 10 3))]) (rest := []) B hK hG hM 11 (by decide) (by decide) rfl (cX1_choose_ok l hl0 D cy q V n0 x y a 6 (K1_set (70 + ((K2_number 6 i S))) (S.1 11 3) S).2.2 hF  ((K2_aim 6 i (K1_set (70 + ((K2_number 6 i S))) (S.1 11 3) S).2.2)) (S.1 10 3) ha36 (by decide) "java/lang/UnsupportedOperationException" hV (by show ((K1_set (70 + ((K2_number 6 i S))) (S.1 11 3) S).2.2.1 11 3) ≤ 9000; omega)) (cwC 2 B wC_mRX0_159 wC_im_yX1_choose wC_sl_yX1_choose wC_in_RX1 wC_cd_yX1_choose rfl rfl (by decide +kernel) ⟨Nat.le_of_ble_eq_true rfl, Nat.le_of_ble_eq_true rfl⟩) rfl hl.1 rfl (Nat.le_of_ble_eq_true rfl) dX0_beginLookNot_41 hR hg (cFx_gl hF) (K1_choose_F (S := (K1_set (70 + ((K2_number 6 i S))) (S.1 11 3) S).2.2) hF hvo3 (by show ((K1_set (70 + ((K2_number 6 i S))) (S.1 11 3) S).2.2.1 11 3) ≤ 9000; omega)).2 (fun c_15 => (by unfold K0_beginLookNot; exact ((if_pos c_8).trans (if_neg c_15)))) (fun x y H locs c_15 hM => ?_)
  have hg : gl S ≤ gl (K1_choose ((K2_aim 6 i (K1_set (70 + ((K2_number 6 i S))) (S.1 11 3) S).2.2)) (S.1 10 3) (K1_set (70 + ((K2_number 6 i S))) (S.1 11 3) S).2.2).2.2 := Nat.le_trans hg (K1_choose_F (S := (K1_set (70 + ((K2_number 6 i S))) (S.1 11 3) S).2.2) hF hvo3 (by show ((K1_set (70 + ((K2_number 6 i S))) (S.1 11 3) S).2.2.1 11 3) ≤ 9000; omega)).2
  have hFo : cFx a 6 (K1_set (70 + ((K2_number 6 i S))) (S.1 11 3) S).2.2 := hF
  have f_16 := K1_choose_u (ow := (K2_aim 6 i (K1_set (70 + ((K2_number 6 i S))) (S.1 11 3) S).2.2)) (pl := S.1 10 3) (S := (K1_set (70 + ((K2_number 6 i S))) (S.1 11 3) S).2.2) hFo hV.2.1 hV.2.2.1
  have f_16b := K1_choose_4 (ow := (K2_aim 6 i (K1_set (70 + ((K2_number 6 i S))) (S.1 11 3) S).2.2)) (pl := S.1 10 3) (S := (K1_set (70 + ((K2_number 6 i S))) (S.1 11 3) S).2.2)
  have hV : sV (K1_choose ((K2_aim 6 i (K1_set (70 + ((K2_number 6 i S))) (S.1 11 3) S).2.2)) (S.1 10 3) (K1_set (70 + ((K2_number 6 i S))) (S.1 11 3) S).2.2).2.2 := sV_choose (ow := (K2_aim 6 i (K1_set (70 + ((K2_number 6 i S))) (S.1 11 3) S).2.2)) (pl := S.1 10 3) (S := (K1_set (70 + ((K2_number 6 i S))) (S.1 11 3) S).2.2) hFo hV (by omega) (by omega) (by omega) (by omega) (by show ((K1_set (70 + ((K2_number 6 i S))) (S.1 11 3) S).2.2.1 11 4) ≤ 100000; omega)
  have hF : cFx a 6 (K1_choose ((K2_aim 6 i (K1_set (70 + ((K2_number 6 i S))) (S.1 11 3) S).2.2)) (S.1 10 3) (K1_set (70 + ((K2_number 6 i S))) (S.1 11 3) S).2.2).2.2 := (K1_choose_F (ow := (K2_aim 6 i (K1_set (70 + ((K2_number 6 i S))) (S.1 11 3) S).2.2)) (pl := S.1 10 3) (S := (K1_set (70 + ((K2_number 6 i S))) (S.1 11 3) S).2.2) hFo hvo3 (by show ((K1_set (70 + ((K2_number 6 i S))) (S.1 11 3) S).2.2.1 11 3) ≤ 9000; omega)).1
  have hP := pB_choose (ow := (K2_aim 6 i (K1_set (70 + ((K2_number 6 i S))) (S.1 11 3) S).2.2)) (pl := S.1 10 3) (S := (K1_set (70 + ((K2_number 6 i S))) (S.1 11 3) S).2.2) hP
  refine lv_iload_n B.1 B.2.1 dX0_beginLookNot_44 rfl (lv_at hl 1 rfl) ?_
  refine z_iconst B.1 B.2.1 dX0_beginLookNot_45 ?_
  refine z_iadd (x := i + 1) B.1 B.2.1 rfl dX0_beginLookNot_46 ?_
  exact g_reti (S := (K1_choose ((K2_aim 6 i (K1_set (70 + ((K2_number 6 i S))) (S.1 11 3) S).2.2)) (S.1 10 3) (K1_set (70 + ((K2_number 6 i S))) (S.1 11 3) S).2.2).2.2) B hM (by unfold K0_beginLookNot; exact ((if_pos c_8).trans (if_pos c_15))) dX0_beginLookNot_47
def K0_endLookNot (i : Int) (S : CSt) : CR := (0, (-1), (K1_cut ((K1_mark (70 + ((K2_number 6 i S))) S)) S))
set_option maxHeartbeats 1000000 in
set_option maxRecDepth 100000 in
theorem cX0_endLookNot_ok (l : Launch) (hl0 : l.stackTraces = false) (D : va_G) (cy : Nat → ClassId) (q : Nat → Nat) (V : Nat × (Nat → Nat)) (n0 x y a : Nat) (S : CSt) (hF : cFx a 6 S) (i : Int) (ha36 : a < 36) (hX : xV S) (h0 : 0 ≤ i) (h1 : i ≤ 1000)(hc4 : S.1 11 4 ≤ 11900) (hc3 : S.1 11 3 ≤ 8990) : gMi l D cy q V n0 x y "java/lang/UnsupportedOperationException" yX0_endLookNot (.code yX0_endLookNot cX0_endLookNot 2 (some .int) :: TBC) 2 42 S [.ref (q 10), .int (zI i)] (K0_endLookNot i S) := by
  refine g_of (cc := cX0_endLookNot) (maxL := 2) (ret := (some .int)) (by decide) rfl rfl (Nat.le_of_ble_eq_true rfl) ?_
  intro p e s m args below meth c ls B hK hG hM hl
  generalize gA (cq q x y) n0 = A at hG hM ⊢
  have hR : (headSpec (.code yX0_endLookNot cX0_endLookNot 2 (some .int) :: TBC) (gRm 2 42 S)).room.cells = (gK - gl S) + 1 ∧ (headSpec (.code yX0_endLookNot cX0_endLookNot 2 (some .int) :: TBC) (gRm 2 42 S)).room.slots = 2 * (gK - gl S) + 6 := ⟨rfl, rfl⟩
  have hl : lv_has ls 2 [(0, .ref (q 10)), (1, .int (zI i))] := hl
  obtain ⟨hV, hP, ht0, ht1, hcs, hp0, hp1, hs0, hs1, h18, h24, h25, h35⟩ := id hX
  obtain ⟨hMk, hu30, hu31, hu40, hu41, hM6, hM7⟩ := id hV
  refine lv_aload_n B.1 B.2.1 dX0_endLookNot_0 rfl (lv_at hl 0 rfl) ?_
  refine c_getr (q := (cq q x y)) (r := 11) B (iC0 _) hK hM 10 1 0 (by decide) rfl rfl (by decide) (by decide) rfl rfl rfl (cFx_r hF 10 1) (List.mem_cons_of_mem _ wC_fRX0_12) dX0_endLookNot_1 ?_
  refine lv_aload_n B.1 B.2.1 dX0_endLookNot_4 rfl (lv_at hl 0 rfl) ?_
  refine c_getr (q := (cq q x y)) (r := 11) B (iC0 _) hK hM 10 1 0 (by decide) rfl rfl (by decide) (by decide) rfl rfl rfl (cFx_r hF 10 1) (List.mem_cons_of_mem _ wC_fRX0_12) dX0_endLookNot_5 ?_
  refine z_bipush B.1 B.2.1 (by decide) dX0_endLookNot_8 ?_
  refine lv_aload_n B.1 B.2.1 dX0_endLookNot_10 rfl (lv_at hl 0 rfl) ?_
  refine c_getr (q := (cq q x y)) (r := 6) B (iC0 _) hK hM 10 2 0 (by decide) rfl rfl (by decide) (by decide) rfl rfl rfl (cFx_r hF 10 2) (List.mem_cons_of_mem _ wC_fRX0_22) dX0_endLookNot_11 ?_
  refine lv_iload_n B.1 B.2.1 dX0_endLookNot_14 rfl (lv_at hl 1 rfl) ?_
  refine c_calli (q := (cq q x y)) (As := [.int (zI i)]) (rest := [.int (zI 70), .ref (q 11), .ref (q 11)]) B hK hM 6 (by decide) (by decide) rfl (cX2_number_ok l D cy (cq q x y) a 6 S hF 6 (by decide) i hP (by show -1000000000 ≤ i; omega) (by show i ≤ 1000000000; omega)) (cwC 1 B wC_mRX0_142 wC_im_yX2_number wC_sl_yX2_number wC_in_RX2 wC_cd_yX2_number rfl rfl (by decide +kernel) ⟨Nat.le_of_ble_eq_true rfl, Nat.le_of_ble_eq_true rfl⟩) rfl hl.1 rfl (Nat.le_of_ble_eq_true rfl) dX0_endLookNot_15 ⟨g_rc hR (Nat.le_refl _) (cFx_gl hF), g_rs hR (Nat.le_refl _) (cFx_gl hF)⟩ (fun z_3 S_2 H locs hp_1 hM => ?_)
  obtain ⟨hp_1, he_hp_1⟩ := hp_1
  have he_hp_1 := he_hp_1.symm
  subst he_hp_1
  have hp_1 : (K2_number 6 i S) = z_3 := hp_1.symm
  subst hp_1
  have f_4 := K2_number_bd i hP
  refine z_iadd (x := 70 + ((K2_number 6 i S))) B.1 B.2.1 rfl dX0_endLookNot_18 ?_
  refine c_calli (q := (cq q x y)) (As := [.int (zI (70 + ((K2_number 6 i S))))]) (rest := [.ref (q 11)]) B hK hM 11 (by decide) (by decide) rfl (cX1_mark_ok l D cy (cq q x y) a 6 S hF  (70 + ((K2_number 6 i S))) (by show -2000000 ≤ (70 + ((K2_number 6 i S))); omega) (by show (70 + ((K2_number 6 i S))) ≤ 2000000; omega)) (cwC 1 B wC_mRX0_51 wC_im_yX1_mark wC_sl_yX1_mark wC_in_RX1 wC_cd_yX1_mark rfl rfl (by decide +kernel) ⟨Nat.le_of_ble_eq_true rfl, Nat.le_of_ble_eq_true rfl⟩) rfl hl.1 rfl (Nat.le_of_ble_eq_true rfl) dX0_endLookNot_19 ⟨g_rc hR (Nat.le_refl _) (cFx_gl hF), g_rs hR (Nat.le_refl _) (cFx_gl hF)⟩ (fun z_7 S_6 H locs hp_5 hM => ?_)
  obtain ⟨hp_5, he_hp_5⟩ := hp_5
  have he_hp_5 := he_hp_5.symm
  subst he_hp_5
  have hp_5 : (K1_mark (70 + ((K2_number 6 i S))) S) = z_7 := hp_5.symm
  subst hp_5
  have f_8 := K1_mark_bd (S := S) (70 + ((K2_number 6 i S))) hV
  refine c_callv (q := (cq q x y)) (As := [.int (zI ((K1_mark (70 + ((K2_number 6 i S))) S)))]) (rest := []) B hK hM 11 (by decide) (by decide) rfl (cX1_cut_ok l D cy (cq q x y) a 6 S hF  ((K1_mark (70 + ((K2_number 6 i S))) S)) (by show -1000000 ≤ ((K1_mark (70 + ((K2_number 6 i S))) S)); omega) (by show ((K1_mark (70 + ((K2_number 6 i S))) S)) ≤ 1000000; omega) hV) (cwC 1 B wC_mRX0_180 wC_im_yX1_cut wC_sl_yX1_cut wC_in_RX1 wC_cd_yX1_cut rfl rfl (by decide +kernel) ⟨Nat.le_of_ble_eq_true rfl, Nat.le_of_ble_eq_true rfl⟩) rfl hl.1 rfl (Nat.le_of_ble_eq_true rfl) dX0_endLookNot_22 ⟨g_rc hR (Nat.le_refl _) (cFx_gl hF), g_rs hR (Nat.le_refl _) (cFx_gl hF)⟩ (fun S_10 H locs hp_9 hM => ?_)
  have hp_9 := hp_9.symm
  subst hp_9
  have hg : gl S ≤ gl (K1_cut ((K1_mark (70 + ((K2_number 6 i S))) S)) S) := Nat.le_trans (Nat.le_refl _) (gl_of (congrArg Prod.snd K1_cut_2))
  refine W.widen (k := gl (K1_cut ((K1_mark (70 + ((K2_number 6 i S))) S)) S) - gl S) (n := 2 * (gl (K1_cut ((K1_mark (70 + ((K2_number 6 i S))) S)) S) - gl S)) (Nat.sub_le_sub_right (gl_of (S := S) (S' := (K1_cut ((K1_mark (70 + ((K2_number 6 i S))) S)) S)) (congrArg Prod.snd K1_cut_2)) _) (Nat.mul_le_mul_left 2 (Nat.sub_le_sub_right (gl_of (S := S) (S' := (K1_cut ((K1_mark (70 + ((K2_number 6 i S))) S)) S)) (congrArg Prod.snd K1_cut_2)) _)) ?_
  have hV : sV (K1_cut ((K1_mark (70 + ((K2_number 6 i S))) S)) S) := sV_cut hV
  have hF : cFx a 6 (K1_cut ((K1_mark (70 + ((K2_number 6 i S))) S)) S) := cFx_of (congrArg Prod.snd K1_cut_2) hF
  have hP : pB 6 (K1_cut ((K1_mark (70 + ((K2_number 6 i S))) S)) S) := pB_of (K1_cut_1 (by decide)) (fun j hj => K1_cut_1 (by unfold pA; omega)) hP
  refine z_iconst B.1 B.2.1 dX0_endLookNot_25 ?_
  exact g_reti (S := (K1_cut ((K1_mark (70 + ((K2_number 6 i S))) S)) S)) B hM (by unfold K0_endLookNot; rfl) dX0_endLookNot_26
