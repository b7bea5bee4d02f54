def K3_altL (F : Int → CSt → CR) (dp : Int) : Nat → Int → Int → Int → Int → CSt → CR
  | 0, bg, wt, j, i, T => (0, wt, (K2_aimChainAt 7 j (T.1 7 5) T))
  | n + 1, bg, wt, j, i, T => (if 40 ≤ i then (0, wt, (K2_aimChainAt 7 j (T.1 7 5) T)) else (gLt (K3_take 124 T) (fun v_13 S_14 => (if v_13 = 0 then (0, wt, (K2_aimChainAt 7 j (S_14.1 7 5) S_14)) else (gBd (K2_add 6 j (-1) S_14) (fun v_25 S_26 => (gBd (K2_add 5 (-1) (-1) S_26) (fun v_29 S_30 => (gBd (K3_readRow F dp (K2_aimAt 7 bg v_29 S_30)) (fun v_36 S_37 => K3_altL F dp n v_29 (wt + (1 + v_36)) v_25 (i + 1) S_37))))))))))
set_option maxHeartbeats 1000000 in
set_option maxRecDepth 100000 in
theorem lp3_alt (l : Launch) (hl0 : l.stackTraces = false) (D : va_G) (cy : Nat → ClassId) (q : Nat → Nat) (V : Nat × (Nat → Nat)) (n0 b : Nat)  (F : Int → CSt → CR) (dp : Int) (fA loA : Nat) (L0 : Int) (hA : ∀ (x y : Nat) (S : CSt) (dp : Int), cFx 7 b S → rV S → L0 + 1 ≤ dp → dp ≤ 8 → 0 ≤ dp → gMi l D cy q V n0 x y "java/lang/IllegalArgumentException" yX3_readAlternatives (.code yX3_readAlternatives cX3_readAlternatives 7 (some .int) :: TBC) fA loA S [.ref (q 8), .int (zI dp)] (F dp S)) (hFR : ∀ (S : CSt) (dp : Int), rV S → rR (wP S) S (F dp S)) (hd0 : L0 ≤ dp) (hd1 : dp ≤ 8) (hd2 : 0 ≤ dp) (S0 : CSt) (rc : CR) {A : Nat → Prop} {p : Program} {e : Env} {s : State} {m : MethodId} {args : Array Value} {below : List Frame} {meth : Method} {c : Code} (B : zAt p s m args meth c RX3 cX3_readAlternatives 7 (some .int) (.code yX3_readAlternatives cX3_readAlternatives 7 (some .int) :: TBC)) (hK : va_K D vwCl (zTY cy) s) (hG : gEn V n0 A s c) (hR : (headSpec (.code yX3_readAlternatives cX3_readAlternatives 7 (some .int) :: TBC) (gRm (fA + 14) (loA + 313) S0)).room.cells = (gK - gl S0) + 1 ∧ (headSpec (.code yX3_readAlternatives cX3_readAlternatives 7 (some .int) :: TBC) (gRm (fA + 14) (loA + 313) S0)).room.slots = 2 * (gK - gl S0) + 6) :
    ∀ (n : Nat) (bg : Int) (wt : Int) (j : Int) (i : Int) (T : CSt) (x y : Nat) (H : Heap) (locs : List Loc) (ls : Array Slot), (cFx 7 b T) → (gl S0 ≤ gl T) → (rV T) → (0 ≤ bg) → (bg ≤ 96) → (0 ≤ wt) → (wt ≤ 120 * T.1 8 3) → (-1 ≤ j) → (j ≤ 96) → (0 ≤ i) → (i ≤ 40) → (40 - i = n) → cH D cy (cq q x y) A s.heap T H locs → lv_has ls 7 [(0, .ref (q 8)), (1, .int (zI dp)), (2, .int (zI bg)), (3, .int (zI wt)), (4, .int (zI j)), (5, .int (zI i))] → (rc = K3_altL F dp n bg wt j i T) → W p l e (headSpec (.code yX3_readAlternatives cX3_readAlternatives 7 (some .int) :: TBC) (gRm (fA + 14) (loA + 313) S0)).room s m args below meth c H locs (gl T - gl S0) (2 * (gl T - gl S0)) (vx_MQ below (gQi D cy q A rc) (gX D cy q A "java/lang/IllegalArgumentException" rc) args s (gc S0 rc) (gs S0 rc) A) (F0 m 23 ls []) := by
  intro n
  induction n with
  | zero =>
    intro bg wt j i T x y H locs ls hF hg hV hb0 hb1 hw0 hw1 hj0 hj1 hi0 hi1 hn hM hl hpost
    obtain ⟨hP, hLa, hLb, hcs, ha0, ha1, hga, hgb, hna, hnb, hma, hmb, hzz⟩ := id hV
    obtain ⟨hPa, p5a, p5b, pla, plb, pka, pkb, pga, pgb, pfa, pfb⟩ := id hP
    refine lv_iload B.1 B.2.1 dX3_readAlternatives_23 (lv_at hl 5 rfl) ?_
    refine z_bipush B.1 B.2.1 (by decide) dX3_readAlternatives_25 ?_
    refine z_icmp_ge (tgt := 94) B.1 B.2.1 (zr_of (by omega) (by omega)) (zr_of (by decide) (by decide)) dX3_readAlternatives_27 (by decide) (fun c_1 => ?_) (fun c_1 => ?_)
    · --
      refine lv_aload_n B.1 B.2.1 dX3_readAlternatives_94 rfl (lv_at hl 0 rfl) ?_
      refine c_getr (q := (cq q x y)) (r := 7) B (iC3 _) hK hM 8 2 3 (by decide) rfl rfl (by decide) (by decide) rfl rfl rfl (cFx_r hF 8 2) (List.mem_cons_of_mem _ wC_fRX3_22) dX3_readAlternatives_95 ?_
      refine lv_iload B.1 B.2.1 dX3_readAlternatives_98 (lv_at hl 4 rfl) ?_
      refine lv_aload_n B.1 B.2.1 dX3_readAlternatives_100 rfl (lv_at hl 0 rfl) ?_
      refine c_getr (q := (cq q x y)) (r := 7) B (iC3 _) hK hM 8 2 3 (by decide) rfl rfl (by decide) (by decide) rfl rfl rfl (cFx_r hF 8 2) (List.mem_cons_of_mem _ wC_fRX3_22) dX3_readAlternatives_101 ?_
      refine c_calli (q := (cq q x y)) (As := []) (rest := [.int (zI j), .ref (q 7)]) B hK hM 7 (by decide) (by decide) rfl (cX2_size_ok l D cy (cq q x y) 7 b T hF 7 (by decide)  ) (cwC 0 B wC_mRX3_84 wC_im_yX2_size wC_sl_yX2_size wC_in_RX2 wC_cd_yX2_size rfl rfl (by decide +kernel) ⟨by show 0 + 1 ≤ fA + 14; omega, by show 8 + (1 + 11) + 0 ≤ loA + 313; omega⟩) rfl hl.1 rfl (Nat.le_of_ble_eq_true rfl) dX3_readAlternatives_104 ⟨g_rc hR hg (cFx_gl (S := T) hF), g_rs hR hg (cFx_gl (S := T) hF)⟩ (fun z_5 S_4 H locs hp_3 hM => ?_)
      obtain ⟨hp_3, he_hp_3⟩ := hp_3
      have he_hp_3 := he_hp_3.symm
      subst he_hp_3
      have hp_3 : T.1 7 5 = z_5 := hp_3.symm
      subst hp_3
      refine c_callv (q := (cq q x y)) (As := [.int (zI j), .int (zI (T.1 7 5))]) (rest := []) B hK hM 7 (by decide) (by decide) rfl (cX2_aimChainAt_ok l D cy (cq q x y) 7 b T hF 7 (by decide) j (T.1 7 5) hP (by show -1 ≤ j; omega) (by show j ≤ 1000000; omega) (by show -1 ≤ (T.1 7 5); omega) (by show (T.1 7 5) ≤ 1000000; omega)) (cwC 2 B wC_mRX3_87 wC_im_yX2_aimChainAt wC_sl_yX2_aimChainAt wC_in_RX2 wC_cd_yX2_aimChainAt rfl rfl (by decide +kernel) ⟨by show 2 + 1 ≤ fA + 14; omega, by show 8 + (6 + 11) + 43 ≤ loA + 313; omega⟩) rfl hl.1 rfl (Nat.le_of_ble_eq_true rfl) dX3_readAlternatives_107 ⟨g_rc hR hg (cFx_gl (S := T) hF), g_rs hR hg (cFx_gl (S := T) hF)⟩ (fun S_8 H locs hp_7 hM => ?_)
      have hp_7 := hp_7.symm
      subst hp_7
      have hg : gl S0 ≤ gl (K2_aimChainAt 7 j (T.1 7 5) T) := Nat.le_trans hg (gl_of (S := T) (S' := (K2_aimChainAt 7 j (T.1 7 5) T)) (congrArg Prod.snd (K2_aimChainAt_2 (by decide))))
      refine W.widen (k := gl (K2_aimChainAt 7 j (T.1 7 5) T) - gl S0) (n := 2 * (gl (K2_aimChainAt 7 j (T.1 7 5) T) - gl S0)) (Nat.sub_le_sub_right (gl_of (S := T) (S' := (K2_aimChainAt 7 j (T.1 7 5) T)) (congrArg Prod.snd (K2_aimChainAt_2 (by decide)))) _) (Nat.mul_le_mul_left 2 (Nat.sub_le_sub_right (gl_of (S := T) (S' := (K2_aimChainAt 7 j (T.1 7 5) T)) (congrArg Prod.snd (K2_aimChainAt_2 (by decide)))) _)) ?_
      have hP : pB 7 (K2_aimChainAt 7 j (T.1 7 5) T) := pB_aimChainAt (by decide) hP (by omega) (by omega)
      have hF : cFx 7 b (K2_aimChainAt 7 j (T.1 7 5) T) := cFx_of (congrArg Prod.snd (K2_aimChainAt_2 (by decide))) hF
      refine lv_iload_n B.1 B.2.1 dX3_readAlternatives_110 rfl (lv_at hl 3 rfl) ?_
      exact g_reti (S := (K2_aimChainAt 7 j (T.1 7 5) T)) B hM (hpost.trans (by rw [K3_altL])) dX3_readAlternatives_111
    · exact absurd c_1 (by omega)
  | succ n ih =>
    intro bg wt j i T x y H locs ls hF hg hV hb0 hb1 hw0 hw1 hj0 hj1 hi0 hi1 hn hM hl hpost
    obtain ⟨hP, hLa, hLb, hcs, ha0, ha1, hga, hgb, hna, hnb, hma, hmb, hzz⟩ := id hV
    obtain ⟨hPa, p5a, p5b, pla, plb, pka, pkb, pga, pgb, pfa, pfb⟩ := id hP
    refine lv_iload B.1 B.2.1 dX3_readAlternatives_23 (lv_at hl 5 rfl) ?_
    refine z_bipush B.1 B.2.1 (by decide) dX3_readAlternatives_25 ?_
    refine z_icmp_ge (tgt := 94) B.1 B.2.1 (zr_of (by omega) (by omega)) (zr_of (by decide) (by decide)) dX3_readAlternatives_27 (by decide) (fun c_1 => ?_) (fun c_1 => ?_)
    · --
      refine lv_aload_n B.1 B.2.1 dX3_readAlternatives_94 rfl (lv_at hl 0 rfl) ?_
      refine c_getr (q := (cq q x y)) (r := 7) B (iC3 _) hK hM 8 2 3 (by decide) rfl rfl (by decide) (by decide) rfl rfl rfl (cFx_r hF 8 2) (List.mem_cons_of_mem _ wC_fRX3_22) dX3_readAlternatives_95 ?_
      refine lv_iload B.1 B.2.1 dX3_readAlternatives_98 (lv_at hl 4 rfl) ?_
      refine lv_aload_n B.1 B.2.1 dX3_readAlternatives_100 rfl (lv_at hl 0 rfl) ?_
      refine c_getr (q := (cq q x y)) (r := 7) B (iC3 _) hK hM 8 2 3 (by decide) rfl rfl (by decide) (by decide) rfl rfl rfl (cFx_r hF 8 2) (List.mem_cons_of_mem _ wC_fRX3_22) dX3_readAlternatives_101 ?_
      refine c_calli (q := (cq q x y)) (As := []) (rest := [.int (zI j), .ref (q 7)]) B hK hM 7 (by decide) (by decide) rfl (cX2_size_ok l D cy (cq q x y) 7 b T hF 7 (by decide)  ) (cwC 0 B wC_mRX3_84 wC_im_yX2_size wC_sl_yX2_size wC_in_RX2 wC_cd_yX2_size rfl rfl (by decide +kernel) ⟨by show 0 + 1 ≤ fA + 14; omega, by show 8 + (1 + 11) + 0 ≤ loA + 313; omega⟩) rfl hl.1 rfl (Nat.le_of_ble_eq_true rfl) dX3_readAlternatives_104 ⟨g_rc hR hg (cFx_gl (S := T) hF), g_rs hR hg (cFx_gl (S := T) hF)⟩ (fun z_5 S_4 H locs hp_3 hM => ?_)
      obtain ⟨hp_3, he_hp_3⟩ := hp_3
      have he_hp_3 := he_hp_3.symm
      subst he_hp_3
      have hp_3 : T.1 7 5 = z_5 := hp_3.symm
      subst hp_3
      refine c_callv (q := (cq q x y)) (As := [.int (zI j), .int (zI (T.1 7 5))]) (rest := []) B hK hM 7 (by decide) (by decide) rfl (cX2_aimChainAt_ok l D cy (cq q x y) 7 b T hF 7 (by decide) j (T.1 7 5) hP (by show -1 ≤ j; omega) (by show j ≤ 1000000; omega) (by show -1 ≤ (T.1 7 5); omega) (by show (T.1 7 5) ≤ 1000000; omega)) (cwC 2 B wC_mRX3_87 wC_im_yX2_aimChainAt wC_sl_yX2_aimChainAt wC_in_RX2 wC_cd_yX2_aimChainAt rfl rfl (by decide +kernel) ⟨by show 2 + 1 ≤ fA + 14; omega, by show 8 + (6 + 11) + 43 ≤ loA + 313; omega⟩) rfl hl.1 rfl (Nat.le_of_ble_eq_true rfl) dX3_readAlternatives_107 ⟨g_rc hR hg (cFx_gl (S := T) hF), g_rs hR hg (cFx_gl (S := T) hF)⟩ (fun S_8 H locs hp_7 hM => ?_)
      have hp_7 := hp_7.symm
      subst hp_7
      have hg : gl S0 ≤ gl (K2_aimChainAt 7 j (T.1 7 5) T) := Nat.le_trans hg (gl_of (S := T) (S' := (K2_aimChainAt 7 j (T.1 7 5) T)) (congrArg Prod.snd (K2_aimChainAt_2 (by decide))))
      refine W.widen (k := gl (K2_aimChainAt 7 j (T.1 7 5) T) - gl S0) (n := 2 * (gl (K2_aimChainAt 7 j (T.1 7 5) T) - gl S0)) (Nat.sub_le_sub_right (gl_of (S := T) (S' := (K2_aimChainAt 7 j (T.1 7 5) T)) (congrArg Prod.snd (K2_aimChainAt_2 (by decide)))) _) (Nat.mul_le_mul_left 2 (Nat.sub_le_sub_right (gl_of (S := T) (S' := (K2_aimChainAt 7 j (T.1 7 5) T)) (congrArg Prod.snd (K2_aimChainAt_2 (by decide)))) _)) ?_
      have hP : pB 7 (K2_aimChainAt 7 j (T.1 7 5) T) := pB_aimChainAt (by decide) hP (by omega) (by omega)
      have hF : cFx 7 b (K2_aimChainAt 7 j (T.1 7 5) T) := cFx_of (congrArg Prod.snd (K2_aimChainAt_2 (by decide))) hF
      refine lv_iload_n B.1 B.2.1 dX3_readAlternatives_110 rfl (lv_at hl 3 rfl) ?_
      exact g_reti (S := (K2_aimChainAt 7 j (T.1 7 5) T)) B hM (hpost.trans (by rw [K3_altL]; exact (if_pos c_1))) dX3_readAlternatives_111
    · --
      refine lv_aload_n B.1 B.2.1 dX3_readAlternatives_30 rfl (lv_at hl 0 rfl) ?_
      refine z_bipush B.1 B.2.1 (by decide) dX3_readAlternatives_31 ?_
      refine c_calli (q := (cq q x y)) (As := [.int (zI 124)]) (rest := []) B hK hM 8 (by decide) (by decide) rfl (cX3_take_ok l D cy (cq q x y) b T hF  124 hV (by show 1 ≤ 124; omega) (by show 124 < 65536; omega)) (cwC 1 B wC_mRX3_76 wC_im_yX3_take wC_sl_yX3_take wC_in_RX3 wC_cd_yX3_take rfl rfl (by decide +kernel) ⟨by show 1 + 1 ≤ fA + 14; omega, by show 8 + (2 + 11) + 21 ≤ loA + 313; omega⟩) rfl hl.1 rfl (Nat.le_of_ble_eq_true rfl) dX3_readAlternatives_33 ⟨g_rc hR hg (cFx_gl (S := T) hF), g_rs hR hg (cFx_gl (S := T) hF)⟩ (fun z_12 S_11 H locs hp_10 hM => ?_)
      obtain ⟨hp_10, he_hp_10⟩ := hp_10
      have he_hp_10 := he_hp_10.symm
      subst he_hp_10
      have hp_10 : (K3_take 124 T).1 = z_12 := hp_10.symm
      subst hp_10
      have hg : gl S0 ≤ gl (K3_take 124 T).2 := Nat.le_trans hg (gl_of (S := T) (S' := (K3_take 124 T).2) (congrArg Prod.snd K3_take_2))
      refine W.widen (k := gl (K3_take 124 T).2 - gl S0) (n := 2 * (gl (K3_take 124 T).2 - gl S0)) (Nat.sub_le_sub_right (gl_of (S := T) (S' := (K3_take 124 T).2) (congrArg Prod.snd K3_take_2)) _) (Nat.mul_le_mul_left 2 (Nat.sub_le_sub_right (gl_of (S := T) (S' := (K3_take 124 T).2) (congrArg Prod.snd K3_take_2)) _)) ?_
      have k_9v := K3_take_v (x := 124) hV (by omega)
      have k_9l : T.1 8 3 ≤ (K3_take 124 T).2.1 8 3 := by rcases k_9v with ⟨-, h9, -⟩ | ⟨-, h9, -⟩ <;> rw [h9] <;> first | exact Int.le_refl _ | (simp only [ci_eq, zu_eq]; omega)
      have hV := rV_take (x := 124) hV (by omega)
      have hF : cFx 7 b (K3_take 124 T).2 := cFx_of (congrArg Prod.snd K3_take_2) hF
      have k_9b : (K3_take 124 T).1 = 0 ∨ (K3_take 124 T).1 = 1 := by rcases k_9v with ⟨h9, -⟩ | ⟨h9, -⟩ <;> omega
      have k_9n : (K3_take 124 T).1 = 0 ∨ (K3_take 124 T).2.1 8 3 = T.1 8 3 + 1 := by rcases k_9v with ⟨h9, -⟩ | ⟨-, h9, -⟩ <;> first | exact Or.inl h9 | exact Or.inr (by rw [h9, ci_eq, zu_eq])
      generalize hS_14 : (K3_take 124 T).2 = S_14 at *
      generalize hv_13 : (K3_take 124 T).1 = v_13 at *
      obtain ⟨hP, hLa, hLb, hcs, ha0, ha1, hga, hgb, hna, hnb, hma, hmb, hzz⟩ := id hV
      obtain ⟨hPa, p5a, p5b, pla, plb, pka, pkb, pga, pgb, pfa, pfb⟩ := id hP
      refine z_if_eq (tgt := 94) B.1 B.2.1 (zr_of (by omega) (by omega)) dX3_readAlternatives_36 (by decide) (fun c_15 => ?_) (fun c_15 => ?_)
      · --
        refine lv_aload_n B.1 B.2.1 dX3_readAlternatives_94 rfl (lv_at hl 0 rfl) ?_
        refine c_getr (q := (cq q x y)) (r := 7) B (iC3 _) hK hM 8 2 3 (by decide) rfl rfl (by decide) (by decide) rfl rfl rfl (cFx_r hF 8 2) (List.mem_cons_of_mem _ wC_fRX3_22) dX3_readAlternatives_95 ?_
        refine lv_iload B.1 B.2.1 dX3_readAlternatives_98 (lv_at hl 4 rfl) ?_
        refine lv_aload_n B.1 B.2.1 dX3_readAlternatives_100 rfl (lv_at hl 0 rfl) ?_
        refine c_getr (q := (cq q x y)) (r := 7) B (iC3 _) hK hM 8 2 3 (by decide) rfl rfl (by decide) (by decide) rfl rfl rfl (cFx_r hF 8 2) (List.mem_cons_of_mem _ wC_fRX3_22) dX3_readAlternatives_101 ?_
        refine c_calli (q := (cq q x y)) (As := []) (rest := [.int (zI j), .ref (q 7)]) B hK hM 7 (by decide) (by decide) rfl (cX2_size_ok l D cy (cq q x y) 7 b S_14 hF 7 (by decide)  ) (cwC 0 B wC_mRX3_84 wC_im_yX2_size wC_sl_yX2_size wC_in_RX2 wC_cd_yX2_size rfl rfl (by decide +kernel) ⟨by show 0 + 1 ≤ fA + 14; omega, by show 8 + (1 + 11) + 0 ≤ loA + 313; omega⟩) rfl hl.1 rfl (Nat.le_of_ble_eq_true rfl) dX3_readAlternatives_104 ⟨g_rc hR hg (cFx_gl (S := S_14) hF), g_rs hR hg (cFx_gl (S := S_14) hF)⟩ (fun z_19 S_18 H locs hp_17 hM => ?_)
        obtain ⟨hp_17, he_hp_17⟩ := hp_17
        have he_hp_17 := he_hp_17.symm
        subst he_hp_17
        have hp_17 : S_14.1 7 5 = z_19 := hp_17.symm
        subst hp_17
        refine c_callv (q := (cq q x y)) (As := [.int (zI j), .int (zI (S_14.1 7 5))]) (rest := []) B hK hM 7 (by decide) (by decide) rfl (cX2_aimChainAt_ok l D cy (cq q x y) 7 b S_14 hF 7 (by decide) j (S_14.1 7 5) hP (by show -1 ≤ j; omega) (by show j ≤ 1000000; omega) (by show -1 ≤ (S_14.1 7 5); omega) (by show (S_14.1 7 5) ≤ 1000000; omega)) (cwC 2 B wC_mRX3_87 wC_im_yX2_aimChainAt wC_sl_yX2_aimChainAt wC_in_RX2 wC_cd_yX2_aimChainAt rfl rfl (by decide +kernel) ⟨by show 2 + 1 ≤ fA + 14; omega, by show 8 + (6 + 11) + 43 ≤ loA + 313; omega⟩) rfl hl.1 rfl (Nat.le_of_ble_eq_true rfl) dX3_readAlternatives_107 ⟨g_rc hR hg (cFx_gl (S := S_14) hF), g_rs hR hg (cFx_gl (S := S_14) hF)⟩ (fun S_22 H locs hp_21 hM => ?_)
        have hp_21 := hp_21.symm
        subst hp_21
        have hg : gl S0 ≤ gl (K2_aimChainAt 7 j (S_14.1 7 5) S_14) := Nat.le_trans hg (gl_of (S := S_14) (S' := (K2_aimChainAt 7 j (S_14.1 7 5) S_14)) (congrArg Prod.snd (K2_aimChainAt_2 (by decide))))
        refine W.widen (k := gl (K2_aimChainAt 7 j (S_14.1 7 5) S_14) - gl S0) (n := 2 * (gl (K2_aimChainAt 7 j (S_14.1 7 5) S_14) - gl S0)) (Nat.sub_le_sub_right (gl_of (S := S_14) (S' := (K2_aimChainAt 7 j (S_14.1 7 5) S_14)) (congrArg Prod.snd (K2_aimChainAt_2 (by decide)))) _) (Nat.mul_le_mul_left 2 (Nat.sub_le_sub_right (gl_of (S := S_14) (S' := (K2_aimChainAt 7 j (S_14.1 7 5) S_14)) (congrArg Prod.snd (K2_aimChainAt_2 (by decide)))) _)) ?_
        have hP : pB 7 (K2_aimChainAt 7 j (S_14.1 7 5) S_14) := pB_aimChainAt (by decide) hP (by omega) (by omega)
        have hF : cFx 7 b (K2_aimChainAt 7 j (S_14.1 7 5) S_14) := cFx_of (congrArg Prod.snd (K2_aimChainAt_2 (by decide))) hF
        refine lv_iload_n B.1 B.2.1 dX3_readAlternatives_110 rfl (lv_at hl 3 rfl) ?_
        exact g_reti (S := (K2_aimChainAt 7 j (S_14.1 7 5) S_14)) B hM (hpost.trans (by subst hS_14; subst hv_13; rw [K3_altL]; exact ((if_neg c_1).trans (if_pos c_15)))) dX3_readAlternatives_111
      · --
        refine lv_aload_n B.1 B.2.1 dX3_readAlternatives_39 rfl (lv_at hl 0 rfl) ?_
        refine c_getr (q := (cq q x y)) (r := 7) B (iC3 _) hK hM 8 2 3 (by decide) rfl rfl (by decide) (by decide) rfl rfl rfl (cFx_r hF 8 2) (List.mem_cons_of_mem _ wC_fRX3_22) dX3_readAlternatives_40 ?_
        refine z_bipush B.1 B.2.1 (by decide) dX3_readAlternatives_43 ?_
        refine lv_iload B.1 B.2.1 dX3_readAlternatives_45 (lv_at hl 4 rfl) ?_
        refine z_iconst B.1 B.2.1 dX3_readAlternatives_47 ?_
        refine g_calli (E := "java/lang/IllegalArgumentException") (As := [.int (zI 6), .int (zI j), .int (zI (-1))]) (rest := []) B hK hG hM 7 (by decide) (by decide) rfl (cX2_add_ok l hl0 D cy q V n0 x y 7 b S_14 hF  6 j (-1) hV.1) (cwC 3 B wC_mRX3_64 wC_im_yX2_add wC_sl_yX2_add wC_in_RX2 wC_cd_yX2_add rfl rfl (by decide +kernel) ⟨by show 6 + 1 ≤ fA + 14; omega, by show 8 + (4 + 11) + 90 ≤ loA + 313; omega⟩) rfl hl.1 rfl (Nat.le_of_ble_eq_true rfl) dX3_readAlternatives_48 hR hg (cFx_gl hF) (gl_of (congrArg Prod.snd K2_add_2)) (fun c_24 => (hpost.trans (by subst hS_14; subst hv_13; rw [K3_altL]; exact ((if_neg c_1).trans ((if_neg c_15).trans (if_neg c_24)))))) (fun x y H locs c_24 hM => ?_)
        have hg : gl S0 ≤ gl (K2_add 6 j (-1) S_14).2.2 := Nat.le_trans hg (gl_of (congrArg Prod.snd K2_add_2))
        have hV := rV_add (kd := 6) (am := j) (nb := (-1)) (S := S_14) hV c_24 (by omega) (by omega) (by omega) (by omega) (by omega) (by omega)
        have hF : cFx 7 b (K2_add 6 j (-1) S_14).2.2 := cFx_of (congrArg Prod.snd K2_add_2) hF
        obtain ⟨k_23f, k_23a, k_23b, -⟩ := K2_add_v c_24
        have k_23s := K2_add_s c_24
        have k_238 : (K2_add 6 j (-1) S_14).2.2.1 8 3 = S_14.1 8 3 := congrFun (K2_add_1 (n := 8) (by decide)) 3
        have k_239 : (K2_add 6 j (-1) S_14).2.2.1 8 4 = S_14.1 8 4 := congrFun (K2_add_1 (n := 8) (by decide)) 4
        have k_23g : (K2_add 6 j (-1) S_14).2.2.1 7 12 = S_14.1 7 12 := K2_add_12
        have k_23t : (K2_add 6 j (-1) S_14).2.2.1 2 = S_14.1 2 := K2_add_1 (by decide)
        have k_23u : (K2_add 6 j (-1) S_14).2.2.1 13 = S_14.1 13 := K2_add_1 (by decide)
        generalize hS_26 : (K2_add 6 j (-1) S_14).2.2 = S_26 at *
        generalize hv_25 : (K2_add 6 j (-1) S_14).2.1 = v_25 at *
        obtain ⟨hP, hLa, hLb, hcs, ha0, ha1, hga, hgb, hna, hnb, hma, hmb, hzz⟩ := id hV
        obtain ⟨hPa, p5a, p5b, pla, plb, pka, pkb, pga, pgb, pfa, pfb⟩ := id hP
        refine lv_istore (lv' := [(4, .int (zI v_25)), (0, .ref (q 8)), (1, .int (zI dp)), (2, .int (zI bg)), (3, .int (zI wt)), (5, .int (zI i))]) B.1 B.2.1 dX3_readAlternatives_51 hl (by decide) rfl (fun ls hl => ?_)
        refine lv_aload_n B.1 B.2.1 dX3_readAlternatives_53 rfl (lv_at hl 1 rfl) ?_
        refine c_getr (q := (cq q x y)) (r := 7) B (iC3 _) hK hM 8 2 3 (by decide) rfl rfl (by decide) (by decide) rfl rfl rfl (cFx_r hF 8 2) (List.mem_cons_of_mem _ wC_fRX3_22) dX3_readAlternatives_54 ?_
        refine z_iconst B.1 B.2.1 dX3_readAlternatives_57 ?_
        refine z_iconst B.1 B.2.1 dX3_readAlternatives_58 ?_
        refine z_iconst B.1 B.2.1 dX3_readAlternatives_59 ?_
        refine g_calli (E := "java/lang/IllegalArgumentException") (As := [.int (zI 5), .int (zI (-1)), .int (zI (-1))]) (rest := []) B hK hG hM 7 (by decide) (by decide) rfl (cX2_add_ok l hl0 D cy q V n0 x y 7 b S_26 hF  5 (-1) (-1) hV.1) (cwC 3 B wC_mRX3_64 wC_im_yX2_add wC_sl_yX2_add wC_in_RX2 wC_cd_yX2_add rfl rfl (by decide +kernel) ⟨by show 6 + 1 ≤ fA + 14; omega, by show 8 + (4 + 11) + 90 ≤ loA + 313; omega⟩) rfl hl.1 rfl (Nat.le_of_ble_eq_true rfl) dX3_readAlternatives_60 hR hg (cFx_gl hF) (gl_of (congrArg Prod.snd K2_add_2)) (fun c_28 => (hpost.trans (by subst hS_14; subst hv_13; subst hS_26; subst hv_25; rw [K3_altL]; exact ((if_neg c_1).trans ((if_neg c_15).trans ((if_pos c_24).trans (if_neg c_28))))))) (fun x y H locs c_28 hM => ?_)
        have hg : gl S0 ≤ gl (K2_add 5 (-1) (-1) S_26).2.2 := Nat.le_trans hg (gl_of (congrArg Prod.snd K2_add_2))
        have hV := rV_add (kd := 5) (am := (-1)) (nb := (-1)) (S := S_26) hV c_28 (by omega) (by omega) (by omega) (by omega) (by omega) (by omega)
        have hF : cFx 7 b (K2_add 5 (-1) (-1) S_26).2.2 := cFx_of (congrArg Prod.snd K2_add_2) hF
        obtain ⟨k_27f, k_27a, k_27b, -⟩ := K2_add_v c_28
        have k_27s := K2_add_s c_28
        have k_278 : (K2_add 5 (-1) (-1) S_26).2.2.1 8 3 = S_26.1 8 3 := congrFun (K2_add_1 (n := 8) (by decide)) 3
        have k_279 : (K2_add 5 (-1) (-1) S_26).2.2.1 8 4 = S_26.1 8 4 := congrFun (K2_add_1 (n := 8) (by decide)) 4
        have k_27g : (K2_add 5 (-1) (-1) S_26).2.2.1 7 12 = S_26.1 7 12 := K2_add_12
        have k_27t : (K2_add 5 (-1) (-1) S_26).2.2.1 2 = S_26.1 2 := K2_add_1 (by decide)
        have k_27u : (K2_add 5 (-1) (-1) S_26).2.2.1 13 = S_26.1 13 := K2_add_1 (by decide)
        generalize hS_30 : (K2_add 5 (-1) (-1) S_26).2.2 = S_30 at *
        generalize hv_29 : (K2_add 5 (-1) (-1) S_26).2.1 = v_29 at *
        obtain ⟨hP, hLa, hLb, hcs, ha0, ha1, hga, hgb, hna, hnb, hma, hmb, hzz⟩ := id hV
        obtain ⟨hPa, p5a, p5b, pla, plb, pka, pkb, pga, pgb, pfa, pfb⟩ := id hP
        refine lv_istore (lv' := [(6, .int (zI v_29)), (4, .int (zI v_25)), (0, .ref (q 8)), (1, .int (zI dp)), (2, .int (zI bg)), (3, .int (zI wt)), (5, .int (zI i))]) B.1 B.2.1 dX3_readAlternatives_63 hl (by decide) rfl (fun ls hl => ?_)
        refine lv_aload_n B.1 B.2.1 dX3_readAlternatives_65 rfl (lv_at hl 2 rfl) ?_
        refine c_getr (q := (cq q x y)) (r := 7) B (iC3 _) hK hM 8 2 3 (by decide) rfl rfl (by decide) (by decide) rfl rfl rfl (cFx_r hF 8 2) (List.mem_cons_of_mem _ wC_fRX3_22) dX3_readAlternatives_66 ?_
        refine lv_iload_n B.1 B.2.1 dX3_readAlternatives_69 rfl (lv_at hl 4 rfl) ?_
        refine lv_iload B.1 B.2.1 dX3_readAlternatives_70 (lv_at hl 0 rfl) ?_
        refine c_callv (q := (cq q x y)) (As := [.int (zI bg), .int (zI v_29)]) (rest := []) B hK hM 7 (by decide) (by decide) rfl (cX2_aimAt_ok l D cy (cq q x y) 7 b S_30 hF 7 (by decide) bg v_29 hP (by show -1000000000 ≤ bg; omega) (by show bg ≤ 1000000000; omega)) (cwC 2 B wC_mRX3_80 wC_im_yX2_aimAt wC_sl_yX2_aimAt wC_in_RX2 wC_cd_yX2_aimAt rfl rfl (by decide +kernel) ⟨by show 1 + 1 ≤ fA + 14; omega, by show 8 + (3 + 11) + 21 ≤ loA + 313; omega⟩) rfl hl.1 rfl (Nat.le_of_ble_eq_true rfl) dX3_readAlternatives_72 ⟨g_rc hR hg (cFx_gl (S := S_30) hF), g_rs hR hg (cFx_gl (S := S_30) hF)⟩ (fun S_33 H locs hp_32 hM => ?_)
        have hp_32 := hp_32.symm
        subst hp_32
        have hg : gl S0 ≤ gl (K2_aimAt 7 bg v_29 S_30) := Nat.le_trans hg (gl_of (S := S_30) (S' := (K2_aimAt 7 bg v_29 S_30)) (congrArg Prod.snd K2_aimAt_2))
        refine W.widen (k := gl (K2_aimAt 7 bg v_29 S_30) - gl S0) (n := 2 * (gl (K2_aimAt 7 bg v_29 S_30) - gl S0)) (Nat.sub_le_sub_right (gl_of (S := S_30) (S' := (K2_aimAt 7 bg v_29 S_30)) (congrArg Prod.snd K2_aimAt_2)) _) (Nat.mul_le_mul_left 2 (Nat.sub_le_sub_right (gl_of (S := S_30) (S' := (K2_aimAt 7 bg v_29 S_30)) (congrArg Prod.snd K2_aimAt_2)) _)) ?_
        have hP : pB 7 (K2_aimAt 7 bg v_29 S_30) := pB_aimAt (by decide) hP (by omega) (by omega)
        have hF : cFx 7 b (K2_aimAt 7 bg v_29 S_30) := cFx_of (congrArg Prod.snd K2_aimAt_2) hF
        have k_318 : (K2_aimAt 7 bg v_29 S_30).1 8 3 = S_30.1 8 3 := congrFun K2_aimAt_8 3
        refine lv_iload B.1 B.2.1 dX3_readAlternatives_75 (lv_at hl 0 rfl) ?_
        refine lv_istore_n (lv' := [(2, .int (zI v_29)), (6, .int (zI v_29)), (4, .int (zI v_25)), (0, .ref (q 8)), (1, .int (zI dp)), (3, .int (zI wt)), (5, .int (zI i))]) B.1 B.2.1 dX3_readAlternatives_77 rfl hl (by decide) rfl (fun ls hl => ?_)
        refine lv_iload_n B.1 B.2.1 dX3_readAlternatives_78 rfl (lv_at hl 5 rfl) ?_
        refine z_iconst B.1 B.2.1 dX3_readAlternatives_79 ?_
        refine lv_aload_n B.1 B.2.1 dX3_readAlternatives_80 rfl (lv_at hl 3 rfl) ?_
        refine lv_iload_n B.1 B.2.1 dX3_readAlternatives_81 rfl (lv_at hl 4 rfl) ?_
        have hV : rV (K2_aimAt 7 bg v_29 S_30) := ⟨hP, (by (try simp only [K2_aimAt_1 (t := 7) (n := 2) (by decide) (by decide)]); omega), (by (try simp only [K2_aimAt_1 (t := 7) (n := 2) (by decide) (by decide)]); omega), (fun j => by rw [show (K2_aimAt 7 bg v_29 S_30).1 13 j = S_30.1 13 j from (by simp only [K2_aimAt_1 (t := 7) (n := 13) (by decide) (by decide)])]; exact hcs j), (by (try simp only [K2_aimAt_1 (t := 7) (n := 8) (by decide) (by decide)]); omega), (by (try simp only [K2_aimAt_1 (t := 7) (n := 8) (by decide) (by decide), K2_aimAt_1 (t := 7) (n := 2) (by decide) (by decide)]); omega), (by (try simp only [K2_aimAt_1 (t := 7) (n := 8) (by decide) (by decide)]); omega), (by (try simp only [K2_aimAt_1 (t := 7) (n := 8) (by decide) (by decide)]); omega), (by (try simp only [K2_aimAt_1 (t := 7) (n := 8) (by decide) (by decide)]); omega), (by (try simp only [K2_aimAt_1 (t := 7) (n := 8) (by decide) (by decide)]); omega), (by (try simp only [K2_aimAt_1 (t := 7) (n := 8) (by decide) (by decide)]); omega), (by (try simp only [K2_aimAt_1 (t := 7) (n := 8) (by decide) (by decide)]); omega), (by (try simp only [K2_aimAt_1 (t := 7) (n := 8) (by decide) (by decide)]); omega)⟩
        refine g_calli (E := "java/lang/IllegalArgumentException") (As := [.int (zI dp)]) (rest := [.int (zI 1), .int (zI wt)]) B hK hG hM 8 (by decide) (by decide) rfl (cX3_readRow_ok l hl0 D cy q V n0 x y b (K2_aimAt 7 bg v_29 S_30) hF F fA loA L0 hA hFR dp hV (by show L0 ≤ dp; omega) (by show dp ≤ 8; omega) (by show 0 ≤ dp; omega)) (cwC 1 B wC_mRX3_73 wC_im_yX3_readRow wC_sl_yX3_readRow wC_in_RX3 wC_cd_yX3_readRow rfl rfl (by decide +kernel) ⟨by show (fA + 13) + 1 ≤ fA + 14; omega, by show 8 + (4 + 11) + (loA + 290) ≤ loA + 313; omega⟩) rfl hl.1 rfl (Nat.le_of_ble_eq_true rfl) dX3_readAlternatives_82 hR hg (cFx_gl hF) (gl_of (K3_readRow_R (F := F) hFR (dp := dp) (S := (K2_aimAt 7 bg v_29 S_30)) hV).1.1) (fun c_35 => (hpost.trans (by subst hS_14; subst hv_13; subst hS_26; subst hv_25; subst hS_30; subst hv_29; rw [K3_altL]; exact ((if_neg c_1).trans ((if_neg c_15).trans ((if_pos c_24).trans ((if_pos c_28).trans (if_neg c_35)))))))) (fun x y H locs c_35 hM => ?_)
        have hg : gl S0 ≤ gl (K3_readRow F dp (K2_aimAt 7 bg v_29 S_30)).2.2 := Nat.le_trans hg (gl_of (K3_readRow_R (F := F) hFR (dp := dp) (S := (K2_aimAt 7 bg v_29 S_30)) hV).1.1)
        obtain ⟨k_34, -, k_34v, -⟩ := K3_readRow_R (F := F) hFR (dp := dp) (S := (K2_aimAt 7 bg v_29 S_30)) hV
        obtain ⟨hV, k_34l, k_34p⟩ := k_34v c_35
        have hF : cFx 7 b (K3_readRow F dp (K2_aimAt 7 bg v_29 S_30)).2.2 := cFx_of k_34.1 hF
        generalize hS_37 : (K3_readRow F dp (K2_aimAt 7 bg v_29 S_30)).2.2 = S_37 at *
        generalize hv_36 : (K3_readRow F dp (K2_aimAt 7 bg v_29 S_30)).2.1 = v_36 at *
        obtain ⟨hP, hLa, hLb, hcs, ha0, ha1, hga, hgb, hna, hnb, hma, hmb, hzz⟩ := id hV
        obtain ⟨hPa, p5a, p5b, pla, plb, pka, pkb, pga, pgb, pfa, pfb⟩ := id hP
        obtain ⟨k_34pa, k_34pb⟩ := k_34p
        refine z_iadd (x := 1 + v_36) B.1 B.2.1 rfl dX3_readAlternatives_85 ?_
        refine z_iadd (x := wt + (1 + v_36)) B.1 B.2.1 rfl dX3_readAlternatives_86 ?_
        refine lv_istore_n (lv' := [(3, .int (zI (wt + (1 + v_36)))), (2, .int (zI v_29)), (6, .int (zI v_29)), (4, .int (zI v_25)), (0, .ref (q 8)), (1, .int (zI dp)), (5, .int (zI i))]) B.1 B.2.1 dX3_readAlternatives_87 rfl hl (by decide) rfl (fun ls hl => ?_)
        refine z_iinc (v := i + 1) (lv' := [(5, .int (zI (i + 1))), (3, .int (zI (wt + (1 + v_36)))), (2, .int (zI v_29)), (6, .int (zI v_29)), (4, .int (zI v_25)), (0, .ref (q 8)), (1, .int (zI dp))]) B.1 B.2.1 dX3_readAlternatives_88 hl (k := 6) rfl rfl (by decide) rfl (fun ls hl => ?_)
        refine lv_goto (tgt := 23) B.1 B.2.1 dX3_readAlternatives_91 (by decide) ?_
        have hq : K3_altL F dp (n + 1) bg wt j i T = K3_altL F dp n v_29 (wt + (1 + v_36)) v_25 (i + 1) S_37 := by subst hS_14; subst hv_13; subst hS_26; subst hv_25; subst hS_30; subst hv_29; subst hS_37; subst hv_36; rw [K3_altL]; exact ((if_neg c_1).trans ((if_neg c_15).trans ((if_pos c_24).trans ((if_pos c_28).trans (if_pos c_35)))))
        rw [hq] at hpost
        exact ih v_29 (wt + (1 + v_36)) v_25 (i + 1) S_37 x y H locs ls hF hg hV (by omega) (by omega) (by omega) (by omega) (by omega) (by omega) (by omega) (by omega) (by omega) hM (lv_sub hl [5, 6, 2, 1, 4, 0] rfl) hpost
def K3_readAlternatives (F : Int → CSt → CR) (dp : Int) (S : CSt) : CR := (gBd (K2_add 5 (-1) (-1) S) (fun v_3 S_4 => (gBd (K3_readRow F dp S_4) (fun v_7 S_8 => (K3_altL F dp 40 v_3 v_7 (-1) 0 S_8)))))
set_option maxHeartbeats 1000000 in
set_option maxRecDepth 100000 in
theorem cX3_readAlternatives_ok (l : Launch) (hl0 : l.stackTraces = false) (D : va_G) (cy : Nat → ClassId) (q : Nat → Nat) (V : Nat × (Nat → Nat)) (n0 x y b : Nat) (S : CSt) (hF : cFx 7 b S) (F : Int → CSt → CR) (fA loA : Nat) (L0 : Int) (hA : ∀ (x y : Nat) (S : CSt) (dp : Int), cFx 7 b S → rV S → L0 + 1 ≤ dp → dp ≤ 8 → 0 ≤ dp → gMi l D cy q V n0 x y "java/lang/IllegalArgumentException" yX3_readAlternatives (.code yX3_readAlternatives cX3_readAlternatives 7 (some .int) :: TBC) fA loA S [.ref (q 8), .int (zI dp)] (F dp S)) (hFR : ∀ (S : CSt) (dp : Int), rV S → rR (wP S) S (F dp S)) (dp : Int) (hV : rV S) (hd0 : L0 ≤ dp) (hd1 : dp ≤ 8) (hd2 : 0 ≤ dp)  : gMi l D cy q V n0 x y "java/lang/IllegalArgumentException" yX3_readAlternatives (.code yX3_readAlternatives cX3_readAlternatives 7 (some .int) :: TBC) (fA + 14) (loA + 313) S [.ref (q 8), .int (zI dp)] (K3_readAlternatives F dp S) := by
  refine g_of (cc := cX3_readAlternatives) (maxL := 7) (ret := (some .int)) (by decide) rfl rfl (Nat.le_of_ble_eq_true rfl) ?_
  intro p e s m args below meth c ls B hK hG hM hl
  generalize gA (cq q x y) n0 = A at hG hM ⊢
  have hR : (headSpec (.code yX3_readAlternatives cX3_readAlternatives 7 (some .int) :: TBC) (gRm (fA + 14) (loA + 313) S)).room.cells = (gK - gl S) + 1 ∧ (headSpec (.code yX3_readAlternatives cX3_readAlternatives 7 (some .int) :: TBC) (gRm (fA + 14) (loA + 313) S)).room.slots = 2 * (gK - gl S) + 6 := ⟨rfl, rfl⟩
  have hl : lv_has ls 7 [(0, .ref (q 8)), (1, .int (zI dp))] := hl
  obtain ⟨hP, hLa, hLb, hcs, ha0, ha1, hga, hgb, hna, hnb, hma, hmb, hzz⟩ := id hV
  obtain ⟨hPa, p5a, p5b, pla, plb, pka, pkb, pga, pgb, pfa, pfb⟩ := id hP
  refine lv_aload_n B.1 B.2.1 dX3_readAlternatives_0 rfl (lv_at hl 0 rfl) ?_
  refine c_getr (q := (cq q x y)) (r := 7) B (iC3 _) hK hM 8 2 3 (by decide) rfl rfl (by decide) (by decide) rfl rfl rfl (cFx_r hF 8 2) (List.mem_cons_of_mem _ wC_fRX3_22) dX3_readAlternatives_1 ?_
  refine z_iconst B.1 B.2.1 dX3_readAlternatives_4 ?_
  refine z_iconst B.1 B.2.1 dX3_readAlternatives_5 ?_
  refine z_iconst B.1 B.2.1 dX3_readAlternatives_6 ?_
  refine g_calli (E := "java/lang/IllegalArgumentException") (As := [.int (zI 5), .int (zI (-1)), .int (zI (-1))]) (rest := []) B hK hG hM 7 (by decide) (by decide) rfl (cX2_add_ok l hl0 D cy q V n0 x y 7 b S hF  5 (-1) (-1) hV.1) (cwC 3 B wC_mRX3_64 wC_im_yX2_add wC_sl_yX2_add wC_in_RX2 wC_cd_yX2_add rfl rfl (by decide +kernel) ⟨by show 6 + 1 ≤ fA + 14; omega, by show 8 + (4 + 11) + 90 ≤ loA + 313; omega⟩) rfl hl.1 rfl (Nat.le_of_ble_eq_true rfl) dX3_readAlternatives_7 hR (Nat.le_refl _) (cFx_gl hF) (gl_of (congrArg Prod.snd K2_add_2)) (fun c_2 => (by unfold K3_readAlternatives; exact (if_neg c_2))) (fun x y H locs c_2 hM => ?_)
  have hg : gl S ≤ gl (K2_add 5 (-1) (-1) S).2.2 := Nat.le_trans (Nat.le_refl _) (gl_of (congrArg Prod.snd K2_add_2))
  have hV := rV_add (kd := 5) (am := (-1)) (nb := (-1)) (S := S) hV c_2 (by omega) (by omega) (by omega) (by omega) (by omega) (by omega)
  have hF : cFx 7 b (K2_add 5 (-1) (-1) S).2.2 := cFx_of (congrArg Prod.snd K2_add_2) hF
  obtain ⟨k_1f, k_1a, k_1b, -⟩ := K2_add_v c_2
  have k_1s := K2_add_s c_2
  have k_18 : (K2_add 5 (-1) (-1) S).2.2.1 8 3 = S.1 8 3 := congrFun (K2_add_1 (n := 8) (by decide)) 3
  have k_19 : (K2_add 5 (-1) (-1) S).2.2.1 8 4 = S.1 8 4 := congrFun (K2_add_1 (n := 8) (by decide)) 4
  have k_1g : (K2_add 5 (-1) (-1) S).2.2.1 7 12 = S.1 7 12 := K2_add_12
  have k_1t : (K2_add 5 (-1) (-1) S).2.2.1 2 = S.1 2 := K2_add_1 (by decide)
  have k_1u : (K2_add 5 (-1) (-1) S).2.2.1 13 = S.1 13 := K2_add_1 (by decide)
  generalize hS_4 : (K2_add 5 (-1) (-1) S).2.2 = S_4 at *
  generalize hv_3 : (K2_add 5 (-1) (-1) S).2.1 = v_3 at *
  obtain ⟨hP, hLa, hLb, hcs, ha0, ha1, hga, hgb, hna, hnb, hma, hmb, hzz⟩ := id hV
  obtain ⟨hPa, p5a, p5b, pla, plb, pka, pkb, pga, pgb, pfa, pfb⟩ := id hP
  refine lv_istore_n (lv' := [(2, .int (zI v_3)), (0, .ref (q 8)), (1, .int (zI dp))]) B.1 B.2.1 dX3_readAlternatives_10 rfl hl (by decide) rfl (fun ls hl => ?_)
  refine lv_aload_n B.1 B.2.1 dX3_readAlternatives_11 rfl (lv_at hl 1 rfl) ?_
  refine lv_iload_n B.1 B.2.1 dX3_readAlternatives_12 rfl (lv_at hl 2 rfl) ?_
  refine g_calli (E := "java/lang/IllegalArgumentException") (As := [.int (zI dp)]) (rest := []) B hK hG hM 8 (by decide) (by decide) rfl (cX3_readRow_ok l hl0 D cy q V n0 x y b S_4 hF F fA loA L0 hA hFR dp hV (by show L0 ≤ dp; omega) (by show dp ≤ 8; omega) (by show 0 ≤ dp; omega)) (cwC 1 B wC_mRX3_73 wC_im_yX3_readRow wC_sl_yX3_readRow wC_in_RX3 wC_cd_yX3_readRow rfl rfl (by decide +kernel) ⟨by show (fA + 13) + 1 ≤ fA + 14; omega, by show 8 + (4 + 11) + (loA + 290) ≤ loA + 313; omega⟩) rfl hl.1 rfl (Nat.le_of_ble_eq_true rfl) dX3_readAlternatives_13 hR hg (cFx_gl hF) (gl_of (K3_readRow_R (F := F) hFR (dp := dp) (S := S_4) hV).1.1) (fun c_6 => (by subst hS_4; subst hv_3; unfold K3_readAlternatives; exact ((if_pos c_2).trans (if_neg c_6)))) (fun x y H locs c_6 hM => ?_)
  have hg : gl S ≤ gl (K3_readRow F dp S_4).2.2 := Nat.le_trans hg (gl_of (K3_readRow_R (F := F) hFR (dp := dp) (S := S_4) hV).1.1)
  obtain ⟨k_5, -, k_5v, -⟩ := K3_readRow_R (F := F) hFR (dp := dp) (S := S_4) hV
  obtain ⟨hV, k_5l, k_5p⟩ := k_5v c_6
  have hF : cFx 7 b (K3_readRow F dp S_4).2.2 := cFx_of k_5.1 hF
  generalize hS_8 : (K3_readRow F dp S_4).2.2 = S_8 at *
  generalize hv_7 : (K3_readRow F dp S_4).2.1 = v_7 at *
  obtain ⟨hP, hLa, hLb, hcs, ha0, ha1, hga, hgb, hna, hnb, hma, hmb, hzz⟩ := id hV
  obtain ⟨hPa, p5a, p5b, pla, plb, pka, pkb, pga, pgb, pfa, pfb⟩ := id hP
  obtain ⟨k_5pa, k_5pb⟩ := k_5p
  refine lv_istore_n (lv' := [(3, .int (zI v_7)), (2, .int (zI v_3)), (0, .ref (q 8)), (1, .int (zI dp))]) B.1 B.2.1 dX3_readAlternatives_16 rfl hl (by decide) rfl (fun ls hl => ?_)
  refine z_iconst B.1 B.2.1 dX3_readAlternatives_17 ?_
  refine lv_istore (lv' := [(4, .int (zI (-1))), (3, .int (zI v_7)), (2, .int (zI v_3)), (0, .ref (q 8)), (1, .int (zI dp))]) B.1 B.2.1 dX3_readAlternatives_18 hl (by decide) rfl (fun ls hl => ?_)
  refine z_iconst B.1 B.2.1 dX3_readAlternatives_20 ?_
  refine lv_istore (lv' := [(5, .int (zI 0)), (4, .int (zI (-1))), (3, .int (zI v_7)), (2, .int (zI v_3)), (0, .ref (q 8)), (1, .int (zI dp))]) B.1 B.2.1 dX3_readAlternatives_21 hl (by decide) rfl (fun ls hl => ?_)
  exact lp3_alt l hl0 D cy q V n0 b F dp fA loA L0 hA hFR hd0 hd1 hd2 S _ B hK hG hR 40 v_3 v_7 (-1) 0 S_8 x y _ _ ls hF hg hV (by omega) (by omega) (by omega) (by omega) (by omega) (by omega) (by omega) (by omega) (by omega) hM (lv_sub hl [4, 5, 3, 2, 1, 0] rfl) (by subst hS_4; subst hv_3; subst hS_8; subst hv_7; unfold K3_readAlternatives; exact ((if_pos c_2).trans (if_pos c_6)))
theorem rV_chain {S : CSt} {j am : Int} (hV : rV S) (h0 : -1 ≤ am) (h1 : am ≤ 1000000) : rV (K2_aimChainAt 7 j am S) := rV_of hV (pB_aimChainAt (by decide) hV.1 h0 h1) (K2_aimChainAt_1 (by decide) (by decide)) (K2_aimChainAt_1 (by decide) (by decide)) (K2_aimChainAt_1 (by decide) (by decide))
theorem K2_chain_8 {S : CSt} {j am : Int} : (K2_aimChainAt 7 j am S).1 8 = S.1 8 := K2_aimChainAt_1 (by decide) (by decide)
theorem K3_altL_R {F : Int → CSt → CR} (hFR : ∀ (S : CSt) (dp : Int), rV S → rR (wP S) S (F dp S)) {dp : Int} : ∀ (n : Nat) (bg wt j i : Int) (S S0 : CSt), rV S → S0.1 8 3 ≤ S.1 8 3 → wP S0 wt S → -1 ≤ j → j ≤ 96 → rR (wP S0) S (K3_altL F dp n bg wt j i S)
  | 0, bg, wt, j, i, S, S0, hV, h0, hw, j0, j1 => by
    have hs := hV.1.2
    rw [K3_altL]
    exact rR.ret rK.chain (rV_chain hV (by omega) (by omega)) (by rw [K2_chain_8]; exact Int.le_refl _) (by unfold wP; rw [K2_chain_8]; exact hw)
  | n + 1, bg, wt, j, i, S, S0, hV, h0, hw, j0, j1 => by
    have hs := hV.1.2
    have ex : rR (wP S0) S (0, wt, K2_aimChainAt 7 j (S.1 7 5) S) := rR.ret rK.chain (rV_chain hV (by omega) (by omega)) (by rw [K2_chain_8]; exact Int.le_refl _) (by unfold wP; rw [K2_chain_8]; exact hw)
    rw [K3_altL]
    split
    · exact ex
    · refine rR.tk hV (by decide) (fun _ => ?_) (fun _ _ h1 => ?_)
      · rw [if_pos rfl]; exact ex
      · rw [if_neg z1n0]
        have e1 : (ci S 8 3 (S.1 8 3 + 1)).1 8 3 = S.1 8 3 + 1 := by rw [ci_eq, zu_eq]
        have hs1 := h1.1.2
        generalize ci S 8 3 (S.1 8 3 + 1) = S1 at *
        refine rR.ad h1 (by decide) (by decide) (by omega) (by omega) (by decide) (by decide) (fun _ h2 e2 f2 g2 g3 => ?_)
        generalize (K2_add 6 j (-1) S1).2.2 = S2 at *
        generalize (K2_add 6 j (-1) S1).2.1 = v2 at *
        have hs2 := h2.1.2
        refine rR.ad h2 (by decide) (by decide) (by decide) (by decide) (by decide) (by decide) (fun _ h3 e3 f3 g4 g5 => ?_)
        generalize (K2_add 5 (-1) (-1) S2).2.2 = S3 at *
        generalize (K2_add 5 (-1) (-1) S2).2.1 = v3 at *
        have h4 : rV (K2_aimAt 7 bg v3 S3) := rV_aim h3 (by omega) (by omega)
        have e4 : (K2_aimAt 7 bg v3 S3).1 8 3 = S.1 8 3 + 1 := by rw [K2_aimAt_8, e3, e2, e1]
        refine rR.mono rK.aim (by rw [K2_aimAt_8]; exact Int.le_refl _) (rR.bd (K3_readRow_R hFR h4) (fun _ h5 a5 hp => ?_))
        obtain ⟨p0, p1⟩ := hp
        obtain ⟨w0, w1⟩ := hw
        exact K3_altL_R hFR n _ _ _ _ _ S0 h5 (by omega) ⟨by omega, by omega⟩ (by omega) (by omega)
theorem K3_readAlternatives_R {F : Int → CSt → CR} (hFR : ∀ (S : CSt) (dp : Int), rV S → rR (wP S) S (F dp S)) {dp : Int} {S : CSt} (hV : rV S) : rR (wP S) S (K3_readAlternatives F dp S) := by
  unfold K3_readAlternatives
  refine rR.ad hV (by decide) (by decide) (by decide) (by decide) (by decide) (by decide) (fun _ h1 e1 _ _ _ => ?_)
  generalize (K2_add 5 (-1) (-1) S).2.2 = S1 at *
  refine rR.bd (K3_readRow_R hFR h1) (fun _ h2 a2 hp => ?_)
  have e13 : S1.1 8 3 = S.1 8 3 := by rw [e1]
  obtain ⟨p0, p1⟩ := hp
  exact K3_altL_R hFR _ _ _ _ _ _ S h2 (by omega) ⟨p0, by omega⟩ (by decide) (by decide)
/-- the recursion, unrolled: at depth d, 9 - d rounds are enough -/
def K3_al : Nat → Int → CSt → CR
  | 0, _, S => (1, 0, S)
  | n + 1, dp, S => K3_readAlternatives (K3_al n) dp S
theorem K3_al_R : ∀ (n : Nat) (S : CSt) (dp : Int), rV S → rR (wP S) S (K3_al n dp S)
  | 0, S, dp, hV => rR.thr rK.rf hV.1
  | n + 1, S, dp, hV => K3_readAlternatives_R (K3_al_R n) hV
theorem K3_al_ok (l : Launch) (hl0 : l.stackTraces = false) (D : va_G) (cy : Nat → ClassId) (q : Nat → Nat) (V : Nat × (Nat → Nat)) (n0 b : Nat) : ∀ (n : Nat) (x y : Nat) (S : CSt) (dp : Int), cFx 7 b S → rV S → 9 - (n : Int) ≤ dp → dp ≤ 8 → 0 ≤ dp → gMi l D cy q V n0 x y "java/lang/IllegalArgumentException" yX3_readAlternatives (.code yX3_readAlternatives cX3_readAlternatives 7 (some .int) :: TBC) (14 * n) (313 * n) S [.ref (q 8), .int (zI dp)] (K3_al n dp S)
  | 0, x, y, S, dp, hF, hV, h0, h1, h2 => absurd h1 (by omega)
  | n + 1, x, y, S, dp, hF, hV, h0, h1, h2 => cX3_readAlternatives_ok l hl0 D cy q V n0 x y b S hF (K3_al n) (14 * n) (313 * n) (9 - (n : Int) - 1) (fun x y S dp hF hV a0 a1 a2 => K3_al_ok l hl0 D cy q V n0 b n x y S dp hF hV (by omega) a1 a2) (K3_al_R n) dp hV (by omega) h1 h2
theorem K3_al9_ok (l : Launch) (hl0 : l.stackTraces = false) (D : va_G) (cy : Nat → ClassId) (q : Nat → Nat) (V : Nat × (Nat → Nat)) (n0 x y b : Nat) (S : CSt) (hF : cFx 7 b S) (dp : Int) (hV : rV S) (h0 : 0 ≤ dp) (h1 : dp ≤ 8) : gMi l D cy q V n0 x y "java/lang/IllegalArgumentException" yX3_readAlternatives (.code yX3_readAlternatives cX3_readAlternatives 7 (some .int) :: TBC) 126 2817 S [.ref (q 8), .int (zI dp)] (K3_al 9 dp S) := K3_al_ok l hl0 D cy q V n0 b 9 x y S dp hF hV (by omega) h1 h0
