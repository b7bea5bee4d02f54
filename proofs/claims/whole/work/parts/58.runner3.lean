theorem cLen_2 : cLen (11 + 2) = 40 := rfl
theorem cLen_3 : cLen (11 + 3) = 24 := rfl
/-- a row copied: its length, its signs -/
theorem K4_copyL_v {t : Nat} (ht : t = 2 ∨ t = 3) {f : Nat → Int} {N : Int} (hN : N ≤ cLen (11 + t)) : ∀ (n : Nat) (i : Int) (S : CSt), 0 ≤ i → i + n = N → S.1 1 1 = N → S.1 12 = f → S.1 t 1 = i → N ≤ 40 → (K4_copyL t n i S).1 t 1 = N ∧ ∀ j : Nat, (K4_copyL t n i S).1 (11 + t) j = if i ≤ j ∧ (j : Int) < N then f j else S.1 (11 + t) j
  | 0, i, S, h0, h1, h2, h3, h4, h5 => by
    rw [K4_copyL]
    refine ⟨by omega, fun j => ?_⟩
    rw [if_neg (by omega)]
  | n + 1, i, S, h0, h1, h2, h3, h4, h5 => by
    rw [K4_copyL, if_neg (by omega)]
    have ea : K4_at 1 i S = f i.toNat := by
      have hL : cLen (11 + 1) = 40 := rfl
      unfold K4_at
      rw [if_neg (by omega), if_neg (by omega), if_neg (by rw [hL]; omega), ← h3]
    have eb : (K4_add t (K4_at 1 i S) S).2 = ci (ci S (11 + t) i.toNat (f i.toNat)) t 1 (i + 1) := by
      unfold K4_add
      rw [ea, h4, if_neg (by omega), if_pos (by omega)]
    have c1 : (K4_add t (K4_at 1 i S) S).2.1 t 1 = i + 1 := by rw [eb, ci_eq, zu_eq]
    obtain ⟨r1, r2⟩ := K4_copyL_v (t := t) ht (f := f) (N := N) hN n (i + 1) (K4_add t (K4_at 1 i S) S).2 (by omega) (by omega) (by rw [K4_add_1 (by omega) (by omega)]; exact h2) (by rw [K4_add_1 (by omega) (by omega)]; exact h3) c1 h5
    refine ⟨r1, fun j => ?_⟩
    rw [r2 j, eb, ci_ne (show 11 + t ≠ t by omega), ci_eq]
    by_cases e : j = i.toNat
    · subst e
      rw [if_neg (by omega), zu_eq, if_pos (by omega)]
    · rw [zu_ne e]
      by_cases e2 : i + 1 ≤ (j : Int) ∧ (j : Int) < N
      · rw [if_pos e2, if_pos (by omega)]
      · rw [if_neg e2, if_neg (by omega)]
theorem K4_copy_v {t : Nat} (ht : t = 2 ∨ t = 3) {S : CSt} (h0 : 0 ≤ S.1 1 1) (h1 : S.1 1 1 ≤ cLen (11 + t)) : (K4_copy t S).1 t 1 = S.1 1 1 ∧ ∀ j : Nat, (K4_copy t S).1 (11 + t) j = if (j : Int) < S.1 1 1 then S.1 12 j else S.1 (11 + t) j := by
  have h40 : cLen (11 + t) ≤ 40 := by rcases ht with rfl | rfl <;> decide
  obtain ⟨r1, r2⟩ := K4_copyL_v (t := t) ht (f := S.1 12) (N := S.1 1 1) h1 (S.1 1 1).toNat 0 (ci S t 1 0) (by omega) (by omega) (ci_ne (S := S) (show 1 ≠ t by omega) ▸ rfl) (ci_ne (show 12 ≠ t by omega)) (by rw [ci_eq, zu_eq]) (by omega)
  refine ⟨r1, fun j => ?_⟩
  unfold K4_copy
  rw [r2 j, ci_ne (show 11 + t ≠ t by omega)]
  by_cases e : (j : Int) < S.1 1 1
  · rw [if_pos ⟨by omega, e⟩, if_pos e]
  · rw [if_neg (fun h => e h.2), if_neg e]
def K6_pattern (b : Nat) (fl : Int) (S : CSt) : CR := (if fl < 0 then (1, 0, S) else (if fl ≤ 7 then (if (K3_read fl (ci (K4_copy 2 S) 1 1 0)).1 = 0 then (0, (K6_forgetFound (ci (cSn0 b (K3_read fl (ci (K4_copy 2 S) 1 1 0)).2.2) 0 11 0)).1 6 12, (cSw 0 (K6_forgetFound (ci (cSn0 b (K3_read fl (ci (K4_copy 2 S) 1 1 0)).2.2) 0 11 0)))) else (1, 0, (K3_read fl (ci (K4_copy 2 S) 1 1 0)).2.2)) else (1, 0, S)))
set_option maxHeartbeats 1000000 in
set_option maxRecDepth 100000 in
theorem cX6_pattern_ok (l : Launch) (hl0 : l.stackTraces = false) (D : va_G) (cy : Nat → ClassId) (q : Nat → Nat) (V : Nat × (Nat → Nat)) (n0 x y a b : Nat) (S : CSt) (hF : cFx a b S) (fl : Int) (hfla : -2147483648 ≤ fl) (hflb : fl ≤ 2147483647) (hP : pB 7 S) (h0 : 0 ≤ S.1 1 1) (h1 : S.1 1 1 ≤ 40) (hc1 : ∀ j, 0 ≤ S.1 12 j ∧ S.1 12 j ≤ 126) (hc2 : ∀ j, 0 ≤ S.1 13 j ∧ S.1 13 j ≤ 126) (hna : 0 ≤ S.1 8 5) (hnb : S.1 8 5 ≤ 9) (hma : 0 ≤ S.1 8 6) (hmb : S.1 8 6 ≤ 9 ∨ S.1 8 6 = 1000000) (hzz : S.1 8 7 = 0 ∨ S.1 8 7 = 1) : gMi l D cy q V n0 x y "java/lang/IllegalArgumentException" yX6_pattern (.code yX6_pattern cX6_pattern 3 (some .int) :: TBC) 128 2866 S [.ref (q 0), .int (zI fl)] (K6_pattern b fl S) := by
  refine g_of (cc := cX6_pattern) (maxL := 3) (ret := (some .int)) (by decide) rfl rfl (Nat.le_of_ble_eq_true rfl) ?_
  intro p e s m args below meth c ls B hK hG hM hl
  generalize gA (cq q x y) n0 = A at hG hM ⊢
  have hR : (headSpec (.code yX6_pattern cX6_pattern 3 (some .int) :: TBC) (gRm 128 2866 S)).room.cells = (gK - gl S) + 1 ∧ (headSpec (.code yX6_pattern cX6_pattern 3 (some .int) :: TBC) (gRm 128 2866 S)).room.slots = 2 * (gK - gl S) + 6 := ⟨rfl, rfl⟩
  have hl : lv_has ls 3 [(0, .ref (q 0)), (1, .int (zI fl))] := hl
  refine lv_iload_n B.1 B.2.1 dX6_pattern_0 rfl (lv_at hl 1 rfl) ?_
  refine z_if_lt (tgt := 10) B.1 B.2.1 (zr_of (by omega) (by omega)) dX6_pattern_1 (by decide) (fun c_1 => ?_) (fun c_1 => ?_)
  · --
    exact g_throw (S := S) (E := "java/lang/IllegalArgumentException") (ik := 73) (is := 96) (ic := 77) 7 (by decide) hl0 B hG hM rfl sX_java_lang_IllegalArgumentException (by decide +kernel) (List.mem_cons_of_mem _ wC_cRX6_73) (List.mem_cons_of_mem _ wC_in__java_lang_IllegalArgumentException_) (tC_RX6_77 _) tN_RX6_77 hl.1 (Nat.le_of_ble_eq_true rfl) hR (Nat.le_of_ble_eq_true rfl) (Nat.le_of_ble_eq_true rfl) (Nat.le_refl _) (cFx_gl hF) (tO_RX6_77 _) dX6_pattern_10 dX6_pattern_13 dX6_pattern_14 dX6_pattern_16 dX6_pattern_19 (by unfold K6_pattern; exact (if_pos c_1))
  · --
    refine lv_iload_n B.1 B.2.1 dX6_pattern_4 rfl (lv_at hl 1 rfl) ?_
    refine z_bipush B.1 B.2.1 (by decide) dX6_pattern_5 ?_
    refine z_icmp_le (tgt := 20) B.1 B.2.1 (zr_of (by omega) (by omega)) (zr_of (by decide) (by decide)) dX6_pattern_7 (by decide) (fun c_2 => ?_) (fun c_2 => ?_)
    · --
      refine lv_aload_n B.1 B.2.1 dX6_pattern_20 rfl (lv_at hl 0 rfl) ?_
      refine c_getr (q := (cq q x y)) (r := 2) B (iC6 _) hK hM 0 1 6 (by decide) rfl rfl (by decide) (by decide) rfl rfl rfl (cFx_r hF 0 1) (List.mem_cons_of_mem _ wC_fRX6_18) dX6_pattern_21 ?_
      refine lv_aload_n B.1 B.2.1 dX6_pattern_24 rfl (lv_at hl 0 rfl) ?_
      refine c_getr (q := (cq q x y)) (r := 1) B (iC6 _) hK hM 0 0 6 (by decide) rfl rfl (by decide) (by decide) rfl rfl rfl (cFx_r hF 0 0) (List.mem_cons_of_mem _ wC_fRX6_14) dX6_pattern_25 ?_
      refine c_callv (q := (cq q x y)) (As := [.ref (q 1)]) (rest := []) B hK hM 2 (by decide) (by decide) rfl (cX4_copy_ok l D cy (cq q x y) a b S hF 2 (by decide)  (by decide) (by show 0 ≤ (S.1 1 1); omega) (by show (S.1 1 1) ≤ 40; omega) (fun j => ⟨(hc1 j).1, by have := (hc1 j).2; omega⟩)) (cwC 1 B wC_mRX6_98 wC_im_yX4_copy wC_sl_yX4_copy wC_in_RX4 wC_cd_yX4_copy rfl rfl (by decide +kernel) ⟨Nat.le_of_ble_eq_true rfl, Nat.le_of_ble_eq_true rfl⟩) rfl hl.1 rfl (Nat.le_of_ble_eq_true rfl) dX6_pattern_28 ⟨g_rc hR (Nat.le_refl _) (cFx_gl (S := S) hF), g_rs hR (Nat.le_refl _) (cFx_gl (S := S) hF)⟩ (fun S_5 H locs hp_4 hM => ?_)
      have hp_4 := hp_4.symm
      subst hp_4
      have hg : gl S ≤ gl (K4_copy 2 S) := Nat.le_trans (Nat.le_refl _) (gl_of (S := S) (S' := (K4_copy 2 S)) (congrArg Prod.snd K4_copy_2))
      refine W.widen (k := gl (K4_copy 2 S) - gl S) (n := 2 * (gl (K4_copy 2 S) - gl S)) (Nat.sub_le_sub_right (gl_of (S := S) (S' := (K4_copy 2 S)) (congrArg Prod.snd K4_copy_2)) _) (Nat.mul_le_mul_left 2 (Nat.sub_le_sub_right (gl_of (S := S) (S' := (K4_copy 2 S)) (congrArg Prod.snd K4_copy_2)) _)) ?_
      have hF : cFx a b (K4_copy 2 S) := cFx_of (congrArg Prod.snd K4_copy_2) hF
      refine lv_aload_n B.1 B.2.1 dX6_pattern_31 rfl (lv_at hl 0 rfl) ?_
      refine c_getr (q := (cq q x y)) (r := 1) B (iC6 _) hK hM 0 0 6 (by decide) rfl rfl (by decide) (by decide) rfl rfl rfl (cFx_r hF 0 0) (List.mem_cons_of_mem _ wC_fRX6_14) dX6_pattern_32 ?_
      refine c_callv (q := (cq q x y)) (As := []) (rest := []) B hK hM 1 (by decide) (by decide) rfl (cX4_clear_ok l D cy (cq q x y) a b (K4_copy 2 S) hF 1 (by decide)  ) (cwC 0 B wC_mRX6_102 wC_im_yX4_clear wC_sl_yX4_clear wC_in_RX4 wC_cd_yX4_clear rfl rfl (by decide +kernel) ⟨Nat.le_of_ble_eq_true rfl, Nat.le_of_ble_eq_true rfl⟩) rfl hl.1 rfl (Nat.le_of_ble_eq_true rfl) dX6_pattern_35 ⟨g_rc hR hg (cFx_gl (S := (K4_copy 2 S)) hF), g_rs hR hg (cFx_gl (S := (K4_copy 2 S)) hF)⟩ (fun S_8 H locs hp_7 hM => ?_)
      have hp_7 := hp_7.symm
      subst hp_7
      refine lv_aload_n B.1 B.2.1 dX6_pattern_38 rfl (lv_at hl 0 rfl) ?_
      refine c_getr (q := (cq q x y)) (r := 8) B (iC6 _) hK hM 0 7 6 (by decide) rfl rfl (by decide) (by decide) rfl rfl rfl (cFx_r hF 0 7) (List.mem_cons_of_mem _ wC_fRX6_45) dX6_pattern_39 ?_
      refine lv_iload_n B.1 B.2.1 dX6_pattern_42 rfl (lv_at hl 1 rfl) ?_
      refine lv_aload_n B.1 B.2.1 dX6_pattern_43 rfl (lv_at hl 0 rfl) ?_
      refine c_getr (q := (cq q x y)) (r := 7) B (iC6 _) hK hM 0 6 6 (by decide) rfl rfl (by decide) (by decide) rfl rfl rfl (cFx_r hF 0 6) (List.mem_cons_of_mem _ wC_fRX6_37) dX6_pattern_44 ?_
      have hPr : pB 7 (ci (K4_copy 2 S) 1 1 0) := pB_of (by rw [ci_ne (by decide), K4_copy_1 (by decide) (by decide)]) (fun j hj => by rw [ci_ne (by unfold pA; omega), K4_copy_1 (by unfold pA; omega) (by unfold pA; omega)]) hP
      have hcv := K4_copy_v (t := 2) (Or.inl rfl) (S := S) h0 (by rw [cLen_2]; omega)
      have hLa : 0 ≤ (ci (K4_copy 2 S) 1 1 0).1 2 1 := by rw [ci_ne (by decide), hcv.1]; exact h0
      have hLb : (ci (K4_copy 2 S) 1 1 0).1 2 1 ≤ 40 := by rw [ci_ne (by decide), hcv.1]; exact h1
      have hcs : ∀ j, 0 ≤ (ci (K4_copy 2 S) 1 1 0).1 13 j ∧ (ci (K4_copy 2 S) 1 1 0).1 13 j ≤ 126 := by intro j; rw [ci_ne (by decide), hcv.2 j]; split <;> first | exact hc1 j | exact hc2 j
      have hna : 0 ≤ (ci (K4_copy 2 S) 1 1 0).1 8 5 := by simp only [ci_ne (show (8 : Nat) ≠ 1 by decide), K4_copy_1 (show (8 : Nat) ≠ 2 by decide) (show (8 : Nat) ≠ 11 + 2 by decide)]; exact hna
      have hnb : (ci (K4_copy 2 S) 1 1 0).1 8 5 ≤ 9 := by simp only [ci_ne (show (8 : Nat) ≠ 1 by decide), K4_copy_1 (show (8 : Nat) ≠ 2 by decide) (show (8 : Nat) ≠ 11 + 2 by decide)]; exact hnb
      have hma : 0 ≤ (ci (K4_copy 2 S) 1 1 0).1 8 6 := by simp only [ci_ne (show (8 : Nat) ≠ 1 by decide), K4_copy_1 (show (8 : Nat) ≠ 2 by decide) (show (8 : Nat) ≠ 11 + 2 by decide)]; exact hma
      have hmb : (ci (K4_copy 2 S) 1 1 0).1 8 6 ≤ 9 ∨ (ci (K4_copy 2 S) 1 1 0).1 8 6 = 1000000 := by simp only [ci_ne (show (8 : Nat) ≠ 1 by decide), K4_copy_1 (show (8 : Nat) ≠ 2 by decide) (show (8 : Nat) ≠ 11 + 2 by decide)]; exact hmb
      have hzz : (ci (K4_copy 2 S) 1 1 0).1 8 7 = 0 ∨ (ci (K4_copy 2 S) 1 1 0).1 8 7 = 1 := by simp only [ci_ne (show (8 : Nat) ≠ 1 by decide), K4_copy_1 (show (8 : Nat) ≠ 2 by decide) (show (8 : Nat) ≠ 11 + 2 by decide)]; exact hzz
      refine g_callv (E := "java/lang/IllegalArgumentException") (As := [.int (zI fl), .ref (q 7)]) (rest := []) B hK hG hM 8 (by decide) (by decide) rfl (cX3_read_ok l hl0 D cy q V n0 x y a b (ci (K4_copy 2 S) 1 1 0) hF  fl hPr hLa hLb hcs hna hnb hma hmb hzz (by show 0 ≤ fl; omega) (by show fl ≤ 7; omega)) (cwC 2 B wC_mRX6_105 wC_im_yX3_read wC_sl_yX3_read wC_in_RX3 wC_cd_yX3_read rfl rfl (by decide +kernel) ⟨Nat.le_of_ble_eq_true rfl, Nat.le_of_ble_eq_true rfl⟩) rfl hl.1 rfl (Nat.le_of_ble_eq_true rfl) dX6_pattern_47 hR hg (cFx_gl hF) (gl_of (S := K3_r0 fl (ci (K4_copy 2 S) 1 1 0)) (K3_read_R (fl := fl) (S := (ci (K4_copy 2 S) 1 1 0)) hPr hLa hLb hcs hna hnb hma hmb hzz (by omega) (by omega)).1.1) (fun c_10 => (by unfold K6_pattern; exact ((if_neg c_1).trans ((if_pos c_2).trans (if_neg c_10))))) (fun x y H locs c_10 hM => ?_)
      have hg : gl S ≤ gl (K3_read fl (ci (K4_copy 2 S) 1 1 0)).2.2 := Nat.le_trans hg (gl_of (S := K3_r0 fl (ci (K4_copy 2 S) 1 1 0)) (K3_read_R (fl := fl) (S := (ci (K4_copy 2 S) 1 1 0)) hPr hLa hLb hcs hna hnb hma hmb hzz (by omega) (by omega)).1.1)
      have hrd := K3_read_R (fl := fl) (S := (ci (K4_copy 2 S) 1 1 0)) hPr hLa hLb hcs hna hnb hma hmb hzz (by omega) (by omega)
      have hF : cFx 7 b (K3_read fl (ci (K4_copy 2 S) 1 1 0)).2.2 := cFx_of hrd.1.1 (cFx_a7 hF)
      refine lv_aload_n B.1 B.2.1 dX6_pattern_50 rfl (lv_at hl 0 rfl) ?_
      refine c_getr (q := (cq q x y)) (r := 6) B (iC6 _) hK hM 0 5 6 (by decide) rfl rfl (by decide) (by decide) rfl rfl rfl (cFx_r hF 0 5) (List.mem_cons_of_mem _ wC_fRX6_33) dX6_pattern_51 ?_
      refine lv_astore_n (lv' := [(2, .ref (q 6)), (0, .ref (q 0)), (1, .int (zI fl))]) B.1 B.2.1 dX6_pattern_54 rfl hl (by decide) rfl (fun ls hl => ?_)
      refine lv_aload_n B.1 B.2.1 dX6_pattern_55 rfl (lv_at hl 1 rfl) ?_
      refine lv_aload_n B.1 B.2.1 dX6_pattern_56 rfl (lv_at hl 1 rfl) ?_
      refine c_getr (q := (cq q x y)) (r := 7) B (iC6 _) hK hM 0 6 6 (by decide) rfl rfl (by decide) (by decide) rfl rfl rfl (cFx_r hF 0 6) (List.mem_cons_of_mem _ wC_fRX6_37) dX6_pattern_57 ?_
      refine c_putr (r := 7) (q := (cq q x y)) B (iC6 _) tyX6 tyX6_ok nmX6 hK hM 0 5 6 (by decide) rfl rfl (by decide) (by decide) rfl rfl rfl (ty := tyX6 5) (by decide +kernel) rfl rfl rfl (List.mem_cons_of_mem _ wC_fRX6_33) dX6_pattern_60 (fun H locs hM => ?_)
      refine lv_aload_n B.1 B.2.1 dX6_pattern_63 rfl (lv_at hl 1 rfl) ?_
      refine lv_aload_n B.1 B.2.1 dX6_pattern_64 rfl (lv_at hl 0 rfl) ?_
      refine c_putr (r := 6) (q := (cq q x y)) B (iC6 _) tyX6 tyX6_ok nmX6 hK hM 0 6 6 (by decide) rfl rfl (by decide) (by decide) rfl rfl rfl (ty := tyX6 6) (by decide +kernel) rfl rfl rfl (List.mem_cons_of_mem _ wC_fRX6_37) dX6_pattern_65 (fun H locs hM => ?_)
      have hM := cSn0_H (b := b) (S := (K3_read fl (ci (K4_copy 2 S) 1 1 0)).2.2) hF.1 hM
      have hF : cFx 6 (swp 0 b) (cSn0 b (K3_read fl (ci (K4_copy 2 S) 1 1 0)).2.2) := cSn0_F (b := b) (S := (K3_read fl (ci (K4_copy 2 S) 1 1 0)).2.2) hF
      refine lv_aload_n B.1 B.2.1 dX6_pattern_68 rfl (lv_at hl 1 rfl) ?_
      refine z_iconst B.1 B.2.1 dX6_pattern_69 ?_
      refine c_puti (q := (cq (swq 0 q) x y)) B (iC6 _) tyX6 tyX6_ok nmX6 hK hM 0 11 6 (by decide) rfl rfl (by decide) (by decide) rfl rfl rfl (by decide +kernel) (by decide) (List.mem_cons_of_mem _ wC_fRX6_63) dX6_pattern_70 (fun H locs hM => ?_)
      refine lv_aload_n B.1 B.2.1 dX6_pattern_73 rfl (lv_at hl 1 rfl) ?_
      refine c_callv (q := (cq (swq 0 q) x y)) (As := []) (rest := []) B hK hM 0 (by decide) (by decide) rfl (cX6_forgetFound_ok l D cy (cq (swq 0 q) x y) 6 (swp 0 b) (ci (cSn0 b (K3_read fl (ci (K4_copy 2 S) 1 1 0)).2.2) 0 11 0) hF   ) (cwC 0 B wC_mRX6_70 wC_im_yX6_forgetFound wC_sl_yX6_forgetFound wC_in_RX6 wC_cd_yX6_forgetFound rfl rfl (by decide +kernel) ⟨Nat.le_of_ble_eq_true rfl, Nat.le_of_ble_eq_true rfl⟩) rfl hl.1 rfl (Nat.le_of_ble_eq_true rfl) dX6_pattern_74 ⟨g_rc hR hg (cFx_gl (S := (ci (cSn0 b (K3_read fl (ci (K4_copy 2 S) 1 1 0)).2.2) 0 11 0)) hF), g_rs hR hg (cFx_gl (S := (ci (cSn0 b (K3_read fl (ci (K4_copy 2 S) 1 1 0)).2.2) 0 11 0)) hF)⟩ (fun S_13 H locs hp_12 hM => ?_)
      have hp_12 := hp_12.symm
      subst hp_12
      have hg : gl S ≤ gl (K6_forgetFound (ci (cSn0 b (K3_read fl (ci (K4_copy 2 S) 1 1 0)).2.2) 0 11 0)) := Nat.le_trans hg (gl_of (S := (ci (cSn0 b (K3_read fl (ci (K4_copy 2 S) 1 1 0)).2.2) 0 11 0)) (S' := (K6_forgetFound (ci (cSn0 b (K3_read fl (ci (K4_copy 2 S) 1 1 0)).2.2) 0 11 0))) (congrArg Prod.snd K6_forgetFound_2))
      refine W.widen (k := gl (K6_forgetFound (ci (cSn0 b (K3_read fl (ci (K4_copy 2 S) 1 1 0)).2.2) 0 11 0)) - gl S) (n := 2 * (gl (K6_forgetFound (ci (cSn0 b (K3_read fl (ci (K4_copy 2 S) 1 1 0)).2.2) 0 11 0)) - gl S)) (Nat.sub_le_sub_right (gl_of (S := (ci (cSn0 b (K3_read fl (ci (K4_copy 2 S) 1 1 0)).2.2) 0 11 0)) (S' := (K6_forgetFound (ci (cSn0 b (K3_read fl (ci (K4_copy 2 S) 1 1 0)).2.2) 0 11 0))) (congrArg Prod.snd K6_forgetFound_2)) _) (Nat.mul_le_mul_left 2 (Nat.sub_le_sub_right (gl_of (S := (ci (cSn0 b (K3_read fl (ci (K4_copy 2 S) 1 1 0)).2.2) 0 11 0)) (S' := (K6_forgetFound (ci (cSn0 b (K3_read fl (ci (K4_copy 2 S) 1 1 0)).2.2) 0 11 0))) (congrArg Prod.snd K6_forgetFound_2)) _)) ?_
      have hF : cFx 6 (swp 0 b) (K6_forgetFound (ci (cSn0 b (K3_read fl (ci (K4_copy 2 S) 1 1 0)).2.2) 0 11 0)) := cFx_of (congrArg Prod.snd K6_forgetFound_2) hF
      refine lv_aload_n B.1 B.2.1 dX6_pattern_77 rfl (lv_at hl 1 rfl) ?_
      refine c_getr (q := (cq (swq 0 q) x y)) (r := 6) B (iC6 _) hK hM 0 5 6 (by decide) rfl rfl (by decide) (by decide) rfl rfl rfl (cFx_r hF 0 5) (List.mem_cons_of_mem _ wC_fRX6_33) dX6_pattern_78 ?_
      refine c_calli (q := (cq (swq 0 q) x y)) (As := []) (rest := []) B hK hM 6 (by decide) (by decide) rfl (cX2_groups_ok l D cy (cq (swq 0 q) x y) 6 (swp 0 b) (K6_forgetFound (ci (cSn0 b (K3_read fl (ci (K4_copy 2 S) 1 1 0)).2.2) 0 11 0)) hF 6 (by decide)  ) (cwC 0 B wC_mRX6_109 wC_im_yX2_groups wC_sl_yX2_groups wC_in_RX2 wC_cd_yX2_groups rfl rfl (by decide +kernel) ⟨Nat.le_of_ble_eq_true rfl, Nat.le_of_ble_eq_true rfl⟩) rfl hl.1 rfl (Nat.le_of_ble_eq_true rfl) dX6_pattern_81 ⟨g_rc hR hg (cFx_gl (S := (K6_forgetFound (ci (cSn0 b (K3_read fl (ci (K4_copy 2 S) 1 1 0)).2.2) 0 11 0))) hF), g_rs hR hg (cFx_gl (S := (K6_forgetFound (ci (cSn0 b (K3_read fl (ci (K4_copy 2 S) 1 1 0)).2.2) 0 11 0))) hF)⟩ (fun z_17 S_16 H locs hp_15 hM => ?_)
      obtain ⟨hp_15, he_hp_15⟩ := hp_15
      have he_hp_15 := he_hp_15.symm
      subst he_hp_15
      have hp_15 : (K6_forgetFound (ci (cSn0 b (K3_read fl (ci (K4_copy 2 S) 1 1 0)).2.2) 0 11 0)).1 6 12 = z_17 := hp_15.symm
      subst hp_15
      have hM := cH_sw.mpr (by rw [cq_sw]; exact hM : cH D cy (swq 0 (cq q x y)) A s.heap (K6_forgetFound (ci (cSn0 b (K3_read fl (ci (K4_copy 2 S) 1 1 0)).2.2) 0 11 0)) H locs)
      exact g_reti (S := (cSw 0 (K6_forgetFound (ci (cSn0 b (K3_read fl (ci (K4_copy 2 S) 1 1 0)).2.2) 0 11 0)))) B hM (by unfold K6_pattern; exact ((if_neg c_1).trans ((if_pos c_2).trans (if_pos c_10)))) dX6_pattern_84
    · --
      exact g_throw (S := S) (E := "java/lang/IllegalArgumentException") (ik := 73) (is := 96) (ic := 77) 7 (by decide) hl0 B hG hM rfl sX_java_lang_IllegalArgumentException (by decide +kernel) (List.mem_cons_of_mem _ wC_cRX6_73) (List.mem_cons_of_mem _ wC_in__java_lang_IllegalArgumentException_) (tC_RX6_77 _) tN_RX6_77 hl.1 (Nat.le_of_ble_eq_true rfl) hR (Nat.le_of_ble_eq_true rfl) (Nat.le_of_ble_eq_true rfl) (Nat.le_refl _) (cFx_gl hF) (tO_RX6_77 _) dX6_pattern_10 dX6_pattern_13 dX6_pattern_14 dX6_pattern_16 dX6_pattern_19 (by unfold K6_pattern; exact ((if_neg c_1).trans (if_neg c_2)))
