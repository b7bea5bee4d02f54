theorem rR.mono {Q : Int → CSt → Prop} {S T : CSt} {r : CR} (hk : rK S T) (ha : S.1 8 3 ≤ T.1 8 3) (h : rR Q T r) : rR Q S r := by
  obtain ⟨h1, h2, h3, h4⟩ := h
  refine ⟨hk.tr h1, h2, fun c => ?_, h4⟩
  obtain ⟨a1, a2, a3⟩ := h3 c
  exact ⟨a1, by omega, a3⟩
theorem rR.bd {P Q : Int → CSt → Prop} {S : CSt} {r : CR} {k : Int → CSt → CR} (h : rR P S r) (hk : r.1 = 0 → rV r.2.2 → S.1 8 3 ≤ r.2.2.1 8 3 → P r.2.1 r.2.2 → rR Q r.2.2 (k r.2.1 r.2.2)) : rR Q S (gBd r k) := by
  obtain ⟨h1, h2, h3, h4⟩ := h
  show rR Q S (if r.1 = 0 then k r.2.1 r.2.2 else (1, 0, r.2.2))
  by_cases c : r.1 = 0
  · rw [if_pos c]
    obtain ⟨a1, a2, a3⟩ := h3 c
    exact rR.mono h1 a2 (hk c a1 a2 a3)
  · rw [if_neg c]
    exact rR.thr h1 h2
theorem rR.imp {P Q : Int → CSt → Prop} {S : CSt} {r : CR} (h : rR P S r) (hpq : rV r.2.2 → S.1 8 3 ≤ r.2.2.1 8 3 → P r.2.1 r.2.2 → Q r.2.1 r.2.2) : rR Q S r := ⟨h.1, h.2.1, fun c => ⟨(h.2.2.1 c).1, (h.2.2.1 c).2.1, hpq (h.2.2.1 c).1 (h.2.2.1 c).2.1 (h.2.2.1 c).2.2⟩, h.2.2.2⟩
theorem rR.tk {Q : Int → CSt → Prop} {S : CSt} {x : Int} {k : Int → CSt → CR} (hV : rV S) (hx : 1 ≤ x) (h0 : ¬ K4_at 2 (S.1 8 3) S = x → rR Q S (k 0 S)) (h1 : K4_at 2 (S.1 8 3) S = x → S.1 8 3 < S.1 2 1 → rV (ci S 8 3 (S.1 8 3 + 1)) → rR Q (ci S 8 3 (S.1 8 3 + 1)) (k 1 (ci S 8 3 (S.1 8 3 + 1)))) : rR Q S (gLt (K3_take x S) k) := by
  show rR Q S (k (K3_take x S).1 (K3_take x S).2)
  have hr := rV_take (x := x) hV hx
  rcases K3_take_v hV hx with ⟨e1, e2, e3⟩ | ⟨e1, e2, e3, e4⟩
  · rw [e1, e2]; exact h0 e3
  · rw [e2] at hr
    rw [e1, e2]
    exact rR.mono rK.c8 (by rw [ci_eq, zu_eq]; omega) (h1 e3 e4 hr)
theorem rR.to {Q : Int → CSt → Prop} {S : CSt} {x : Int} {k : Int → CSt → CR} (hV : rV S) (hx : 1 ≤ x) (h0 : ¬ (K4_at 2 (S.1 8 3) S = 40 ∧ K4_at 2 (S.1 8 3 + 1) S = 63 ∧ K4_at 2 (S.1 8 3 + 2) S = x) → rR Q S (k 0 S)) (h1 : (K4_at 2 (S.1 8 3) S = 40 ∧ K4_at 2 (S.1 8 3 + 1) S = 63 ∧ K4_at 2 (S.1 8 3 + 2) S = x) → S.1 8 3 + 2 < S.1 2 1 → rV (ci S 8 3 (S.1 8 3 + 3)) → rR Q (ci S 8 3 (S.1 8 3 + 3)) (k 1 (ci S 8 3 (S.1 8 3 + 3)))) : rR Q S (gLt (K3_takeOpening x S) k) := by
  show rR Q S (k (K3_takeOpening x S).1 (K3_takeOpening x S).2)
  have hr := rV_takeOpening (x := x) hV hx
  rcases K3_takeOpening_v hV hx with ⟨e1, e2, e3⟩ | ⟨e1, e2, e3, e4⟩
  · rw [e1, e2]; exact h0 e3
  · rw [e2] at hr
    rw [e1, e2]
    exact rR.mono rK.c8 (by rw [ci_eq, zu_eq]; omega) (h1 e3 e4 hr)
theorem rR.ad {Q : Int → CSt → Prop} {S : CSt} {kd am nb : Int} {k : Int → CSt → CR} (hV : rV S) (h0 : -1 ≤ kd) (h1 : kd ≤ 1000000) (h2 : -1 ≤ am) (h3 : am ≤ 1000000) (h4 : -1 ≤ nb) (h5 : nb ≤ 1000000) (hk : (K2_add kd am nb S).1 = 0 → rV (K2_add kd am nb S).2.2 → (K2_add kd am nb S).2.2.1 8 = S.1 8 → (K2_add kd am nb S).2.1 = S.1 7 5 → (K2_add kd am nb S).2.2.1 7 5 = S.1 7 5 + 1 → S.1 7 5 < 96 → rR Q (K2_add kd am nb S).2.2 (k (K2_add kd am nb S).2.1 (K2_add kd am nb S).2.2)) : rR Q S (gBd (K2_add kd am nb S) k) := by
  have e8 : (K2_add kd am nb S).2.2.1 8 = S.1 8 := K2_add_1 (by decide)
  show rR Q S (if (K2_add kd am nb S).1 = 0 then k (K2_add kd am nb S).2.1 (K2_add kd am nb S).2.2 else (1, 0, (K2_add kd am nb S).2.2))
  by_cases c : (K2_add kd am nb S).1 = 0
  · rw [if_pos c]
    obtain ⟨f1, f2, f3, f4⟩ := K2_add_v c
    exact rR.mono rK.add (by rw [e8]; exact Int.le_refl _) (hk c (rV_add hV c h0 h1 h2 h3 h4 h5) e8 f1 (K2_add_s c) f3)
  · rw [if_neg c]
    exact rR.thr rK.add (pB_add' hV.1 h0 h1 h2 h3 h4 h5)
theorem rV_5 {S : CSt} {v : Int} (hV : rV S) (h0 : 0 ≤ v) (h1 : v ≤ 9) : rV (ci S 8 5 v) := by
  obtain ⟨hP, hLa, hLb, hcs, ha0, ha1, hga, hgb, hna, hnb, hr⟩ := hV
  exact ⟨pB_ci (by decide) (by decide) hP, hLa, hLb, hcs, ha0, ha1, hga, hgb, h0, h1, hr⟩
theorem rV_6 {S : CSt} {v : Int} (hV : rV S) (h0 : 0 ≤ v) (h1 : v ≤ 9 ∨ v = 1000000) : rV (ci S 8 6 v) := by
  obtain ⟨hP, hLa, hLb, hcs, ha0, ha1, hga, hgb, hna, hnb, hma, hmb, hr⟩ := hV
  exact ⟨pB_ci (by decide) (by decide) hP, hLa, hLb, hcs, ha0, ha1, hga, hgb, hna, hnb, h0, h1, hr⟩
theorem rV_7 {S : CSt} {v : Int} (hV : rV S) (h0 : v = 0 ∨ v = 1) : rV (ci S 8 7 v) := by
  obtain ⟨hP, hLa, hLb, hcs, ha0, ha1, hga, hgb, hna, hnb, hma, hmb, hr⟩ := hV
  exact ⟨pB_ci (by decide) (by decide) hP, hLa, hLb, hcs, ha0, ha1, hga, hgb, hna, hnb, hma, hmb, h0⟩
theorem rV_4 {S : CSt} {v : Int} (hV : rV S) (h0 : 0 ≤ v) (h1 : v ≤ 9) : rV (ci S 8 4 v) := by
  obtain ⟨hP, hLa, hLb, hcs, ha0, ha1, hga, hgb, hr⟩ := hV
  exact ⟨pB_ci (by decide) (by decide) hP, hLa, hLb, hcs, ha0, ha1, h0, h1, hr⟩
theorem K3_readBraces_R {S : CSt} (hV : rV S) : rR (fun _ _ => True) S (K3_readBraces S) := by
  have fin : ∀ T : CSt, rV T → rR (fun _ _ => True) T (gLt (K3_take 125 T) (fun v T => if v = 0 then (1, 0, T) else if T.1 8 5 ≤ T.1 8 6 then (0, 0, T) else (1, 0, T))) := by
    intro T hT
    refine rR.tk hT (by decide) (fun _ => ?_) (fun _ _ hT2 => ?_)
    · rw [if_pos rfl]; exact rR.thr rK.rf hT.1
    · rw [if_neg z1n0]
      split
      · exact rR.ret rK.rf hT2 (Int.le_refl _) trivial
      · exact rR.thr rK.rf hT2.1
  unfold K3_readBraces
  refine rR.bd (K3_readDigit_R hV) (fun c1 hV1 _ hp1 => ?_)
  have hV2 := rV_6 (v := (K3_readDigit S).2.1) (rV_5 hV1 hp1.1 hp1.2) hp1.1 (by omega)
  refine rR.mono (rK.c8.tr rK.c8) (Int.le_refl _) (rR.tk hV2 (by decide) (fun _ => ?_) (fun _ _ hV3 => ?_))
  · rw [if_pos rfl]; exact fin _ hV2
  · rw [if_neg z1n0]
    split
    · exact rR.mono rK.c8 (Int.le_refl _) (fin _ (rV_6 hV3 (by decide) (Or.inr rfl)))
    · refine rR.bd (K3_readDigit_R hV3) (fun c4 hV4 _ hp4 => ?_)
      exact rR.mono rK.c8 (Int.le_refl _) (fin _ (rV_6 hV4 hp4.1 (by omega)))
theorem K2_add_12 {kd am nb : Int} {S : CSt} : (K2_add kd am nb S).2.2.1 7 12 = S.1 7 12 := by
  unfold K2_add
  (repeat' split) <;> rfl
def K3_readCount (S : CSt) : CR := (gLt (K3_take 42 S) (fun v_5 S_6 => (if v_5 = 0 then (gLt (K3_take 43 S_6) (fun v_12 S_13 => (if v_12 = 0 then (gLt (K3_take 63 S_13) (fun v_19 S_20 => (if v_19 = 0 then (gLt (K3_take 123 S_20) (fun v_26 S_27 => (if v_26 = 0 then (0, 0, S_27) else (gBd (K3_readBraces S_27) (fun _ S_31 => (gLt (K3_take 63 S_31) (fun v_36 S_37 => (0, 1, (ci S_37 8 7 v_36))))))))) else (gLt (K3_take 63 (ci (ci S_20 8 5 0) 8 6 1)) (fun v_42 S_43 => (0, 1, (ci S_43 8 7 v_42))))))) else (gLt (K3_take 63 (ci (ci S_13 8 5 1) 8 6 1000000)) (fun v_48 S_49 => (0, 1, (ci S_49 8 7 v_48))))))) else (gLt (K3_take 63 (ci (ci S_6 8 5 0) 8 6 1000000)) (fun v_54 S_55 => (0, 1, (ci S_55 8 7 v_54)))))))
set_option maxHeartbeats 1000000 in
set_option maxRecDepth 100000 in
theorem cX3_readCount_ok (l : Launch) (hl0 : l.stackTraces = false) (D : va_G) (cy : Nat → ClassId) (q : Nat → Nat) (V : Nat × (Nat → Nat)) (n0 x y b : Nat) (S : CSt) (hF : cFx 7 b S) (hV : rV S) : gMi l D cy q V n0 x y "java/lang/IllegalArgumentException" yX3_readCount (.code yX3_readCount cX3_readCount 1 (some .boolean) :: TBC) 8 131 S [.ref (q 8)] (K3_readCount S) := by
  refine g_of (cc := cX3_readCount) (maxL := 1) (ret := (some .boolean)) (by decide) rfl rfl (Nat.le_of_ble_eq_true rfl) ?_
  intro p e s m args below meth c ls B hK hG hM hl
  generalize gA (cq q x y) n0 = A at hG hM ⊢
  have hR : (headSpec (.code yX3_readCount cX3_readCount 1 (some .boolean) :: TBC) (gRm 8 131 S)).room.cells = (gK - gl S) + 1 ∧ (headSpec (.code yX3_readCount cX3_readCount 1 (some .boolean) :: TBC) (gRm 8 131 S)).room.slots = 2 * (gK - gl S) + 6 := ⟨rfl, rfl⟩
  have hl : lv_has ls 1 [(0, .ref (q 8))] := hl
  obtain ⟨hP, hLa, hLb, hcs, ha0, ha1, hga, hgb, hna, hnb, hma, hmb, hzz⟩ := id hV
  refine lv_aload_n B.1 B.2.1 dX3_readCount_0 rfl (lv_at hl 0 rfl) ?_
  refine z_bipush B.1 B.2.1 (by decide) dX3_readCount_1 ?_
  refine c_calli (q := (cq q x y)) (As := [.int (zI 42)]) (rest := []) B hK hM 8 (by decide) (by decide) rfl (cX3_take_ok l D cy (cq q x y) b S hF  42 hV (by show 1 ≤ 42; omega) (by show 42 < 65536; omega)) (cwC 1 B wC_mRX3_76 wC_im_yX3_take wC_sl_yX3_take wC_in_RX3 wC_cd_yX3_take rfl rfl (by decide +kernel) ⟨Nat.le_of_ble_eq_true rfl, Nat.le_of_ble_eq_true rfl⟩) rfl hl.1 rfl (Nat.le_of_ble_eq_true rfl) dX3_readCount_3 ⟨g_rc hR (Nat.le_refl _) (cFx_gl (S := S) hF), g_rs hR (Nat.le_refl _) (cFx_gl (S := S) hF)⟩ (fun z_4 S_3 H locs hp_2 hM => ?_)
  obtain ⟨hp_2, he_hp_2⟩ := hp_2
  have he_hp_2 := he_hp_2.symm
  subst he_hp_2
  have hp_2 : (K3_take 42 S).1 = z_4 := hp_2.symm
  subst hp_2
  have hg : gl S ≤ gl (K3_take 42 S).2 := Nat.le_trans (Nat.le_refl _) (gl_of (S := S) (S' := (K3_take 42 S).2) (congrArg Prod.snd K3_take_2))
  refine W.widen (k := gl (K3_take 42 S).2 - gl S) (n := 2 * (gl (K3_take 42 S).2 - gl S)) (Nat.sub_le_sub_right (gl_of (S := S) (S' := (K3_take 42 S).2) (congrArg Prod.snd K3_take_2)) _) (Nat.mul_le_mul_left 2 (Nat.sub_le_sub_right (gl_of (S := S) (S' := (K3_take 42 S).2) (congrArg Prod.snd K3_take_2)) _)) ?_
  have k_1v := K3_take_v (x := 42) hV (by omega)
  have k_1l : S.1 8 3 ≤ (K3_take 42 S).2.1 8 3 := by rcases k_1v with ⟨-, h9, -⟩ | ⟨-, h9, -⟩ <;> rw [h9] <;> first | exact Int.le_refl _ | (simp only [ci_eq, zu_eq]; omega)
  have hV := rV_take (x := 42) hV (by omega)
  have hF : cFx 7 b (K3_take 42 S).2 := cFx_of (congrArg Prod.snd K3_take_2) hF
  have k_1b : (K3_take 42 S).1 = 0 ∨ (K3_take 42 S).1 = 1 := by rcases k_1v with ⟨h9, -⟩ | ⟨h9, -⟩ <;> omega
  have k_1n : (K3_take 42 S).1 = 0 ∨ (K3_take 42 S).2.1 8 3 = S.1 8 3 + 1 := by rcases k_1v with ⟨h9, -⟩ | ⟨-, h9, -⟩ <;> first | exact Or.inl h9 | exact Or.inr (by rw [h9, ci_eq, zu_eq])
  generalize hS_6 : (K3_take 42 S).2 = S_6 at *
  generalize hv_5 : (K3_take 42 S).1 = v_5 at *
  obtain ⟨hP, hLa, hLb, hcs, ha0, ha1, hga, hgb, hna, hnb, hma, hmb, hzz⟩ := id hV
  refine z_if_eq (tgt := 23) B.1 B.2.1 (zr_of (by omega) (by omega)) dX3_readCount_6 (by decide) (fun c_7 => ?_) (fun c_7 => ?_)
  · --
    refine lv_aload_n B.1 B.2.1 dX3_readCount_23 rfl (lv_at hl 0 rfl) ?_
    refine z_bipush B.1 B.2.1 (by decide) dX3_readCount_24 ?_
    refine c_calli (q := (cq q x y)) (As := [.int (zI 43)]) (rest := []) B hK hM 8 (by decide) (by decide) rfl (cX3_take_ok l D cy (cq q x y) b S_6 hF  43 hV (by show 1 ≤ 43; omega) (by show 43 < 65536; omega)) (cwC 1 B wC_mRX3_76 wC_im_yX3_take wC_sl_yX3_take wC_in_RX3 wC_cd_yX3_take rfl rfl (by decide +kernel) ⟨Nat.le_of_ble_eq_true rfl, Nat.le_of_ble_eq_true rfl⟩) rfl hl.1 rfl (Nat.le_of_ble_eq_true rfl) dX3_readCount_26 ⟨g_rc hR hg (cFx_gl (S := S_6) hF), g_rs hR hg (cFx_gl (S := S_6) hF)⟩ (fun z_11 S_10 H locs hp_9 hM => ?_)
    obtain ⟨hp_9, he_hp_9⟩ := hp_9
    have he_hp_9 := he_hp_9.symm
    subst he_hp_9
    have hp_9 : (K3_take 43 S_6).1 = z_11 := hp_9.symm
    subst hp_9
    have hg : gl S ≤ gl (K3_take 43 S_6).2 := Nat.le_trans hg (gl_of (S := S_6) (S' := (K3_take 43 S_6).2) (congrArg Prod.snd K3_take_2))
    refine W.widen (k := gl (K3_take 43 S_6).2 - gl S) (n := 2 * (gl (K3_take 43 S_6).2 - gl S)) (Nat.sub_le_sub_right (gl_of (S := S_6) (S' := (K3_take 43 S_6).2) (congrArg Prod.snd K3_take_2)) _) (Nat.mul_le_mul_left 2 (Nat.sub_le_sub_right (gl_of (S := S_6) (S' := (K3_take 43 S_6).2) (congrArg Prod.snd K3_take_2)) _)) ?_
    have k_8v := K3_take_v (x := 43) hV (by omega)
    have k_8l : S_6.1 8 3 ≤ (K3_take 43 S_6).2.1 8 3 := by rcases k_8v with ⟨-, h9, -⟩ | ⟨-, h9, -⟩ <;> rw [h9] <;> first | exact Int.le_refl _ | (simp only [ci_eq, zu_eq]; omega)
    have hV := rV_take (x := 43) hV (by omega)
    have hF : cFx 7 b (K3_take 43 S_6).2 := cFx_of (congrArg Prod.snd K3_take_2) hF
    have k_8b : (K3_take 43 S_6).1 = 0 ∨ (K3_take 43 S_6).1 = 1 := by rcases k_8v with ⟨h9, -⟩ | ⟨h9, -⟩ <;> omega
    have k_8n : (K3_take 43 S_6).1 = 0 ∨ (K3_take 43 S_6).2.1 8 3 = S_6.1 8 3 + 1 := by rcases k_8v with ⟨h9, -⟩ | ⟨-, h9, -⟩ <;> first | exact Or.inl h9 | exact Or.inr (by rw [h9, ci_eq, zu_eq])
    generalize hS_13 : (K3_take 43 S_6).2 = S_13 at *
    generalize hv_12 : (K3_take 43 S_6).1 = v_12 at *
    obtain ⟨hP, hLa, hLb, hcs, ha0, ha1, hga, hgb, hna, hnb, hma, hmb, hzz⟩ := id hV
    refine z_if_eq (tgt := 46) B.1 B.2.1 (zr_of (by omega) (by omega)) dX3_readCount_29 (by decide) (fun c_14 => ?_) (fun c_14 => ?_)
    · --
      refine lv_aload_n B.1 B.2.1 dX3_readCount_46 rfl (lv_at hl 0 rfl) ?_
      refine z_bipush B.1 B.2.1 (by decide) dX3_readCount_47 ?_
      refine c_calli (q := (cq q x y)) (As := [.int (zI 63)]) (rest := []) B hK hM 8 (by decide) (by decide) rfl (cX3_take_ok l D cy (cq q x y) b S_13 hF  63 hV (by show 1 ≤ 63; omega) (by show 63 < 65536; omega)) (cwC 1 B wC_mRX3_76 wC_im_yX3_take wC_sl_yX3_take wC_in_RX3 wC_cd_yX3_take rfl rfl (by decide +kernel) ⟨Nat.le_of_ble_eq_true rfl, Nat.le_of_ble_eq_true rfl⟩) rfl hl.1 rfl (Nat.le_of_ble_eq_true rfl) dX3_readCount_49 ⟨g_rc hR hg (cFx_gl (S := S_13) hF), g_rs hR hg (cFx_gl (S := S_13) hF)⟩ (fun z_18 S_17 H locs hp_16 hM => ?_)
      obtain ⟨hp_16, he_hp_16⟩ := hp_16
      have he_hp_16 := he_hp_16.symm
      subst he_hp_16
      have hp_16 : (K3_take 63 S_13).1 = z_18 := hp_16.symm
      subst hp_16
      have hg : gl S ≤ gl (K3_take 63 S_13).2 := Nat.le_trans hg (gl_of (S := S_13) (S' := (K3_take 63 S_13).2) (congrArg Prod.snd K3_take_2))
      refine W.widen (k := gl (K3_take 63 S_13).2 - gl S) (n := 2 * (gl (K3_take 63 S_13).2 - gl S)) (Nat.sub_le_sub_right (gl_of (S := S_13) (S' := (K3_take 63 S_13).2) (congrArg Prod.snd K3_take_2)) _) (Nat.mul_le_mul_left 2 (Nat.sub_le_sub_right (gl_of (S := S_13) (S' := (K3_take 63 S_13).2) (congrArg Prod.snd K3_take_2)) _)) ?_
      have k_15v := K3_take_v (x := 63) hV (by omega)
      have k_15l : S_13.1 8 3 ≤ (K3_take 63 S_13).2.1 8 3 := by rcases k_15v with ⟨-, h9, -⟩ | ⟨-, h9, -⟩ <;> rw [h9] <;> first | exact Int.le_refl _ | (simp only [ci_eq, zu_eq]; omega)
      have hV := rV_take (x := 63) hV (by omega)
      have hF : cFx 7 b (K3_take 63 S_13).2 := cFx_of (congrArg Prod.snd K3_take_2) hF
      have k_15b : (K3_take 63 S_13).1 = 0 ∨ (K3_take 63 S_13).1 = 1 := by rcases k_15v with ⟨h9, -⟩ | ⟨h9, -⟩ <;> omega
      have k_15n : (K3_take 63 S_13).1 = 0 ∨ (K3_take 63 S_13).2.1 8 3 = S_13.1 8 3 + 1 := by rcases k_15v with ⟨h9, -⟩ | ⟨-, h9, -⟩ <;> first | exact Or.inl h9 | exact Or.inr (by rw [h9, ci_eq, zu_eq])
      generalize hS_20 : (K3_take 63 S_13).2 = S_20 at *
      generalize hv_19 : (K3_take 63 S_13).1 = v_19 at *
      obtain ⟨hP, hLa, hLb, hcs, ha0, ha1, hga, hgb, hna, hnb, hma, hmb, hzz⟩ := id hV
      refine z_if_eq (tgt := 68) B.1 B.2.1 (zr_of (by omega) (by omega)) dX3_readCount_52 (by decide) (fun c_21 => ?_) (fun c_21 => ?_)
      · --
        refine lv_aload_n B.1 B.2.1 dX3_readCount_68 rfl (lv_at hl 0 rfl) ?_
        refine z_bipush B.1 B.2.1 (by decide) dX3_readCount_69 ?_
        refine c_calli (q := (cq q x y)) (As := [.int (zI 123)]) (rest := []) B hK hM 8 (by decide) (by decide) rfl (cX3_take_ok l D cy (cq q x y) b S_20 hF  123 hV (by show 1 ≤ 123; omega) (by show 123 < 65536; omega)) (cwC 1 B wC_mRX3_76 wC_im_yX3_take wC_sl_yX3_take wC_in_RX3 wC_cd_yX3_take rfl rfl (by decide +kernel) ⟨Nat.le_of_ble_eq_true rfl, Nat.le_of_ble_eq_true rfl⟩) rfl hl.1 rfl (Nat.le_of_ble_eq_true rfl) dX3_readCount_71 ⟨g_rc hR hg (cFx_gl (S := S_20) hF), g_rs hR hg (cFx_gl (S := S_20) hF)⟩ (fun z_25 S_24 H locs hp_23 hM => ?_)
        obtain ⟨hp_23, he_hp_23⟩ := hp_23
        have he_hp_23 := he_hp_23.symm
        subst he_hp_23
        have hp_23 : (K3_take 123 S_20).1 = z_25 := hp_23.symm
        subst hp_23
        have hg : gl S ≤ gl (K3_take 123 S_20).2 := Nat.le_trans hg (gl_of (S := S_20) (S' := (K3_take 123 S_20).2) (congrArg Prod.snd K3_take_2))
        refine W.widen (k := gl (K3_take 123 S_20).2 - gl S) (n := 2 * (gl (K3_take 123 S_20).2 - gl S)) (Nat.sub_le_sub_right (gl_of (S := S_20) (S' := (K3_take 123 S_20).2) (congrArg Prod.snd K3_take_2)) _) (Nat.mul_le_mul_left 2 (Nat.sub_le_sub_right (gl_of (S := S_20) (S' := (K3_take 123 S_20).2) (congrArg Prod.snd K3_take_2)) _)) ?_
        have k_22v := K3_take_v (x := 123) hV (by omega)
        have k_22l : S_20.1 8 3 ≤ (K3_take 123 S_20).2.1 8 3 := by rcases k_22v with ⟨-, h9, -⟩ | ⟨-, h9, -⟩ <;> rw [h9] <;> first | exact Int.le_refl _ | (simp only [ci_eq, zu_eq]; omega)
        have hV := rV_take (x := 123) hV (by omega)
        have hF : cFx 7 b (K3_take 123 S_20).2 := cFx_of (congrArg Prod.snd K3_take_2) hF
        have k_22b : (K3_take 123 S_20).1 = 0 ∨ (K3_take 123 S_20).1 = 1 := by rcases k_22v with ⟨h9, -⟩ | ⟨h9, -⟩ <;> omega
        have k_22n : (K3_take 123 S_20).1 = 0 ∨ (K3_take 123 S_20).2.1 8 3 = S_20.1 8 3 + 1 := by rcases k_22v with ⟨h9, -⟩ | ⟨-, h9, -⟩ <;> first | exact Or.inl h9 | exact Or.inr (by rw [h9, ci_eq, zu_eq])
        generalize hS_27 : (K3_take 123 S_20).2 = S_27 at *
        generalize hv_26 : (K3_take 123 S_20).1 = v_26 at *
        obtain ⟨hP, hLa, hLb, hcs, ha0, ha1, hga, hgb, hna, hnb, hma, hmb, hzz⟩ := id hV
        refine z_if_eq (tgt := 84) B.1 B.2.1 (zr_of (by omega) (by omega)) dX3_readCount_74 (by decide) (fun c_28 => ?_) (fun c_28 => ?_)
        · --
          refine z_iconst B.1 B.2.1 dX3_readCount_84 ?_
          exact g_retz (S := S_27) B hM (by decide) (by subst hS_6; subst hv_5; subst hS_13; subst hv_12; subst hS_20; subst hv_19; subst hS_27; subst hv_26; unfold K3_readCount; exact ((if_pos c_7).trans ((if_pos c_14).trans ((if_pos c_21).trans (if_pos c_28))))) dX3_readCount_85
        · --
          refine lv_aload_n B.1 B.2.1 dX3_readCount_77 rfl (lv_at hl 0 rfl) ?_
          refine g_callv (E := "java/lang/IllegalArgumentException") (As := []) (rest := []) B hK hG hM 8 (by decide) (by decide) rfl (cX3_readBraces_ok l hl0 D cy q V n0 x y b S_27 hF   hV) (cwC 0 B wC_mRX3_207 wC_im_yX3_readBraces wC_sl_yX3_readBraces wC_in_RX3 wC_cd_yX3_readBraces rfl rfl (by decide +kernel) ⟨Nat.le_of_ble_eq_true rfl, Nat.le_of_ble_eq_true rfl⟩) rfl hl.1 rfl (Nat.le_of_ble_eq_true rfl) dX3_readCount_78 hR hg (cFx_gl hF) (gl_of (K3_readBraces_R  (S := S_27) hV ).1.1) (fun c_30 => (by subst hS_6; subst hv_5; subst hS_13; subst hv_12; subst hS_20; subst hv_19; subst hS_27; subst hv_26; unfold K3_readCount; exact ((if_pos c_7).trans ((if_pos c_14).trans ((if_pos c_21).trans ((if_neg c_28).trans (if_neg c_30))))))) (fun x y H locs c_30 hM => ?_)
          have hg : gl S ≤ gl (K3_readBraces S_27).2.2 := Nat.le_trans hg (gl_of (K3_readBraces_R  (S := S_27) hV ).1.1)
          obtain ⟨k_29, -, k_29v, -⟩ := K3_readBraces_R  (S := S_27) hV 
          obtain ⟨hV, k_29l, k_29p⟩ := k_29v c_30
          have hF : cFx 7 b (K3_readBraces S_27).2.2 := cFx_of k_29.1 hF
          generalize hS_31 : (K3_readBraces S_27).2.2 = S_31 at *
          obtain ⟨hP, hLa, hLb, hcs, ha0, ha1, hga, hgb, hna, hnb, hma, hmb, hzz⟩ := id hV
          refine lv_goto (tgt := 86) B.1 B.2.1 dX3_readCount_81 (by decide) ?_
          refine lv_aload_n B.1 B.2.1 dX3_readCount_86 rfl (lv_at hl 0 rfl) ?_
          refine lv_aload_n B.1 B.2.1 dX3_readCount_87 rfl (lv_at hl 0 rfl) ?_
          refine z_bipush B.1 B.2.1 (by decide) dX3_readCount_88 ?_
          refine c_calli (q := (cq q x y)) (As := [.int (zI 63)]) (rest := [.ref (q 8)]) B hK hM 8 (by decide) (by decide) rfl (cX3_take_ok l D cy (cq q x y) b S_31 hF  63 hV (by show 1 ≤ 63; omega) (by show 63 < 65536; omega)) (cwC 1 B wC_mRX3_76 wC_im_yX3_take wC_sl_yX3_take wC_in_RX3 wC_cd_yX3_take rfl rfl (by decide +kernel) ⟨Nat.le_of_ble_eq_true rfl, Nat.le_of_ble_eq_true rfl⟩) rfl hl.1 rfl (Nat.le_of_ble_eq_true rfl) dX3_readCount_90 ⟨g_rc hR hg (cFx_gl (S := S_31) hF), g_rs hR hg (cFx_gl (S := S_31) hF)⟩ (fun z_35 S_34 H locs hp_33 hM => ?_)
          obtain ⟨hp_33, he_hp_33⟩ := hp_33
          have he_hp_33 := he_hp_33.symm
          subst he_hp_33
          have hp_33 : (K3_take 63 S_31).1 = z_35 := hp_33.symm
          subst hp_33
          have hg : gl S ≤ gl (K3_take 63 S_31).2 := Nat.le_trans hg (gl_of (S := S_31) (S' := (K3_take 63 S_31).2) (congrArg Prod.snd K3_take_2))
          refine W.widen (k := gl (K3_take 63 S_31).2 - gl S) (n := 2 * (gl (K3_take 63 S_31).2 - gl S)) (Nat.sub_le_sub_right (gl_of (S := S_31) (S' := (K3_take 63 S_31).2) (congrArg Prod.snd K3_take_2)) _) (Nat.mul_le_mul_left 2 (Nat.sub_le_sub_right (gl_of (S := S_31) (S' := (K3_take 63 S_31).2) (congrArg Prod.snd K3_take_2)) _)) ?_
          have k_32v := K3_take_v (x := 63) hV (by omega)
          have k_32l : S_31.1 8 3 ≤ (K3_take 63 S_31).2.1 8 3 := by rcases k_32v with ⟨-, h9, -⟩ | ⟨-, h9, -⟩ <;> rw [h9] <;> first | exact Int.le_refl _ | (simp only [ci_eq, zu_eq]; omega)
          have hV := rV_take (x := 63) hV (by omega)
          have hF : cFx 7 b (K3_take 63 S_31).2 := cFx_of (congrArg Prod.snd K3_take_2) hF
          have k_32b : (K3_take 63 S_31).1 = 0 ∨ (K3_take 63 S_31).1 = 1 := by rcases k_32v with ⟨h9, -⟩ | ⟨h9, -⟩ <;> omega
          have k_32n : (K3_take 63 S_31).1 = 0 ∨ (K3_take 63 S_31).2.1 8 3 = S_31.1 8 3 + 1 := by rcases k_32v with ⟨h9, -⟩ | ⟨-, h9, -⟩ <;> first | exact Or.inl h9 | exact Or.inr (by rw [h9, ci_eq, zu_eq])
          generalize hS_37 : (K3_take 63 S_31).2 = S_37 at *
          generalize hv_36 : (K3_take 63 S_31).1 = v_36 at *
          obtain ⟨hP, hLa, hLb, hcs, ha0, ha1, hga, hgb, hna, hnb, hma, hmb, hzz⟩ := id hV
          refine c_putz (q := (cq q x y)) B (iC3 _) tyX3 tyX3_ok nmX3 hK hM 8 7 3 (by decide) rfl rfl (by decide) (by decide) rfl rfl rfl (by omega) (by decide +kernel) (by decide) (List.mem_cons_of_mem _ wC_fRX3_131) dX3_readCount_93 (fun H locs hM => ?_)
          have hP : pB 7 (ci S_37 8 7 v_36) := pB_ci (by decide) (by decide) hP
          refine z_iconst B.1 B.2.1 dX3_readCount_96 ?_
          exact g_retz (S := (ci S_37 8 7 v_36)) B hM (by decide) (by subst hS_6; subst hv_5; subst hS_13; subst hv_12; subst hS_20; subst hv_19; subst hS_27; subst hv_26; subst hS_31; subst hS_37; subst hv_36; unfold K3_readCount; exact ((if_pos c_7).trans ((if_pos c_14).trans ((if_pos c_21).trans ((if_neg c_28).trans (if_pos c_30)))))) dX3_readCount_97
      · --
        refine lv_aload_n B.1 B.2.1 dX3_readCount_55 rfl (lv_at hl 0 rfl) ?_
        refine z_iconst B.1 B.2.1 dX3_readCount_56 ?_
        refine c_puti (q := (cq q x y)) B (iC3 _) tyX3 tyX3_ok nmX3 hK hM 8 5 3 (by decide) rfl rfl (by decide) (by decide) rfl rfl rfl (by decide +kernel) (by decide) (List.mem_cons_of_mem _ wC_fRX3_122) dX3_readCount_57 (fun H locs hM => ?_)
        have hP : pB 7 (ci S_20 8 5 0) := pB_ci (by decide) (by decide) hP
        refine lv_aload_n B.1 B.2.1 dX3_readCount_60 rfl (lv_at hl 0 rfl) ?_
        refine z_iconst B.1 B.2.1 dX3_readCount_61 ?_
        refine c_puti (q := (cq q x y)) B (iC3 _) tyX3 tyX3_ok nmX3 hK hM 8 6 3 (by decide) rfl rfl (by decide) (by decide) rfl rfl rfl (by decide +kernel) (by decide) (List.mem_cons_of_mem _ wC_fRX3_125) dX3_readCount_62 (fun H locs hM => ?_)
        have hP : pB 7 (ci (ci S_20 8 5 0) 8 6 1) := pB_ci (by decide) (by decide) hP
        refine lv_goto (tgt := 86) B.1 B.2.1 dX3_readCount_65 (by decide) ?_
        refine lv_aload_n B.1 B.2.1 dX3_readCount_86 rfl (lv_at hl 0 rfl) ?_
        refine lv_aload_n B.1 B.2.1 dX3_readCount_87 rfl (lv_at hl 0 rfl) ?_
        refine z_bipush B.1 B.2.1 (by decide) dX3_readCount_88 ?_
        have hV : rV (ci (ci S_20 8 5 0) 8 6 1) := ⟨hP, (by show 0 ≤ (S_20.1 2 1); omega), (by show (S_20.1 2 1) ≤ 40; omega), hcs, (by show 0 ≤ (S_20.1 8 3); omega), (by show (S_20.1 8 3) ≤ (S_20.1 2 1); omega), (by show 0 ≤ (S_20.1 8 4); omega), (by show (S_20.1 8 4) ≤ 9; omega), (by show 0 ≤ 0; omega), (by show 0 ≤ 9; omega), (by show 0 ≤ 1; omega), (by show 1 ≤ 9 ∨ 1 = 1000000; omega), (by show (S_20.1 8 7) = 0 ∨ (S_20.1 8 7) = 1; omega)⟩
        refine c_calli (q := (cq q x y)) (As := [.int (zI 63)]) (rest := [.ref (q 8)]) B hK hM 8 (by decide) (by decide) rfl (cX3_take_ok l D cy (cq q x y) b (ci (ci S_20 8 5 0) 8 6 1) hF  63 hV (by show 1 ≤ 63; omega) (by show 63 < 65536; omega)) (cwC 1 B wC_mRX3_76 wC_im_yX3_take wC_sl_yX3_take wC_in_RX3 wC_cd_yX3_take rfl rfl (by decide +kernel) ⟨Nat.le_of_ble_eq_true rfl, Nat.le_of_ble_eq_true rfl⟩) rfl hl.1 rfl (Nat.le_of_ble_eq_true rfl) dX3_readCount_90 ⟨g_rc hR hg (cFx_gl (S := (ci (ci S_20 8 5 0) 8 6 1)) hF), g_rs hR hg (cFx_gl (S := (ci (ci S_20 8 5 0) 8 6 1)) hF)⟩ (fun z_41 S_40 H locs hp_39 hM => ?_)
        obtain ⟨hp_39, he_hp_39⟩ := hp_39
        have he_hp_39 := he_hp_39.symm
        subst he_hp_39
        have hp_39 : (K3_take 63 (ci (ci S_20 8 5 0) 8 6 1)).1 = z_41 := hp_39.symm
        subst hp_39
        have hg : gl S ≤ gl (K3_take 63 (ci (ci S_20 8 5 0) 8 6 1)).2 := Nat.le_trans hg (gl_of (S := (ci (ci S_20 8 5 0) 8 6 1)) (S' := (K3_take 63 (ci (ci S_20 8 5 0) 8 6 1)).2) (congrArg Prod.snd K3_take_2))
        refine W.widen (k := gl (K3_take 63 (ci (ci S_20 8 5 0) 8 6 1)).2 - gl S) (n := 2 * (gl (K3_take 63 (ci (ci S_20 8 5 0) 8 6 1)).2 - gl S)) (Nat.sub_le_sub_right (gl_of (S := (ci (ci S_20 8 5 0) 8 6 1)) (S' := (K3_take 63 (ci (ci S_20 8 5 0) 8 6 1)).2) (congrArg Prod.snd K3_take_2)) _) (Nat.mul_le_mul_left 2 (Nat.sub_le_sub_right (gl_of (S := (ci (ci S_20 8 5 0) 8 6 1)) (S' := (K3_take 63 (ci (ci S_20 8 5 0) 8 6 1)).2) (congrArg Prod.snd K3_take_2)) _)) ?_
        have k_38v := K3_take_v (x := 63) hV (by omega)
        have k_38l : (ci (ci S_20 8 5 0) 8 6 1).1 8 3 ≤ (K3_take 63 (ci (ci S_20 8 5 0) 8 6 1)).2.1 8 3 := by rcases k_38v with ⟨-, h9, -⟩ | ⟨-, h9, -⟩ <;> rw [h9] <;> first | exact Int.le_refl _ | (simp only [ci_eq, zu_eq]; omega)
        have hV := rV_take (x := 63) hV (by omega)
        have hF : cFx 7 b (K3_take 63 (ci (ci S_20 8 5 0) 8 6 1)).2 := cFx_of (congrArg Prod.snd K3_take_2) hF
        have k_38b : (K3_take 63 (ci (ci S_20 8 5 0) 8 6 1)).1 = 0 ∨ (K3_take 63 (ci (ci S_20 8 5 0) 8 6 1)).1 = 1 := by rcases k_38v with ⟨h9, -⟩ | ⟨h9, -⟩ <;> omega
        have k_38n : (K3_take 63 (ci (ci S_20 8 5 0) 8 6 1)).1 = 0 ∨ (K3_take 63 (ci (ci S_20 8 5 0) 8 6 1)).2.1 8 3 = (ci (ci S_20 8 5 0) 8 6 1).1 8 3 + 1 := by rcases k_38v with ⟨h9, -⟩ | ⟨-, h9, -⟩ <;> first | exact Or.inl h9 | exact Or.inr (by rw [h9, ci_eq, zu_eq])
        generalize hS_43 : (K3_take 63 (ci (ci S_20 8 5 0) 8 6 1)).2 = S_43 at *
        generalize hv_42 : (K3_take 63 (ci (ci S_20 8 5 0) 8 6 1)).1 = v_42 at *
        obtain ⟨hP, hLa, hLb, hcs, ha0, ha1, hga, hgb, hna, hnb, hma, hmb, hzz⟩ := id hV
        refine c_putz (q := (cq q x y)) B (iC3 _) tyX3 tyX3_ok nmX3 hK hM 8 7 3 (by decide) rfl rfl (by decide) (by decide) rfl rfl rfl (by omega) (by decide +kernel) (by decide) (List.mem_cons_of_mem _ wC_fRX3_131) dX3_readCount_93 (fun H locs hM => ?_)
        have hP : pB 7 (ci S_43 8 7 v_42) := pB_ci (by decide) (by decide) hP
        refine z_iconst B.1 B.2.1 dX3_readCount_96 ?_
        exact g_retz (S := (ci S_43 8 7 v_42)) B hM (by decide) (by subst hS_6; subst hv_5; subst hS_13; subst hv_12; subst hS_20; subst hv_19; subst hS_43; subst hv_42; unfold K3_readCount; exact ((if_pos c_7).trans ((if_pos c_14).trans (if_neg c_21)))) dX3_readCount_97
    · --
      refine lv_aload_n B.1 B.2.1 dX3_readCount_32 rfl (lv_at hl 0 rfl) ?_
      refine z_iconst B.1 B.2.1 dX3_readCount_33 ?_
      refine c_puti (q := (cq q x y)) B (iC3 _) tyX3 tyX3_ok nmX3 hK hM 8 5 3 (by decide) rfl rfl (by decide) (by decide) rfl rfl rfl (by decide +kernel) (by decide) (List.mem_cons_of_mem _ wC_fRX3_122) dX3_readCount_34 (fun H locs hM => ?_)
      have hP : pB 7 (ci S_13 8 5 1) := pB_ci (by decide) (by decide) hP
      refine lv_aload_n B.1 B.2.1 dX3_readCount_37 rfl (lv_at hl 0 rfl) ?_
      refine lv_ldc (v := zI 1000000) B.1 B.2.1 B.2.2.2.1 (B.2.2.2.2.1 _ (List.mem_cons_of_mem _ wC_kRX3_135)) dX3_readCount_38 ?_
      refine c_puti (q := (cq q x y)) B (iC3 _) tyX3 tyX3_ok nmX3 hK hM 8 6 3 (by decide) rfl rfl (by decide) (by decide) rfl rfl rfl (by decide +kernel) (by decide) (List.mem_cons_of_mem _ wC_fRX3_125) dX3_readCount_40 (fun H locs hM => ?_)
      have hP : pB 7 (ci (ci S_13 8 5 1) 8 6 1000000) := pB_ci (by decide) (by decide) hP
      refine lv_goto (tgt := 86) B.1 B.2.1 dX3_readCount_43 (by decide) ?_
      refine lv_aload_n B.1 B.2.1 dX3_readCount_86 rfl (lv_at hl 0 rfl) ?_
      refine lv_aload_n B.1 B.2.1 dX3_readCount_87 rfl (lv_at hl 0 rfl) ?_
      refine z_bipush B.1 B.2.1 (by decide) dX3_readCount_88 ?_
      have hV : rV (ci (ci S_13 8 5 1) 8 6 1000000) := ⟨hP, (by show 0 ≤ (S_13.1 2 1); omega), (by show (S_13.1 2 1) ≤ 40; omega), hcs, (by show 0 ≤ (S_13.1 8 3); omega), (by show (S_13.1 8 3) ≤ (S_13.1 2 1); omega), (by show 0 ≤ (S_13.1 8 4); omega), (by show (S_13.1 8 4) ≤ 9; omega), (by show 0 ≤ 1; omega), (by show 1 ≤ 9; omega), (by show 0 ≤ 1000000; omega), (by show 1000000 ≤ 9 ∨ 1000000 = 1000000; omega), (by show (S_13.1 8 7) = 0 ∨ (S_13.1 8 7) = 1; omega)⟩
      refine c_calli (q := (cq q x y)) (As := [.int (zI 63)]) (rest := [.ref (q 8)]) B hK hM 8 (by decide) (by decide) rfl (cX3_take_ok l D cy (cq q x y) b (ci (ci S_13 8 5 1) 8 6 1000000) hF  63 hV (by show 1 ≤ 63; omega) (by show 63 < 65536; omega)) (cwC 1 B wC_mRX3_76 wC_im_yX3_take wC_sl_yX3_take wC_in_RX3 wC_cd_yX3_take rfl rfl (by decide +kernel) ⟨Nat.le_of_ble_eq_true rfl, Nat.le_of_ble_eq_true rfl⟩) rfl hl.1 rfl (Nat.le_of_ble_eq_true rfl) dX3_readCount_90 ⟨g_rc hR hg (cFx_gl (S := (ci (ci S_13 8 5 1) 8 6 1000000)) hF), g_rs hR hg (cFx_gl (S := (ci (ci S_13 8 5 1) 8 6 1000000)) hF)⟩ (fun z_47 S_46 H locs hp_45 hM => ?_)
      obtain ⟨hp_45, he_hp_45⟩ := hp_45
      have he_hp_45 := he_hp_45.symm
      subst he_hp_45
      have hp_45 : (K3_take 63 (ci (ci S_13 8 5 1) 8 6 1000000)).1 = z_47 := hp_45.symm
      subst hp_45
      have hg : gl S ≤ gl (K3_take 63 (ci (ci S_13 8 5 1) 8 6 1000000)).2 := Nat.le_trans hg (gl_of (S := (ci (ci S_13 8 5 1) 8 6 1000000)) (S' := (K3_take 63 (ci (ci S_13 8 5 1) 8 6 1000000)).2) (congrArg Prod.snd K3_take_2))
      refine W.widen (k := gl (K3_take 63 (ci (ci S_13 8 5 1) 8 6 1000000)).2 - gl S) (n := 2 * (gl (K3_take 63 (ci (ci S_13 8 5 1) 8 6 1000000)).2 - gl S)) (Nat.sub_le_sub_right (gl_of (S := (ci (ci S_13 8 5 1) 8 6 1000000)) (S' := (K3_take 63 (ci (ci S_13 8 5 1) 8 6 1000000)).2) (congrArg Prod.snd K3_take_2)) _) (Nat.mul_le_mul_left 2 (Nat.sub_le_sub_right (gl_of (S := (ci (ci S_13 8 5 1) 8 6 1000000)) (S' := (K3_take 63 (ci (ci S_13 8 5 1) 8 6 1000000)).2) (congrArg Prod.snd K3_take_2)) _)) ?_
      have k_44v := K3_take_v (x := 63) hV (by omega)
      have k_44l : (ci (ci S_13 8 5 1) 8 6 1000000).1 8 3 ≤ (K3_take 63 (ci (ci S_13 8 5 1) 8 6 1000000)).2.1 8 3 := by rcases k_44v with ⟨-, h9, -⟩ | ⟨-, h9, -⟩ <;> rw [h9] <;> first | exact Int.le_refl _ | (simp only [ci_eq, zu_eq]; omega)
      have hV := rV_take (x := 63) hV (by omega)
      have hF : cFx 7 b (K3_take 63 (ci (ci S_13 8 5 1) 8 6 1000000)).2 := cFx_of (congrArg Prod.snd K3_take_2) hF
      have k_44b : (K3_take 63 (ci (ci S_13 8 5 1) 8 6 1000000)).1 = 0 ∨ (K3_take 63 (ci (ci S_13 8 5 1) 8 6 1000000)).1 = 1 := by rcases k_44v with ⟨h9, -⟩ | ⟨h9, -⟩ <;> omega
      have k_44n : (K3_take 63 (ci (ci S_13 8 5 1) 8 6 1000000)).1 = 0 ∨ (K3_take 63 (ci (ci S_13 8 5 1) 8 6 1000000)).2.1 8 3 = (ci (ci S_13 8 5 1) 8 6 1000000).1 8 3 + 1 := by rcases k_44v with ⟨h9, -⟩ | ⟨-, h9, -⟩ <;> first | exact Or.inl h9 | exact Or.inr (by rw [h9, ci_eq, zu_eq])
      generalize hS_49 : (K3_take 63 (ci (ci S_13 8 5 1) 8 6 1000000)).2 = S_49 at *
      generalize hv_48 : (K3_take 63 (ci (ci S_13 8 5 1) 8 6 1000000)).1 = v_48 at *
      obtain ⟨hP, hLa, hLb, hcs, ha0, ha1, hga, hgb, hna, hnb, hma, hmb, hzz⟩ := id hV
      refine c_putz (q := (cq q x y)) B (iC3 _) tyX3 tyX3_ok nmX3 hK hM 8 7 3 (by decide) rfl rfl (by decide) (by decide) rfl rfl rfl (by omega) (by decide +kernel) (by decide) (List.mem_cons_of_mem _ wC_fRX3_131) dX3_readCount_93 (fun H locs hM => ?_)
      have hP : pB 7 (ci S_49 8 7 v_48) := pB_ci (by decide) (by decide) hP
      refine z_iconst B.1 B.2.1 dX3_readCount_96 ?_
      exact g_retz (S := (ci S_49 8 7 v_48)) B hM (by decide) (by subst hS_6; subst hv_5; subst hS_13; subst hv_12; subst hS_49; subst hv_48; unfold K3_readCount; exact ((if_pos c_7).trans (if_neg c_14))) dX3_readCount_97
  · --
    refine lv_aload_n B.1 B.2.1 dX3_readCount_9 rfl (lv_at hl 0 rfl) ?_
    refine z_iconst B.1 B.2.1 dX3_readCount_10 ?_
    refine c_puti (q := (cq q x y)) B (iC3 _) tyX3 tyX3_ok nmX3 hK hM 8 5 3 (by decide) rfl rfl (by decide) (by decide) rfl rfl rfl (by decide +kernel) (by decide) (List.mem_cons_of_mem _ wC_fRX3_122) dX3_readCount_11 (fun H locs hM => ?_)
    have hP : pB 7 (ci S_6 8 5 0) := pB_ci (by decide) (by decide) hP
    refine lv_aload_n B.1 B.2.1 dX3_readCount_14 rfl (lv_at hl 0 rfl) ?_
    refine lv_ldc (v := zI 1000000) B.1 B.2.1 B.2.2.2.1 (B.2.2.2.2.1 _ (List.mem_cons_of_mem _ wC_kRX3_135)) dX3_readCount_15 ?_
    refine c_puti (q := (cq q x y)) B (iC3 _) tyX3 tyX3_ok nmX3 hK hM 8 6 3 (by decide) rfl rfl (by decide) (by decide) rfl rfl rfl (by decide +kernel) (by decide) (List.mem_cons_of_mem _ wC_fRX3_125) dX3_readCount_17 (fun H locs hM => ?_)
    have hP : pB 7 (ci (ci S_6 8 5 0) 8 6 1000000) := pB_ci (by decide) (by decide) hP
    refine lv_goto (tgt := 86) B.1 B.2.1 dX3_readCount_20 (by decide) ?_
    refine lv_aload_n B.1 B.2.1 dX3_readCount_86 rfl (lv_at hl 0 rfl) ?_
    refine lv_aload_n B.1 B.2.1 dX3_readCount_87 rfl (lv_at hl 0 rfl) ?_
    refine z_bipush B.1 B.2.1 (by decide) dX3_readCount_88 ?_
    have hV : rV (ci (ci S_6 8 5 0) 8 6 1000000) := ⟨hP, (by show 0 ≤ (S_6.1 2 1); omega), (by show (S_6.1 2 1) ≤ 40; omega), hcs, (by show 0 ≤ (S_6.1 8 3); omega), (by show (S_6.1 8 3) ≤ (S_6.1 2 1); omega), (by show 0 ≤ (S_6.1 8 4); omega), (by show (S_6.1 8 4) ≤ 9; omega), (by show 0 ≤ 0; omega), (by show 0 ≤ 9; omega), (by show 0 ≤ 1000000; omega), (by show 1000000 ≤ 9 ∨ 1000000 = 1000000; omega), (by show (S_6.1 8 7) = 0 ∨ (S_6.1 8 7) = 1; omega)⟩
    refine c_calli (q := (cq q x y)) (As := [.int (zI 63)]) (rest := [.ref (q 8)]) B hK hM 8 (by decide) (by decide) rfl (cX3_take_ok l D cy (cq q x y) b (ci (ci S_6 8 5 0) 8 6 1000000) hF  63 hV (by show 1 ≤ 63; omega) (by show 63 < 65536; omega)) (cwC 1 B wC_mRX3_76 wC_im_yX3_take wC_sl_yX3_take wC_in_RX3 wC_cd_yX3_take rfl rfl (by decide +kernel) ⟨Nat.le_of_ble_eq_true rfl, Nat.le_of_ble_eq_true rfl⟩) rfl hl.1 rfl (Nat.le_of_ble_eq_true rfl) dX3_readCount_90 ⟨g_rc hR hg (cFx_gl (S := (ci (ci S_6 8 5 0) 8 6 1000000)) hF), g_rs hR hg (cFx_gl (S := (ci (ci S_6 8 5 0) 8 6 1000000)) hF)⟩ (fun z_53 S_52 H locs hp_51 hM => ?_)
    obtain ⟨hp_51, he_hp_51⟩ := hp_51
    have he_hp_51 := he_hp_51.symm
    subst he_hp_51
    have hp_51 : (K3_take 63 (ci (ci S_6 8 5 0) 8 6 1000000)).1 = z_53 := hp_51.symm
    subst hp_51
    have hg : gl S ≤ gl (K3_take 63 (ci (ci S_6 8 5 0) 8 6 1000000)).2 := Nat.le_trans hg (gl_of (S := (ci (ci S_6 8 5 0) 8 6 1000000)) (S' := (K3_take 63 (ci (ci S_6 8 5 0) 8 6 1000000)).2) (congrArg Prod.snd K3_take_2))
    refine W.widen (k := gl (K3_take 63 (ci (ci S_6 8 5 0) 8 6 1000000)).2 - gl S) (n := 2 * (gl (K3_take 63 (ci (ci S_6 8 5 0) 8 6 1000000)).2 - gl S)) (Nat.sub_le_sub_right (gl_of (S := (ci (ci S_6 8 5 0) 8 6 1000000)) (S' := (K3_take 63 (ci (ci S_6 8 5 0) 8 6 1000000)).2) (congrArg Prod.snd K3_take_2)) _) (Nat.mul_le_mul_left 2 (Nat.sub_le_sub_right (gl_of (S := (ci (ci S_6 8 5 0) 8 6 1000000)) (S' := (K3_take 63 (ci (ci S_6 8 5 0) 8 6 1000000)).2) (congrArg Prod.snd K3_take_2)) _)) ?_
    have k_50v := K3_take_v (x := 63) hV (by omega)
    have k_50l : (ci (ci S_6 8 5 0) 8 6 1000000).1 8 3 ≤ (K3_take 63 (ci (ci S_6 8 5 0) 8 6 1000000)).2.1 8 3 := by rcases k_50v with ⟨-, h9, -⟩ | ⟨-, h9, -⟩ <;> rw [h9] <;> first | exact Int.le_refl _ | (simp only [ci_eq, zu_eq]; omega)
    have hV := rV_take (x := 63) hV (by omega)
    have hF : cFx 7 b (K3_take 63 (ci (ci S_6 8 5 0) 8 6 1000000)).2 := cFx_of (congrArg Prod.snd K3_take_2) hF
    have k_50b : (K3_take 63 (ci (ci S_6 8 5 0) 8 6 1000000)).1 = 0 ∨ (K3_take 63 (ci (ci S_6 8 5 0) 8 6 1000000)).1 = 1 := by rcases k_50v with ⟨h9, -⟩ | ⟨h9, -⟩ <;> omega
    have k_50n : (K3_take 63 (ci (ci S_6 8 5 0) 8 6 1000000)).1 = 0 ∨ (K3_take 63 (ci (ci S_6 8 5 0) 8 6 1000000)).2.1 8 3 = (ci (ci S_6 8 5 0) 8 6 1000000).1 8 3 + 1 := by rcases k_50v with ⟨h9, -⟩ | ⟨-, h9, -⟩ <;> first | exact Or.inl h9 | exact Or.inr (by rw [h9, ci_eq, zu_eq])
    generalize hS_55 : (K3_take 63 (ci (ci S_6 8 5 0) 8 6 1000000)).2 = S_55 at *
    generalize hv_54 : (K3_take 63 (ci (ci S_6 8 5 0) 8 6 1000000)).1 = v_54 at *
    obtain ⟨hP, hLa, hLb, hcs, ha0, ha1, hga, hgb, hna, hnb, hma, hmb, hzz⟩ := id hV
    refine c_putz (q := (cq q x y)) B (iC3 _) tyX3 tyX3_ok nmX3 hK hM 8 7 3 (by decide) rfl rfl (by decide) (by decide) rfl rfl rfl (by omega) (by decide +kernel) (by decide) (List.mem_cons_of_mem _ wC_fRX3_131) dX3_readCount_93 (fun H locs hM => ?_)
    have hP : pB 7 (ci S_55 8 7 v_54) := pB_ci (by decide) (by decide) hP
    refine z_iconst B.1 B.2.1 dX3_readCount_96 ?_
    exact g_retz (S := (ci S_55 8 7 v_54)) B hM (by decide) (by subst hS_6; subst hv_5; subst hS_55; subst hv_54; unfold K3_readCount; exact (if_neg c_7)) dX3_readCount_97
theorem K3_addAnySign_1 {S : CSt} : (K3_addAnySign S).1 = S.1 := by
  unfold K3_addAnySign
  split
  · exact K5_addRange_1
  · exact K5_addRange_1.trans K5_addRange_1
theorem K3_addAnySign_22 {S : CSt} : (K3_addAnySign S).2.2 = S.2.2 := by
  unfold K3_addAnySign
  split
  · exact K5_addRange_22
  · exact K5_addRange_22.trans K5_addRange_22
theorem K3_addAnySign_2 {S : CSt} {n : Nat} (h : n ≠ 9) : (K3_addAnySign S).2.1 n = S.2.1 n := by
  unfold K3_addAnySign
  split
  · exact K5_addRange_2 h
  · exact (K5_addRange_2 h).trans (K5_addRange_2 h)
theorem pB_one' {S : CSt} (hP : pB 7 S) : pB 7 (K2_addOneSign S).2.2 := by
  by_cases h : (K2_addOneSign S).1 = 0
  · exact pB_addOneSign hP h
  · have : (K2_addOneSign S).2.2 = (K2_add 1 (-1) (-1) S).2.2 := by
      revert h
      unfold K2_addOneSign
      (repeat' split) <;> intro h <;> first | rfl | exact absurd rfl h
    rw [this]
    exact pB_add' hP (by decide) (by decide) (by decide) (by decide) (by decide) (by decide)
/-- a leaf is added -/
def oneS (tu : Int) (S : CSt) : CSt := if K2_has 7 4 S = 0 then (if tu = 0 then S else K5_turnRound S) else (if tu = 0 then K5_addSameLetters S else K5_turnRound (K5_addSameLetters S))
theorem oneS_1 {tu : Int} {S : CSt} : (oneS tu S).1 = S.1 := by
  unfold oneS
  (repeat' split)
  · rfl
  · exact K5_turnRound_1
  · exact K5_addSameLetters_1
  · exact K5_turnRound_1.trans K5_addSameLetters_1
theorem oneS_22 {tu : Int} {S : CSt} : (oneS tu S).2.2 = S.2.2 := by
  unfold oneS
  (repeat' split)
  · rfl
  · exact K5_turnRound_22
  · exact K5_addSameLetters_22
  · exact K5_turnRound_22.trans K5_addSameLetters_22
theorem oneS_2 {tu : Int} {S : CSt} {n : Nat} (h : n ≠ 9) : (oneS tu S).2.1 n = S.2.1 n := by
  unfold oneS
  (repeat' split)
  · rfl
  · exact K5_turnRound_2 h
  · exact K5_addSameLetters_2 h
  · exact (K5_turnRound_2 h).trans (K5_addSameLetters_2 h)
theorem K3_addOneSign_eq {tu : Int} {S : CSt} : K3_addOneSign tu S = gBd (K2_addOneSign (oneS tu S)) (fun _ T => (0, 1, T)) := by
  unfold K3_addOneSign oneS
  (repeat' split) <;> rfl
theorem K3_addOneSign_R0 {tu : Int} {S : CSt} (hP : pB 7 S) : rK S (K3_addOneSign tu S).2.2 ∧ pB 7 (K3_addOneSign tu S).2.2 ∧ ((K3_addOneSign tu S).1 = 0 ∧ (K3_addOneSign tu S).2.1 = 1 ∧ (K2_addOneSign (oneS tu S)).1 = 0 ∨ (K3_addOneSign tu S).1 = 1) ∧ (K3_addOneSign tu S).2.2 = (K2_addOneSign (oneS tu S)).2.2 := by
  have e : (K3_addOneSign tu S).2.2 = (K2_addOneSign (oneS tu S)).2.2 := by
    rw [K3_addOneSign_eq]
    show (if (K2_addOneSign (oneS tu S)).1 = 0 then ((0, 1, (K2_addOneSign (oneS tu S)).2.2) : CR) else (1, 0, (K2_addOneSign (oneS tu S)).2.2)).2.2 = _
    split <;> rfl
  have hP2 : pB 7 (oneS tu S) := pB_of (congrFun oneS_1 _) (fun j hj => congrFun oneS_1 _) hP
  refine ⟨?_, ?_, ?_, e⟩
  · rw [e]
    exact (rK.k5 oneS_1 oneS_22 (fun n h => oneS_2 h)).tr rK.one
  · rw [e]
    exact pB_one' hP2
  · rw [K3_addOneSign_eq]
    show (if (K2_addOneSign (oneS tu S)).1 = 0 then ((0, 1, (K2_addOneSign (oneS tu S)).2.2) : CR) else (1, 0, (K2_addOneSign (oneS tu S)).2.2)).1 = 0 ∧ (if (K2_addOneSign (oneS tu S)).1 = 0 then ((0, 1, (K2_addOneSign (oneS tu S)).2.2) : CR) else (1, 0, (K2_addOneSign (oneS tu S)).2.2)).2.1 = 1 ∧ _ ∨ (if (K2_addOneSign (oneS tu S)).1 = 0 then ((0, 1, (K2_addOneSign (oneS tu S)).2.2) : CR) else (1, 0, (K2_addOneSign (oneS tu S)).2.2)).1 = 1
    split
    · rename_i h; exact Or.inl ⟨rfl, rfl, h⟩
    · exact Or.inr rfl
theorem K3_addOneSign_R {tu : Int} {S : CSt} (hV : rV S) : rR (fun v T => v = 1 ∧ T.1 8 = S.1 8) S (K3_addOneSign tu S) := by
  obtain ⟨h1, h2, h3, h4⟩ := K3_addOneSign_R0 (tu := tu) hV.1
  have e8 : (K3_addOneSign tu S).2.2.1 8 = S.1 8 := by rw [h4, K2_addOneSign_1 (by decide), oneS_1]
  refine ⟨h1, h2, fun c => ⟨rV_of hV h2 (h1.2.1 2 (by decide) (by decide) (by decide)) (h1.2.1 13 (by decide) (by decide) (by decide)) e8, by rw [e8]; exact Int.le_refl _, ?_, e8⟩, ?_⟩
  · rcases h3 with h | h
    · exact h.2.1
    · rw [c] at h; exact absurd h.symm z1n0
  · rcases h3 with h | h
    · exact Or.inl h.1
    · exact Or.inr h
