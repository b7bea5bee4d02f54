/-- what Reader leaves alone -/
def rK (S S' : CSt) : Prop := S'.2.2 = S.2.2 ∧ (∀ n, n ≠ 7 → n ≠ 8 → (n < 26 ∨ 34 < n) → S'.1 n = S.1 n) ∧ (∀ n, n ≠ 9 → n ≠ 29 → n ≠ 30 → S'.2.1 n = S.2.1 n)
theorem rK.rf {S : CSt} : rK S S := ⟨rfl, fun _ _ _ _ => rfl, fun _ _ _ _ => rfl⟩
theorem rK.tr {S T U : CSt} (h : rK S T) (h' : rK T U) : rK S U := ⟨h'.1.trans h.1, fun n a b c => (h'.2.1 n a b c).trans (h.2.1 n a b c), fun n a b c => (h'.2.2 n a b c).trans (h.2.2 n a b c)⟩
theorem rK.c8 {S : CSt} {k : Nat} {v : Int} : rK S (ci S 8 k v) := ⟨rfl, fun n _ h _ => ci_ne h, fun _ _ _ _ => rfl⟩
theorem rK.add {S : CSt} {kd am nb : Int} : rK S (K2_add kd am nb S).2.2 := by
  refine ⟨congrArg Prod.snd K2_add_2, fun n h7 h8 hn => ?_, fun n _ _ _ => congrFun (congrArg Prod.fst K2_add_2) n⟩
  by_cases h6 : n < 6 ∨ (7 < n ∧ n < 17) ∨ 34 < n
  · exact K2_add_1 h6
  · unfold K2_add
    (repeat' split) <;> (try rfl)
    simp only [ci_ne h7, ci_ne (show n ≠ 28 by omega), ci_ne (show n ≠ 27 by omega), ci_ne (show n ≠ 26 by omega)]
theorem rK.one {S : CSt} : rK S (K2_addOneSign S).2.2 := by
  have key : ∀ (T : CSt) (u v : Nat) (x z : Int64), rK T (cj (cj T 29 u x) 30 v z) := fun T u v x z => ⟨rfl, fun _ _ _ _ => rfl, fun n _ h1 h2 => (cj_ne h2).trans (cj_ne h1)⟩
  unfold K2_addOneSign
  (repeat' split)
  · exact rK.add
  · exact rK.add.tr (key _ _ _ _ _)
  · exact rK.add
theorem rK.aim {S : CSt} {i am : Int} : rK S (K2_aimAt 7 i am S) := by
  unfold K2_aimAt
  split
  · exact rK.rf
  · exact ⟨rfl, fun n _ _ hn => ci_ne (show n ≠ 27 by omega), fun _ _ _ _ => rfl⟩
theorem rK.chain {S : CSt} {j am : Int} : rK S (K2_aimChainAt 7 j am S) := by
  have key : ∀ (n : Nat) (j i : Int) (T : CSt), rK T (K2_aimChainL 7 am n j i T) := by
    intro n
    induction n with
    | zero => intro j i T; rw [K2_aimChainL]; exact rK.rf
    | succ n ih =>
      intro j i T
      rw [K2_aimChainL]
      (repeat' split) <;> first | exact rK.rf | exact rK.aim.tr (ih _ _ _)
  exact key _ _ _ _
theorem rK.c7 {S : CSt} {k : Nat} {v : Int} : rK S (ci S 7 k v) := ⟨rfl, fun n h _ _ => ci_ne h, fun _ _ _ _ => rfl⟩
theorem rK.group {S : CSt} : rK S (K2_addGroup S).2.2 := by
  unfold K2_addGroup
  (repeat' split) <;> first | exact rK.rf | exact rK.c7
theorem rK.look {S : CSt} : rK S (K2_addLook S).2.2 := by
  unfold K2_addLook
  (repeat' split) <;> first | exact rK.rf | exact rK.c7
theorem rK.loop {S : CSt} {a b c : Int} : rK S (K2_addLoop a b c S).2.2 := by
  unfold K2_addLoop
  (repeat' split) <;> first
    | exact rK.rf
    | exact ⟨rfl, fun n h7 _ hn => (ci_ne h7).trans ((ci_ne (show n ≠ 34 by omega)).trans ((ci_ne (show n ≠ 33 by omega)).trans ((ci_ne (show n ≠ 32 by omega)).trans (ci_ne (show n ≠ 31 by omega))))), fun _ _ _ _ => rfl⟩
theorem rK.k5 {S S' : CSt} (h1 : S'.1 = S.1) (h2 : S'.2.2 = S.2.2) (h3 : ∀ n, n ≠ 9 → S'.2.1 n = S.2.1 n) : rK S S' := ⟨h2, fun n _ _ _ => congrFun h1 n, fun n h _ _ => h3 n h⟩
theorem rK.take {S : CSt} {x : Int} : rK S (K3_take x S).2 := ⟨congrArg Prod.snd K3_take_2, fun n _ h _ => K3_take_1 h, fun n _ _ _ => congrFun (congrArg Prod.fst K3_take_2) n⟩
theorem rK.opn {S : CSt} {x : Int} : rK S (K3_takeOpening x S).2 := ⟨congrArg Prod.snd K3_takeOpening_2, fun n _ h _ => K3_takeOpening_1 h, fun n _ _ _ => congrFun (congrArg Prod.fst K3_takeOpening_2) n⟩
/-- what a part of Reader gives -/
def rR (P : Int → CSt → Prop) (S : CSt) (r : CR) : Prop := rK S r.2.2 ∧ pB 7 r.2.2 ∧ (r.1 = 0 → rV r.2.2 ∧ S.1 8 3 ≤ r.2.2.1 8 3 ∧ P r.2.1 r.2.2) ∧ (r.1 = 0 ∨ r.1 = 1)
theorem rV_of {S S' : CSt} (hV : rV S) (hP : pB 7 S') (h2 : S'.1 2 = S.1 2) (h13 : S'.1 13 = S.1 13) (h8 : S'.1 8 = S.1 8) : rV S' := by
  obtain ⟨-, hr⟩ := hV
  refine ⟨hP, ?_⟩
  rw [h2, h13, h8]
  exact hr
theorem rR.thr {P : Int → CSt → Prop} {S S' : CSt} (hk : rK S S') (hP : pB 7 S') : rR P S (1, 0, S') := ⟨hk, hP, fun h => absurd h z1n0, Or.inr rfl⟩
theorem rR.ret {P : Int → CSt → Prop} {S S' : CSt} {v : Int} (hk : rK S S') (hV : rV S') (ha : S.1 8 3 ≤ S'.1 8 3) (hp : P v S') : rR P S (0, v, S') := ⟨hk, hV.1, fun _ => ⟨hV, ha, hp⟩, Or.inl rfl⟩
theorem rV_add {S : CSt} {kd am nb : Int} (hV : rV S) (h : (K2_add kd am nb S).1 = 0) (h0 : -1 ≤ kd) (h1 : kd ≤ 1000000) (h2 : -1 ≤ am) (h3 : am ≤ 1000000) (h4 : -1 ≤ nb) (h5 : nb ≤ 1000000) : rV (K2_add kd am nb S).2.2 := rV_of hV (pB_add hV.1 h h0 h1 h2 h3 h4 h5) (K2_add_1 (by decide)) (K2_add_1 (by decide)) (K2_add_1 (by decide))
theorem pB_add' {S : CSt} {kd am nb : Int} (hP : pB 7 S) (h0 : -1 ≤ kd) (h1 : kd ≤ 1000000) (h2 : -1 ≤ am) (h3 : am ≤ 1000000) (h4 : -1 ≤ nb) (h5 : nb ≤ 1000000) : pB 7 (K2_add kd am nb S).2.2 := by
  by_cases h : (K2_add kd am nb S).1 = 0
  · exact pB_add hP h h0 h1 h2 h3 h4 h5
  · have : (K2_add kd am nb S).2.2 = S := by
      revert h
      unfold K2_add
      (repeat' split) <;> intro h <;> first | rfl | exact absurd rfl h
    rw [this]; exact hP
theorem K3_readDigit_R {S : CSt} (hV : rV S) : rR (fun v _ => 0 ≤ v ∧ v ≤ 9) S (K3_readDigit S) := by
  have hb := K4_at_b2 hV.2.2.2.1 (S.1 8 3)
  unfold K3_readDigit
  (repeat' split)
  · exact rR.thr rK.rf hV.1
  · have := (hb.2.2 (by omega)).2
    have h3 := hV.2.2.2.2.1
    refine rR.ret rK.c8 (rV_at hV (by omega) (by omega)) ?_ ⟨by omega, by omega⟩
    rw [ci_eq, zu_eq]; omega
  · exact rR.thr rK.rf hV.1
abbrev gBd (r : CR) (k : Int → CSt → CR) : CR := if r.1 = 0 then k r.2.1 r.2.2 else (1, 0, r.2.2)
abbrev gLt (r : Int × CSt) (k : Int → CSt → CR) : CR := k r.1 r.2
def K3_readBraces (S : CSt) : CR := (gBd (K3_readDigit S) (fun v_3 S_4 => (gLt (K3_take 44 (ci (ci S_4 8 5 v_3) 8 6 v_3)) (fun v_9 S_10 => (if v_9 = 0 then (gLt (K3_take 125 S_10) (fun v_16 S_17 => (if v_16 = 0 then (1, 0, S_17) else (if (S_17.1 8 5) ≤ (S_17.1 8 6) then (0, 0, S_17) else (1, 0, S_17))))) else (if ((K4_at 2 (S_10.1 8 3) S_10)) = 125 then (gLt (K3_take 125 (ci S_10 8 6 1000000)) (fun v_42 S_43 => (if v_42 = 0 then (1, 0, S_43) else (if (S_43.1 8 5) ≤ (S_43.1 8 6) then (0, 0, S_43) else (1, 0, S_43))))) else (gBd (K3_readDigit S_10) (fun v_28 S_29 => (gLt (K3_take 125 (ci S_29 8 6 v_28)) (fun v_34 S_35 => (if v_34 = 0 then (1, 0, S_35) else (if (S_35.1 8 5) ≤ (S_35.1 8 6) then (0, 0, S_35) else (1, 0, S_35)))))))))))))
set_option maxHeartbeats 1000000 in
set_option maxRecDepth 100000 in
theorem cX3_readBraces_ok (l : Launch) (hl0 : l.stackTraces = false) (D : va_G) (cy : Nat → ClassId) (q : Nat → Nat) (V : Nat × (Nat → Nat)) (n0 x y b : Nat) (S : CSt) (hF : cFx 7 b S) (hV : rV S) : gMv l D cy q V n0 x y "java/lang/IllegalArgumentException" yX3_readBraces (.code yX3_readBraces cX3_readBraces 1 none :: TBC) 7 111 S [.ref (q 8)] (K3_readBraces S) := by
  refine g_of (cc := cX3_readBraces) (maxL := 1) (ret := none) (by decide) rfl rfl (Nat.le_of_ble_eq_true rfl) ?_
  intro p e s m args below meth c ls B hK hG hM hl
  generalize gA (cq q x y) n0 = A at hG hM ⊢
  have hR : (headSpec (.code yX3_readBraces cX3_readBraces 1 none :: TBC) (gRm 7 111 S)).room.cells = (gK - gl S) + 1 ∧ (headSpec (.code yX3_readBraces cX3_readBraces 1 none :: TBC) (gRm 7 111 S)).room.slots = 2 * (gK - gl S) + 6 := ⟨rfl, rfl⟩
  have hl : lv_has ls 1 [(0, .ref (q 8))] := hl
  obtain ⟨hP, hLa, hLb, hcs, ha0, ha1, hga, hgb, hna, hnb, hma, hmb, hzz⟩ := id hV
  refine lv_aload_n B.1 B.2.1 dX3_readBraces_0 rfl (lv_at hl 0 rfl) ?_
  refine lv_aload_n B.1 B.2.1 dX3_readBraces_1 rfl (lv_at hl 0 rfl) ?_
  refine g_calli (E := "java/lang/IllegalArgumentException") (As := []) (rest := [.ref (q 8)]) B hK hG hM 8 (by decide) (by decide) rfl (cX3_readDigit_ok l hl0 D cy q V n0 x y b S hF   hV) (cwC 0 B wC_mRX3_210 wC_im_yX3_readDigit wC_sl_yX3_readDigit wC_in_RX3 wC_cd_yX3_readDigit rfl rfl (by decide +kernel) ⟨Nat.le_of_ble_eq_true rfl, Nat.le_of_ble_eq_true rfl⟩) rfl hl.1 rfl (Nat.le_of_ble_eq_true rfl) dX3_readBraces_2 hR (Nat.le_refl _) (cFx_gl hF) (gl_of (K3_readDigit_R  (S := S) hV ).1.1) (fun c_2 => (by unfold K3_readBraces; exact (if_neg c_2))) (fun x y H locs c_2 hM => ?_)
  have hg : gl S ≤ gl (K3_readDigit S).2.2 := Nat.le_trans (Nat.le_refl _) (gl_of (K3_readDigit_R  (S := S) hV ).1.1)
  obtain ⟨k_1, -, k_1v, -⟩ := K3_readDigit_R  (S := S) hV 
  obtain ⟨hV, k_1l, k_1p⟩ := k_1v c_2
  have hF : cFx 7 b (K3_readDigit S).2.2 := cFx_of k_1.1 hF
  generalize hS_4 : (K3_readDigit S).2.2 = S_4 at *
  generalize hv_3 : (K3_readDigit S).2.1 = v_3 at *
  obtain ⟨hP, hLa, hLb, hcs, ha0, ha1, hga, hgb, hna, hnb, hma, hmb, hzz⟩ := id hV
  refine c_puti (q := (cq q x y)) B (iC3 _) tyX3 tyX3_ok nmX3 hK hM 8 5 3 (by decide) rfl rfl (by decide) (by decide) rfl rfl rfl (by decide +kernel) (by decide) (List.mem_cons_of_mem _ wC_fRX3_122) dX3_readBraces_5 (fun H locs hM => ?_)
  have hP : pB 7 (ci S_4 8 5 v_3) := pB_ci (by decide) (by decide) hP
  refine lv_aload_n B.1 B.2.1 dX3_readBraces_8 rfl (lv_at hl 0 rfl) ?_
  refine lv_aload_n B.1 B.2.1 dX3_readBraces_9 rfl (lv_at hl 0 rfl) ?_
  refine c_geti (q := (cq q x y)) (x := v_3) B (iC3 _) hK hM 8 5 3 (by decide) rfl rfl (by decide) (by decide) rfl rfl (by decide) rfl (List.mem_cons_of_mem _ wC_fRX3_122) dX3_readBraces_10 ?_
  refine c_puti (q := (cq q x y)) B (iC3 _) tyX3 tyX3_ok nmX3 hK hM 8 6 3 (by decide) rfl rfl (by decide) (by decide) rfl rfl rfl (by decide +kernel) (by decide) (List.mem_cons_of_mem _ wC_fRX3_125) dX3_readBraces_13 (fun H locs hM => ?_)
  have hP : pB 7 (ci (ci S_4 8 5 v_3) 8 6 v_3) := pB_ci (by decide) (by decide) hP
  refine lv_aload_n B.1 B.2.1 dX3_readBraces_16 rfl (lv_at hl 0 rfl) ?_
  refine z_bipush B.1 B.2.1 (by decide) dX3_readBraces_17 ?_
  have hV : rV (ci (ci S_4 8 5 v_3) 8 6 v_3) := ⟨hP, (by show 0 ≤ (S_4.1 2 1); omega), (by show (S_4.1 2 1) ≤ 40; omega), hcs, (by show 0 ≤ (S_4.1 8 3); omega), (by show (S_4.1 8 3) ≤ (S_4.1 2 1); omega), (by show 0 ≤ (S_4.1 8 4); omega), (by show (S_4.1 8 4) ≤ 9; omega), (by show 0 ≤ v_3; omega), (by show v_3 ≤ 9; omega), (by show 0 ≤ v_3; omega), (by show v_3 ≤ 9 ∨ v_3 = 1000000; omega), (by show (S_4.1 8 7) = 0 ∨ (S_4.1 8 7) = 1; omega)⟩
  refine c_calli (q := (cq q x y)) (As := [.int (zI 44)]) (rest := []) B hK hM 8 (by decide) (by decide) rfl (cX3_take_ok l D cy (cq q x y) b (ci (ci S_4 8 5 v_3) 8 6 v_3) hF  44 hV (by show 1 ≤ 44; omega) (by show 44 < 65536; omega)) (cwC 1 B wC_mRX3_76 wC_im_yX3_take wC_sl_yX3_take wC_in_RX3 wC_cd_yX3_take rfl rfl (by decide +kernel) ⟨Nat.le_of_ble_eq_true rfl, Nat.le_of_ble_eq_true rfl⟩) rfl hl.1 rfl (Nat.le_of_ble_eq_true rfl) dX3_readBraces_19 ⟨g_rc hR hg (cFx_gl (S := (ci (ci S_4 8 5 v_3) 8 6 v_3)) hF), g_rs hR hg (cFx_gl (S := (ci (ci S_4 8 5 v_3) 8 6 v_3)) hF)⟩ (fun z_8 S_7 H locs hp_6 hM => ?_)
  obtain ⟨hp_6, he_hp_6⟩ := hp_6
  have he_hp_6 := he_hp_6.symm
  subst he_hp_6
  have hp_6 : (K3_take 44 (ci (ci S_4 8 5 v_3) 8 6 v_3)).1 = z_8 := hp_6.symm
  subst hp_6
  have hg : gl S ≤ gl (K3_take 44 (ci (ci S_4 8 5 v_3) 8 6 v_3)).2 := Nat.le_trans hg (gl_of (S := (ci (ci S_4 8 5 v_3) 8 6 v_3)) (S' := (K3_take 44 (ci (ci S_4 8 5 v_3) 8 6 v_3)).2) (congrArg Prod.snd K3_take_2))
  refine W.widen (k := gl (K3_take 44 (ci (ci S_4 8 5 v_3) 8 6 v_3)).2 - gl S) (n := 2 * (gl (K3_take 44 (ci (ci S_4 8 5 v_3) 8 6 v_3)).2 - gl S)) (Nat.sub_le_sub_right (gl_of (S := (ci (ci S_4 8 5 v_3) 8 6 v_3)) (S' := (K3_take 44 (ci (ci S_4 8 5 v_3) 8 6 v_3)).2) (congrArg Prod.snd K3_take_2)) _) (Nat.mul_le_mul_left 2 (Nat.sub_le_sub_right (gl_of (S := (ci (ci S_4 8 5 v_3) 8 6 v_3)) (S' := (K3_take 44 (ci (ci S_4 8 5 v_3) 8 6 v_3)).2) (congrArg Prod.snd K3_take_2)) _)) ?_
  have k_5v := K3_take_v (x := 44) hV (by omega)
  have k_5l : (ci (ci S_4 8 5 v_3) 8 6 v_3).1 8 3 ≤ (K3_take 44 (ci (ci S_4 8 5 v_3) 8 6 v_3)).2.1 8 3 := by rcases k_5v with ⟨-, h9, -⟩ | ⟨-, h9, -⟩ <;> rw [h9] <;> first | exact Int.le_refl _ | (simp only [ci_eq, zu_eq]; omega)
  have hV := rV_take (x := 44) hV (by omega)
  have hF : cFx 7 b (K3_take 44 (ci (ci S_4 8 5 v_3) 8 6 v_3)).2 := cFx_of (congrArg Prod.snd K3_take_2) hF
  have k_5b : (K3_take 44 (ci (ci S_4 8 5 v_3) 8 6 v_3)).1 = 0 ∨ (K3_take 44 (ci (ci S_4 8 5 v_3) 8 6 v_3)).1 = 1 := by rcases k_5v with ⟨h9, -⟩ | ⟨h9, -⟩ <;> omega
  have k_5n : (K3_take 44 (ci (ci S_4 8 5 v_3) 8 6 v_3)).1 = 0 ∨ (K3_take 44 (ci (ci S_4 8 5 v_3) 8 6 v_3)).2.1 8 3 = (ci (ci S_4 8 5 v_3) 8 6 v_3).1 8 3 + 1 := by rcases k_5v with ⟨h9, -⟩ | ⟨-, h9, -⟩ <;> first | exact Or.inl h9 | exact Or.inr (by rw [h9, ci_eq, zu_eq])
  generalize hS_10 : (K3_take 44 (ci (ci S_4 8 5 v_3) 8 6 v_3)).2 = S_10 at *
  generalize hv_9 : (K3_take 44 (ci (ci S_4 8 5 v_3) 8 6 v_3)).1 = v_9 at *
  obtain ⟨hP, hLa, hLb, hcs, ha0, ha1, hga, hgb, hna, hnb, hma, hmb, hzz⟩ := id hV
  refine z_if_eq (tgt := 54) B.1 B.2.1 (zr_of (by omega) (by omega)) dX3_readBraces_22 (by decide) (fun c_11 => ?_) (fun c_11 => ?_)
  · --
    refine lv_aload_n B.1 B.2.1 dX3_readBraces_54 rfl (lv_at hl 0 rfl) ?_
    refine z_bipush B.1 B.2.1 (by decide) dX3_readBraces_55 ?_
    refine c_calli (q := (cq q x y)) (As := [.int (zI 125)]) (rest := []) B hK hM 8 (by decide) (by decide) rfl (cX3_take_ok l D cy (cq q x y) b S_10 hF  125 hV (by show 1 ≤ 125; omega) (by show 125 < 65536; omega)) (cwC 1 B wC_mRX3_76 wC_im_yX3_take wC_sl_yX3_take wC_in_RX3 wC_cd_yX3_take rfl rfl (by decide +kernel) ⟨Nat.le_of_ble_eq_true rfl, Nat.le_of_ble_eq_true rfl⟩) rfl hl.1 rfl (Nat.le_of_ble_eq_true rfl) dX3_readBraces_57 ⟨g_rc hR hg (cFx_gl (S := S_10) hF), g_rs hR hg (cFx_gl (S := S_10) hF)⟩ (fun z_15 S_14 H locs hp_13 hM => ?_)
    obtain ⟨hp_13, he_hp_13⟩ := hp_13
    have he_hp_13 := he_hp_13.symm
    subst he_hp_13
    have hp_13 : (K3_take 125 S_10).1 = z_15 := hp_13.symm
    subst hp_13
    have hg : gl S ≤ gl (K3_take 125 S_10).2 := Nat.le_trans hg (gl_of (S := S_10) (S' := (K3_take 125 S_10).2) (congrArg Prod.snd K3_take_2))
    refine W.widen (k := gl (K3_take 125 S_10).2 - gl S) (n := 2 * (gl (K3_take 125 S_10).2 - gl S)) (Nat.sub_le_sub_right (gl_of (S := S_10) (S' := (K3_take 125 S_10).2) (congrArg Prod.snd K3_take_2)) _) (Nat.mul_le_mul_left 2 (Nat.sub_le_sub_right (gl_of (S := S_10) (S' := (K3_take 125 S_10).2) (congrArg Prod.snd K3_take_2)) _)) ?_
    have k_12v := K3_take_v (x := 125) hV (by omega)
    have k_12l : S_10.1 8 3 ≤ (K3_take 125 S_10).2.1 8 3 := by rcases k_12v with ⟨-, h9, -⟩ | ⟨-, h9, -⟩ <;> rw [h9] <;> first | exact Int.le_refl _ | (simp only [ci_eq, zu_eq]; omega)
    have hV := rV_take (x := 125) hV (by omega)
    have hF : cFx 7 b (K3_take 125 S_10).2 := cFx_of (congrArg Prod.snd K3_take_2) hF
    have k_12b : (K3_take 125 S_10).1 = 0 ∨ (K3_take 125 S_10).1 = 1 := by rcases k_12v with ⟨h9, -⟩ | ⟨h9, -⟩ <;> omega
    have k_12n : (K3_take 125 S_10).1 = 0 ∨ (K3_take 125 S_10).2.1 8 3 = S_10.1 8 3 + 1 := by rcases k_12v with ⟨h9, -⟩ | ⟨-, h9, -⟩ <;> first | exact Or.inl h9 | exact Or.inr (by rw [h9, ci_eq, zu_eq])
    generalize hS_17 : (K3_take 125 S_10).2 = S_17 at *
    generalize hv_16 : (K3_take 125 S_10).1 = v_16 at *
    obtain ⟨hP, hLa, hLb, hcs, ha0, ha1, hga, hgb, hna, hnb, hma, hmb, hzz⟩ := id hV
    refine z_if_ne (tgt := 73) B.1 B.2.1 (zr_of (by omega) (by omega)) dX3_readBraces_60 (by decide) (fun c_18 => ?_) (fun c_18 => ?_)
    · --
      refine lv_aload_n B.1 B.2.1 dX3_readBraces_73 rfl (lv_at hl 0 rfl) ?_
      refine c_geti (q := (cq q x y)) (x := S_17.1 8 5) B (iC3 _) hK hM 8 5 3 (by decide) rfl rfl (by decide) (by decide) rfl rfl (by decide) rfl (List.mem_cons_of_mem _ wC_fRX3_122) dX3_readBraces_74 ?_
      refine lv_aload_n B.1 B.2.1 dX3_readBraces_77 rfl (lv_at hl 0 rfl) ?_
      refine c_geti (q := (cq q x y)) (x := S_17.1 8 6) B (iC3 _) hK hM 8 6 3 (by decide) rfl rfl (by decide) (by decide) rfl rfl (by decide) rfl (List.mem_cons_of_mem _ wC_fRX3_125) dX3_readBraces_78 ?_
      refine z_icmp_le (tgt := 94) B.1 B.2.1 (zr_of (by omega) (by omega)) (zr_of (by omega) (by omega)) dX3_readBraces_81 (by decide) (fun c_19 => ?_) (fun c_19 => ?_)
      · --
        exact g_retv (S := S_17) B hM (by subst hS_4; subst hv_3; subst hS_10; subst hv_9; subst hS_17; subst hv_16; unfold K3_readBraces; exact ((if_pos c_2).trans ((if_pos c_11).trans ((if_neg c_18).trans (if_pos c_19))))) dX3_readBraces_94
      · --
        exact g_throw (S := S_17) (E := "java/lang/IllegalArgumentException") (ik := 49) (is := 215) (ic := 53) 21 (by decide) hl0 B hG hM rfl sX_java_lang_IllegalArgumentException (by decide +kernel) (List.mem_cons_of_mem _ wC_cRX3_49) (List.mem_cons_of_mem _ wC_in__java_lang_IllegalArgumentException_) (tC_RX3_53 _) tN_RX3_53 hl.1 (Nat.le_of_ble_eq_true rfl) hR (Nat.le_of_ble_eq_true rfl) (Nat.le_of_ble_eq_true rfl) hg (cFx_gl hF) (tO_RX3_53 _) dX3_readBraces_84 dX3_readBraces_87 dX3_readBraces_88 dX3_readBraces_90 dX3_readBraces_93 (by subst hS_4; subst hv_3; subst hS_10; subst hv_9; subst hS_17; subst hv_16; unfold K3_readBraces; exact ((if_pos c_2).trans ((if_pos c_11).trans ((if_neg c_18).trans (if_neg c_19)))))
    · --
      exact g_throw (S := S_17) (E := "java/lang/IllegalArgumentException") (ik := 49) (is := 213) (ic := 53) 20 (by decide) hl0 B hG hM rfl sX_java_lang_IllegalArgumentException (by decide +kernel) (List.mem_cons_of_mem _ wC_cRX3_49) (List.mem_cons_of_mem _ wC_in__java_lang_IllegalArgumentException_) (tC_RX3_53 _) tN_RX3_53 hl.1 (Nat.le_of_ble_eq_true rfl) hR (Nat.le_of_ble_eq_true rfl) (Nat.le_of_ble_eq_true rfl) hg (cFx_gl hF) (tO_RX3_53 _) dX3_readBraces_63 dX3_readBraces_66 dX3_readBraces_67 dX3_readBraces_69 dX3_readBraces_72 (by subst hS_4; subst hv_3; subst hS_10; subst hv_9; subst hS_17; subst hv_16; unfold K3_readBraces; exact ((if_pos c_2).trans ((if_pos c_11).trans (if_pos c_18))))
  · --
    refine lv_aload_n B.1 B.2.1 dX3_readBraces_25 rfl (lv_at hl 0 rfl) ?_
    refine lv_aload_n B.1 B.2.1 dX3_readBraces_26 rfl (lv_at hl 0 rfl) ?_
    refine c_getr (q := (cq q x y)) (r := 2) B (iC3 _) hK hM 8 0 3 (by decide) rfl rfl (by decide) (by decide) rfl rfl rfl (cFx_r hF 8 0) (List.mem_cons_of_mem _ wC_fRX3_18) dX3_readBraces_27 ?_
    refine lv_aload_n B.1 B.2.1 dX3_readBraces_30 rfl (lv_at hl 0 rfl) ?_
    refine c_geti (q := (cq q x y)) (x := S_10.1 8 3) B (iC3 _) hK hM 8 3 3 (by decide) rfl rfl (by decide) (by decide) rfl rfl (by decide) rfl (List.mem_cons_of_mem _ wC_fRX3_32) dX3_readBraces_31 ?_
    refine c_calli (q := (cq q x y)) (As := [.int (zI (S_10.1 8 3))]) (rest := [.ref (q 8)]) B hK hM 2 (by decide) (by decide) rfl (cX4_at_ok l D cy (cq q x y) 7 b S_10 hF 2 (by decide) (S_10.1 8 3) (by show 0 ≤ (S_10.1 2 1); omega) (by show (S_10.1 2 1) ≤ 100000; omega) (by show -10000000 ≤ (S_10.1 8 3); omega) (by show (S_10.1 8 3) ≤ 10000000; omega) (hcs_of hcs)) (cwC 1 B wC_mRX3_70 wC_im_yX4_at wC_sl_yX4_at wC_in_RX4 wC_cd_yX4_at rfl rfl (by decide +kernel) ⟨Nat.le_of_ble_eq_true rfl, Nat.le_of_ble_eq_true rfl⟩) rfl hl.1 rfl (Nat.le_of_ble_eq_true rfl) dX3_readBraces_34 ⟨g_rc hR hg (cFx_gl (S := S_10) hF), g_rs hR hg (cFx_gl (S := S_10) hF)⟩ (fun z_23 S_22 H locs hp_21 hM => ?_)
    obtain ⟨hp_21, he_hp_21⟩ := hp_21
    have he_hp_21 := he_hp_21.symm
    subst he_hp_21
    have hp_21 : (K4_at 2 (S_10.1 8 3) S_10) = z_23 := hp_21.symm
    subst hp_21
    have f_24 := K4_at_b2 (S := S_10) hcs (S_10.1 8 3)
    refine z_bipush B.1 B.2.1 (by decide) dX3_readBraces_37 ?_
    refine z_icmp_ne (tgt := 47) B.1 B.2.1 (zr_of (by omega) (by omega)) (zr_of (by decide) (by decide)) dX3_readBraces_39 (by decide) (fun c_25 => ?_) (fun c_25 => ?_)
    · --
      refine lv_aload_n B.1 B.2.1 dX3_readBraces_47 rfl (lv_at hl 0 rfl) ?_
      refine g_calli (E := "java/lang/IllegalArgumentException") (As := []) (rest := [.ref (q 8)]) B hK hG hM 8 (by decide) (by decide) rfl (cX3_readDigit_ok l hl0 D cy q V n0 x y b S_10 hF   hV) (cwC 0 B wC_mRX3_210 wC_im_yX3_readDigit wC_sl_yX3_readDigit wC_in_RX3 wC_cd_yX3_readDigit rfl rfl (by decide +kernel) ⟨Nat.le_of_ble_eq_true rfl, Nat.le_of_ble_eq_true rfl⟩) rfl hl.1 rfl (Nat.le_of_ble_eq_true rfl) dX3_readBraces_48 hR hg (cFx_gl hF) (gl_of (K3_readDigit_R  (S := S_10) hV ).1.1) (fun c_27 => (by subst hS_4; subst hv_3; subst hS_10; subst hv_9; unfold K3_readBraces; exact ((if_pos c_2).trans ((if_neg c_11).trans ((if_neg c_25).trans (if_neg c_27)))))) (fun x y H locs c_27 hM => ?_)
      have hg : gl S ≤ gl (K3_readDigit S_10).2.2 := Nat.le_trans hg (gl_of (K3_readDigit_R  (S := S_10) hV ).1.1)
      obtain ⟨k_26, -, k_26v, -⟩ := K3_readDigit_R  (S := S_10) hV 
      obtain ⟨hV, k_26l, k_26p⟩ := k_26v c_27
      have hF : cFx 7 b (K3_readDigit S_10).2.2 := cFx_of k_26.1 hF
      generalize hS_29 : (K3_readDigit S_10).2.2 = S_29 at *
      generalize hv_28 : (K3_readDigit S_10).2.1 = v_28 at *
      obtain ⟨hP, hLa, hLb, hcs, ha0, ha1, hga, hgb, hna, hnb, hma, hmb, hzz⟩ := id hV
      refine c_puti (q := (cq q x y)) B (iC3 _) tyX3 tyX3_ok nmX3 hK hM 8 6 3 (by decide) rfl rfl (by decide) (by decide) rfl rfl rfl (by decide +kernel) (by decide) (List.mem_cons_of_mem _ wC_fRX3_125) dX3_readBraces_51 (fun H locs hM => ?_)
      have hP : pB 7 (ci S_29 8 6 v_28) := pB_ci (by decide) (by decide) hP
      refine lv_aload_n B.1 B.2.1 dX3_readBraces_54 rfl (lv_at hl 0 rfl) ?_
      refine z_bipush B.1 B.2.1 (by decide) dX3_readBraces_55 ?_
      have hV : rV (ci S_29 8 6 v_28) := ⟨hP, (by show 0 ≤ (S_29.1 2 1); omega), (by show (S_29.1 2 1) ≤ 40; omega), hcs, (by show 0 ≤ (S_29.1 8 3); omega), (by show (S_29.1 8 3) ≤ (S_29.1 2 1); omega), (by show 0 ≤ (S_29.1 8 4); omega), (by show (S_29.1 8 4) ≤ 9; omega), (by show 0 ≤ (S_29.1 8 5); omega), (by show (S_29.1 8 5) ≤ 9; omega), (by show 0 ≤ v_28; omega), (by show v_28 ≤ 9 ∨ v_28 = 1000000; omega), (by show (S_29.1 8 7) = 0 ∨ (S_29.1 8 7) = 1; omega)⟩
      refine c_calli (q := (cq q x y)) (As := [.int (zI 125)]) (rest := []) B hK hM 8 (by decide) (by decide) rfl (cX3_take_ok l D cy (cq q x y) b (ci S_29 8 6 v_28) hF  125 hV (by show 1 ≤ 125; omega) (by show 125 < 65536; omega)) (cwC 1 B wC_mRX3_76 wC_im_yX3_take wC_sl_yX3_take wC_in_RX3 wC_cd_yX3_take rfl rfl (by decide +kernel) ⟨Nat.le_of_ble_eq_true rfl, Nat.le_of_ble_eq_true rfl⟩) rfl hl.1 rfl (Nat.le_of_ble_eq_true rfl) dX3_readBraces_57 ⟨g_rc hR hg (cFx_gl (S := (ci S_29 8 6 v_28)) hF), g_rs hR hg (cFx_gl (S := (ci S_29 8 6 v_28)) hF)⟩ (fun z_33 S_32 H locs hp_31 hM => ?_)
      obtain ⟨hp_31, he_hp_31⟩ := hp_31
      have he_hp_31 := he_hp_31.symm
      subst he_hp_31
      have hp_31 : (K3_take 125 (ci S_29 8 6 v_28)).1 = z_33 := hp_31.symm
      subst hp_31
      have hg : gl S ≤ gl (K3_take 125 (ci S_29 8 6 v_28)).2 := Nat.le_trans hg (gl_of (S := (ci S_29 8 6 v_28)) (S' := (K3_take 125 (ci S_29 8 6 v_28)).2) (congrArg Prod.snd K3_take_2))
      refine W.widen (k := gl (K3_take 125 (ci S_29 8 6 v_28)).2 - gl S) (n := 2 * (gl (K3_take 125 (ci S_29 8 6 v_28)).2 - gl S)) (Nat.sub_le_sub_right (gl_of (S := (ci S_29 8 6 v_28)) (S' := (K3_take 125 (ci S_29 8 6 v_28)).2) (congrArg Prod.snd K3_take_2)) _) (Nat.mul_le_mul_left 2 (Nat.sub_le_sub_right (gl_of (S := (ci S_29 8 6 v_28)) (S' := (K3_take 125 (ci S_29 8 6 v_28)).2) (congrArg Prod.snd K3_take_2)) _)) ?_
      have k_30v := K3_take_v (x := 125) hV (by omega)
      have k_30l : (ci S_29 8 6 v_28).1 8 3 ≤ (K3_take 125 (ci S_29 8 6 v_28)).2.1 8 3 := by rcases k_30v with ⟨-, h9, -⟩ | ⟨-, h9, -⟩ <;> rw [h9] <;> first | exact Int.le_refl _ | (simp only [ci_eq, zu_eq]; omega)
      have hV := rV_take (x := 125) hV (by omega)
      have hF : cFx 7 b (K3_take 125 (ci S_29 8 6 v_28)).2 := cFx_of (congrArg Prod.snd K3_take_2) hF
      have k_30b : (K3_take 125 (ci S_29 8 6 v_28)).1 = 0 ∨ (K3_take 125 (ci S_29 8 6 v_28)).1 = 1 := by rcases k_30v with ⟨h9, -⟩ | ⟨h9, -⟩ <;> omega
      have k_30n : (K3_take 125 (ci S_29 8 6 v_28)).1 = 0 ∨ (K3_take 125 (ci S_29 8 6 v_28)).2.1 8 3 = (ci S_29 8 6 v_28).1 8 3 + 1 := by rcases k_30v with ⟨h9, -⟩ | ⟨-, h9, -⟩ <;> first | exact Or.inl h9 | exact Or.inr (by rw [h9, ci_eq, zu_eq])
      generalize hS_35 : (K3_take 125 (ci S_29 8 6 v_28)).2 = S_35 at *
      generalize hv_34 : (K3_take 125 (ci S_29 8 6 v_28)).1 = v_34 at *
      obtain ⟨hP, hLa, hLb, hcs, ha0, ha1, hga, hgb, hna, hnb, hma, hmb, hzz⟩ := id hV
      refine z_if_ne (tgt := 73) B.1 B.2.1 (zr_of (by omega) (by omega)) dX3_readBraces_60 (by decide) (fun c_36 => ?_) (fun c_36 => ?_)
      · --
        refine lv_aload_n B.1 B.2.1 dX3_readBraces_73 rfl (lv_at hl 0 rfl) ?_
        refine c_geti (q := (cq q x y)) (x := S_35.1 8 5) B (iC3 _) hK hM 8 5 3 (by decide) rfl rfl (by decide) (by decide) rfl rfl (by decide) rfl (List.mem_cons_of_mem _ wC_fRX3_122) dX3_readBraces_74 ?_
        refine lv_aload_n B.1 B.2.1 dX3_readBraces_77 rfl (lv_at hl 0 rfl) ?_
        refine c_geti (q := (cq q x y)) (x := S_35.1 8 6) B (iC3 _) hK hM 8 6 3 (by decide) rfl rfl (by decide) (by decide) rfl rfl (by decide) rfl (List.mem_cons_of_mem _ wC_fRX3_125) dX3_readBraces_78 ?_
        refine z_icmp_le (tgt := 94) B.1 B.2.1 (zr_of (by omega) (by omega)) (zr_of (by omega) (by omega)) dX3_readBraces_81 (by decide) (fun c_37 => ?_) (fun c_37 => ?_)
        · --
          exact g_retv (S := S_35) B hM (by subst hS_4; subst hv_3; subst hS_10; subst hv_9; subst hS_29; subst hv_28; subst hS_35; subst hv_34; unfold K3_readBraces; exact ((if_pos c_2).trans ((if_neg c_11).trans ((if_neg c_25).trans ((if_pos c_27).trans ((if_neg c_36).trans (if_pos c_37))))))) dX3_readBraces_94
        · --
          exact g_throw (S := S_35) (E := "java/lang/IllegalArgumentException") (ik := 49) (is := 215) (ic := 53) 21 (by decide) hl0 B hG hM rfl sX_java_lang_IllegalArgumentException (by decide +kernel) (List.mem_cons_of_mem _ wC_cRX3_49) (List.mem_cons_of_mem _ wC_in__java_lang_IllegalArgumentException_) (tC_RX3_53 _) tN_RX3_53 hl.1 (Nat.le_of_ble_eq_true rfl) hR (Nat.le_of_ble_eq_true rfl) (Nat.le_of_ble_eq_true rfl) hg (cFx_gl hF) (tO_RX3_53 _) dX3_readBraces_84 dX3_readBraces_87 dX3_readBraces_88 dX3_readBraces_90 dX3_readBraces_93 (by subst hS_4; subst hv_3; subst hS_10; subst hv_9; subst hS_29; subst hv_28; subst hS_35; subst hv_34; unfold K3_readBraces; exact ((if_pos c_2).trans ((if_neg c_11).trans ((if_neg c_25).trans ((if_pos c_27).trans ((if_neg c_36).trans (if_neg c_37)))))))
      · --
        exact g_throw (S := S_35) (E := "java/lang/IllegalArgumentException") (ik := 49) (is := 213) (ic := 53) 20 (by decide) hl0 B hG hM rfl sX_java_lang_IllegalArgumentException (by decide +kernel) (List.mem_cons_of_mem _ wC_cRX3_49) (List.mem_cons_of_mem _ wC_in__java_lang_IllegalArgumentException_) (tC_RX3_53 _) tN_RX3_53 hl.1 (Nat.le_of_ble_eq_true rfl) hR (Nat.le_of_ble_eq_true rfl) (Nat.le_of_ble_eq_true rfl) hg (cFx_gl hF) (tO_RX3_53 _) dX3_readBraces_63 dX3_readBraces_66 dX3_readBraces_67 dX3_readBraces_69 dX3_readBraces_72 (by subst hS_4; subst hv_3; subst hS_10; subst hv_9; subst hS_29; subst hv_28; subst hS_35; subst hv_34; unfold K3_readBraces; exact ((if_pos c_2).trans ((if_neg c_11).trans ((if_neg c_25).trans ((if_pos c_27).trans (if_pos c_36))))))
    · --
      refine lv_ldc (v := zI 1000000) B.1 B.2.1 B.2.2.2.1 (B.2.2.2.2.1 _ (List.mem_cons_of_mem _ wC_kRX3_135)) dX3_readBraces_42 ?_
      refine lv_goto (tgt := 51) B.1 B.2.1 dX3_readBraces_44 (by decide) ?_
      refine c_puti (q := (cq q x y)) B (iC3 _) tyX3 tyX3_ok nmX3 hK hM 8 6 3 (by decide) rfl rfl (by decide) (by decide) rfl rfl rfl (by decide +kernel) (by decide) (List.mem_cons_of_mem _ wC_fRX3_125) dX3_readBraces_51 (fun H locs hM => ?_)
      have hP : pB 7 (ci S_10 8 6 1000000) := pB_ci (by decide) (by decide) hP
      refine lv_aload_n B.1 B.2.1 dX3_readBraces_54 rfl (lv_at hl 0 rfl) ?_
      refine z_bipush B.1 B.2.1 (by decide) dX3_readBraces_55 ?_
      have hV : rV (ci S_10 8 6 1000000) := ⟨hP, (by show 0 ≤ (S_10.1 2 1); omega), (by show (S_10.1 2 1) ≤ 40; omega), hcs, (by show 0 ≤ (S_10.1 8 3); omega), (by show (S_10.1 8 3) ≤ (S_10.1 2 1); omega), (by show 0 ≤ (S_10.1 8 4); omega), (by show (S_10.1 8 4) ≤ 9; omega), (by show 0 ≤ (S_10.1 8 5); omega), (by show (S_10.1 8 5) ≤ 9; omega), (by show 0 ≤ 1000000; omega), (by show 1000000 ≤ 9 ∨ 1000000 = 1000000; omega), (by show (S_10.1 8 7) = 0 ∨ (S_10.1 8 7) = 1; omega)⟩
      refine c_calli (q := (cq q x y)) (As := [.int (zI 125)]) (rest := []) B hK hM 8 (by decide) (by decide) rfl (cX3_take_ok l D cy (cq q x y) b (ci S_10 8 6 1000000) hF  125 hV (by show 1 ≤ 125; omega) (by show 125 < 65536; omega)) (cwC 1 B wC_mRX3_76 wC_im_yX3_take wC_sl_yX3_take wC_in_RX3 wC_cd_yX3_take rfl rfl (by decide +kernel) ⟨Nat.le_of_ble_eq_true rfl, Nat.le_of_ble_eq_true rfl⟩) rfl hl.1 rfl (Nat.le_of_ble_eq_true rfl) dX3_readBraces_57 ⟨g_rc hR hg (cFx_gl (S := (ci S_10 8 6 1000000)) hF), g_rs hR hg (cFx_gl (S := (ci S_10 8 6 1000000)) hF)⟩ (fun z_41 S_40 H locs hp_39 hM => ?_)
      obtain ⟨hp_39, he_hp_39⟩ := hp_39
      have he_hp_39 := he_hp_39.symm
      subst he_hp_39
      have hp_39 : (K3_take 125 (ci S_10 8 6 1000000)).1 = z_41 := hp_39.symm
      subst hp_39
      have hg : gl S ≤ gl (K3_take 125 (ci S_10 8 6 1000000)).2 := Nat.le_trans hg (gl_of (S := (ci S_10 8 6 1000000)) (S' := (K3_take 125 (ci S_10 8 6 1000000)).2) (congrArg Prod.snd K3_take_2))
      refine W.widen (k := gl (K3_take 125 (ci S_10 8 6 1000000)).2 - gl S) (n := 2 * (gl (K3_take 125 (ci S_10 8 6 1000000)).2 - gl S)) (Nat.sub_le_sub_right (gl_of (S := (ci S_10 8 6 1000000)) (S' := (K3_take 125 (ci S_10 8 6 1000000)).2) (congrArg Prod.snd K3_take_2)) _) (Nat.mul_le_mul_left 2 (Nat.sub_le_sub_right (gl_of (S := (ci S_10 8 6 1000000)) (S' := (K3_take 125 (ci S_10 8 6 1000000)).2) (congrArg Prod.snd K3_take_2)) _)) ?_
      have k_38v := K3_take_v (x := 125) hV (by omega)
      have k_38l : (ci S_10 8 6 1000000).1 8 3 ≤ (K3_take 125 (ci S_10 8 6 1000000)).2.1 8 3 := by rcases k_38v with ⟨-, h9, -⟩ | ⟨-, h9, -⟩ <;> rw [h9] <;> first | exact Int.le_refl _ | (simp only [ci_eq, zu_eq]; omega)
      have hV := rV_take (x := 125) hV (by omega)
      have hF : cFx 7 b (K3_take 125 (ci S_10 8 6 1000000)).2 := cFx_of (congrArg Prod.snd K3_take_2) hF
      have k_38b : (K3_take 125 (ci S_10 8 6 1000000)).1 = 0 ∨ (K3_take 125 (ci S_10 8 6 1000000)).1 = 1 := by rcases k_38v with ⟨h9, -⟩ | ⟨h9, -⟩ <;> omega
      have k_38n : (K3_take 125 (ci S_10 8 6 1000000)).1 = 0 ∨ (K3_take 125 (ci S_10 8 6 1000000)).2.1 8 3 = (ci S_10 8 6 1000000).1 8 3 + 1 := by rcases k_38v with ⟨h9, -⟩ | ⟨-, h9, -⟩ <;> first | exact Or.inl h9 | exact Or.inr (by rw [h9, ci_eq, zu_eq])
      generalize hS_43 : (K3_take 125 (ci S_10 8 6 1000000)).2 = S_43 at *
      generalize hv_42 : (K3_take 125 (ci S_10 8 6 1000000)).1 = v_42 at *
      obtain ⟨hP, hLa, hLb, hcs, ha0, ha1, hga, hgb, hna, hnb, hma, hmb, hzz⟩ := id hV
      refine z_if_ne (tgt := 73) B.1 B.2.1 (zr_of (by omega) (by omega)) dX3_readBraces_60 (by decide) (fun c_44 => ?_) (fun c_44 => ?_)
      · --
        refine lv_aload_n B.1 B.2.1 dX3_readBraces_73 rfl (lv_at hl 0 rfl) ?_
        refine c_geti (q := (cq q x y)) (x := S_43.1 8 5) B (iC3 _) hK hM 8 5 3 (by decide) rfl rfl (by decide) (by decide) rfl rfl (by decide) rfl (List.mem_cons_of_mem _ wC_fRX3_122) dX3_readBraces_74 ?_
        refine lv_aload_n B.1 B.2.1 dX3_readBraces_77 rfl (lv_at hl 0 rfl) ?_
        refine c_geti (q := (cq q x y)) (x := S_43.1 8 6) B (iC3 _) hK hM 8 6 3 (by decide) rfl rfl (by decide) (by decide) rfl rfl (by decide) rfl (List.mem_cons_of_mem _ wC_fRX3_125) dX3_readBraces_78 ?_
        refine z_icmp_le (tgt := 94) B.1 B.2.1 (zr_of (by omega) (by omega)) (zr_of (by omega) (by omega)) dX3_readBraces_81 (by decide) (fun c_45 => ?_) (fun c_45 => ?_)
        · --
          exact g_retv (S := S_43) B hM (by subst hS_4; subst hv_3; subst hS_10; subst hv_9; subst hS_43; subst hv_42; unfold K3_readBraces; exact ((if_pos c_2).trans ((if_neg c_11).trans ((if_pos c_25).trans ((if_neg c_44).trans (if_pos c_45)))))) dX3_readBraces_94
        · --
          exact g_throw (S := S_43) (E := "java/lang/IllegalArgumentException") (ik := 49) (is := 215) (ic := 53) 21 (by decide) hl0 B hG hM rfl sX_java_lang_IllegalArgumentException (by decide +kernel) (List.mem_cons_of_mem _ wC_cRX3_49) (List.mem_cons_of_mem _ wC_in__java_lang_IllegalArgumentException_) (tC_RX3_53 _) tN_RX3_53 hl.1 (Nat.le_of_ble_eq_true rfl) hR (Nat.le_of_ble_eq_true rfl) (Nat.le_of_ble_eq_true rfl) hg (cFx_gl hF) (tO_RX3_53 _) dX3_readBraces_84 dX3_readBraces_87 dX3_readBraces_88 dX3_readBraces_90 dX3_readBraces_93 (by subst hS_4; subst hv_3; subst hS_10; subst hv_9; subst hS_43; subst hv_42; unfold K3_readBraces; exact ((if_pos c_2).trans ((if_neg c_11).trans ((if_pos c_25).trans ((if_neg c_44).trans (if_neg c_45))))))
      · --
        exact g_throw (S := S_43) (E := "java/lang/IllegalArgumentException") (ik := 49) (is := 213) (ic := 53) 20 (by decide) hl0 B hG hM rfl sX_java_lang_IllegalArgumentException (by decide +kernel) (List.mem_cons_of_mem _ wC_cRX3_49) (List.mem_cons_of_mem _ wC_in__java_lang_IllegalArgumentException_) (tC_RX3_53 _) tN_RX3_53 hl.1 (Nat.le_of_ble_eq_true rfl) hR (Nat.le_of_ble_eq_true rfl) (Nat.le_of_ble_eq_true rfl) hg (cFx_gl hF) (tO_RX3_53 _) dX3_readBraces_63 dX3_readBraces_66 dX3_readBraces_67 dX3_readBraces_69 dX3_readBraces_72 (by subst hS_4; subst hv_3; subst hS_10; subst hv_9; subst hS_43; subst hv_42; unfold K3_readBraces; exact ((if_pos c_2).trans ((if_neg c_11).trans ((if_pos c_25).trans (if_pos c_44)))))
