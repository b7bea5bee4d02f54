section MM
variable {p : Program} {l : Launch} {e : Env} {R : Room} {s : State} {m : MethodId} {args : Array Value} {below : List Frame} {meth : Method} {c : Code} {H : Heap} {locs : List Loc} {cells slots : Nat} {Q : State → Prop} {cc : ByteArray} {pc : Nat} {ls : Array Slot} {rest : List Value} {C : String} {maxL : Nat} {ret : Option FieldType} {ws : List Cond} {index : Nat}
theorem z_mmin (B : zAt p s m args meth c C cc maxL ret ws) (h1 : Cond.methodLink C index Lib.Math.min.name ∈ ws) (h2 : Cond.static Lib.Math.min.name ∈ ws) (h3 : Cond.initialized "java/lang/Math" ∈ ws) (h4 : Cond.code Lib.Math.min.name Lib.Math.min.code 2 (some .int) ∈ ws) (hsz : ls.size = maxL) {x y : Int} (hx : zr x) (hy : zr y) (hF : 1 ≤ R.frames) (hL : (rest.map fun v => v.category).sum + 13 ≤ R.locals) (hf : cells ≤ R.cells ∧ slots ≤ R.slots) (hd : decode cc pc = .ok (.invokestatic index, 3))
    (kk : W p l e R s m args below meth c H locs cells slots Q (F0 m (pc + 3) ls (.int (zI (if y < x then y else x)) :: rest))) : W p l e R s m args below meth c H locs cells slots Q (F0 m pc ls (.int (zI y) :: .int (zI x) :: rest)) := by
  refine va_mmin B.1 B.2.1 (B.2.2.1.trans hsz.symm) B.2.2.2.1 (B.2.2.2.2.1 _ h1) (B.2.2.2.2.1 _ h2) (B.2.2.2.2.1 _ h3) (B.2.2.2.2.1 _ h4) hF hL hf.1 hf.2 hd ?_
  by_cases c1 : y < x
  · rw [if_pos ((zI_lt hy hx).mpr c1)]
    rw [if_pos c1] at kk
    exact kk
  · rw [if_neg (fun h => c1 ((zI_lt hy hx).mp h))]
    rw [if_neg c1] at kk
    exact kk
theorem z_mmax (B : zAt p s m args meth c C cc maxL ret ws) (h1 : Cond.methodLink C index Lib.Math.max.name ∈ ws) (h2 : Cond.static Lib.Math.max.name ∈ ws) (h3 : Cond.initialized "java/lang/Math" ∈ ws) (h4 : Cond.code Lib.Math.max.name Lib.Math.max.code 2 (some .int) ∈ ws) (hsz : ls.size = maxL) {x y : Int} (hx : zr x) (hy : zr y) (hF : 1 ≤ R.frames) (hL : (rest.map fun v => v.category).sum + 13 ≤ R.locals) (hf : cells ≤ R.cells ∧ slots ≤ R.slots) (hd : decode cc pc = .ok (.invokestatic index, 3))
    (kk : W p l e R s m args below meth c H locs cells slots Q (F0 m (pc + 3) ls (.int (zI (if x < y then y else x)) :: rest))) : W p l e R s m args below meth c H locs cells slots Q (F0 m pc ls (.int (zI y) :: .int (zI x) :: rest)) := by
  refine va_mmax B.1 B.2.1 (B.2.2.1.trans hsz.symm) B.2.2.2.1 (B.2.2.2.2.1 _ h1) (B.2.2.2.2.1 _ h2) (B.2.2.2.2.1 _ h3) (B.2.2.2.2.1 _ h4) hF hL hf.1 hf.2 hd ?_
  by_cases c1 : x < y
  · rw [if_pos ((zI_lt hx hy).mpr c1)]
    rw [if_pos c1] at kk
    exact kk
  · rw [if_neg (fun h => c1 ((zI_lt hx hy).mp h))]
    rw [if_neg c1] at kk
    exact kk
end MM
/-- what holds of Matcher, its program and the text -/
def xV (S : CSt) : Prop := sV S ∧ pB 6 S ∧ 0 ≤ S.1 3 1 ∧ S.1 3 1 ≤ 24 ∧ (∀ j, 0 ≤ S.1 14 j ∧ S.1 14 j < 65536) ∧ 0 ≤ S.1 10 3 ∧ S.1 10 3 ≤ 1000 ∧ 0 ≤ S.1 10 4 ∧ S.1 10 4 ≤ 500 ∧ (∀ j, S.1 18 j ≤ 1000) ∧ (∀ j, 0 ≤ S.1 24 j) ∧ (∀ j, S.1 25 j ≤ 9) ∧ (∀ j, S.1 35 j ≤ 90000)
theorem K2_aim_b2 {S : CSt} (i : Int) (h : ∀ j, S.1 18 j ≤ 1000) : K2_aim 6 i S ≤ 1000 := by
  unfold K2_aim
  split
  · omega
  · exact h _
theorem K2_fg_b2 {S : CSt} (i : Int) (h : ∀ j, 0 ≤ S.1 24 j) : 0 ≤ K2_firstGroup 6 i S := by
  unfold K2_firstGroup
  split
  · omega
  · exact h _
theorem K2_lg_b2 {S : CSt} (i : Int) (h : ∀ j, S.1 25 j ≤ 9) : K2_lastGroup 6 i S ≤ 9 := by
  unfold K2_lastGroup
  split
  · omega
  · exact h _
theorem K1_mark_b2 {S : CSt} (i : Int) (h : ∀ j, S.1 35 j ≤ 90000) : K1_mark i S ≤ 90000 := by
  unfold K1_mark
  (repeat' split) <;> first | omega | exact h _
def K0_stepsMade (S : CSt) : Int := S.1 10 4
set_option maxHeartbeats 1000000 in
set_option maxRecDepth 100000 in
theorem cX0_stepsMade_ok (l : Launch) (D : va_G) (cy : Nat → ClassId) (q : Nat → Nat) (a : Nat) (S : CSt) (hF : cFx a 6 S)  : cMi l D cy q yX0_stepsMade (.code yX0_stepsMade cX0_stepsMade 1 (some .int) :: TBC) ({ frames := 0, cells := 0, slots := 0, locals := 0 }) S 10 [] (fun r S' => r = K0_stepsMade S ∧ S' = S) := by
  refine c_of (cc := cX0_stepsMade) (maxL := 1) (ret := (some .int)) (C := RX0) (by decide) rfl rfl (Nat.le_of_ble_eq_true rfl) ?_
  intro p e s m args below meth c ls B hK hM hl
  have hl : lv_has ls 1 [(0, .ref (q 10))] := hl
  refine lv_aload_n B.1 B.2.1 dX0_stepsMade_0 rfl (lv_at hl 0 rfl) ?_
  refine c_geti (q := q) (x := S.1 10 4) B (iC0 _) hK hM 10 4 0 (by decide) rfl rfl (by decide) (by decide) rfl rfl (by decide) rfl (List.mem_cons_of_mem _ wC_fRX0_26) dX0_stepsMade_1 ?_
  exact c_reti B hM (⟨rfl, rfl⟩) dX0_stepsMade_4
def K0_tookFrom (k : Int) (S : CSt) : Int := (K1_mark (10 + k) S)
set_option maxHeartbeats 1000000 in
set_option maxRecDepth 100000 in
theorem cX0_tookFrom_ok (l : Launch) (D : va_G) (cy : Nat → ClassId) (q : Nat → Nat) (a : Nat) (S : CSt) (hF : cFx a 6 S) (k : Int) (hV : sV S) (h0 : -1 ≤ k) (h1 : k ≤ 1000000) : cMi l D cy q yX0_tookFrom (.code yX0_tookFrom cX0_tookFrom 2 (some .int) :: TBC) ({ frames := 1, cells := 0, slots := 0, locals := 21 }) S 10 [.int (zI k)] (fun r S' => r = K0_tookFrom k S ∧ S' = S) := by
  refine c_of (cc := cX0_tookFrom) (maxL := 2) (ret := (some .int)) (C := RX0) (by decide) rfl rfl (Nat.le_of_ble_eq_true rfl) ?_
  intro p e s m args below meth c ls B hK hM hl
  have hl : lv_has ls 2 [(0, .ref (q 10)), (1, .int (zI k))] := hl
  refine lv_aload_n B.1 B.2.1 dX0_tookFrom_0 rfl (lv_at hl 0 rfl) ?_
  refine c_getr (q := q) (r := 11) B (iC0 _) hK hM 10 1 0 (by decide) rfl rfl (by decide) (by decide) rfl rfl rfl (cFx_r hF 10 1) (List.mem_cons_of_mem _ wC_fRX0_12) dX0_tookFrom_1 ?_
  refine z_bipush B.1 B.2.1 (by decide) dX0_tookFrom_4 ?_
  refine lv_iload_n B.1 B.2.1 dX0_tookFrom_6 rfl (lv_at hl 1 rfl) ?_
  refine z_iadd (x := 10 + k) B.1 B.2.1 rfl dX0_tookFrom_7 ?_
  refine c_calli (q := q) (As := [.int (zI (10 + k))]) (rest := []) B hK hM 11 (by decide) (by decide) rfl (cX1_mark_ok l D cy q a 6 S hF  (10 + k) (by show -2000000 ≤ (10 + k); omega) (by show (10 + k) ≤ 2000000; omega)) (cwC 1 B wC_mRX0_51 wC_im_yX1_mark wC_sl_yX1_mark wC_in_RX1 wC_cd_yX1_mark rfl rfl (by decide +kernel) ⟨Nat.le_of_ble_eq_true rfl, Nat.le_of_ble_eq_true rfl⟩) rfl hl.1 rfl (Nat.le_of_ble_eq_true rfl) dX0_tookFrom_8 ⟨Nat.zero_le _, Nat.zero_le _⟩ (fun z_3 S_2 H locs hp_1 hM => ?_)
  obtain ⟨hp_1, he_hp_1⟩ := hp_1
  have he_hp_1 := he_hp_1.symm
  subst he_hp_1
  have hp_1 : (K1_mark (10 + k) S) = z_3 := hp_1.symm
  subst hp_1
  have f_4 := K1_mark_bd (S := S) (10 + k) hV
  exact c_reti B hM (⟨rfl, rfl⟩) dX0_tookFrom_11
def K0_tookTo (k : Int) (S : CSt) : Int := (K1_mark (20 + k) S)
set_option maxHeartbeats 1000000 in
set_option maxRecDepth 100000 in
theorem cX0_tookTo_ok (l : Launch) (D : va_G) (cy : Nat → ClassId) (q : Nat → Nat) (a : Nat) (S : CSt) (hF : cFx a 6 S) (k : Int) (hV : sV S) (h0 : -1 ≤ k) (h1 : k ≤ 1000000) : cMi l D cy q yX0_tookTo (.code yX0_tookTo cX0_tookTo 2 (some .int) :: TBC) ({ frames := 1, cells := 0, slots := 0, locals := 21 }) S 10 [.int (zI k)] (fun r S' => r = K0_tookTo k S ∧ S' = S) := by
  refine c_of (cc := cX0_tookTo) (maxL := 2) (ret := (some .int)) (C := RX0) (by decide) rfl rfl (Nat.le_of_ble_eq_true rfl) ?_
  intro p e s m args below meth c ls B hK hM hl
  have hl : lv_has ls 2 [(0, .ref (q 10)), (1, .int (zI k))] := hl
  refine lv_aload_n B.1 B.2.1 dX0_tookTo_0 rfl (lv_at hl 0 rfl) ?_
  refine c_getr (q := q) (r := 11) B (iC0 _) hK hM 10 1 0 (by decide) rfl rfl (by decide) (by decide) rfl rfl rfl (cFx_r hF 10 1) (List.mem_cons_of_mem _ wC_fRX0_12) dX0_tookTo_1 ?_
  refine z_bipush B.1 B.2.1 (by decide) dX0_tookTo_4 ?_
  refine lv_iload_n B.1 B.2.1 dX0_tookTo_6 rfl (lv_at hl 1 rfl) ?_
  refine z_iadd (x := 20 + k) B.1 B.2.1 rfl dX0_tookTo_7 ?_
  refine c_calli (q := q) (As := [.int (zI (20 + k))]) (rest := []) B hK hM 11 (by decide) (by decide) rfl (cX1_mark_ok l D cy q a 6 S hF  (20 + k) (by show -2000000 ≤ (20 + k); omega) (by show (20 + k) ≤ 2000000; omega)) (cwC 1 B wC_mRX0_51 wC_im_yX1_mark wC_sl_yX1_mark wC_in_RX1 wC_cd_yX1_mark rfl rfl (by decide +kernel) ⟨Nat.le_of_ble_eq_true rfl, Nat.le_of_ble_eq_true rfl⟩) rfl hl.1 rfl (Nat.le_of_ble_eq_true rfl) dX0_tookTo_8 ⟨Nat.zero_le _, Nat.zero_le _⟩ (fun z_3 S_2 H locs hp_1 hM => ?_)
  obtain ⟨hp_1, he_hp_1⟩ := hp_1
  have he_hp_1 := he_hp_1.symm
  subst he_hp_1
  have hp_1 : (K1_mark (20 + k) S) = z_3 := hp_1.symm
  subst hp_1
  have f_4 := K1_mark_bd (S := S) (20 + k) hV
  exact c_reti B hM (⟨rfl, rfl⟩) dX0_tookTo_11
def K0_countStep (S : CSt) : CR := (if (S.1 10 4) < 500 then (0, 0, (ci S 10 4 ((S.1 10 4) + 1))) else (1, 0, S))
set_option maxHeartbeats 1000000 in
set_option maxRecDepth 100000 in
theorem cX0_countStep_ok (l : Launch) (hl0 : l.stackTraces = false) (D : va_G) (cy : Nat → ClassId) (q : Nat → Nat) (V : Nat × (Nat → Nat)) (n0 x y a : Nat) (S : CSt) (hF : cFx a 6 S) (hX : xV S) : gMv l D cy q V n0 x y "java/lang/UnsupportedOperationException" yX0_countStep (.code yX0_countStep cX0_countStep 1 none :: TBC) 6 90 S [.ref (q 10)] (K0_countStep S) := by
  refine g_of (cc := cX0_countStep) (maxL := 1) (ret := none) (by decide) rfl rfl (Nat.le_of_ble_eq_true rfl) ?_
  intro p e s m args below meth c ls B hK hG hM hl
  generalize gA (cq q x y) n0 = A at hG hM ⊢
  have hR : (headSpec (.code yX0_countStep cX0_countStep 1 none :: TBC) (gRm 6 90 S)).room.cells = (gK - gl S) + 1 ∧ (headSpec (.code yX0_countStep cX0_countStep 1 none :: TBC) (gRm 6 90 S)).room.slots = 2 * (gK - gl S) + 6 := ⟨rfl, rfl⟩
  have hl : lv_has ls 1 [(0, .ref (q 10))] := hl
  obtain ⟨hV, hP, ht0, ht1, hcs, hp0, hp1, hs0, hs1, h18, h24, h25, h35⟩ := id hX
  obtain ⟨hMk, hu30, hu31, hu40, hu41, hM6, hM7⟩ := id hV
  refine lv_aload_n B.1 B.2.1 dX0_countStep_0 rfl (lv_at hl 0 rfl) ?_
  refine c_geti (q := (cq q x y)) (x := S.1 10 4) B (iC0 _) hK hM 10 4 0 (by decide) rfl rfl (by decide) (by decide) rfl rfl (by decide) rfl (List.mem_cons_of_mem _ wC_fRX0_26) dX0_countStep_1 ?_
  refine z_sipush B.1 B.2.1 (by decide) dX0_countStep_4 ?_
  refine z_icmp_lt (tgt := 20) B.1 B.2.1 (zr_of (by omega) (by omega)) (zr_of (by decide) (by decide)) dX0_countStep_7 (by decide) (fun c_1 => ?_) (fun c_1 => ?_)
  · --
    refine lv_aload_n B.1 B.2.1 dX0_countStep_20 rfl (lv_at hl 0 rfl) ?_
    refine lv_dup B.1 B.2.1 dX0_countStep_21 rfl ?_
    refine c_geti (q := (cq q x y)) (x := S.1 10 4) B (iC0 _) hK hM 10 4 0 (by decide) rfl rfl (by decide) (by decide) rfl rfl (by decide) rfl (List.mem_cons_of_mem _ wC_fRX0_26) dX0_countStep_22 ?_
    refine z_iconst B.1 B.2.1 dX0_countStep_25 ?_
    refine z_iadd (x := (S.1 10 4) + 1) B.1 B.2.1 rfl dX0_countStep_26 ?_
    refine c_puti (q := (cq q x y)) B (iC0 _) tyX0 tyX0_ok nmX0 hK hM 10 4 0 (by decide) rfl rfl (by decide) (by decide) rfl rfl rfl (by decide +kernel) (by decide) (List.mem_cons_of_mem _ wC_fRX0_26) dX0_countStep_27 (fun H locs hM => ?_)
    have hV : sV (ci S 10 4 ((S.1 10 4) + 1)) := sV_ci hV (by decide)
    have hP : pB 6 (ci S 10 4 ((S.1 10 4) + 1)) := pB_ci (by decide) (by decide) hP
    exact g_retv (S := (ci S 10 4 ((S.1 10 4) + 1))) B hM (by unfold K0_countStep; exact (if_pos c_1)) dX0_countStep_30
  · --
    exact g_throw (E := "java/lang/UnsupportedOperationException") (ik := 124) (is := 126) (ic := 128) 8 (by decide) hl0 B hG hM rfl sX_java_lang_UnsupportedOperationException (by decide +kernel) (List.mem_cons_of_mem _ wC_cRX0_124) (List.mem_cons_of_mem _ wC_in__java_lang_UnsupportedOperationException_) (tC_RX0_128 _) tN_RX0_128 hl.1 (Nat.le_of_ble_eq_true rfl) hR (Nat.le_of_ble_eq_true rfl) (Nat.le_of_ble_eq_true rfl) (Nat.le_refl _) (cFx_gl hF) (tO_RX0_128 _) dX0_countStep_10 dX0_countStep_13 dX0_countStep_14 dX0_countStep_16 dX0_countStep_19 (by unfold K0_countStep; exact (if_neg c_1))
theorem K0_cs {S : CSt} (h : (K0_countStep S).1 = 0) : S.1 10 4 < 500 ∧ (K0_countStep S).2.2 = ci S 10 4 (S.1 10 4 + 1) := by
  revert h
  unfold K0_countStep
  split
  · intro _; exact ⟨by omega, rfl⟩
  · intro h; exact absurd h z1n0
theorem K0_cs_2 {S : CSt} : (K0_countStep S).2.2.2 = S.2 := by
  unfold K0_countStep
  split <;> rfl
def K0_passSign (i : Int) (S : CSt) : CR := (if (K0_countStep S).1 = 0 then (if (S.1 3 1) ≤ (S.1 10 3) then (0, (-1), (ci S 10 4 ((S.1 10 4) + 1))) else (if ((K2_fits 6 i ((K4_at 3 (S.1 10 3) (ci S 10 4 ((S.1 10 4) + 1)))) (ci S 10 4 ((S.1 10 4) + 1)))) = 0 then (0, (-1), (ci S 10 4 ((S.1 10 4) + 1))) else (0, i + 1, (ci (ci S 10 4 ((S.1 10 4) + 1)) 10 3 ((S.1 10 3) + 1))))) else (1, 0, (K0_countStep S).2.2))
set_option maxHeartbeats 1000000 in
set_option maxRecDepth 100000 in
theorem cX0_passSign_ok (l : Launch) (hl0 : l.stackTraces = false) (D : va_G) (cy : Nat → ClassId) (q : Nat → Nat) (V : Nat × (Nat → Nat)) (n0 x y a : Nat) (S : CSt) (hF : cFx a 6 S) (i : Int) (ha36 : a < 36) (hX : xV S) (h0 : 0 ≤ i) (h1 : i ≤ 1000) : gMi l D cy q V n0 x y "java/lang/UnsupportedOperationException" yX0_passSign (.code yX0_passSign cX0_passSign 2 (some .int) :: TBC) 7 110 S [.ref (q 10), .int (zI i)] (K0_passSign i S) := by
  refine g_of (cc := cX0_passSign) (maxL := 2) (ret := (some .int)) (by decide) rfl rfl (Nat.le_of_ble_eq_true rfl) ?_
  intro p e s m args below meth c ls B hK hG hM hl
  generalize gA (cq q x y) n0 = A at hG hM ⊢
  have hR : (headSpec (.code yX0_passSign cX0_passSign 2 (some .int) :: TBC) (gRm 7 110 S)).room.cells = (gK - gl S) + 1 ∧ (headSpec (.code yX0_passSign cX0_passSign 2 (some .int) :: TBC) (gRm 7 110 S)).room.slots = 2 * (gK - gl S) + 6 := ⟨rfl, rfl⟩
  have hl : lv_has ls 2 [(0, .ref (q 10)), (1, .int (zI i))] := hl
  obtain ⟨hV, hP, ht0, ht1, hcs, hp0, hp1, hs0, hs1, h18, h24, h25, h35⟩ := id hX
  obtain ⟨hMk, hu30, hu31, hu40, hu41, hM6, hM7⟩ := id hV
  refine lv_aload_n B.1 B.2.1 dX0_passSign_0 rfl (lv_at hl 0 rfl) ?_
  refine g_callv (E := "java/lang/UnsupportedOperationException") (As := []) (rest := []) B hK hG hM 10 (by decide) (by decide) rfl (cX0_countStep_ok l hl0 D cy q V n0 x y a S hF   hX) (cwC 0 B wC_mRX0_131 wC_im_yX0_countStep wC_sl_yX0_countStep wC_in_RX0 wC_cd_yX0_countStep rfl rfl (by decide +kernel) ⟨Nat.le_of_ble_eq_true rfl, Nat.le_of_ble_eq_true rfl⟩) rfl hl.1 rfl (Nat.le_of_ble_eq_true rfl) dX0_passSign_1 hR (Nat.le_refl _) (cFx_gl hF) (gl_of (congrArg Prod.snd K0_cs_2)) (fun c_1 => (by unfold K0_passSign; exact (if_neg c_1))) (fun x y H locs c_1 hM => ?_)
  rw [(K0_cs c_1).2] at hM ⊢
  have f_2 := (K0_cs c_1).1
  have hV : sV (ci S 10 4 ((S.1 10 4) + 1)) := sV_ci hV (by decide)
  have hP : pB 6 (ci S 10 4 ((S.1 10 4) + 1)) := pB_ci (by decide) (by decide) hP
  refine lv_aload_n B.1 B.2.1 dX0_passSign_4 rfl (lv_at hl 0 rfl) ?_
  refine c_geti (q := (cq q x y)) (x := S.1 10 3) B (iC0 _) hK hM 10 3 0 (by decide) rfl rfl (by decide) (by decide) rfl rfl (by decide) rfl (List.mem_cons_of_mem _ wC_fRX0_58) dX0_passSign_5 ?_
  refine lv_aload_n B.1 B.2.1 dX0_passSign_8 rfl (lv_at hl 0 rfl) ?_
  refine c_getr (q := (cq q x y)) (r := 3) B (iC0 _) hK hM 10 0 0 (by decide) rfl rfl (by decide) (by decide) rfl rfl rfl (cFx_r hF 10 0) (List.mem_cons_of_mem _ wC_fRX0_18) dX0_passSign_9 ?_
  refine c_calli (q := (cq q x y)) (As := []) (rest := [.int (zI (S.1 10 3))]) B hK hM 3 (by decide) (by decide) rfl (cX4_length_ok l D cy (cq q x y) a 6 (ci S 10 4 ((S.1 10 4) + 1)) hF 3 (by decide)  ) (cwC 0 B wC_mRX0_36 wC_im_yX4_length wC_sl_yX4_length wC_in_RX4 wC_cd_yX4_length rfl rfl (by decide +kernel) ⟨Nat.le_of_ble_eq_true rfl, Nat.le_of_ble_eq_true rfl⟩) rfl hl.1 rfl (Nat.le_of_ble_eq_true rfl) dX0_passSign_12 ⟨g_rc hR (Nat.le_refl _) (cFx_gl hF), g_rs hR (Nat.le_refl _) (cFx_gl hF)⟩ (fun z_5 S_4 H locs hp_3 hM => ?_)
  obtain ⟨hp_3, he_hp_3⟩ := hp_3
  have he_hp_3 := he_hp_3.symm
  subst he_hp_3
  have hp_3 : S.1 3 1 = z_5 := hp_3.symm
  subst hp_3
  refine z_icmp_ge (tgt := 40) B.1 B.2.1 (zr_of (by omega) (by omega)) (zr_of (by omega) (by omega)) dX0_passSign_15 (by decide) (fun c_6 => ?_) (fun c_6 => ?_)
  · --
    refine z_iconst B.1 B.2.1 dX0_passSign_40 ?_
    exact g_reti (S := (ci S 10 4 ((S.1 10 4) + 1))) B hM (by unfold K0_passSign; exact ((if_pos c_1).trans (if_pos c_6))) dX0_passSign_41
  · --
    refine lv_aload_n B.1 B.2.1 dX0_passSign_18 rfl (lv_at hl 0 rfl) ?_
    refine c_getr (q := (cq q x y)) (r := 6) B (iC0 _) hK hM 10 2 0 (by decide) rfl rfl (by decide) (by decide) rfl rfl rfl (cFx_r hF 10 2) (List.mem_cons_of_mem _ wC_fRX0_22) dX0_passSign_19 ?_
    refine lv_iload_n B.1 B.2.1 dX0_passSign_22 rfl (lv_at hl 1 rfl) ?_
    refine lv_aload_n B.1 B.2.1 dX0_passSign_23 rfl (lv_at hl 0 rfl) ?_
    refine c_getr (q := (cq q x y)) (r := 3) B (iC0 _) hK hM 10 0 0 (by decide) rfl rfl (by decide) (by decide) rfl rfl rfl (cFx_r hF 10 0) (List.mem_cons_of_mem _ wC_fRX0_18) dX0_passSign_24 ?_
    refine lv_aload_n B.1 B.2.1 dX0_passSign_27 rfl (lv_at hl 0 rfl) ?_
    refine c_geti (q := (cq q x y)) (x := S.1 10 3) B (iC0 _) hK hM 10 3 0 (by decide) rfl rfl (by decide) (by decide) rfl rfl (by decide) rfl (List.mem_cons_of_mem _ wC_fRX0_58) dX0_passSign_28 ?_
    refine c_calli (q := (cq q x y)) (As := [.int (zI (S.1 10 3))]) (rest := [.int (zI i), .ref (q 6)]) B hK hM 3 (by decide) (by decide) rfl (cX4_at_ok l D cy (cq q x y) a 6 (ci S 10 4 ((S.1 10 4) + 1)) hF 3 (by decide) (S.1 10 3) (by show 0 ≤ (S.1 3 1); omega) (by show (S.1 3 1) ≤ 100000; omega) (by show -10000000 ≤ (S.1 10 3); omega) (by show (S.1 10 3) ≤ 10000000; omega) hcs) (cwC 1 B wC_mRX0_134 wC_im_yX4_at wC_sl_yX4_at wC_in_RX4 wC_cd_yX4_at rfl rfl (by decide +kernel) ⟨Nat.le_of_ble_eq_true rfl, Nat.le_of_ble_eq_true rfl⟩) rfl hl.1 rfl (Nat.le_of_ble_eq_true rfl) dX0_passSign_31 ⟨g_rc hR (Nat.le_refl _) (cFx_gl hF), g_rs hR (Nat.le_refl _) (cFx_gl hF)⟩ (fun z_9 S_8 H locs hp_7 hM => ?_)
    obtain ⟨hp_7, he_hp_7⟩ := hp_7
    have he_hp_7 := he_hp_7.symm
    subst he_hp_7
    have hp_7 : (K4_at 3 (S.1 10 3) (ci S 10 4 ((S.1 10 4) + 1))) = z_9 := hp_7.symm
    subst hp_7
    have f_10 := K4_at_bd (t := 3) (S := (ci S 10 4 ((S.1 10 4) + 1))) hcs (S.1 10 3)
    refine c_calli (q := (cq q x y)) (As := [.int (zI i), .int (zI ((K4_at 3 (S.1 10 3) (ci S 10 4 ((S.1 10 4) + 1)))))]) (rest := []) B hK hM 6 (by decide) (by decide) rfl (cX2_fits_ok l D cy (cq q x y) a 6 (ci S 10 4 ((S.1 10 4) + 1)) hF 6 (by decide) i ((K4_at 3 (S.1 10 3) (ci S 10 4 ((S.1 10 4) + 1)))) hP (by show -1000000000 ≤ i; omega) (by show i ≤ 1000000000; omega) (by show 0 ≤ ((K4_at 3 (S.1 10 3) (ci S 10 4 ((S.1 10 4) + 1)))); omega) (by show ((K4_at 3 (S.1 10 3) (ci S 10 4 ((S.1 10 4) + 1)))) < 65536; omega)) (cwC 2 B wC_mRX0_138 wC_im_yX2_fits wC_sl_yX2_fits wC_in_RX2 wC_cd_yX2_fits rfl rfl (by decide +kernel) ⟨Nat.le_of_ble_eq_true rfl, Nat.le_of_ble_eq_true rfl⟩) rfl hl.1 rfl (Nat.le_of_ble_eq_true rfl) dX0_passSign_34 ⟨g_rc hR (Nat.le_refl _) (cFx_gl hF), g_rs hR (Nat.le_refl _) (cFx_gl hF)⟩ (fun z_13 S_12 H locs hp_11 hM => ?_)
    obtain ⟨hp_11, he_hp_11⟩ := hp_11
    have he_hp_11 := he_hp_11.symm
    subst he_hp_11
    have hp_11 : (K2_fits 6 i ((K4_at 3 (S.1 10 3) (ci S 10 4 ((S.1 10 4) + 1)))) (ci S 10 4 ((S.1 10 4) + 1))) = z_13 := hp_11.symm
    subst hp_11
    have f_14 := K2_fits_bd 6 i ((K4_at 3 (S.1 10 3) (ci S 10 4 ((S.1 10 4) + 1)))) (ci S 10 4 ((S.1 10 4) + 1))
    refine z_if_ne (tgt := 42) B.1 B.2.1 (zr_of (by omega) (by omega)) dX0_passSign_37 (by decide) (fun c_15 => ?_) (fun c_15 => ?_)
    · --
      refine lv_aload_n B.1 B.2.1 dX0_passSign_42 rfl (lv_at hl 0 rfl) ?_
      refine lv_dup B.1 B.2.1 dX0_passSign_43 rfl ?_
      refine c_geti (q := (cq q x y)) (x := S.1 10 3) B (iC0 _) hK hM 10 3 0 (by decide) rfl rfl (by decide) (by decide) rfl rfl (by decide) rfl (List.mem_cons_of_mem _ wC_fRX0_58) dX0_passSign_44 ?_
      refine z_iconst B.1 B.2.1 dX0_passSign_47 ?_
      refine z_iadd (x := (S.1 10 3) + 1) B.1 B.2.1 rfl dX0_passSign_48 ?_
      refine c_puti (q := (cq q x y)) B (iC0 _) tyX0 tyX0_ok nmX0 hK hM 10 3 0 (by decide) rfl rfl (by decide) (by decide) rfl rfl rfl (by decide +kernel) (by decide) (List.mem_cons_of_mem _ wC_fRX0_58) dX0_passSign_49 (fun H locs hM => ?_)
      have hV : sV (ci (ci S 10 4 ((S.1 10 4) + 1)) 10 3 ((S.1 10 3) + 1)) := sV_ci hV (by decide)
      have hP : pB 6 (ci (ci S 10 4 ((S.1 10 4) + 1)) 10 3 ((S.1 10 3) + 1)) := pB_ci (by decide) (by decide) hP
      refine lv_iload_n B.1 B.2.1 dX0_passSign_52 rfl (lv_at hl 1 rfl) ?_
      refine z_iconst B.1 B.2.1 dX0_passSign_53 ?_
      refine z_iadd (x := i + 1) B.1 B.2.1 rfl dX0_passSign_54 ?_
      exact g_reti (S := (ci (ci S 10 4 ((S.1 10 4) + 1)) 10 3 ((S.1 10 3) + 1))) B hM (by unfold K0_passSign; exact ((if_pos c_1).trans ((if_neg c_6).trans (if_neg c_15)))) dX0_passSign_55
    · --
      refine z_iconst B.1 B.2.1 dX0_passSign_40 ?_
      exact g_reti (S := (ci S 10 4 ((S.1 10 4) + 1))) B hM (by unfold K0_passSign; exact ((if_pos c_1).trans ((if_neg c_6).trans (if_pos c_15)))) dX0_passSign_41
def K0_isLineBegin (S : CSt) : Int := (if (S.1 10 3) = 0 then 1 else (if ((K2_has 6 2 S)) = 0 then 0 else (if ((K4_at 3 ((S.1 10 3) - 1) S)) = 47 then 1 else 0 : Int) : Int) : Int)
set_option maxHeartbeats 1000000 in
set_option maxRecDepth 100000 in
theorem cX0_isLineBegin_ok (l : Launch) (D : va_G) (cy : Nat → ClassId) (q : Nat → Nat) (a : Nat) (S : CSt) (hF : cFx a 6 S) (hX : xV S) : cMi l D cy q yX0_isLineBegin (.code yX0_isLineBegin cX0_isLineBegin 1 (some .boolean) :: TBC) ({ frames := 1, cells := 0, slots := 0, locals := 21 }) S 10 [] (fun r S' => r = K0_isLineBegin S ∧ S' = S) := by
  refine c_of (cc := cX0_isLineBegin) (maxL := 1) (ret := (some .boolean)) (C := RX0) (by decide) rfl rfl (Nat.le_of_ble_eq_true rfl) ?_
  intro p e s m args below meth c ls B hK hM hl
  have hl : lv_has ls 1 [(0, .ref (q 10))] := hl
  obtain ⟨hV, hP, ht0, ht1, hcs, hp0, hp1, hs0, hs1, h18, h24, h25, h35⟩ := id hX
  obtain ⟨hMk, hu30, hu31, hu40, hu41, hM6, hM7⟩ := id hV
  refine lv_aload_n B.1 B.2.1 dX0_isLineBegin_0 rfl (lv_at hl 0 rfl) ?_
  refine c_geti (q := q) (x := S.1 10 3) B (iC0 _) hK hM 10 3 0 (by decide) rfl rfl (by decide) (by decide) rfl rfl (by decide) rfl (List.mem_cons_of_mem _ wC_fRX0_58) dX0_isLineBegin_1 ?_
  refine z_joinH (P := fun v H' locs' => v = (if (S.1 10 3) = 0 then 1 else (if ((K2_has 6 2 S)) = 0 then 0 else (if ((K4_at 3 ((S.1 10 3) - 1) S)) = 47 then 1 else 0 : Int) : Int) : Int) ∧ cH D cy q (cA q) s.heap S H' locs') (pcJ := 41) (lsJ := ls) (stJ := []) (fun v_1 H locs hv_2 => ?_) (fun hJ_3 => ?_)
  · --
    obtain ⟨hv_2, hM⟩ := hv_2
    have hb_4 : (if (S.1 10 3) = 0 then 1 else (if ((K2_has 6 2 S)) = 0 then 0 else (if ((K4_at 3 ((S.1 10 3) - 1) S)) = 47 then 1 else 0 : Int) : Int) : Int) = 0 ∨ (if (S.1 10 3) = 0 then 1 else (if ((K2_has 6 2 S)) = 0 then 0 else (if ((K4_at 3 ((S.1 10 3) - 1) S)) = 47 then 1 else 0 : Int) : Int) : Int) = 1 := by (repeat' split) <;> simp
    have hv_2 := hv_2.symm
    subst hv_2
    exact c_retz B hM (by omega) (⟨rfl, rfl⟩) dX0_isLineBegin_41
  · --
    refine z_if_eq (tgt := 36) B.1 B.2.1 (zr_of (by omega) (by omega)) dX0_isLineBegin_4 (by decide) (fun c_5 => ?_) (fun c_5 => ?_)
    · --
      refine z_iconst B.1 B.2.1 dX0_isLineBegin_36 ?_
      refine lv_goto (tgt := 41) B.1 B.2.1 dX0_isLineBegin_37 (by decide) ?_
      exact hJ_3 _ _ _ ⟨(if_pos c_5).symm, hM⟩
    · --
      refine lv_aload_n B.1 B.2.1 dX0_isLineBegin_7 rfl (lv_at hl 0 rfl) ?_
      refine c_getr (q := q) (r := 6) B (iC0 _) hK hM 10 2 0 (by decide) rfl rfl (by decide) (by decide) rfl rfl rfl (cFx_r hF 10 2) (List.mem_cons_of_mem _ wC_fRX0_22) dX0_isLineBegin_8 ?_
      refine z_iconst B.1 B.2.1 dX0_isLineBegin_11 ?_
      refine c_calli (q := q) (As := [.int (zI 2)]) (rest := []) B hK hM 6 (by decide) (by decide) rfl (cX2_has_ok l D cy q a 6 S hF 6 (by decide) 2 hP (by show 0 ≤ 2; omega) (by show 2 ≤ 100; omega)) (cwC 1 B wC_mRX0_30 wC_im_yX2_has wC_sl_yX2_has wC_in_RX2 wC_cd_yX2_has rfl rfl (by decide +kernel) ⟨Nat.le_of_ble_eq_true rfl, Nat.le_of_ble_eq_true rfl⟩) rfl hl.1 rfl (Nat.le_of_ble_eq_true rfl) dX0_isLineBegin_12 ⟨Nat.zero_le _, Nat.zero_le _⟩ (fun z_8 S_7 H locs hp_6 hM => ?_)
      obtain ⟨hp_6, he_hp_6⟩ := hp_6
      have he_hp_6 := he_hp_6.symm
      subst he_hp_6
      have hp_6 : (K2_has 6 2 S) = z_8 := hp_6.symm
      subst hp_6
      have f_9 := K2_has_bd 6 2 S
      refine z_if_eq (tgt := 40) B.1 B.2.1 (zr_of (by omega) (by omega)) dX0_isLineBegin_15 (by decide) (fun c_10 => ?_) (fun c_10 => ?_)
      · --
        refine z_iconst B.1 B.2.1 dX0_isLineBegin_40 ?_
        exact hJ_3 _ _ _ ⟨((if_neg c_5).trans (if_pos c_10)).symm, hM⟩
      · --
        refine lv_aload_n B.1 B.2.1 dX0_isLineBegin_18 rfl (lv_at hl 0 rfl) ?_
        refine c_getr (q := q) (r := 3) B (iC0 _) hK hM 10 0 0 (by decide) rfl rfl (by decide) (by decide) rfl rfl rfl (cFx_r hF 10 0) (List.mem_cons_of_mem _ wC_fRX0_18) dX0_isLineBegin_19 ?_
        refine lv_aload_n B.1 B.2.1 dX0_isLineBegin_22 rfl (lv_at hl 0 rfl) ?_
        refine c_geti (q := q) (x := S.1 10 3) B (iC0 _) hK hM 10 3 0 (by decide) rfl rfl (by decide) (by decide) rfl rfl (by decide) rfl (List.mem_cons_of_mem _ wC_fRX0_58) dX0_isLineBegin_23 ?_
        refine z_iconst B.1 B.2.1 dX0_isLineBegin_26 ?_
        refine z_isub (x := (S.1 10 3) - 1) B.1 B.2.1 rfl dX0_isLineBegin_27 ?_
        refine c_calli (q := q) (As := [.int (zI ((S.1 10 3) - 1))]) (rest := []) B hK hM 3 (by decide) (by decide) rfl (cX4_at_ok l D cy q a 6 S hF 3 (by decide) ((S.1 10 3) - 1) (by show 0 ≤ (S.1 3 1); omega) (by show (S.1 3 1) ≤ 100000; omega) (by show -10000000 ≤ ((S.1 10 3) - 1); omega) (by show ((S.1 10 3) - 1) ≤ 10000000; omega) hcs) (cwC 1 B wC_mRX0_134 wC_im_yX4_at wC_sl_yX4_at wC_in_RX4 wC_cd_yX4_at rfl rfl (by decide +kernel) ⟨Nat.le_of_ble_eq_true rfl, Nat.le_of_ble_eq_true rfl⟩) rfl hl.1 rfl (Nat.le_of_ble_eq_true rfl) dX0_isLineBegin_28 ⟨Nat.zero_le _, Nat.zero_le _⟩ (fun z_13 S_12 H locs hp_11 hM => ?_)
        obtain ⟨hp_11, he_hp_11⟩ := hp_11
        have he_hp_11 := he_hp_11.symm
        subst he_hp_11
        have hp_11 : (K4_at 3 ((S.1 10 3) - 1) S) = z_13 := hp_11.symm
        subst hp_11
        have f_14 := K4_at_bd (t := 3) (S := S) hcs ((S.1 10 3) - 1)
        refine z_bipush B.1 B.2.1 (by decide) dX0_isLineBegin_31 ?_
        refine z_icmp_ne (tgt := 40) B.1 B.2.1 (zr_of (by omega) (by omega)) (zr_of (by decide) (by decide)) dX0_isLineBegin_33 (by decide) (fun c_15 => ?_) (fun c_15 => ?_)
        · --
          refine z_iconst B.1 B.2.1 dX0_isLineBegin_40 ?_
          exact hJ_3 _ _ _ ⟨((if_neg c_5).trans ((if_neg c_10).trans (if_neg c_15))).symm, hM⟩
        · --
          refine z_iconst B.1 B.2.1 dX0_isLineBegin_36 ?_
          refine lv_goto (tgt := 41) B.1 B.2.1 dX0_isLineBegin_37 (by decide) ?_
          exact hJ_3 _ _ _ ⟨((if_neg c_5).trans ((if_neg c_10).trans (if_pos c_15))).symm, hM⟩
theorem K0_isLineBegin_bd {S : CSt} : K0_isLineBegin S = 0 ∨ K0_isLineBegin S = 1 := by
  unfold K0_isLineBegin
  (repeat' split) <;> simp
def K0_isLineEnd (S : CSt) : Int := (if (S.1 10 3) = (S.1 3 1) then 1 else (if ((K2_has 6 2 S)) = 0 then 0 else (if ((K4_at 3 (S.1 10 3) S)) = 47 then 1 else 0 : Int) : Int) : Int)
set_option maxHeartbeats 1000000 in
set_option maxRecDepth 100000 in
theorem cX0_isLineEnd_ok (l : Launch) (D : va_G) (cy : Nat → ClassId) (q : Nat → Nat) (a : Nat) (S : CSt) (hF : cFx a 6 S) (hX : xV S) : cMi l D cy q yX0_isLineEnd (.code yX0_isLineEnd cX0_isLineEnd 1 (some .boolean) :: TBC) ({ frames := 1, cells := 0, slots := 0, locals := 21 }) S 10 [] (fun r S' => r = K0_isLineEnd S ∧ S' = S) := by
  refine c_of (cc := cX0_isLineEnd) (maxL := 1) (ret := (some .boolean)) (C := RX0) (by decide) rfl rfl (Nat.le_of_ble_eq_true rfl) ?_
  intro p e s m args below meth c ls B hK hM hl
  have hl : lv_has ls 1 [(0, .ref (q 10))] := hl
  obtain ⟨hV, hP, ht0, ht1, hcs, hp0, hp1, hs0, hs1, h18, h24, h25, h35⟩ := id hX
  obtain ⟨hMk, hu30, hu31, hu40, hu41, hM6, hM7⟩ := id hV
  refine lv_aload_n B.1 B.2.1 dX0_isLineEnd_0 rfl (lv_at hl 0 rfl) ?_
  refine c_geti (q := q) (x := S.1 10 3) B (iC0 _) hK hM 10 3 0 (by decide) rfl rfl (by decide) (by decide) rfl rfl (by decide) rfl (List.mem_cons_of_mem _ wC_fRX0_58) dX0_isLineEnd_1 ?_
  refine lv_aload_n B.1 B.2.1 dX0_isLineEnd_4 rfl (lv_at hl 0 rfl) ?_
  refine c_getr (q := q) (r := 3) B (iC0 _) hK hM 10 0 0 (by decide) rfl rfl (by decide) (by decide) rfl rfl rfl (cFx_r hF 10 0) (List.mem_cons_of_mem _ wC_fRX0_18) dX0_isLineEnd_5 ?_
  refine c_calli (q := q) (As := []) (rest := [.int (zI (S.1 10 3))]) B hK hM 3 (by decide) (by decide) rfl (cX4_length_ok l D cy q a 6 S hF 3 (by decide)  ) (cwC 0 B wC_mRX0_36 wC_im_yX4_length wC_sl_yX4_length wC_in_RX4 wC_cd_yX4_length rfl rfl (by decide +kernel) ⟨Nat.le_of_ble_eq_true rfl, Nat.le_of_ble_eq_true rfl⟩) rfl hl.1 rfl (Nat.le_of_ble_eq_true rfl) dX0_isLineEnd_8 ⟨Nat.zero_le _, Nat.zero_le _⟩ (fun z_3 S_2 H locs hp_1 hM => ?_)
  obtain ⟨hp_1, he_hp_1⟩ := hp_1
  have he_hp_1 := he_hp_1.symm
  subst he_hp_1
  have hp_1 : S.1 3 1 = z_3 := hp_1.symm
  subst hp_1
  refine z_joinH (P := fun v H' locs' => v = (if (S.1 10 3) = (S.1 3 1) then 1 else (if ((K2_has 6 2 S)) = 0 then 0 else (if ((K4_at 3 (S.1 10 3) S)) = 47 then 1 else 0 : Int) : Int) : Int) ∧ cH D cy q (cA q) s.heap S H' locs') (pcJ := 46) (lsJ := ls) (stJ := []) (fun v_4 H locs hv_5 => ?_) (fun hJ_6 => ?_)
  · --
    obtain ⟨hv_5, hM⟩ := hv_5
    have hb_7 : (if (S.1 10 3) = (S.1 3 1) then 1 else (if ((K2_has 6 2 S)) = 0 then 0 else (if ((K4_at 3 (S.1 10 3) S)) = 47 then 1 else 0 : Int) : Int) : Int) = 0 ∨ (if (S.1 10 3) = (S.1 3 1) then 1 else (if ((K2_has 6 2 S)) = 0 then 0 else (if ((K4_at 3 (S.1 10 3) S)) = 47 then 1 else 0 : Int) : Int) : Int) = 1 := by (repeat' split) <;> simp
    have hv_5 := hv_5.symm
    subst hv_5
    exact c_retz B hM (by omega) (⟨rfl, rfl⟩) dX0_isLineEnd_46
  · --
    refine z_icmp_eq (tgt := 41) B.1 B.2.1 (zr_of (by omega) (by omega)) (zr_of (by omega) (by omega)) dX0_isLineEnd_11 (by decide) (fun c_8 => ?_) (fun c_8 => ?_)
    · --
      refine z_iconst B.1 B.2.1 dX0_isLineEnd_41 ?_
      refine lv_goto (tgt := 46) B.1 B.2.1 dX0_isLineEnd_42 (by decide) ?_
      exact hJ_6 _ _ _ ⟨(if_pos c_8).symm, hM⟩
    · --
      refine lv_aload_n B.1 B.2.1 dX0_isLineEnd_14 rfl (lv_at hl 0 rfl) ?_
      refine c_getr (q := q) (r := 6) B (iC0 _) hK hM 10 2 0 (by decide) rfl rfl (by decide) (by decide) rfl rfl rfl (cFx_r hF 10 2) (List.mem_cons_of_mem _ wC_fRX0_22) dX0_isLineEnd_15 ?_
      refine z_iconst B.1 B.2.1 dX0_isLineEnd_18 ?_
      refine c_calli (q := q) (As := [.int (zI 2)]) (rest := []) B hK hM 6 (by decide) (by decide) rfl (cX2_has_ok l D cy q a 6 S hF 6 (by decide) 2 hP (by show 0 ≤ 2; omega) (by show 2 ≤ 100; omega)) (cwC 1 B wC_mRX0_30 wC_im_yX2_has wC_sl_yX2_has wC_in_RX2 wC_cd_yX2_has rfl rfl (by decide +kernel) ⟨Nat.le_of_ble_eq_true rfl, Nat.le_of_ble_eq_true rfl⟩) rfl hl.1 rfl (Nat.le_of_ble_eq_true rfl) dX0_isLineEnd_19 ⟨Nat.zero_le _, Nat.zero_le _⟩ (fun z_11 S_10 H locs hp_9 hM => ?_)
      obtain ⟨hp_9, he_hp_9⟩ := hp_9
      have he_hp_9 := he_hp_9.symm
      subst he_hp_9
      have hp_9 : (K2_has 6 2 S) = z_11 := hp_9.symm
      subst hp_9
      have f_12 := K2_has_bd 6 2 S
      refine z_if_eq (tgt := 45) B.1 B.2.1 (zr_of (by omega) (by omega)) dX0_isLineEnd_22 (by decide) (fun c_13 => ?_) (fun c_13 => ?_)
      · --
        refine z_iconst B.1 B.2.1 dX0_isLineEnd_45 ?_
        exact hJ_6 _ _ _ ⟨((if_neg c_8).trans (if_pos c_13)).symm, hM⟩
      · --
        refine lv_aload_n B.1 B.2.1 dX0_isLineEnd_25 rfl (lv_at hl 0 rfl) ?_
        refine c_getr (q := q) (r := 3) B (iC0 _) hK hM 10 0 0 (by decide) rfl rfl (by decide) (by decide) rfl rfl rfl (cFx_r hF 10 0) (List.mem_cons_of_mem _ wC_fRX0_18) dX0_isLineEnd_26 ?_
        refine lv_aload_n B.1 B.2.1 dX0_isLineEnd_29 rfl (lv_at hl 0 rfl) ?_
        refine c_geti (q := q) (x := S.1 10 3) B (iC0 _) hK hM 10 3 0 (by decide) rfl rfl (by decide) (by decide) rfl rfl (by decide) rfl (List.mem_cons_of_mem _ wC_fRX0_58) dX0_isLineEnd_30 ?_
        refine c_calli (q := q) (As := [.int (zI (S.1 10 3))]) (rest := []) B hK hM 3 (by decide) (by decide) rfl (cX4_at_ok l D cy q a 6 S hF 3 (by decide) (S.1 10 3) (by show 0 ≤ (S.1 3 1); omega) (by show (S.1 3 1) ≤ 100000; omega) (by show -10000000 ≤ (S.1 10 3); omega) (by show (S.1 10 3) ≤ 10000000; omega) hcs) (cwC 1 B wC_mRX0_134 wC_im_yX4_at wC_sl_yX4_at wC_in_RX4 wC_cd_yX4_at rfl rfl (by decide +kernel) ⟨Nat.le_of_ble_eq_true rfl, Nat.le_of_ble_eq_true rfl⟩) rfl hl.1 rfl (Nat.le_of_ble_eq_true rfl) dX0_isLineEnd_33 ⟨Nat.zero_le _, Nat.zero_le _⟩ (fun z_16 S_15 H locs hp_14 hM => ?_)
        obtain ⟨hp_14, he_hp_14⟩ := hp_14
        have he_hp_14 := he_hp_14.symm
        subst he_hp_14
        have hp_14 : (K4_at 3 (S.1 10 3) S) = z_16 := hp_14.symm
        subst hp_14
        have f_17 := K4_at_bd (t := 3) (S := S) hcs (S.1 10 3)
        refine z_bipush B.1 B.2.1 (by decide) dX0_isLineEnd_36 ?_
        refine z_icmp_ne (tgt := 45) B.1 B.2.1 (zr_of (by omega) (by omega)) (zr_of (by decide) (by decide)) dX0_isLineEnd_38 (by decide) (fun c_18 => ?_) (fun c_18 => ?_)
        · --
          refine z_iconst B.1 B.2.1 dX0_isLineEnd_45 ?_
          exact hJ_6 _ _ _ ⟨((if_neg c_8).trans ((if_neg c_13).trans (if_neg c_18))).symm, hM⟩
        · --
          refine z_iconst B.1 B.2.1 dX0_isLineEnd_41 ?_
          refine lv_goto (tgt := 46) B.1 B.2.1 dX0_isLineEnd_42 (by decide) ?_
          exact hJ_6 _ _ _ ⟨((if_neg c_8).trans ((if_neg c_13).trans (if_pos c_18))).symm, hM⟩
theorem K0_isLineEnd_bd {S : CSt} : K0_isLineEnd S = 0 ∨ K0_isLineEnd S = 1 := by
  unfold K0_isLineEnd
  (repeat' split) <;> simp
def K0_small (x : Int) : Int := (if x < 65 then x else (if 90 < x then x else x + 32 : Int) : Int)
set_option maxHeartbeats 1000000 in
set_option maxRecDepth 100000 in
theorem cX0_small_ok (l : Launch) (x : Int) (h0 : 0 ≤ x) (h1 : x < 65536) : sMi l yX0_small (.code yX0_small cX0_small 1 (some .int) :: TBC) ({ frames := 0, cells := 0, slots := 0, locals := 0 }) [.int (zI x)] (fun z => z = K0_small x) := by
  refine s_of (cc := cX0_small) (maxL := 1) (ret := (some .int)) (C := RX0) (by decide) rfl rfl (Nat.le_of_ble_eq_true rfl) ?_
  intro p e s m args below meth c ls B hl
  have hl : lv_has ls 1 [(0, .int (zI x))] := hl
  refine lv_iload_n B.1 B.2.1 dX0_small_0 rfl (lv_at hl 0 rfl) ?_
  refine z_bipush B.1 B.2.1 (by decide) dX0_small_1 ?_
  refine z_join (P := fun v : Int => v = (if x < 65 then x else (if 90 < x then x else x + 32 : Int) : Int)) (pcJ := 20) (lsJ := ls) (stJ := []) (fun v_1 hv_2 => ?_) (fun hJ_3 => ?_)
  · --
    have hv_2 := hv_2.symm
    subst hv_2
    exact s_reti B (rfl) dX0_small_20
  · --
    refine z_icmp_lt (tgt := 19) B.1 B.2.1 (zr_of (by omega) (by omega)) (zr_of (by decide) (by decide)) dX0_small_3 (by decide) (fun c_4 => ?_) (fun c_4 => ?_)
    · --
      refine lv_iload_n B.1 B.2.1 dX0_small_19 rfl (lv_at hl 0 rfl) ?_
      exact hJ_3 _ (if_pos c_4).symm
    · --
      refine lv_iload_n B.1 B.2.1 dX0_small_6 rfl (lv_at hl 0 rfl) ?_
      refine z_bipush B.1 B.2.1 (by decide) dX0_small_7 ?_
      refine z_icmp_gt (tgt := 19) B.1 B.2.1 (zr_of (by omega) (by omega)) (zr_of (by decide) (by decide)) dX0_small_9 (by decide) (fun c_5 => ?_) (fun c_5 => ?_)
      · --
        refine lv_iload_n B.1 B.2.1 dX0_small_19 rfl (lv_at hl 0 rfl) ?_
        exact hJ_3 _ ((if_neg c_4).trans (if_pos c_5)).symm
      · --
        refine lv_iload_n B.1 B.2.1 dX0_small_12 rfl (lv_at hl 0 rfl) ?_
        refine z_bipush B.1 B.2.1 (by decide) dX0_small_13 ?_
        refine z_iadd (x := x + 32) B.1 B.2.1 rfl dX0_small_15 ?_
        refine lv_goto (tgt := 20) B.1 B.2.1 dX0_small_16 (by decide) ?_
        exact hJ_3 _ ((if_neg c_4).trans (if_neg c_5)).symm
theorem K0_small_bd (x : Int) (h0 : 0 ≤ x) (h1 : x < 65536) : 0 ≤ K0_small x ∧ K0_small x < 70000 := by
  unfold K0_small
  (repeat' split) <;> omega
def K0_isSame (x : Int) (z : Int) (S : CSt) : Int := (if x = z then 1 else (if ((K2_has 6 4 S)) = 0 then 0 else (if ((K0_small x)) = ((K0_small z)) then 1 else 0 : Int) : Int) : Int)
set_option maxHeartbeats 1000000 in
set_option maxRecDepth 100000 in
theorem cX0_isSame_ok (l : Launch) (D : va_G) (cy : Nat → ClassId) (q : Nat → Nat) (a : Nat) (S : CSt) (hF : cFx a 6 S) (x : Int) (z : Int) (hP : pB 6 S) (h0 : 0 ≤ x) (h1 : x < 65536) (h2 : 0 ≤ z) (h3 : z < 65536) : cMi l D cy q yX0_isSame (.code yX0_isSame cX0_isSame 3 (some .boolean) :: TBC) ({ frames := 1, cells := 0, slots := 0, locals := 21 }) S 10 [.int (zI x), .int (zI z)] (fun r S' => r = K0_isSame x z S ∧ S' = S) := by
  refine c_of (cc := cX0_isSame) (maxL := 3) (ret := (some .boolean)) (C := RX0) (by decide) rfl rfl (Nat.le_of_ble_eq_true rfl) ?_
  intro p e s m args below meth c ls B hK hM hl
  have hl : lv_has ls 3 [(0, .ref (q 10)), (1, .int (zI x)), (2, .int (zI z))] := hl
  refine lv_iload_n B.1 B.2.1 dX0_isSame_0 rfl (lv_at hl 1 rfl) ?_
  refine lv_iload_n B.1 B.2.1 dX0_isSame_1 rfl (lv_at hl 2 rfl) ?_
  refine z_joinH (P := fun v H' locs' => v = (if x = z then 1 else (if ((K2_has 6 4 S)) = 0 then 0 else (if ((K0_small x)) = ((K0_small z)) then 1 else 0 : Int) : Int) : Int) ∧ cH D cy q (cA q) s.heap S H' locs') (pcJ := 32) (lsJ := ls) (stJ := []) (fun v_1 H locs hv_2 => ?_) (fun hJ_3 => ?_)
  · --
    obtain ⟨hv_2, hM⟩ := hv_2
    have hb_4 : (if x = z then 1 else (if ((K2_has 6 4 S)) = 0 then 0 else (if ((K0_small x)) = ((K0_small z)) then 1 else 0 : Int) : Int) : Int) = 0 ∨ (if x = z then 1 else (if ((K2_has 6 4 S)) = 0 then 0 else (if ((K0_small x)) = ((K0_small z)) then 1 else 0 : Int) : Int) : Int) = 1 := by (repeat' split) <;> simp
    have hv_2 := hv_2.symm
    subst hv_2
    exact c_retz B hM (by omega) (⟨rfl, rfl⟩) dX0_isSame_32
  · --
    refine z_icmp_eq (tgt := 27) B.1 B.2.1 (zr_of (by omega) (by omega)) (zr_of (by omega) (by omega)) dX0_isSame_2 (by decide) (fun c_5 => ?_) (fun c_5 => ?_)
    · --
      refine z_iconst B.1 B.2.1 dX0_isSame_27 ?_
      refine lv_goto (tgt := 32) B.1 B.2.1 dX0_isSame_28 (by decide) ?_
      exact hJ_3 _ _ _ ⟨(if_pos c_5).symm, hM⟩
    · --
      refine lv_aload_n B.1 B.2.1 dX0_isSame_5 rfl (lv_at hl 0 rfl) ?_
      refine c_getr (q := q) (r := 6) B (iC0 _) hK hM 10 2 0 (by decide) rfl rfl (by decide) (by decide) rfl rfl rfl (cFx_r hF 10 2) (List.mem_cons_of_mem _ wC_fRX0_22) dX0_isSame_6 ?_
      refine z_iconst B.1 B.2.1 dX0_isSame_9 ?_
      refine c_calli (q := q) (As := [.int (zI 4)]) (rest := []) B hK hM 6 (by decide) (by decide) rfl (cX2_has_ok l D cy q a 6 S hF 6 (by decide) 4 hP (by show 0 ≤ 4; omega) (by show 4 ≤ 100; omega)) (cwC 1 B wC_mRX0_30 wC_im_yX2_has wC_sl_yX2_has wC_in_RX2 wC_cd_yX2_has rfl rfl (by decide +kernel) ⟨Nat.le_of_ble_eq_true rfl, Nat.le_of_ble_eq_true rfl⟩) rfl hl.1 rfl (Nat.le_of_ble_eq_true rfl) dX0_isSame_10 ⟨Nat.zero_le _, Nat.zero_le _⟩ (fun z_8 S_7 H locs hp_6 hM => ?_)
      obtain ⟨hp_6, he_hp_6⟩ := hp_6
      have he_hp_6 := he_hp_6.symm
      subst he_hp_6
      have hp_6 : (K2_has 6 4 S) = z_8 := hp_6.symm
      subst hp_6
      have f_9 := K2_has_bd 6 4 S
      refine z_if_eq (tgt := 31) B.1 B.2.1 (zr_of (by omega) (by omega)) dX0_isSame_13 (by decide) (fun c_10 => ?_) (fun c_10 => ?_)
      · --
        refine z_iconst B.1 B.2.1 dX0_isSame_31 ?_
        exact hJ_3 _ _ _ ⟨((if_neg c_5).trans (if_pos c_10)).symm, hM⟩
      · --
        refine lv_iload_n B.1 B.2.1 dX0_isSame_16 rfl (lv_at hl 1 rfl) ?_
        refine s_calli (As := [.int (zI x)]) (rest := []) B (cX0_small_ok l x (by show 0 ≤ x; omega) (by show x < 65536; omega)) (csC 1 B wC_mRX0_155 wC_st_yX0_small wC_in_RX0 wC_cd_yX0_small rfl rfl (by decide +kernel) ⟨Nat.le_of_ble_eq_true rfl, Nat.le_of_ble_eq_true rfl⟩) rfl hl.1 rfl (Nat.le_of_ble_eq_true rfl) dX0_isSame_17 ⟨Nat.zero_le _, Nat.zero_le _⟩ (fun z_11 hz_12 => ?_)
        have hz_12 := hz_12.symm
        subst hz_12
        have f_13 := K0_small_bd x (by omega) (by omega)
        refine lv_iload_n B.1 B.2.1 dX0_isSame_20 rfl (lv_at hl 2 rfl) ?_
        refine s_calli (As := [.int (zI z)]) (rest := [.int (zI ((K0_small x)))]) B (cX0_small_ok l z (by show 0 ≤ z; omega) (by show z < 65536; omega)) (csC 1 B wC_mRX0_155 wC_st_yX0_small wC_in_RX0 wC_cd_yX0_small rfl rfl (by decide +kernel) ⟨Nat.le_of_ble_eq_true rfl, Nat.le_of_ble_eq_true rfl⟩) rfl hl.1 rfl (Nat.le_of_ble_eq_true rfl) dX0_isSame_21 ⟨Nat.zero_le _, Nat.zero_le _⟩ (fun z_14 hz_15 => ?_)
        have hz_15 := hz_15.symm
        subst hz_15
        have f_16 := K0_small_bd z (by omega) (by omega)
        refine z_icmp_ne (tgt := 31) B.1 B.2.1 (zr_of (by omega) (by omega)) (zr_of (by omega) (by omega)) dX0_isSame_24 (by decide) (fun c_17 => ?_) (fun c_17 => ?_)
        · --
          refine z_iconst B.1 B.2.1 dX0_isSame_31 ?_
          exact hJ_3 _ _ _ ⟨((if_neg c_5).trans ((if_neg c_10).trans (if_neg c_17))).symm, hM⟩
        · --
          refine z_iconst B.1 B.2.1 dX0_isSame_27 ?_
          refine lv_goto (tgt := 32) B.1 B.2.1 dX0_isSame_28 (by decide) ?_
          exact hJ_3 _ _ _ ⟨((if_neg c_5).trans ((if_neg c_10).trans (if_pos c_17))).symm, hM⟩
theorem K0_isSame_bd (x z : Int) (S : CSt) : K0_isSame x z S = 0 ∨ K0_isSame x z S = 1 := by
  unfold K0_isSame
  (repeat' split) <;> simp
def K0_prL (i : Int) (bg : Int) (en : Int) : Nat → Int → CSt → CR
  | 0, k, T => (0, i + 1, (ci T 10 3 ((T.1 10 3) + (en - bg))))
  | n + 1, k, T => (if en ≤ k then (0, i + 1, (ci T 10 3 ((T.1 10 3) + (en - bg)))) else (if ((K0_isSame ((K4_at 3 k T)) ((K4_at 3 (((T.1 10 3) + k) - bg) T)) T)) = 0 then (0, (-1), T) else K0_prL i bg en n (k + 1) T))
set_option maxHeartbeats 1000000 in
set_option maxRecDepth 100000 in
theorem lp0_pr (l : Launch) (hl0 : l.stackTraces = false) (D : va_G) (cy : Nat → ClassId) (q : Nat → Nat) (V : Nat × (Nat → Nat)) (n0 a : Nat)  (i : Int) (bg : Int) (en : Int) (ha36 : a < 36) (hb0 : -1 ≤ bg) (hb1 : bg ≤ 100000) (he0 : -1 ≤ en) (he1 : en ≤ 100000) (S0 : CSt) (rc : CR) {A : Nat → Prop} {p : Program} {e : Env} {s : State} {m : MethodId} {args : Array Value} {below : List Frame} {meth : Method} {c : Code} (B : zAt p s m args meth c RX0 cX0_passReference 6 (some .int) (.code yX0_passReference cX0_passReference 6 (some .int) :: TBC)) (hK : va_K D vwCl (zTY cy) s) (hG : gEn V n0 A s c) (hR : (headSpec (.code yX0_passReference cX0_passReference 6 (some .int) :: TBC) (gRm 7 110 S0)).room.cells = (gK - gl S0) + 1 ∧ (headSpec (.code yX0_passReference cX0_passReference 6 (some .int) :: TBC) (gRm 7 110 S0)).room.slots = 2 * (gK - gl S0) + 6) :
    ∀ (n : Nat) (k : Int) (T : CSt) (x y : Nat) (H : Heap) (locs : List Loc) (ls : Array Slot), (cFx a 6 T) → (gl S0 ≤ gl T) → (xV T) → (-1 ≤ k) → (k ≤ 200000) → (en - k ≤ n) → cH D cy (cq q x y) A s.heap T H locs → lv_has ls 6 [(0, .ref (q 10)), (1, .int (zI i)), (3, .int (zI bg)), (4, .int (zI en)), (5, .int (zI k))] → (rc = K0_prL i bg en n k T) → W p l e (headSpec (.code yX0_passReference cX0_passReference 6 (some .int) :: TBC) (gRm 7 110 S0)).room s m args below meth c H locs (gl T - gl S0) (2 * (gl T - gl S0)) (vx_MQ below (gQi D cy q A rc) (gX D cy q A "java/lang/UnsupportedOperationException" rc) args s (gc S0 rc) (gs S0 rc) A) (F0 m 38 ls []) := by
  intro n
  induction n with
  | zero =>
    intro k T x y H locs ls hF hg hX hi0 hi1 hn hM hl hpost
    obtain ⟨hV, hP, ht0, ht1, hcs, hp0, hp1, hs0, hs1, h18, h24, h25, h35⟩ := id hX
    obtain ⟨hMk, hu30, hu31, hu40, hu41, hM6, hM7⟩ := id hV
    refine lv_iload B.1 B.2.1 dX0_passReference_38 (lv_at hl 4 rfl) ?_
    refine lv_iload B.1 B.2.1 dX0_passReference_40 (lv_at hl 3 rfl) ?_
    refine z_icmp_ge (tgt := 85) B.1 B.2.1 (zr_of (by omega) (by omega)) (zr_of (by omega) (by omega)) dX0_passReference_42 (by decide) (fun c_1 => ?_) (fun c_1 => ?_)
    · --
      refine lv_aload_n B.1 B.2.1 dX0_passReference_85 rfl (lv_at hl 0 rfl) ?_
      refine lv_dup B.1 B.2.1 dX0_passReference_86 rfl ?_
      refine c_geti (q := (cq q x y)) (x := T.1 10 3) B (iC0 _) hK hM 10 3 0 (by decide) rfl rfl (by decide) (by decide) rfl rfl (by decide) rfl (List.mem_cons_of_mem _ wC_fRX0_58) dX0_passReference_87 ?_
      refine lv_iload B.1 B.2.1 dX0_passReference_90 (lv_at hl 3 rfl) ?_
      refine lv_iload_n B.1 B.2.1 dX0_passReference_92 rfl (lv_at hl 2 rfl) ?_
      refine z_isub (x := en - bg) B.1 B.2.1 rfl dX0_passReference_93 ?_
      refine z_iadd (x := (T.1 10 3) + (en - bg)) B.1 B.2.1 rfl dX0_passReference_94 ?_
      refine c_puti (q := (cq q x y)) B (iC0 _) tyX0 tyX0_ok nmX0 hK hM 10 3 0 (by decide) rfl rfl (by decide) (by decide) rfl rfl rfl (by decide +kernel) (by decide) (List.mem_cons_of_mem _ wC_fRX0_58) dX0_passReference_95 (fun H locs hM => ?_)
      have hV : sV (ci T 10 3 ((T.1 10 3) + (en - bg))) := sV_ci hV (by decide)
      have hP : pB 6 (ci T 10 3 ((T.1 10 3) + (en - bg))) := pB_ci (by decide) (by decide) hP
      refine lv_iload_n B.1 B.2.1 dX0_passReference_98 rfl (lv_at hl 1 rfl) ?_
      refine z_iconst B.1 B.2.1 dX0_passReference_99 ?_
      refine z_iadd (x := i + 1) B.1 B.2.1 rfl dX0_passReference_100 ?_
      exact g_reti (S := (ci T 10 3 ((T.1 10 3) + (en - bg)))) B hM (hpost.trans (by rw [K0_prL])) dX0_passReference_101
    · exact absurd c_1 (by omega)
  | succ n ih =>
    intro k T x y H locs ls hF hg hX hi0 hi1 hn hM hl hpost
    obtain ⟨hV, hP, ht0, ht1, hcs, hp0, hp1, hs0, hs1, h18, h24, h25, h35⟩ := id hX
    obtain ⟨hMk, hu30, hu31, hu40, hu41, hM6, hM7⟩ := id hV
    refine lv_iload B.1 B.2.1 dX0_passReference_38 (lv_at hl 4 rfl) ?_
    refine lv_iload B.1 B.2.1 dX0_passReference_40 (lv_at hl 3 rfl) ?_
    refine z_icmp_ge (tgt := 85) B.1 B.2.1 (zr_of (by omega) (by omega)) (zr_of (by omega) (by omega)) dX0_passReference_42 (by decide) (fun c_1 => ?_) (fun c_1 => ?_)
    · --
      refine lv_aload_n B.1 B.2.1 dX0_passReference_85 rfl (lv_at hl 0 rfl) ?_
      refine lv_dup B.1 B.2.1 dX0_passReference_86 rfl ?_
      refine c_geti (q := (cq q x y)) (x := T.1 10 3) B (iC0 _) hK hM 10 3 0 (by decide) rfl rfl (by decide) (by decide) rfl rfl (by decide) rfl (List.mem_cons_of_mem _ wC_fRX0_58) dX0_passReference_87 ?_
      refine lv_iload B.1 B.2.1 dX0_passReference_90 (lv_at hl 3 rfl) ?_
      refine lv_iload_n B.1 B.2.1 dX0_passReference_92 rfl (lv_at hl 2 rfl) ?_
      refine z_isub (x := en - bg) B.1 B.2.1 rfl dX0_passReference_93 ?_
      refine z_iadd (x := (T.1 10 3) + (en - bg)) B.1 B.2.1 rfl dX0_passReference_94 ?_
      refine c_puti (q := (cq q x y)) B (iC0 _) tyX0 tyX0_ok nmX0 hK hM 10 3 0 (by decide) rfl rfl (by decide) (by decide) rfl rfl rfl (by decide +kernel) (by decide) (List.mem_cons_of_mem _ wC_fRX0_58) dX0_passReference_95 (fun H locs hM => ?_)
      have hV : sV (ci T 10 3 ((T.1 10 3) + (en - bg))) := sV_ci hV (by decide)
      have hP : pB 6 (ci T 10 3 ((T.1 10 3) + (en - bg))) := pB_ci (by decide) (by decide) hP
      refine lv_iload_n B.1 B.2.1 dX0_passReference_98 rfl (lv_at hl 1 rfl) ?_
      refine z_iconst B.1 B.2.1 dX0_passReference_99 ?_
      refine z_iadd (x := i + 1) B.1 B.2.1 rfl dX0_passReference_100 ?_
      exact g_reti (S := (ci T 10 3 ((T.1 10 3) + (en - bg)))) B hM (hpost.trans (by rw [K0_prL]; exact (if_pos c_1))) dX0_passReference_101
    · --
      refine lv_aload_n B.1 B.2.1 dX0_passReference_45 rfl (lv_at hl 0 rfl) ?_
      refine lv_aload_n B.1 B.2.1 dX0_passReference_46 rfl (lv_at hl 0 rfl) ?_
      refine c_getr (q := (cq q x y)) (r := 3) B (iC0 _) hK hM 10 0 0 (by decide) rfl rfl (by decide) (by decide) rfl rfl rfl (cFx_r hF 10 0) (List.mem_cons_of_mem _ wC_fRX0_18) dX0_passReference_47 ?_
      refine lv_iload B.1 B.2.1 dX0_passReference_50 (lv_at hl 4 rfl) ?_
      refine c_calli (q := (cq q x y)) (As := [.int (zI k)]) (rest := [.ref (q 10)]) B hK hM 3 (by decide) (by decide) rfl (cX4_at_ok l D cy (cq q x y) a 6 T hF 3 (by decide) k (by show 0 ≤ (T.1 3 1); omega) (by show (T.1 3 1) ≤ 100000; omega) (by show -10000000 ≤ k; omega) (by show k ≤ 10000000; omega) hcs) (cwC 1 B wC_mRX0_134 wC_im_yX4_at wC_sl_yX4_at wC_in_RX4 wC_cd_yX4_at rfl rfl (by decide +kernel) ⟨Nat.le_of_ble_eq_true rfl, Nat.le_of_ble_eq_true rfl⟩) rfl hl.1 rfl (Nat.le_of_ble_eq_true rfl) dX0_passReference_52 ⟨g_rc hR hg (cFx_gl hF), g_rs hR hg (cFx_gl hF)⟩ (fun z_4 S_3 H locs hp_2 hM => ?_)
      obtain ⟨hp_2, he_hp_2⟩ := hp_2
      have he_hp_2 := he_hp_2.symm
      subst he_hp_2
      have hp_2 : (K4_at 3 k T) = z_4 := hp_2.symm
      subst hp_2
      have f_5 := K4_at_bd (t := 3) (S := T) hcs k
      refine lv_aload_n B.1 B.2.1 dX0_passReference_55 rfl (lv_at hl 0 rfl) ?_
      refine c_getr (q := (cq q x y)) (r := 3) B (iC0 _) hK hM 10 0 0 (by decide) rfl rfl (by decide) (by decide) rfl rfl rfl (cFx_r hF 10 0) (List.mem_cons_of_mem _ wC_fRX0_18) dX0_passReference_56 ?_
      refine lv_aload_n B.1 B.2.1 dX0_passReference_59 rfl (lv_at hl 0 rfl) ?_
      refine c_geti (q := (cq q x y)) (x := T.1 10 3) B (iC0 _) hK hM 10 3 0 (by decide) rfl rfl (by decide) (by decide) rfl rfl (by decide) rfl (List.mem_cons_of_mem _ wC_fRX0_58) dX0_passReference_60 ?_
      refine lv_iload B.1 B.2.1 dX0_passReference_63 (lv_at hl 4 rfl) ?_
      refine z_iadd (x := (T.1 10 3) + k) B.1 B.2.1 rfl dX0_passReference_65 ?_
      refine lv_iload_n B.1 B.2.1 dX0_passReference_66 rfl (lv_at hl 2 rfl) ?_
      refine z_isub (x := ((T.1 10 3) + k) - bg) B.1 B.2.1 rfl dX0_passReference_67 ?_
      refine c_calli (q := (cq q x y)) (As := [.int (zI (((T.1 10 3) + k) - bg))]) (rest := [.int (zI ((K4_at 3 k T))), .ref (q 10)]) B hK hM 3 (by decide) (by decide) rfl (cX4_at_ok l D cy (cq q x y) a 6 T hF 3 (by decide) (((T.1 10 3) + k) - bg) (by show 0 ≤ (T.1 3 1); omega) (by show (T.1 3 1) ≤ 100000; omega) (by show -10000000 ≤ (((T.1 10 3) + k) - bg); omega) (by show (((T.1 10 3) + k) - bg) ≤ 10000000; omega) hcs) (cwC 1 B wC_mRX0_134 wC_im_yX4_at wC_sl_yX4_at wC_in_RX4 wC_cd_yX4_at rfl rfl (by decide +kernel) ⟨Nat.le_of_ble_eq_true rfl, Nat.le_of_ble_eq_true rfl⟩) rfl hl.1 rfl (Nat.le_of_ble_eq_true rfl) dX0_passReference_68 ⟨g_rc hR hg (cFx_gl hF), g_rs hR hg (cFx_gl hF)⟩ (fun z_8 S_7 H locs hp_6 hM => ?_)
      obtain ⟨hp_6, he_hp_6⟩ := hp_6
      have he_hp_6 := he_hp_6.symm
      subst he_hp_6
      have hp_6 : (K4_at 3 (((T.1 10 3) + k) - bg) T) = z_8 := hp_6.symm
      subst hp_6
      have f_9 := K4_at_bd (t := 3) (S := T) hcs (((T.1 10 3) + k) - bg)
      refine c_calli (q := (cq q x y)) (As := [.int (zI ((K4_at 3 k T))), .int (zI ((K4_at 3 (((T.1 10 3) + k) - bg) T)))]) (rest := []) B hK hM 10 (by decide) (by decide) rfl (cX0_isSame_ok l D cy (cq q x y) a T hF  ((K4_at 3 k T)) ((K4_at 3 (((T.1 10 3) + k) - bg) T)) hP (by show 0 ≤ ((K4_at 3 k T)); omega) (by show ((K4_at 3 k T)) < 65536; omega) (by show 0 ≤ ((K4_at 3 (((T.1 10 3) + k) - bg) T)); omega) (by show ((K4_at 3 (((T.1 10 3) + k) - bg) T)) < 65536; omega)) (cwC 2 B wC_mRX0_151 wC_im_yX0_isSame wC_sl_yX0_isSame wC_in_RX0 wC_cd_yX0_isSame rfl rfl (by decide +kernel) ⟨Nat.le_of_ble_eq_true rfl, Nat.le_of_ble_eq_true rfl⟩) rfl hl.1 rfl (Nat.le_of_ble_eq_true rfl) dX0_passReference_71 ⟨g_rc hR hg (cFx_gl hF), g_rs hR hg (cFx_gl hF)⟩ (fun z_12 S_11 H locs hp_10 hM => ?_)
      obtain ⟨hp_10, he_hp_10⟩ := hp_10
      have he_hp_10 := he_hp_10.symm
      subst he_hp_10
      have hp_10 : (K0_isSame ((K4_at 3 k T)) ((K4_at 3 (((T.1 10 3) + k) - bg) T)) T) = z_12 := hp_10.symm
      subst hp_10
      have f_13 := K0_isSame_bd ((K4_at 3 k T)) ((K4_at 3 (((T.1 10 3) + k) - bg) T)) T
      refine z_if_ne (tgt := 79) B.1 B.2.1 (zr_of (by omega) (by omega)) dX0_passReference_74 (by decide) (fun c_14 => ?_) (fun c_14 => ?_)
      · --
        refine z_iinc (v := k + 1) (lv' := [(5, .int (zI (k + 1))), (0, .ref (q 10)), (1, .int (zI i)), (3, .int (zI bg)), (4, .int (zI en))]) B.1 B.2.1 dX0_passReference_79 hl (k := 4) rfl rfl (by decide) rfl (fun ls hl => ?_)
        refine lv_goto (tgt := 38) B.1 B.2.1 dX0_passReference_82 (by decide) ?_
        have hq : K0_prL i bg en (n + 1) k T = K0_prL i bg en n (k + 1) T := by rw [K0_prL]; exact ((if_neg c_1).trans (if_neg c_14))
        rw [hq] at hpost
        exact ih (k + 1) T x y H locs ls hF hg hX (by omega) (by omega) (by omega) hM (lv_sub hl [1, 2, 3, 4, 0] rfl) hpost
      · --
        refine z_iconst B.1 B.2.1 dX0_passReference_77 ?_
        exact g_reti (S := T) B hM (hpost.trans (by rw [K0_prL]; exact ((if_neg c_1).trans (if_pos c_14)))) dX0_passReference_78
def K0_passReference (i : Int) (S : CSt) : CR := (if (K0_countStep S).1 = 0 then (if ((K0_tookFrom ((K2_number 6 i (ci S 10 4 ((S.1 10 4) + 1)))) (ci S 10 4 ((S.1 10 4) + 1)))) = (-1) then (0, i + 1, (ci S 10 4 ((S.1 10 4) + 1))) else (K0_prL i ((K0_tookFrom ((K2_number 6 i (ci S 10 4 ((S.1 10 4) + 1)))) (ci S 10 4 ((S.1 10 4) + 1)))) ((K0_tookTo ((K2_number 6 i (ci S 10 4 ((S.1 10 4) + 1)))) (ci S 10 4 ((S.1 10 4) + 1)))) ((K0_tookTo ((K2_number 6 i (ci S 10 4 ((S.1 10 4) + 1)))) (ci S 10 4 ((S.1 10 4) + 1))) - ((K0_tookFrom ((K2_number 6 i (ci S 10 4 ((S.1 10 4) + 1)))) (ci S 10 4 ((S.1 10 4) + 1))))).toNat ((K0_tookFrom ((K2_number 6 i (ci S 10 4 ((S.1 10 4) + 1)))) (ci S 10 4 ((S.1 10 4) + 1)))) (ci S 10 4 ((S.1 10 4) + 1)))) else (1, 0, (K0_countStep S).2.2))
set_option maxHeartbeats 1000000 in
set_option maxRecDepth 100000 in
theorem cX0_passReference_ok (l : Launch) (hl0 : l.stackTraces = false) (D : va_G) (cy : Nat → ClassId) (q : Nat → Nat) (V : Nat × (Nat → Nat)) (n0 x y a : Nat) (S : CSt) (hF : cFx a 6 S) (i : Int) (ha36 : a < 36) (hX : xV S) (h0 : 0 ≤ i) (h1 : i ≤ 1000) : gMi l D cy q V n0 x y "java/lang/UnsupportedOperationException" yX0_passReference (.code yX0_passReference cX0_passReference 6 (some .int) :: TBC) 7 110 S [.ref (q 10), .int (zI i)] (K0_passReference i S) := by
  refine g_of (cc := cX0_passReference) (maxL := 6) (ret := (some .int)) (by decide) rfl rfl (Nat.le_of_ble_eq_true rfl) ?_
  intro p e s m args below meth c ls B hK hG hM hl
  generalize gA (cq q x y) n0 = A at hG hM ⊢
  have hR : (headSpec (.code yX0_passReference cX0_passReference 6 (some .int) :: TBC) (gRm 7 110 S)).room.cells = (gK - gl S) + 1 ∧ (headSpec (.code yX0_passReference cX0_passReference 6 (some .int) :: TBC) (gRm 7 110 S)).room.slots = 2 * (gK - gl S) + 6 := ⟨rfl, rfl⟩
  have hl : lv_has ls 6 [(0, .ref (q 10)), (1, .int (zI i))] := hl
  obtain ⟨hV, hP, ht0, ht1, hcs, hp0, hp1, hs0, hs1, h18, h24, h25, h35⟩ := id hX
  obtain ⟨hMk, hu30, hu31, hu40, hu41, hM6, hM7⟩ := id hV
  refine lv_aload_n B.1 B.2.1 dX0_passReference_0 rfl (lv_at hl 0 rfl) ?_
  refine g_callv (E := "java/lang/UnsupportedOperationException") (As := []) (rest := []) B hK hG hM 10 (by decide) (by decide) rfl (cX0_countStep_ok l hl0 D cy q V n0 x y a S hF   hX) (cwC 0 B wC_mRX0_131 wC_im_yX0_countStep wC_sl_yX0_countStep wC_in_RX0 wC_cd_yX0_countStep rfl rfl (by decide +kernel) ⟨Nat.le_of_ble_eq_true rfl, Nat.le_of_ble_eq_true rfl⟩) rfl hl.1 rfl (Nat.le_of_ble_eq_true rfl) dX0_passReference_1 hR (Nat.le_refl _) (cFx_gl hF) (gl_of (congrArg Prod.snd K0_cs_2)) (fun c_1 => (by unfold K0_passReference; exact (if_neg c_1))) (fun x y H locs c_1 hM => ?_)
  rw [(K0_cs c_1).2] at hM ⊢
  have f_2 := (K0_cs c_1).1
  have hV : sV (ci S 10 4 ((S.1 10 4) + 1)) := sV_ci hV (by decide)
  have hP : pB 6 (ci S 10 4 ((S.1 10 4) + 1)) := pB_ci (by decide) (by decide) hP
  refine lv_aload_n B.1 B.2.1 dX0_passReference_4 rfl (lv_at hl 0 rfl) ?_
  refine c_getr (q := (cq q x y)) (r := 6) B (iC0 _) hK hM 10 2 0 (by decide) rfl rfl (by decide) (by decide) rfl rfl rfl (cFx_r hF 10 2) (List.mem_cons_of_mem _ wC_fRX0_22) dX0_passReference_5 ?_
  refine lv_iload_n B.1 B.2.1 dX0_passReference_8 rfl (lv_at hl 1 rfl) ?_
  refine c_calli (q := (cq q x y)) (As := [.int (zI i)]) (rest := []) B hK hM 6 (by decide) (by decide) rfl (cX2_number_ok l D cy (cq q x y) a 6 (ci S 10 4 ((S.1 10 4) + 1)) hF 6 (by decide) i hP (by show -1000000000 ≤ i; omega) (by show i ≤ 1000000000; omega)) (cwC 1 B wC_mRX0_142 wC_im_yX2_number wC_sl_yX2_number wC_in_RX2 wC_cd_yX2_number rfl rfl (by decide +kernel) ⟨Nat.le_of_ble_eq_true rfl, Nat.le_of_ble_eq_true rfl⟩) rfl hl.1 rfl (Nat.le_of_ble_eq_true rfl) dX0_passReference_9 ⟨g_rc hR (Nat.le_refl _) (cFx_gl hF), g_rs hR (Nat.le_refl _) (cFx_gl hF)⟩ (fun z_5 S_4 H locs hp_3 hM => ?_)
  obtain ⟨hp_3, he_hp_3⟩ := hp_3
  have he_hp_3 := he_hp_3.symm
  subst he_hp_3
  have hp_3 : (K2_number 6 i (ci S 10 4 ((S.1 10 4) + 1))) = z_5 := hp_3.symm
  subst hp_3
  have f_6 := K2_number_bd i hP
  refine lv_istore_n (lv' := [(2, .int (zI ((K2_number 6 i (ci S 10 4 ((S.1 10 4) + 1)))))), (0, .ref (q 10)), (1, .int (zI i))]) B.1 B.2.1 dX0_passReference_12 rfl hl (by decide) rfl (fun ls hl => ?_)
  refine lv_aload_n B.1 B.2.1 dX0_passReference_13 rfl (lv_at hl 1 rfl) ?_
  refine lv_iload_n B.1 B.2.1 dX0_passReference_14 rfl (lv_at hl 0 rfl) ?_
  refine c_calli (q := (cq q x y)) (As := [.int (zI ((K2_number 6 i (ci S 10 4 ((S.1 10 4) + 1)))))]) (rest := []) B hK hM 10 (by decide) (by decide) rfl (cX0_tookFrom_ok l D cy (cq q x y) a (ci S 10 4 ((S.1 10 4) + 1)) hF  ((K2_number 6 i (ci S 10 4 ((S.1 10 4) + 1)))) hV (by show -1 ≤ ((K2_number 6 i (ci S 10 4 ((S.1 10 4) + 1)))); omega) (by show ((K2_number 6 i (ci S 10 4 ((S.1 10 4) + 1)))) ≤ 1000000; omega)) (cwC 1 B wC_mRX0_145 wC_im_yX0_tookFrom wC_sl_yX0_tookFrom wC_in_RX0 wC_cd_yX0_tookFrom rfl rfl (by decide +kernel) ⟨Nat.le_of_ble_eq_true rfl, Nat.le_of_ble_eq_true rfl⟩) rfl hl.1 rfl (Nat.le_of_ble_eq_true rfl) dX0_passReference_15 ⟨g_rc hR (Nat.le_refl _) (cFx_gl hF), g_rs hR (Nat.le_refl _) (cFx_gl hF)⟩ (fun z_9 S_8 H locs hp_7 hM => ?_)
  obtain ⟨hp_7, he_hp_7⟩ := hp_7
  have he_hp_7 := he_hp_7.symm
  subst he_hp_7
  have hp_7 : (K0_tookFrom ((K2_number 6 i (ci S 10 4 ((S.1 10 4) + 1)))) (ci S 10 4 ((S.1 10 4) + 1))) = z_9 := hp_7.symm
  subst hp_7
  have f_10 : -1 ≤ (K0_tookFrom ((K2_number 6 i (ci S 10 4 ((S.1 10 4) + 1)))) (ci S 10 4 ((S.1 10 4) + 1))) ∧ (K0_tookFrom ((K2_number 6 i (ci S 10 4 ((S.1 10 4) + 1)))) (ci S 10 4 ((S.1 10 4) + 1))) ≤ 100000 := K1_mark_bd (S := (ci S 10 4 ((S.1 10 4) + 1))) (10 + ((K2_number 6 i (ci S 10 4 ((S.1 10 4) + 1))))) hV
  refine lv_istore_n (lv' := [(3, .int (zI ((K0_tookFrom ((K2_number 6 i (ci S 10 4 ((S.1 10 4) + 1)))) (ci S 10 4 ((S.1 10 4) + 1)))))), (2, .int (zI ((K2_number 6 i (ci S 10 4 ((S.1 10 4) + 1)))))), (0, .ref (q 10)), (1, .int (zI i))]) B.1 B.2.1 dX0_passReference_18 rfl hl (by decide) rfl (fun ls hl => ?_)
  refine lv_aload_n B.1 B.2.1 dX0_passReference_19 rfl (lv_at hl 2 rfl) ?_
  refine lv_iload_n B.1 B.2.1 dX0_passReference_20 rfl (lv_at hl 1 rfl) ?_
  refine c_calli (q := (cq q x y)) (As := [.int (zI ((K2_number 6 i (ci S 10 4 ((S.1 10 4) + 1)))))]) (rest := []) B hK hM 10 (by decide) (by decide) rfl (cX0_tookTo_ok l D cy (cq q x y) a (ci S 10 4 ((S.1 10 4) + 1)) hF  ((K2_number 6 i (ci S 10 4 ((S.1 10 4) + 1)))) hV (by show -1 ≤ ((K2_number 6 i (ci S 10 4 ((S.1 10 4) + 1)))); omega) (by show ((K2_number 6 i (ci S 10 4 ((S.1 10 4) + 1)))) ≤ 1000000; omega)) (cwC 1 B wC_mRX0_148 wC_im_yX0_tookTo wC_sl_yX0_tookTo wC_in_RX0 wC_cd_yX0_tookTo rfl rfl (by decide +kernel) ⟨Nat.le_of_ble_eq_true rfl, Nat.le_of_ble_eq_true rfl⟩) rfl hl.1 rfl (Nat.le_of_ble_eq_true rfl) dX0_passReference_21 ⟨g_rc hR (Nat.le_refl _) (cFx_gl hF), g_rs hR (Nat.le_refl _) (cFx_gl hF)⟩ (fun z_13 S_12 H locs hp_11 hM => ?_)
  obtain ⟨hp_11, he_hp_11⟩ := hp_11
  have he_hp_11 := he_hp_11.symm
  subst he_hp_11
  have hp_11 : (K0_tookTo ((K2_number 6 i (ci S 10 4 ((S.1 10 4) + 1)))) (ci S 10 4 ((S.1 10 4) + 1))) = z_13 := hp_11.symm
  subst hp_11
  have f_14 : -1 ≤ (K0_tookTo ((K2_number 6 i (ci S 10 4 ((S.1 10 4) + 1)))) (ci S 10 4 ((S.1 10 4) + 1))) ∧ (K0_tookTo ((K2_number 6 i (ci S 10 4 ((S.1 10 4) + 1)))) (ci S 10 4 ((S.1 10 4) + 1))) ≤ 100000 := K1_mark_bd (S := (ci S 10 4 ((S.1 10 4) + 1))) (20 + ((K2_number 6 i (ci S 10 4 ((S.1 10 4) + 1))))) hV
  refine lv_istore (lv' := [(4, .int (zI ((K0_tookTo ((K2_number 6 i (ci S 10 4 ((S.1 10 4) + 1)))) (ci S 10 4 ((S.1 10 4) + 1)))))), (3, .int (zI ((K0_tookFrom ((K2_number 6 i (ci S 10 4 ((S.1 10 4) + 1)))) (ci S 10 4 ((S.1 10 4) + 1)))))), (2, .int (zI ((K2_number 6 i (ci S 10 4 ((S.1 10 4) + 1)))))), (0, .ref (q 10)), (1, .int (zI i))]) B.1 B.2.1 dX0_passReference_24 hl (by decide) rfl (fun ls hl => ?_)
  refine lv_iload_n B.1 B.2.1 dX0_passReference_26 rfl (lv_at hl 1 rfl) ?_
  refine z_iconst B.1 B.2.1 dX0_passReference_27 ?_
  refine z_icmp_ne (tgt := 35) B.1 B.2.1 (zr_of (by omega) (by omega)) (zr_of (by decide) (by decide)) dX0_passReference_28 (by decide) (fun c_15 => ?_) (fun c_15 => ?_)
  · --
    refine lv_iload_n B.1 B.2.1 dX0_passReference_35 rfl (lv_at hl 1 rfl) ?_
    refine lv_istore (lv' := [(5, .int (zI ((K0_tookFrom ((K2_number 6 i (ci S 10 4 ((S.1 10 4) + 1)))) (ci S 10 4 ((S.1 10 4) + 1)))))), (4, .int (zI ((K0_tookTo ((K2_number 6 i (ci S 10 4 ((S.1 10 4) + 1)))) (ci S 10 4 ((S.1 10 4) + 1)))))), (3, .int (zI ((K0_tookFrom ((K2_number 6 i (ci S 10 4 ((S.1 10 4) + 1)))) (ci S 10 4 ((S.1 10 4) + 1)))))), (2, .int (zI ((K2_number 6 i (ci S 10 4 ((S.1 10 4) + 1)))))), (0, .ref (q 10)), (1, .int (zI i))]) B.1 B.2.1 dX0_passReference_36 hl (by decide) rfl (fun ls hl => ?_)
    have hX2 : xV (ci S 10 4 ((S.1 10 4) + 1)) := ⟨hV, hP, ht0, ht1, hcs, hp0, hp1, by show 0 ≤ S.1 10 4 + 1; omega, by show S.1 10 4 + 1 ≤ 500; omega, h18, h24, h25, h35⟩
    exact lp0_pr l hl0 D cy q V n0 a i ((K0_tookFrom ((K2_number 6 i (ci S 10 4 ((S.1 10 4) + 1)))) (ci S 10 4 ((S.1 10 4) + 1)))) ((K0_tookTo ((K2_number 6 i (ci S 10 4 ((S.1 10 4) + 1)))) (ci S 10 4 ((S.1 10 4) + 1)))) ha36 (by omega) (by omega) (by omega) (by omega) S _ B hK hG hR ((K0_tookTo ((K2_number 6 i (ci S 10 4 ((S.1 10 4) + 1)))) (ci S 10 4 ((S.1 10 4) + 1))) - ((K0_tookFrom ((K2_number 6 i (ci S 10 4 ((S.1 10 4) + 1)))) (ci S 10 4 ((S.1 10 4) + 1))))).toNat ((K0_tookFrom ((K2_number 6 i (ci S 10 4 ((S.1 10 4) + 1)))) (ci S 10 4 ((S.1 10 4) + 1)))) (ci S 10 4 ((S.1 10 4) + 1)) x y H locs ls hF (Nat.le_refl _) hX2 (by omega) (by omega) (by omega) hM (lv_sub hl [4, 5, 2, 1, 0] rfl) (by unfold K0_passReference; exact ((if_pos c_1).trans (if_neg c_15)))
  · --
    refine lv_iload_n B.1 B.2.1 dX0_passReference_31 rfl (lv_at hl 4 rfl) ?_
    refine z_iconst B.1 B.2.1 dX0_passReference_32 ?_
    refine z_iadd (x := i + 1) B.1 B.2.1 rfl dX0_passReference_33 ?_
    exact g_reti (S := (ci S 10 4 ((S.1 10 4) + 1))) B hM (by unfold K0_passReference; exact ((if_pos c_1).trans (if_pos c_15))) dX0_passReference_34
