def K4_length (t : Nat) (S : CSt) : Int := S.1 t 1
set_option maxHeartbeats 4000000 in
set_option maxRecDepth 100000 in
theorem cX4_length_ok (l : Launch) (D : va_G) (cy : Nat → ClassId) (q : Nat → Nat) (a b : Nat) (S : CSt) (hF : cFx a b S) (t : Nat) (ht : 1 ≤ t ∧ t ≤ 5)  : cMi l D cy q yX4_length (.code yX4_length cX4_length 1 (some .int) :: TBC) ({ frames := 0, cells := 0, slots := 0, locals := 0 }) S t [] (fun r S' => r = K4_length t S ∧ S' = S) := by
  refine c_of (cc := cX4_length) (maxL := 1) (ret := (some .int)) (C := RX4) (by decide) rfl rfl (Nat.le_of_ble_eq_true rfl) ?_
  intro p e s m args below meth c ls B hK hM hl
  have hl : lv_has ls 1 [(0, .ref (q t))] := hl
  refine lv_aload_n B.1 B.2.1 dX4_length_0 rfl (lv_at hl 0 rfl) ?_
  refine c_geti (q := q) (x := S.1 t 1) B (iC4 _) hK hM t 1 4 (by omega) (cK_sr ht) rfl (by decide) (by decide) rfl rfl (by decide) rfl (List.mem_cons_of_mem _ wC_fRX4_21) dX4_length_1 ?_
  exact c_reti B hM (⟨rfl, rfl⟩) dX4_length_4
def K4_at (t : Nat) (i : Int) (S : CSt) : Int := (if i < 0 then 0 else (if (S.1 t 1) ≤ i then 0 else (if (((cLen (11 + t) : Nat) : Int)) ≤ i then 0 else S.1 (11 + t) i.toNat : Int) : Int) : Int)
set_option maxHeartbeats 4000000 in
set_option maxRecDepth 100000 in
theorem cX4_at_ok (l : Launch) (D : va_G) (cy : Nat → ClassId) (q : Nat → Nat) (a b : Nat) (S : CSt) (hF : cFx a b S) (t : Nat) (ht : 1 ≤ t ∧ t ≤ 5) (i : Int) (h0 : 0 ≤ S.1 t 1) (h1 : S.1 t 1 ≤ 100000) (hi0 : -10000000 ≤ i) (hi1 : i ≤ 10000000) (hc : ∀ j, 0 ≤ S.1 (11 + t) j ∧ S.1 (11 + t) j < 65536) : cMi l D cy q yX4_at (.code yX4_at cX4_at 2 (some .char) :: TBC) ({ frames := 0, cells := 0, slots := 0, locals := 0 }) S t [.int (zI i)] (fun r S' => r = K4_at t i S ∧ S' = S) := by
  refine c_of (cc := cX4_at) (maxL := 2) (ret := (some .char)) (C := RX4) (by decide) rfl rfl (Nat.le_of_ble_eq_true rfl) ?_
  intro p e s m args below meth c ls B hK hM hl
  have hl : lv_has ls 2 [(0, .ref (q t)), (1, .int (zI i))] := hl
  refine lv_iload_n B.1 B.2.1 dX4_at_0 rfl (lv_at hl 1 rfl) ?_
  refine z_joinH (P := fun v H' locs' => v = (if i < 0 then 0 else (if (S.1 t 1) ≤ i then 0 else (if (((cLen (11 + t) : Nat) : Int)) ≤ i then 0 else S.1 (11 + t) i.toNat : Int) : Int) : Int) ∧ cH D cy q (cA q) s.heap S H' locs') (pcJ := 31) (lsJ := ls) (stJ := []) (fun v_1 H locs hv_2 => ?_) (fun hJ_3 => ?_)
  · --
    obtain ⟨hv_2, hM⟩ := hv_2
    have hv_2 := hv_2.symm
    subst hv_2
    have hjb : 0 ≤ (if i < 0 then 0 else (if (S.1 t 1) ≤ i then 0 else (if (((cLen (11 + t) : Nat) : Int)) ≤ i then 0 else S.1 (11 + t) i.toNat : Int) : Int) : Int) ∧ (if i < 0 then 0 else (if (S.1 t 1) ≤ i then 0 else (if (((cLen (11 + t) : Nat) : Int)) ≤ i then 0 else S.1 (11 + t) i.toNat : Int) : Int) : Int) < 65536 := by (repeat' split) <;> first | omega | exact hc _
    exact c_retc B hM (by omega) (by omega) (⟨rfl, rfl⟩) dX4_at_31
  · --
    refine z_if_lt (tgt := 30) B.1 B.2.1 (zr_of (by omega) (by omega)) dX4_at_1 (by decide) (fun c_4 => ?_) (fun c_4 => ?_)
    · --
      refine z_iconst B.1 B.2.1 dX4_at_30 ?_
      exact hJ_3 _ _ _ ⟨(if_pos c_4).symm, hM⟩
    · --
      refine lv_iload_n B.1 B.2.1 dX4_at_4 rfl (lv_at hl 1 rfl) ?_
      refine lv_aload_n B.1 B.2.1 dX4_at_5 rfl (lv_at hl 0 rfl) ?_
      refine c_geti (q := q) (x := S.1 t 1) B (iC4 _) hK hM t 1 4 (by omega) (cK_sr ht) rfl (by decide) (by decide) rfl rfl (by decide) rfl (List.mem_cons_of_mem _ wC_fRX4_21) dX4_at_6 ?_
      refine z_icmp_ge (tgt := 30) B.1 B.2.1 (zr_of (by omega) (by omega)) (zr_of (by omega) (by omega)) dX4_at_9 (by decide) (fun c_5 => ?_) (fun c_5 => ?_)
      · --
        refine z_iconst B.1 B.2.1 dX4_at_30 ?_
        exact hJ_3 _ _ _ ⟨((if_neg c_4).trans (if_pos c_5)).symm, hM⟩
      · --
        refine lv_iload_n B.1 B.2.1 dX4_at_12 rfl (lv_at hl 1 rfl) ?_
        refine lv_aload_n B.1 B.2.1 dX4_at_13 rfl (lv_at hl 0 rfl) ?_
        refine c_getr (q := q) (r := (11 + t)) B (iC4 _) hK hM t 0 4 (by omega) (cK_sr ht) rfl (by decide) (by decide) rfl rfl rfl (cFx_sr hF ht) (List.mem_cons_of_mem _ wC_fRX4_15) dX4_at_14 ?_
        refine c_alen (q := q) B hK hM (11 + t) (by omega) (by rw [(cK_sa ht)]; decide) dX4_at_17 ?_
        rw [show S.2.2.2 (11 + t) = cLen (11 + t) from cFx_sl hF ht]
        have f_6 := cLen_sa ht
        refine z_icmp_ge (tgt := 30) B.1 B.2.1 (zr_of (by omega) (by omega)) (zr_of (by omega) (by omega)) dX4_at_18 (by decide) (fun c_7 => ?_) (fun c_7 => ?_)
        · --
          refine z_iconst B.1 B.2.1 dX4_at_30 ?_
          exact hJ_3 _ _ _ ⟨((if_neg c_4).trans ((if_neg c_5).trans (if_pos c_7))).symm, hM⟩
        · --
          refine lv_aload_n B.1 B.2.1 dX4_at_21 rfl (lv_at hl 0 rfl) ?_
          refine c_getr (q := q) (r := (11 + t)) B (iC4 _) hK hM t 0 4 (by omega) (cK_sr ht) rfl (by decide) (by decide) rfl rfl rfl (cFx_sr hF ht) (List.mem_cons_of_mem _ wC_fRX4_15) dX4_at_22 ?_
          refine lv_iload_n B.1 B.2.1 dX4_at_25 rfl (lv_at hl 1 rfl) ?_
          refine c_cald (q := q) (x := S.1 (11 + t) i.toNat) B hK hM (11 + t) (by omega) (cK_sa ht) (zr_of (by omega) (by omega)) (by omega) (by rw [show S.2.2.2 (11 + t) = cLen (11 + t) from cFx_sl hF ht]; omega) rfl dX4_at_26 ?_
          refine lv_goto (tgt := 31) B.1 B.2.1 dX4_at_27 (by decide) ?_
          exact hJ_3 _ _ _ ⟨((if_neg c_4).trans ((if_neg c_5).trans (if_neg c_7))).symm, hM⟩
theorem K4_at_bd {t : Nat} {S : CSt} (hc : ∀ j, 0 ≤ S.1 (11 + t) j ∧ S.1 (11 + t) j < 65536) (i : Int) : 0 ≤ K4_at t i S ∧ K4_at t i S < 65536 := by
  unfold K4_at
  (repeat' split) <;> first | omega | exact hc _
def K4_add (t : Nat) (sign : Int) (S : CSt) : Int × CSt := (if (S.1 t 1) < 0 then (0, S) else (if (S.1 t 1) < (((cLen (11 + t) : Nat) : Int)) then (1, (ci (ci S (11 + t) (S.1 t 1).toNat sign) t 1 ((S.1 t 1) + 1))) else (0, S)))
set_option maxHeartbeats 4000000 in
set_option maxRecDepth 100000 in
theorem cX4_add_ok (l : Launch) (D : va_G) (cy : Nat → ClassId) (q : Nat → Nat) (a b : Nat) (S : CSt) (hF : cFx a b S) (t : Nat) (ht : 1 ≤ t ∧ t ≤ 5) (sign : Int) (h0 : 0 ≤ S.1 t 1) (h1 : S.1 t 1 ≤ 100000) (hs0 : 0 ≤ sign) (hs1 : sign < 65536) : cMi l D cy q yX4_add (.code yX4_add cX4_add 2 (some .boolean) :: TBC) ({ frames := 0, cells := 0, slots := 0, locals := 0 }) S t [.int (zI sign)] (fun r S' => r = (K4_add t sign S).1 ∧ S' = (K4_add t sign S).2) := by
  refine c_of (cc := cX4_add) (maxL := 2) (ret := (some .boolean)) (C := RX4) (by decide) rfl rfl (Nat.le_of_ble_eq_true rfl) ?_
  intro p e s m args below meth c ls B hK hM hl
  have hl : lv_has ls 2 [(0, .ref (q t)), (1, .int (zI sign))] := hl
  refine lv_aload_n B.1 B.2.1 dX4_add_0 rfl (lv_at hl 0 rfl) ?_
  refine c_geti (q := q) (x := S.1 t 1) B (iC4 _) hK hM t 1 4 (by omega) (cK_sr ht) rfl (by decide) (by decide) rfl rfl (by decide) rfl (List.mem_cons_of_mem _ wC_fRX4_21) dX4_add_1 ?_
  refine z_if_lt (tgt := 19) B.1 B.2.1 (zr_of (by omega) (by omega)) dX4_add_4 (by decide) (fun c_1 => ?_) (fun c_1 => ?_)
  · --
    refine z_iconst B.1 B.2.1 dX4_add_19 ?_
    have hq : K4_add t sign S = (0, S) := by unfold K4_add; exact (if_pos c_1)
    exact c_retz B hM (by decide) (⟨(congrArg Prod.fst hq).symm, (congrArg Prod.snd hq).symm⟩) dX4_add_20
  · --
    refine lv_aload_n B.1 B.2.1 dX4_add_7 rfl (lv_at hl 0 rfl) ?_
    refine c_geti (q := q) (x := S.1 t 1) B (iC4 _) hK hM t 1 4 (by omega) (cK_sr ht) rfl (by decide) (by decide) rfl rfl (by decide) rfl (List.mem_cons_of_mem _ wC_fRX4_21) dX4_add_8 ?_
    refine lv_aload_n B.1 B.2.1 dX4_add_11 rfl (lv_at hl 0 rfl) ?_
    refine c_getr (q := q) (r := (11 + t)) B (iC4 _) hK hM t 0 4 (by omega) (cK_sr ht) rfl (by decide) (by decide) rfl rfl rfl (cFx_sr hF ht) (List.mem_cons_of_mem _ wC_fRX4_15) dX4_add_12 ?_
    refine c_alen (q := q) B hK hM (11 + t) (by omega) (by rw [(cK_sa ht)]; decide) dX4_add_15 ?_
    rw [show S.2.2.2 (11 + t) = cLen (11 + t) from cFx_sl hF ht]
    have f_2 := cLen_sa ht
    refine z_icmp_lt (tgt := 21) B.1 B.2.1 (zr_of (by omega) (by omega)) (zr_of (by omega) (by omega)) dX4_add_16 (by decide) (fun c_3 => ?_) (fun c_3 => ?_)
    · --
      refine lv_aload_n B.1 B.2.1 dX4_add_21 rfl (lv_at hl 0 rfl) ?_
      refine c_getr (q := q) (r := (11 + t)) B (iC4 _) hK hM t 0 4 (by omega) (cK_sr ht) rfl (by decide) (by decide) rfl rfl rfl (cFx_sr hF ht) (List.mem_cons_of_mem _ wC_fRX4_15) dX4_add_22 ?_
      refine lv_aload_n B.1 B.2.1 dX4_add_25 rfl (lv_at hl 0 rfl) ?_
      refine c_geti (q := q) (x := S.1 t 1) B (iC4 _) hK hM t 1 4 (by omega) (cK_sr ht) rfl (by decide) (by decide) rfl rfl (by decide) rfl (List.mem_cons_of_mem _ wC_fRX4_21) dX4_add_26 ?_
      refine lv_iload_n B.1 B.2.1 dX4_add_29 rfl (lv_at hl 1 rfl) ?_
      refine c_cast (q := q) B hK hM (11 + t) (by omega) (cK_sa ht) (zr_of (by omega) (by omega)) (by omega) (by rw [show S.2.2.2 (11 + t) = cLen (11 + t) from cFx_sl hF ht]; omega) (by omega) (by omega) dX4_add_30 (fun H locs hM => ?_)
      refine lv_aload_n B.1 B.2.1 dX4_add_31 rfl (lv_at hl 0 rfl) ?_
      refine lv_dup B.1 B.2.1 dX4_add_32 rfl ?_
      refine c_geti (q := q) (x := S.1 t 1) B (iC4 _) hK hM t 1 4 (by omega) (cK_sr ht) rfl (by decide) (by decide) rfl rfl (by decide) (by simp only [ci_ne (show t ≠ (11 + t) by omega)]) (List.mem_cons_of_mem _ wC_fRX4_21) dX4_add_33 ?_
      refine z_iconst B.1 B.2.1 dX4_add_36 ?_
      refine z_iadd (x := (S.1 t 1) + 1) B.1 B.2.1 rfl dX4_add_37 ?_
      refine c_puti (q := q) B (iC4 _) tyX4 tyX4_ok nmX4 hK hM t 1 4 (by omega) (cK_sr ht) rfl (by decide) (by decide) rfl rfl rfl (by decide +kernel) (by decide) (List.mem_cons_of_mem _ wC_fRX4_21) dX4_add_38 (fun H locs hM => ?_)
      refine z_iconst B.1 B.2.1 dX4_add_41 ?_
      have hq : K4_add t sign S = (1, (ci (ci S (11 + t) (S.1 t 1).toNat sign) t 1 ((S.1 t 1) + 1))) := by unfold K4_add; exact ((if_neg c_1).trans (if_pos c_3))
      exact c_retz B hM (by decide) (⟨(congrArg Prod.fst hq).symm, (congrArg Prod.snd hq).symm⟩) dX4_add_42
    · --
      refine z_iconst B.1 B.2.1 dX4_add_19 ?_
      have hq : K4_add t sign S = (0, S) := by unfold K4_add; exact ((if_neg c_1).trans (if_neg c_3))
      exact c_retz B hM (by decide) (⟨(congrArg Prod.fst hq).symm, (congrArg Prod.snd hq).symm⟩) dX4_add_20
theorem K4_add_2 {t : Nat} {sign : Int} {S : CSt} : (K4_add t sign S).2.2 = S.2 := by
  unfold K4_add
  (repeat' split) <;> rfl
theorem K4_add_1 {t n : Nat} {sign : Int} {S : CSt} (h : n ≠ t) (h' : n ≠ 11 + t) : (K4_add t sign S).2.1 n = S.1 n := by
  unfold K4_add
  (repeat' split) <;> simp only [ci_ne h, ci_ne h']
theorem K4_add_l {t : Nat} {sign : Int} {S : CSt} (h : 0 ≤ S.1 t 1) : S.1 t 1 ≤ (K4_add t sign S).2.1 t 1 ∧ (K4_add t sign S).2.1 t 1 ≤ S.1 t 1 + 1 := by
  unfold K4_add
  (repeat' split) <;> simp only [ci_eq, zu_eq] <;> omega
theorem K4_add_c {t : Nat} {sign : Int} {S : CSt} (ht : 1 ≤ t) (hs : 0 ≤ sign ∧ sign < 65536) (h : ∀ j, 0 ≤ S.1 (11 + t) j ∧ S.1 (11 + t) j < 65536) : ∀ j, 0 ≤ (K4_add t sign S).2.1 (11 + t) j ∧ (K4_add t sign S).2.1 (11 + t) j < 65536 := by
  unfold K4_add
  intro j
  (repeat' split) <;> first
    | exact h j
    | (show 0 ≤ (ci _ t 1 _).1 (11 + t) j ∧ (ci _ t 1 _).1 (11 + t) j < 65536
       rw [ci_ne (show 11 + t ≠ t by omega), ci_eq]
       exact zu_in (P := fun x => 0 ≤ x ∧ x < 65536) h hs j)
def K4_clear (t : Nat) (S : CSt) : CSt := (ci S t 1 0)
set_option maxHeartbeats 4000000 in
set_option maxRecDepth 100000 in
theorem cX4_clear_ok (l : Launch) (D : va_G) (cy : Nat → ClassId) (q : Nat → Nat) (a b : Nat) (S : CSt) (hF : cFx a b S) (t : Nat) (ht : 1 ≤ t ∧ t ≤ 5)  : cMv l D cy q yX4_clear (.code yX4_clear cX4_clear 1 none :: TBC) ({ frames := 0, cells := 0, slots := 0, locals := 0 }) S t [] (fun S' => S' = K4_clear t S) := by
  refine c_of (cc := cX4_clear) (maxL := 1) (ret := none) (C := RX4) (by decide) rfl rfl (Nat.le_of_ble_eq_true rfl) ?_
  intro p e s m args below meth c ls B hK hM hl
  have hl : lv_has ls 1 [(0, .ref (q t))] := hl
  refine lv_aload_n B.1 B.2.1 dX4_clear_0 rfl (lv_at hl 0 rfl) ?_
  refine z_iconst B.1 B.2.1 dX4_clear_1 ?_
  refine c_puti (q := q) B (iC4 _) tyX4 tyX4_ok nmX4 hK hM t 1 4 (by omega) (cK_sr ht) rfl (by decide) (by decide) rfl rfl rfl (by decide +kernel) (by decide) (List.mem_cons_of_mem _ wC_fRX4_21) dX4_clear_2 (fun H locs hM => ?_)
  exact c_retv B hM (rfl) dX4_clear_5
def K4_copyL (t : Nat) : Nat → Int → CSt → CSt
  | 0, i, T => T
  | n + 1, i, T => (if (T.1 1 1) ≤ i then T else K4_copyL t n (i + 1) ((K4_add t ((K4_at 1 i T)) T).2))
set_option maxHeartbeats 4000000 in
set_option maxRecDepth 100000 in
theorem lp4_copy (l : Launch) (D : va_G) (cy : Nat → ClassId) (q : Nat → Nat) (a b : Nat)  (t : Nat) (ht : 1 ≤ t ∧ t ≤ 5) (ht2 : t ≠ 1) {p : Program} {e : Env} {s : State} {m : MethodId} {args : Array Value} {below : List Frame} {meth : Method} {c : Code} (B : zAt p s m args meth c RX4 cX4_copy 3 none (.code yX4_copy cX4_copy 3 none :: TBC)) (hK : va_K D vwCl (zTY cy) s) (post : CSt → Prop) :
    ∀ (n : Nat) (i : Int) (T : CSt) (H : Heap) (locs : List Loc) (ls : Array Slot), (cFx a b T) → (0 ≤ i) → (i ≤ T.1 1 1) → (T.1 1 1 - i = n) → (0 ≤ T.1 t 1) → (T.1 t 1 ≤ i) → (T.1 1 1 ≤ 40) → (∀ j, 0 ≤ T.1 12 j ∧ T.1 12 j < 65536) → cH D cy q (cA q) s.heap T H locs → lv_has ls 3 [(0, .ref (q t)), (1, .ref (q 1)), (2, .int (zI i))] → post (K4_copyL t n i T) → W p l e (headSpec (.code yX4_copy cX4_copy 3 none :: TBC) ({ frames := 1, cells := 0, slots := 0, locals := 21 })).room s m args below meth c H locs 0 0 (MQ below (cQv D cy q post) args s 0 0 (cA q)) (F0 m 6 ls []) := by
  intro n
  induction n with
  | zero =>
    intro i T H locs ls hF hi0 hi1 hn hl0 hl1 ho hcs hM hl hpost
    refine lv_iload_n B.1 B.2.1 dX4_copy_6 rfl (lv_at hl 2 rfl) ?_
    refine lv_aload_n B.1 B.2.1 dX4_copy_7 rfl (lv_at hl 1 rfl) ?_
    refine c_calli (q := q) (As := []) (rest := [.int (zI i)]) B hK hM 1 (by decide) (by decide) rfl (cX4_length_ok l D cy q a b T hF 1 (by decide)  ) (cwC 0 B wC_mRX4_28 wC_im_yX4_length wC_sl_yX4_length wC_in_RX4 wC_cd_yX4_length rfl rfl (by decide +kernel) ⟨Nat.le_of_ble_eq_true rfl, Nat.le_of_ble_eq_true rfl⟩) rfl hl.1 rfl (Nat.le_of_ble_eq_true rfl) dX4_copy_8 ⟨Nat.zero_le _, Nat.zero_le _⟩ (fun z_3 S_2 H locs hp_1 hM => ?_)
    obtain ⟨hp_1, he_hp_1⟩ := hp_1
    have he_hp_1 := he_hp_1.symm
    subst he_hp_1
    have hp_1 : T.1 1 1 = z_3 := hp_1.symm
    subst hp_1
    refine z_icmp_ge (tgt := 30) B.1 B.2.1 (zr_of (by omega) (by omega)) (zr_of (by omega) (by omega)) dX4_copy_11 (by decide) (fun c_4 => ?_) (fun c_4 => ?_)
    · --
      have hq : K4_copyL t 0 i T = T := rfl
      rw [hq] at hpost
      exact c_retv B hM (hpost) dX4_copy_30
    · exact absurd c_4 (by omega)
  | succ n ih =>
    intro i T H locs ls hF hi0 hi1 hn hl0 hl1 ho hcs hM hl hpost
    refine lv_iload_n B.1 B.2.1 dX4_copy_6 rfl (lv_at hl 2 rfl) ?_
    refine lv_aload_n B.1 B.2.1 dX4_copy_7 rfl (lv_at hl 1 rfl) ?_
    refine c_calli (q := q) (As := []) (rest := [.int (zI i)]) B hK hM 1 (by decide) (by decide) rfl (cX4_length_ok l D cy q a b T hF 1 (by decide)  ) (cwC 0 B wC_mRX4_28 wC_im_yX4_length wC_sl_yX4_length wC_in_RX4 wC_cd_yX4_length rfl rfl (by decide +kernel) ⟨Nat.le_of_ble_eq_true rfl, Nat.le_of_ble_eq_true rfl⟩) rfl hl.1 rfl (Nat.le_of_ble_eq_true rfl) dX4_copy_8 ⟨Nat.zero_le _, Nat.zero_le _⟩ (fun z_3 S_2 H locs hp_1 hM => ?_)
    obtain ⟨hp_1, he_hp_1⟩ := hp_1
    have he_hp_1 := he_hp_1.symm
    subst he_hp_1
    have hp_1 : T.1 1 1 = z_3 := hp_1.symm
    subst hp_1
    refine z_icmp_ge (tgt := 30) B.1 B.2.1 (zr_of (by omega) (by omega)) (zr_of (by omega) (by omega)) dX4_copy_11 (by decide) (fun c_4 => ?_) (fun c_4 => ?_)
    · --
      have hq : K4_copyL t (n + 1) i T = T := by rw [K4_copyL]; exact (if_pos c_4)
      rw [hq] at hpost
      exact c_retv B hM (hpost) dX4_copy_30
    · --
      refine lv_aload_n B.1 B.2.1 dX4_copy_14 rfl (lv_at hl 0 rfl) ?_
      refine lv_aload_n B.1 B.2.1 dX4_copy_15 rfl (lv_at hl 1 rfl) ?_
      refine lv_iload_n B.1 B.2.1 dX4_copy_16 rfl (lv_at hl 2 rfl) ?_
      refine c_calli (q := q) (As := [.int (zI i)]) (rest := [.ref (q t)]) B hK hM 1 (by decide) (by decide) rfl (cX4_at_ok l D cy q a b T hF 1 (by decide) i (by show 0 ≤ (T.1 1 1); omega) (by show (T.1 1 1) ≤ 100000; omega) (by show -10000000 ≤ i; omega) (by show i ≤ 10000000; omega) hcs) (cwC 1 B wC_mRX4_31 wC_im_yX4_at wC_sl_yX4_at wC_in_RX4 wC_cd_yX4_at rfl rfl (by decide +kernel) ⟨Nat.le_of_ble_eq_true rfl, Nat.le_of_ble_eq_true rfl⟩) rfl hl.1 rfl (Nat.le_of_ble_eq_true rfl) dX4_copy_17 ⟨Nat.zero_le _, Nat.zero_le _⟩ (fun z_7 S_6 H locs hp_5 hM => ?_)
      obtain ⟨hp_5, he_hp_5⟩ := hp_5
      have he_hp_5 := he_hp_5.symm
      subst he_hp_5
      have hp_5 : (K4_at 1 i T) = z_7 := hp_5.symm
      subst hp_5
      have f_8 := K4_at_bd (t := 1) (S := T) hcs i
      refine c_calli (q := q) (As := [.int (zI ((K4_at 1 i T)))]) (rest := []) B hK hM t (by omega) (by rw [(cK_sr ht)]; decide) (by rw [(cK_sr ht)]; rfl) (cX4_add_ok l D cy q a b T hF t ht ((K4_at 1 i T)) (by show 0 ≤ (T.1 t 1); omega) (by show (T.1 t 1) ≤ 100000; omega) (by show 0 ≤ ((K4_at 1 i T)); omega) (by show ((K4_at 1 i T)) < 65536; omega)) (cwC 1 B wC_mRX4_35 wC_im_yX4_add wC_sl_yX4_add wC_in_RX4 wC_cd_yX4_add rfl rfl (by decide +kernel) ⟨Nat.le_of_ble_eq_true rfl, Nat.le_of_ble_eq_true rfl⟩) rfl hl.1 rfl (Nat.le_of_ble_eq_true rfl) dX4_copy_20 ⟨Nat.zero_le _, Nat.zero_le _⟩ (fun z_11 S_10 H locs hp_9 hM => ?_)
      obtain ⟨hp_9, he_hp_9⟩ := hp_9
      have he_hp_9 := he_hp_9.symm
      subst he_hp_9
      have hp_9 : (K4_add t ((K4_at 1 i T)) T).1 = z_11 := hp_9.symm
      subst hp_9
      have hF : cFx a b (K4_add t ((K4_at 1 i T)) T).2 := cFx_of (congrArg Prod.snd K4_add_2) hF
      refine lv_pop B.1 B.2.1 dX4_copy_23 rfl ?_
      refine z_iinc (v := i + 1) (lv' := [(2, .int (zI (i + 1))), (0, .ref (q t)), (1, .ref (q 1))]) B.1 B.2.1 dX4_copy_24 hl (k := 2) rfl rfl (by decide) rfl (fun ls hl => ?_)
      refine lv_goto (tgt := 6) B.1 B.2.1 dX4_copy_27 (by decide) ?_
      have hq : K4_copyL t (n + 1) i T = K4_copyL t n (i + 1) ((K4_add t ((K4_at 1 i T)) T).2) := by rw [K4_copyL]; exact (if_neg c_4)
      rw [hq] at hpost
      exact ih (i + 1) ((K4_add t ((K4_at 1 i T)) T).2) H locs ls hF  (by omega) (by rw [K4_add_1 (show 1 ≠ t by omega) (show 1 ≠ 11 + t by omega)]; omega) (by rw [K4_add_1 (show 1 ≠ t by omega) (show 1 ≠ 11 + t by omega)]; omega) (by have := K4_add_l (sign := K4_at 1 i T) hl0; omega) (by have := K4_add_l (sign := K4_at 1 i T) hl0; omega) (by rw [K4_add_1 (show 1 ≠ t by omega) (show 1 ≠ 11 + t by omega)]; omega) (fun j => by rw [K4_add_1 (show 12 ≠ t by omega) (show 12 ≠ 11 + t by omega)]; exact hcs j) hM (lv_sub hl [1, 2, 0] rfl) hpost
def K4_copy (t : Nat) (S : CSt) : CSt := K4_copyL t (S.1 1 1).toNat 0 (ci S t 1 0)
set_option maxHeartbeats 4000000 in
set_option maxRecDepth 100000 in
theorem cX4_copy_ok (l : Launch) (D : va_G) (cy : Nat → ClassId) (q : Nat → Nat) (a b : Nat) (S : CSt) (hF : cFx a b S) (t : Nat) (ht : 1 ≤ t ∧ t ≤ 5) (ht2 : t ≠ 1) (ho0 : 0 ≤ S.1 1 1) (ho : S.1 1 1 ≤ 40) (hcs : ∀ j, 0 ≤ S.1 12 j ∧ S.1 12 j < 65536) : cMv l D cy q yX4_copy (.code yX4_copy cX4_copy 3 none :: TBC) ({ frames := 1, cells := 0, slots := 0, locals := 21 }) S t [.ref (q 1)] (fun S' => S' = K4_copy t S) := by
  refine c_of (cc := cX4_copy) (maxL := 3) (ret := none) (C := RX4) (by decide) rfl rfl (Nat.le_of_ble_eq_true rfl) ?_
  intro p e s m args below meth c ls B hK hM hl
  have hl : lv_has ls 3 [(0, .ref (q t)), (1, .ref (q 1))] := hl
  refine lv_aload_n B.1 B.2.1 dX4_copy_0 rfl (lv_at hl 0 rfl) ?_
  refine c_callv (q := q) (As := []) (rest := []) B hK hM t (by omega) (by rw [(cK_sr ht)]; decide) (by rw [(cK_sr ht)]; rfl) (cX4_clear_ok l D cy q a b S hF t ht  ) (cwC 0 B wC_mRX4_25 wC_im_yX4_clear wC_sl_yX4_clear wC_in_RX4 wC_cd_yX4_clear rfl rfl (by decide +kernel) ⟨Nat.le_of_ble_eq_true rfl, Nat.le_of_ble_eq_true rfl⟩) rfl hl.1 rfl (Nat.le_of_ble_eq_true rfl) dX4_copy_1 ⟨Nat.zero_le _, Nat.zero_le _⟩ (fun S_2 H locs hp_1 hM => ?_)
  have hp_1 := hp_1.symm
  subst hp_1
  refine z_iconst B.1 B.2.1 dX4_copy_4 ?_
  refine lv_istore_n (lv' := [(2, .int (zI 0)), (0, .ref (q t)), (1, .ref (q 1))]) B.1 B.2.1 dX4_copy_5 rfl hl (by decide) rfl (fun ls hl => ?_)
  exact lp4_copy l D cy q a b t ht ht2 B hK _ (S.1 1 1).toNat 0 (ci S t 1 0) H locs ls hF (by omega) (by rw [ci_ne (show 1 ≠ t by omega)]; omega) (by rw [ci_ne (show 1 ≠ t by omega)]; omega) (by rw [ci_eq, zu_eq]; omega) (by rw [ci_eq, zu_eq]; omega) (by rw [ci_ne (show 1 ≠ t by omega)]; omega) (fun j => by rw [ci_ne (show 12 ≠ t by omega)]; exact hcs j) hM (lv_sub hl [1, 2, 0] rfl) rfl
