/-- a method that answers a long -/
def cQl (D : va_G) (cy : Nat → ClassId) (q : Nat → Nat) (post : Int64 → CSt → Prop) : Array Value → State → Outcome → State → Prop := va_Ql (S := Int64 × CSt) (fun r u => r = u.1 ∧ post u.1 u.2) (fun u t => va_P D vwCl (cW cy q u.2) t.heap) (cA q)
def cMl (l : Launch) (D : va_G) (cy : Nat → ClassId) (q : Nat → Nat) (y : MethodName) (ws : List Cond) (rm : Room) (S : CSt) (t : Nat) (As : List Value) (post : Int64 → CSt → Prop) : Prop := Met l y ws rm (cPre D cy q S t As) (cQl D cy q post) 0 0 (cA q)
section CLL
variable {p : Program} {l : Launch} {e : Env} {R : Room} {s : State} {m : MethodId} {args : Array Value} {below : List Frame} {meth : Method} {c : Code} {H : Heap} {locs : List Loc} {cells slots : Nat} {Q : State → Prop} {cc : ByteArray} {pc : Nat} {ls : Array Slot} {rest : List Value}
variable {D : va_G} {cy : Nat → ClassId} {q : Nat → Nat} {A : Nat → Prop} {H0 : Heap} {S : CSt} {maxL : Nat} {ret : Option FieldType} {ws : List Cond} {index : Nat} {C : String}
theorem c_calll {y : MethodName} {wy : List Cond} {rm : Room} {As : List Value} {post : Int64 → CSt → Prop} {bytes : ByteArray} {mxL na : Nat} {rt : Option FieldType} {CY : String} {TY : u_T} {NY : Nat} (B : zAt p s m args meth c C cc maxL ret ws) (hK : va_K D vwCl (zTY cy) s) (h : cH D cy q A H0 S H locs) (n : Nat) (hn : n < 40) (hc : cK n < 7) (hcl : vwCl[cK n]? = some (CY, TY, NY)) (hM : cMl l D cy q y wy rm S n As post) (cw : CallW R s args C CY index y bytes mxL rt wy rm 0 0 na) (hna : As.length = na) (hsz : ls.size = maxL) {st : List Value} (hst : st = As.reverse ++ .ref (q n) :: rest) (hroom : (rest.map fun v => v.category).sum ≤ 8) (hd : decode cc pc = .ok (.invokevirtual index, 3)) (hf : cells ≤ R.cells ∧ slots ≤ R.slots)
    (kk : ∀ (r : Int64) (S' : CSt) (H1 : Heap) (locs1 : List Loc), post r S' → cH D cy q A H0 S' H1 locs1 → W p l e R s m args below meth c H1 locs1 cells slots Q (F0 m (pc + 3) ls (.long r :: rest))) : W p l e R s m args below meth c H locs cells slots Q (F0 m pc ls st) := by
  refine va_calll (va_runV (As := As) (rest := rest) (g := F0 m pc ls st) (b := q n) ⟨B.1, B.2.1, B.2.2.1, B.2.2.2.1, B.2.2.2.2.1⟩ hM cw ⟨cPre_blind, va_recv hK h.1 (ci := cK n) (q := (CY, TY, NY)) (q0 := n) hcl (by rw [cW_get hn, cE_obj hc]), fun U hU hW => ⟨rfl, by rw [hU]; exact h.1, va_K.moved hW.alike hK, h.2.1.weaken (fun _ _ _ _ => trivial)⟩⟩ rfl hna hsz hst (lv_room hroom) hd hf) h.2.2 (fun a _ ha => cA_in h.2.1 a ha) (fun a ha => cA_in h.2.1 a ha) (fun r u t H1 locs1 ht hvm hw hB hz1 hk1 hS => ?_)
  obtain ⟨r0, S'⟩ := u
  obtain ⟨rfl, hpost⟩ := hw
  refine kk _ S' H1 locs1 hpost ⟨?_, cW_D S' h.2.1, hS⟩
  rw [← ht]
  exact hB
theorem c_retl {post : Int64 → CSt → Prop} (B : zAt p s m args meth c C cc maxL (some .long) ws) (h : cH D cy q (cA q) s.heap S H locs) {r : Int64} (hp : post r S) (hd : decode cc pc = .ok (.lreturn, 1)) : W p l e R s m args below meth c H locs cells slots (MQ below (cQl D cy q post) args s cells slots (cA q)) (F0 m pc ls [.long r]) :=
  W.lret B.1 B.2.1 B.2.2.2.2.2.1 (fun t ht _ => ⟨⟨r, (r, S), rfl, ⟨rfl, hp⟩, by show va_P _ _ _ _; rw [ht]; exact h.1⟩, h.2.2.F ht⟩) h.2.2.2.2 hd B.2.2.2.2.2.2
end CLL
def K5_lower (S : CSt) : Int64 := S.2.1 9 0
set_option maxHeartbeats 4000000 in
set_option maxRecDepth 100000 in
theorem cX5_lower_ok (l : Launch) (D : va_G) (cy : Nat → ClassId) (q : Nat → Nat) (a b : Nat) (S : CSt) (hF : cFx a b S)  : cMl l D cy q yX5_lower (.code yX5_lower cX5_lower 1 (some .long) :: TBC) ({ frames := 0, cells := 0, slots := 0, locals := 0 }) S 9 [] (fun r S' => r = K5_lower S ∧ S' = S) := by
  refine c_of (cc := cX5_lower) (maxL := 1) (ret := (some .long)) (C := RX5) (by decide) rfl rfl (Nat.le_of_ble_eq_true rfl) ?_
  intro p e s m args below meth c ls B hK hM hl
  have hl : lv_has ls 1 [(0, .ref (q 9))] := hl
  refine lv_aload_n B.1 B.2.1 dX5_lower_0 rfl (lv_at hl 0 rfl) ?_
  refine c_getl (q := q) (x := S.2.1 9 0) B (iC5 _) hK hM 9 0 5 (by decide) rfl rfl (by decide) (by decide) rfl rfl rfl rfl (List.mem_cons_of_mem _ wC_fRX5_9) dX5_lower_1 ?_
  exact c_retl B hM ⟨rfl, rfl⟩ dX5_lower_4
def K5_upper (S : CSt) : Int64 := S.2.1 9 1
set_option maxHeartbeats 4000000 in
set_option maxRecDepth 100000 in
theorem cX5_upper_ok (l : Launch) (D : va_G) (cy : Nat → ClassId) (q : Nat → Nat) (a b : Nat) (S : CSt) (hF : cFx a b S)  : cMl l D cy q yX5_upper (.code yX5_upper cX5_upper 1 (some .long) :: TBC) ({ frames := 0, cells := 0, slots := 0, locals := 0 }) S 9 [] (fun r S' => r = K5_upper S ∧ S' = S) := by
  refine c_of (cc := cX5_upper) (maxL := 1) (ret := (some .long)) (C := RX5) (by decide) rfl rfl (Nat.le_of_ble_eq_true rfl) ?_
  intro p e s m args below meth c ls B hK hM hl
  have hl : lv_has ls 1 [(0, .ref (q 9))] := hl
  refine lv_aload_n B.1 B.2.1 dX5_upper_0 rfl (lv_at hl 0 rfl) ?_
  refine c_getl (q := q) (x := S.2.1 9 1) B (iC5 _) hK hM 9 1 5 (by decide) rfl rfl (by decide) (by decide) rfl rfl rfl rfl (List.mem_cons_of_mem _ wC_fRX5_13) dX5_upper_1 ?_
  exact c_retl B hM ⟨rfl, rfl⟩ dX5_upper_4
def K5_clear (S : CSt) : CSt := (cj (cj S 9 0 0) 9 1 0)
set_option maxHeartbeats 4000000 in
set_option maxRecDepth 100000 in
theorem cX5_clear_ok (l : Launch) (D : va_G) (cy : Nat → ClassId) (q : Nat → Nat) (a b : Nat) (S : CSt) (hF : cFx a b S)  : cMv l D cy q yX5_clear (.code yX5_clear cX5_clear 1 none :: TBC) ({ frames := 0, cells := 0, slots := 0, locals := 0 }) S 9 [] (fun S' => S' = K5_clear S) := by
  refine c_of (cc := cX5_clear) (maxL := 1) (ret := none) (C := RX5) (by decide) rfl rfl (Nat.le_of_ble_eq_true rfl) ?_
  intro p e s m args below meth c ls B hK hM hl
  have hl : lv_has ls 1 [(0, .ref (q 9))] := hl
  refine lv_aload_n B.1 B.2.1 dX5_clear_0 rfl (lv_at hl 0 rfl) ?_
  refine lv_lconst (v := 0) B.1 B.2.1 dX5_clear_1 rfl ?_
  refine c_putl (q := q) B (iC5 _) tyX5 tyX5_ok nmX5 hK hM 9 0 5 (by decide) rfl rfl (by decide) (by decide) rfl rfl rfl (by decide +kernel) rfl (List.mem_cons_of_mem _ wC_fRX5_9) dX5_clear_2 (fun H locs hM => ?_)
  refine lv_aload_n B.1 B.2.1 dX5_clear_5 rfl (lv_at hl 0 rfl) ?_
  refine lv_lconst (v := 0) B.1 B.2.1 dX5_clear_6 rfl ?_
  refine c_putl (q := q) B (iC5 _) tyX5 tyX5_ok nmX5 hK hM 9 1 5 (by decide) rfl rfl (by decide) (by decide) rfl rfl rfl (by decide +kernel) rfl (List.mem_cons_of_mem _ wC_fRX5_13) dX5_clear_7 (fun H locs hM => ?_)
  exact c_retv B hM (rfl) dX5_clear_10
def K5_add (sign : Int) (S : CSt) : CSt := (if 64 ≤ sign then (cj S 9 1 ((S.2.1 9 1) ||| (zshl 1 (sign - 64)))) else (cj S 9 0 ((S.2.1 9 0) ||| (zshl 1 sign))))
set_option maxHeartbeats 4000000 in
set_option maxRecDepth 100000 in
theorem cX5_add_ok (l : Launch) (D : va_G) (cy : Nat → ClassId) (q : Nat → Nat) (a b : Nat) (S : CSt) (hF : cFx a b S) (sign : Int) (h0 : 0 ≤ sign) (h1 : sign < 65536) : cMv l D cy q yX5_add (.code yX5_add cX5_add 2 none :: TBC) ({ frames := 0, cells := 0, slots := 0, locals := 0 }) S 9 [.int (zI sign)] (fun S' => S' = K5_add sign S) := by
  refine c_of (cc := cX5_add) (maxL := 2) (ret := none) (C := RX5) (by decide) rfl rfl (Nat.le_of_ble_eq_true rfl) ?_
  intro p e s m args below meth c ls B hK hM hl
  have hl : lv_has ls 2 [(0, .ref (q 9)), (1, .int (zI sign))] := hl
  refine lv_iload_n B.1 B.2.1 dX5_add_0 rfl (lv_at hl 1 rfl) ?_
  refine z_bipush B.1 B.2.1 (by decide) dX5_add_1 ?_
  refine z_icmp_ge (tgt := 21) B.1 B.2.1 (zr_of (by omega) (by omega)) (zr_of (by decide) (by decide)) dX5_add_3 (by decide) (fun c_1 => ?_) (fun c_1 => ?_)
  · --
    refine lv_aload_n B.1 B.2.1 dX5_add_21 rfl (lv_at hl 0 rfl) ?_
    refine lv_dup B.1 B.2.1 dX5_add_22 rfl ?_
    refine c_getl (q := q) (x := S.2.1 9 1) B (iC5 _) hK hM 9 1 5 (by decide) rfl rfl (by decide) (by decide) rfl rfl rfl rfl (List.mem_cons_of_mem _ wC_fRX5_13) dX5_add_23 ?_
    refine lv_lconst (v := 1) B.1 B.2.1 dX5_add_26 rfl ?_
    refine lv_iload_n B.1 B.2.1 dX5_add_27 rfl (lv_at hl 1 rfl) ?_
    refine z_bipush B.1 B.2.1 (by decide) dX5_add_28 ?_
    refine z_isub (x := sign - 64) B.1 B.2.1 rfl dX5_add_30 ?_
    refine lv_lshl (v := zshl 1 (sign - 64)) B.1 B.2.1 dX5_add_31 rfl ?_
    refine lv_lor B.1 B.2.1 dX5_add_32 ?_
    refine c_putl (q := q) B (iC5 _) tyX5 tyX5_ok nmX5 hK hM 9 1 5 (by decide) rfl rfl (by decide) (by decide) rfl rfl rfl (by decide +kernel) rfl (List.mem_cons_of_mem _ wC_fRX5_13) dX5_add_33 (fun H locs hM => ?_)
    exact c_retv B hM (by unfold K5_add; exact (if_pos c_1).symm) dX5_add_36
  · --
    refine lv_aload_n B.1 B.2.1 dX5_add_6 rfl (lv_at hl 0 rfl) ?_
    refine lv_dup B.1 B.2.1 dX5_add_7 rfl ?_
    refine c_getl (q := q) (x := S.2.1 9 0) B (iC5 _) hK hM 9 0 5 (by decide) rfl rfl (by decide) (by decide) rfl rfl rfl rfl (List.mem_cons_of_mem _ wC_fRX5_9) dX5_add_8 ?_
    refine lv_lconst (v := 1) B.1 B.2.1 dX5_add_11 rfl ?_
    refine lv_iload_n B.1 B.2.1 dX5_add_12 rfl (lv_at hl 1 rfl) ?_
    refine lv_lshl (v := zshl 1 sign) B.1 B.2.1 dX5_add_13 rfl ?_
    refine lv_lor B.1 B.2.1 dX5_add_14 ?_
    refine c_putl (q := q) B (iC5 _) tyX5 tyX5_ok nmX5 hK hM 9 0 5 (by decide) rfl rfl (by decide) (by decide) rfl rfl rfl (by decide +kernel) rfl (List.mem_cons_of_mem _ wC_fRX5_9) dX5_add_15 (fun H locs hM => ?_)
    refine lv_goto (tgt := 36) B.1 B.2.1 dX5_add_18 (by decide) ?_
    exact c_retv B hM (by unfold K5_add; exact (if_neg c_1).symm) dX5_add_36
theorem K5_add_1 {sign : Int} {S : CSt} : (K5_add sign S).1 = S.1 := by
  unfold K5_add
  (repeat' split) <;> rfl
theorem K5_add_22 {sign : Int} {S : CSt} : (K5_add sign S).2.2 = S.2.2 := by
  unfold K5_add
  (repeat' split) <;> rfl
theorem K5_add_2 {sign : Int} {S : CSt} {n : Nat} (h : n ≠ 9) : (K5_add sign S).2.1 n = S.2.1 n := by
  unfold K5_add
  (repeat' split) <;> simp only [cj_ne h]
def K5_addRangeL (last : Int) : Nat → Int → CSt → CSt
  | 0, i, T => T
  | n + 1, i, T => (if last < i then T else K5_addRangeL last n (i + 1) ((K5_add i T)))
set_option maxHeartbeats 4000000 in
set_option maxRecDepth 100000 in
theorem lp5_addRange (l : Launch) (D : va_G) (cy : Nat → ClassId) (q : Nat → Nat) (a b : Nat)  (last : Int) (hl1 : last < 65536) {p : Program} {e : Env} {s : State} {m : MethodId} {args : Array Value} {below : List Frame} {meth : Method} {c : Code} (B : zAt p s m args meth c RX5 cX5_addRange 4 none (.code yX5_addRange cX5_addRange 4 none :: TBC)) (hK : va_K D vwCl (zTY cy) s) (post : CSt → Prop) :
    ∀ (n : Nat) (i : Int) (T : CSt) (H : Heap) (locs : List Loc) (ls : Array Slot), (cFx a b T) → (0 ≤ i) → (i ≤ last + 1) → (last + 1 - i = n) → cH D cy q (cA q) s.heap T H locs → lv_has ls 4 [(0, .ref (q 9)), (2, .int (zI last)), (3, .int (zI i))] → post (K5_addRangeL last n i T) → W p l e (headSpec (.code yX5_addRange cX5_addRange 4 none :: TBC) ({ frames := 1, cells := 0, slots := 0, locals := 21 })).room s m args below meth c H locs 0 0 (MQ below (cQv D cy q post) args s 0 0 (cA q)) (F0 m 2 ls []) := by
  intro n
  induction n with
  | zero =>
    intro i T H locs ls hF hi0 hi1 hn hM hl hpost
    refine lv_iload_n B.1 B.2.1 dX5_addRange_2 rfl (lv_at hl 2 rfl) ?_
    refine lv_iload_n B.1 B.2.1 dX5_addRange_3 rfl (lv_at hl 1 rfl) ?_
    refine z_icmp_gt (tgt := 18) B.1 B.2.1 (zr_of (by omega) (by omega)) (zr_of (by omega) (by omega)) dX5_addRange_4 (by decide) (fun c_1 => ?_) (fun c_1 => ?_)
    · --
      have hq : K5_addRangeL last 0 i T = T := rfl
      rw [hq] at hpost
      exact c_retv B hM (hpost) dX5_addRange_18
    · exact absurd c_1 (by omega)
  | succ n ih =>
    intro i T H locs ls hF hi0 hi1 hn hM hl hpost
    refine lv_iload_n B.1 B.2.1 dX5_addRange_2 rfl (lv_at hl 2 rfl) ?_
    refine lv_iload_n B.1 B.2.1 dX5_addRange_3 rfl (lv_at hl 1 rfl) ?_
    refine z_icmp_gt (tgt := 18) B.1 B.2.1 (zr_of (by omega) (by omega)) (zr_of (by omega) (by omega)) dX5_addRange_4 (by decide) (fun c_1 => ?_) (fun c_1 => ?_)
    · --
      have hq : K5_addRangeL last (n + 1) i T = T := by rw [K5_addRangeL]; exact (if_pos c_1)
      rw [hq] at hpost
      exact c_retv B hM (hpost) dX5_addRange_18
    · --
      refine lv_aload_n B.1 B.2.1 dX5_addRange_7 rfl (lv_at hl 0 rfl) ?_
      refine lv_iload_n B.1 B.2.1 dX5_addRange_8 rfl (lv_at hl 2 rfl) ?_
      refine c_callv (q := q) (As := [.int (zI i)]) (rest := []) B hK hM 9 (by decide) (by decide) rfl (cX5_add_ok l D cy q a b T hF  i (by show 0 ≤ i; omega) (by show i < 65536; omega)) (cwC 1 B wC_mRX5_16 wC_im_yX5_add wC_sl_yX5_add wC_in_RX5 wC_cd_yX5_add rfl rfl (by decide +kernel) ⟨Nat.le_of_ble_eq_true rfl, Nat.le_of_ble_eq_true rfl⟩) rfl hl.1 rfl (Nat.le_of_ble_eq_true rfl) dX5_addRange_9 ⟨Nat.zero_le _, Nat.zero_le _⟩ (fun S_3 H locs hp_2 hM => ?_)
      have hp_2 := hp_2.symm
      subst hp_2
      have hF : cFx a b (K5_add i T) := cFx_of K5_add_22 hF
      refine z_iinc (v := i + 1) (lv' := [(3, .int (zI (i + 1))), (0, .ref (q 9)), (2, .int (zI last))]) B.1 B.2.1 dX5_addRange_12 hl (k := 2) rfl rfl (by decide) rfl (fun ls hl => ?_)
      refine lv_goto (tgt := 2) B.1 B.2.1 dX5_addRange_15 (by decide) ?_
      have hq : K5_addRangeL last (n + 1) i T = K5_addRangeL last n (i + 1) ((K5_add i T)) := by rw [K5_addRangeL]; exact (if_neg c_1)
      rw [hq] at hpost
      exact ih (i + 1) ((K5_add i T)) H locs ls hF  (by omega) (by omega) (by omega) hM (lv_sub hl [1, 2, 0] rfl) hpost
def K5_addRange (first last : Int) (S : CSt) : CSt := K5_addRangeL last (last + 1 - first).toNat first S
theorem K5_addRangeL_1 {last : Int} : ∀ (n : Nat) (i : Int) (S : CSt), (K5_addRangeL last n i S).1 = S.1 ∧ (K5_addRangeL last n i S).2.2 = S.2.2 ∧ ∀ m, m ≠ 9 → (K5_addRangeL last n i S).2.1 m = S.2.1 m
  | 0, _, _ => ⟨rfl, rfl, fun _ _ => rfl⟩
  | n + 1, i, S => by
    rw [K5_addRangeL]
    split
    · exact ⟨rfl, rfl, fun _ _ => rfl⟩
    · obtain ⟨h1, h2, h3⟩ := K5_addRangeL_1 (last := last) n (i + 1) (K5_add i S)
      exact ⟨h1.trans K5_add_1, h2.trans K5_add_22, fun m hm => (h3 m hm).trans (K5_add_2 hm)⟩
theorem K5_addRange_1 {first last : Int} {S : CSt} : (K5_addRange first last S).1 = S.1 := (K5_addRangeL_1 _ _ _).1
theorem K5_addRange_22 {first last : Int} {S : CSt} : (K5_addRange first last S).2.2 = S.2.2 := (K5_addRangeL_1 _ _ _).2.1
theorem K5_addRange_2 {first last : Int} {S : CSt} {n : Nat} (h : n ≠ 9) : (K5_addRange first last S).2.1 n = S.2.1 n := (K5_addRangeL_1 _ _ _).2.2 n h
set_option maxHeartbeats 4000000 in
set_option maxRecDepth 100000 in
theorem cX5_addRange_ok (l : Launch) (D : va_G) (cy : Nat → ClassId) (q : Nat → Nat) (a b : Nat) (S : CSt) (hF : cFx a b S) (first : Int) (last : Int) (h0 : 0 ≤ first) (h1 : first ≤ last + 1) (h2 : last < 65536) : cMv l D cy q yX5_addRange (.code yX5_addRange cX5_addRange 4 none :: TBC) ({ frames := 1, cells := 0, slots := 0, locals := 21 }) S 9 [.int (zI first), .int (zI last)] (fun S' => S' = K5_addRange first last S) := by
  refine c_of (cc := cX5_addRange) (maxL := 4) (ret := none) (C := RX5) (by decide) rfl rfl (Nat.le_of_ble_eq_true rfl) ?_
  intro p e s m args below meth c ls B hK hM hl
  have hl : lv_has ls 4 [(0, .ref (q 9)), (1, .int (zI first)), (2, .int (zI last))] := hl
  refine lv_iload_n B.1 B.2.1 dX5_addRange_0 rfl (lv_at hl 1 rfl) ?_
  refine lv_istore_n (lv' := [(3, .int (zI first)), (0, .ref (q 9)), (1, .int (zI first)), (2, .int (zI last))]) B.1 B.2.1 dX5_addRange_1 rfl hl (by decide) rfl (fun ls hl => ?_)
  exact lp5_addRange l D cy q a b last h2 B hK _ (last + 1 - first).toNat first S _ _ ls hF (by omega) (by omega) (by omega) hM (lv_sub hl [1, 3, 0] rfl) rfl
def K5_addAll (x : Int64) (z : Int64) (S : CSt) : CSt := (cj (cj S 9 0 ((S.2.1 9 0) ||| x)) 9 1 ((S.2.1 9 1) ||| z))
set_option maxHeartbeats 4000000 in
set_option maxRecDepth 100000 in
theorem cX5_addAll_ok (l : Launch) (D : va_G) (cy : Nat → ClassId) (q : Nat → Nat) (a b : Nat) (S : CSt) (hF : cFx a b S) (x : Int64) (z : Int64)  : cMv l D cy q yX5_addAll (.code yX5_addAll cX5_addAll 5 none :: TBC) ({ frames := 0, cells := 0, slots := 0, locals := 0 }) S 9 [.long x, .long z] (fun S' => S' = K5_addAll x z S) := by
  refine c_of (cc := cX5_addAll) (maxL := 5) (ret := none) (C := RX5) (by decide) rfl rfl (Nat.le_of_ble_eq_true rfl) ?_
  intro p e s m args below meth c ls B hK hM hl
  have hl : lv_has ls 5 [(0, .ref (q 9)), (1, .long x), (3, .long z)] := hl
  refine lv_aload_n B.1 B.2.1 dX5_addAll_0 rfl (lv_at hl 0 rfl) ?_
  refine lv_dup B.1 B.2.1 dX5_addAll_1 rfl ?_
  refine c_getl (q := q) (x := S.2.1 9 0) B (iC5 _) hK hM 9 0 5 (by decide) rfl rfl (by decide) (by decide) rfl rfl rfl rfl (List.mem_cons_of_mem _ wC_fRX5_9) dX5_addAll_2 ?_
  refine lv_lload_n B.1 B.2.1 dX5_addAll_5 rfl (lv_at hl 1 rfl) ?_
  refine lv_lor B.1 B.2.1 dX5_addAll_6 ?_
  refine c_putl (q := q) B (iC5 _) tyX5 tyX5_ok nmX5 hK hM 9 0 5 (by decide) rfl rfl (by decide) (by decide) rfl rfl rfl (by decide +kernel) rfl (List.mem_cons_of_mem _ wC_fRX5_9) dX5_addAll_7 (fun H locs hM => ?_)
  refine lv_aload_n B.1 B.2.1 dX5_addAll_10 rfl (lv_at hl 0 rfl) ?_
  refine lv_dup B.1 B.2.1 dX5_addAll_11 rfl ?_
  refine c_getl (q := q) (x := S.2.1 9 1) B (iC5 _) hK hM 9 1 5 (by decide) rfl rfl (by decide) (by decide) rfl rfl rfl rfl (List.mem_cons_of_mem _ wC_fRX5_13) dX5_addAll_12 ?_
  refine lv_lload_n B.1 B.2.1 dX5_addAll_15 rfl (lv_at hl 2 rfl) ?_
  refine lv_lor B.1 B.2.1 dX5_addAll_16 ?_
  refine c_putl (q := q) B (iC5 _) tyX5 tyX5_ok nmX5 hK hM 9 1 5 (by decide) rfl rfl (by decide) (by decide) rfl rfl rfl (by decide +kernel) rfl (List.mem_cons_of_mem _ wC_fRX5_13) dX5_addAll_17 (fun H locs hM => ?_)
  exact c_retv B hM (rfl) dX5_addAll_20
def K5_addKind (letter : Int) (S : CSt) : CSt := (if letter = 68 then (cj (cj S 9 0 ((S.2.1 9 0) ||| (-287948901175001089))) 9 1 ((S.2.1 9 1) ||| (-1))) else (if letter = 83 then (cj (cj S 9 0 ((S.2.1 9 0) ||| (-4294967297))) 9 1 ((S.2.1 9 1) ||| (-1))) else (if letter = 87 then (cj (cj S 9 0 ((S.2.1 9 0) ||| (-287948901175001089))) 9 1 ((S.2.1 9 1) ||| (-576460745995190271))) else (if letter = 100 then (cj (cj S 9 0 ((S.2.1 9 0) ||| 287948901175001088)) 9 1 ((S.2.1 9 1) ||| 0)) else (if letter = 115 then (cj (cj S 9 0 ((S.2.1 9 0) ||| 4294967296)) 9 1 ((S.2.1 9 1) ||| 0)) else (if letter = 119 then (cj (cj S 9 0 ((S.2.1 9 0) ||| 287948901175001088)) 9 1 ((S.2.1 9 1) ||| 576460745995190270)) else S))))))
set_option maxHeartbeats 4000000 in
set_option maxRecDepth 100000 in
theorem cX5_addKind_ok (l : Launch) (D : va_G) (cy : Nat → ClassId) (q : Nat → Nat) (a b : Nat) (S : CSt) (hF : cFx a b S) (letter : Int) (h0 : 0 ≤ letter) (h1 : letter < 65536) : cMv l D cy q yX5_addKind (.code yX5_addKind cX5_addKind 2 none :: TBC) ({ frames := 1, cells := 0, slots := 0, locals := 24 }) S 9 [.int (zI letter)] (fun S' => S' = K5_addKind letter S) := by
  refine c_of (cc := cX5_addKind) (maxL := 2) (ret := none) (C := RX5) (by decide) rfl rfl (Nat.le_of_ble_eq_true rfl) ?_
  intro p e s m args below meth c ls B hK hM hl
  have hl : lv_has ls 2 [(0, .ref (q 9)), (1, .int (zI letter))] := hl
  refine lv_iload_n B.1 B.2.1 dX5_addKind_0 rfl (lv_at hl 1 rfl) ?_
  rcases (show letter = 68 ∨ letter = 83 ∨ letter = 87 ∨ letter = 100 ∨ letter = 115 ∨ letter = 119 ∨ (¬ letter = 68 ∧ ¬ letter = 83 ∧ ¬ letter = 87 ∧ ¬ letter = 100 ∧ ¬ letter = 115 ∧ ¬ letter = 119) by omega) with c_1 | c_1 | c_1 | c_1 | c_1 | c_1 | c_1
  · --
    refine z_lookup (tgt := 71) (off := 70) B.1 B.2.1 (zr_of (by omega) (by omega)) dX5_addKind_1 (by decide) (by rw [c_1]; decide) (by decide) ?_
    refine lv_aload_n B.1 B.2.1 dX5_addKind_71 rfl (lv_at hl 0 rfl) ?_
    refine lv_ldc2 (v := (-287948901175001089)) B.1 B.2.1 B.2.2.2.1 (B.2.2.2.2.1 _ (List.mem_cons_of_mem _ wC_kRX5_26)) dX5_addKind_72 ?_
    refine lv_ldc2 (v := (-1)) B.1 B.2.1 B.2.2.2.1 (B.2.2.2.2.1 _ (List.mem_cons_of_mem _ wC_kRX5_28)) dX5_addKind_75 ?_
    refine c_callv (q := q) (As := [.long (-287948901175001089), .long (-1)]) (rest := []) B hK hM 9 (by decide) (by decide) rfl (cX5_addAll_ok l D cy q a b S hF  (-287948901175001089) (-1) ) (cwC 2 B wC_mRX5_22 wC_im_yX5_addAll wC_sl_yX5_addAll wC_in_RX5 wC_cd_yX5_addAll rfl rfl (by decide +kernel) ⟨Nat.le_of_ble_eq_true rfl, Nat.le_of_ble_eq_true rfl⟩) rfl hl.1 rfl (Nat.le_of_ble_eq_true rfl) dX5_addKind_78 ⟨Nat.zero_le _, Nat.zero_le _⟩ (fun S_3 H locs hp_2 hM => ?_)
    have hp_2 := hp_2.symm
    subst hp_2
    refine lv_goto (tgt := 134) B.1 B.2.1 dX5_addKind_81 (by decide) ?_
    exact c_retv B hM (by unfold K5_addKind; exact (if_pos c_1).symm) dX5_addKind_134
  · --
    have n_4 : ¬ letter = 68 := by omega
    refine z_lookup (tgt := 121) (off := 120) B.1 B.2.1 (zr_of (by omega) (by omega)) dX5_addKind_1 (by decide) (by rw [c_1]; decide) (by decide) ?_
    refine lv_aload_n B.1 B.2.1 dX5_addKind_121 rfl (lv_at hl 0 rfl) ?_
    refine lv_ldc2 (v := (-4294967297)) B.1 B.2.1 B.2.2.2.1 (B.2.2.2.2.1 _ (List.mem_cons_of_mem _ wC_kRX5_36)) dX5_addKind_122 ?_
    refine lv_ldc2 (v := (-1)) B.1 B.2.1 B.2.2.2.1 (B.2.2.2.2.1 _ (List.mem_cons_of_mem _ wC_kRX5_28)) dX5_addKind_125 ?_
    refine c_callv (q := q) (As := [.long (-4294967297), .long (-1)]) (rest := []) B hK hM 9 (by decide) (by decide) rfl (cX5_addAll_ok l D cy q a b S hF  (-4294967297) (-1) ) (cwC 2 B wC_mRX5_22 wC_im_yX5_addAll wC_sl_yX5_addAll wC_in_RX5 wC_cd_yX5_addAll rfl rfl (by decide +kernel) ⟨Nat.le_of_ble_eq_true rfl, Nat.le_of_ble_eq_true rfl⟩) rfl hl.1 rfl (Nat.le_of_ble_eq_true rfl) dX5_addKind_128 ⟨Nat.zero_le _, Nat.zero_le _⟩ (fun S_6 H locs hp_5 hM => ?_)
    have hp_5 := hp_5.symm
    subst hp_5
    refine lv_goto (tgt := 134) B.1 B.2.1 dX5_addKind_131 (by decide) ?_
    exact c_retv B hM (by unfold K5_addKind; exact ((if_neg n_4).trans (if_pos c_1)).symm) dX5_addKind_134
  · --
    have n_7 : ¬ letter = 68 := by omega
    have n_8 : ¬ letter = 83 := by omega
    refine z_lookup (tgt := 97) (off := 96) B.1 B.2.1 (zr_of (by omega) (by omega)) dX5_addKind_1 (by decide) (by rw [c_1]; decide) (by decide) ?_
    refine lv_aload_n B.1 B.2.1 dX5_addKind_97 rfl (lv_at hl 0 rfl) ?_
    refine lv_ldc2 (v := (-287948901175001089)) B.1 B.2.1 B.2.2.2.1 (B.2.2.2.2.1 _ (List.mem_cons_of_mem _ wC_kRX5_26)) dX5_addKind_98 ?_
    refine lv_ldc2 (v := (-576460745995190271)) B.1 B.2.1 B.2.2.2.1 (B.2.2.2.2.1 _ (List.mem_cons_of_mem _ wC_kRX5_32)) dX5_addKind_101 ?_
    refine c_callv (q := q) (As := [.long (-287948901175001089), .long (-576460745995190271)]) (rest := []) B hK hM 9 (by decide) (by decide) rfl (cX5_addAll_ok l D cy q a b S hF  (-287948901175001089) (-576460745995190271) ) (cwC 2 B wC_mRX5_22 wC_im_yX5_addAll wC_sl_yX5_addAll wC_in_RX5 wC_cd_yX5_addAll rfl rfl (by decide +kernel) ⟨Nat.le_of_ble_eq_true rfl, Nat.le_of_ble_eq_true rfl⟩) rfl hl.1 rfl (Nat.le_of_ble_eq_true rfl) dX5_addKind_104 ⟨Nat.zero_le _, Nat.zero_le _⟩ (fun S_10 H locs hp_9 hM => ?_)
    have hp_9 := hp_9.symm
    subst hp_9
    refine lv_goto (tgt := 134) B.1 B.2.1 dX5_addKind_107 (by decide) ?_
    exact c_retv B hM (by unfold K5_addKind; exact ((if_neg n_7).trans ((if_neg n_8).trans (if_pos c_1))).symm) dX5_addKind_134
  · --
    have n_11 : ¬ letter = 68 := by omega
    have n_12 : ¬ letter = 83 := by omega
    have n_13 : ¬ letter = 87 := by omega
    refine z_lookup (tgt := 60) (off := 59) B.1 B.2.1 (zr_of (by omega) (by omega)) dX5_addKind_1 (by decide) (by rw [c_1]; decide) (by decide) ?_
    refine lv_aload_n B.1 B.2.1 dX5_addKind_60 rfl (lv_at hl 0 rfl) ?_
    refine lv_ldc2 (v := 287948901175001088) B.1 B.2.1 B.2.2.2.1 (B.2.2.2.2.1 _ (List.mem_cons_of_mem _ wC_kRX5_20)) dX5_addKind_61 ?_
    refine lv_lconst (v := 0) B.1 B.2.1 dX5_addKind_64 rfl ?_
    refine c_callv (q := q) (As := [.long 287948901175001088, .long 0]) (rest := []) B hK hM 9 (by decide) (by decide) rfl (cX5_addAll_ok l D cy q a b S hF  287948901175001088 0 ) (cwC 2 B wC_mRX5_22 wC_im_yX5_addAll wC_sl_yX5_addAll wC_in_RX5 wC_cd_yX5_addAll rfl rfl (by decide +kernel) ⟨Nat.le_of_ble_eq_true rfl, Nat.le_of_ble_eq_true rfl⟩) rfl hl.1 rfl (Nat.le_of_ble_eq_true rfl) dX5_addKind_65 ⟨Nat.zero_le _, Nat.zero_le _⟩ (fun S_15 H locs hp_14 hM => ?_)
    have hp_14 := hp_14.symm
    subst hp_14
    refine lv_goto (tgt := 134) B.1 B.2.1 dX5_addKind_68 (by decide) ?_
    exact c_retv B hM (by unfold K5_addKind; exact ((if_neg n_11).trans ((if_neg n_12).trans ((if_neg n_13).trans (if_pos c_1)))).symm) dX5_addKind_134
  · --
    have n_16 : ¬ letter = 68 := by omega
    have n_17 : ¬ letter = 83 := by omega
    have n_18 : ¬ letter = 87 := by omega
    have n_19 : ¬ letter = 100 := by omega
    refine z_lookup (tgt := 110) (off := 109) B.1 B.2.1 (zr_of (by omega) (by omega)) dX5_addKind_1 (by decide) (by rw [c_1]; decide) (by decide) ?_
    refine lv_aload_n B.1 B.2.1 dX5_addKind_110 rfl (lv_at hl 0 rfl) ?_
    refine lv_ldc2 (v := 4294967296) B.1 B.2.1 B.2.2.2.1 (B.2.2.2.2.1 _ (List.mem_cons_of_mem _ wC_kRX5_34)) dX5_addKind_111 ?_
    refine lv_lconst (v := 0) B.1 B.2.1 dX5_addKind_114 rfl ?_
    refine c_callv (q := q) (As := [.long 4294967296, .long 0]) (rest := []) B hK hM 9 (by decide) (by decide) rfl (cX5_addAll_ok l D cy q a b S hF  4294967296 0 ) (cwC 2 B wC_mRX5_22 wC_im_yX5_addAll wC_sl_yX5_addAll wC_in_RX5 wC_cd_yX5_addAll rfl rfl (by decide +kernel) ⟨Nat.le_of_ble_eq_true rfl, Nat.le_of_ble_eq_true rfl⟩) rfl hl.1 rfl (Nat.le_of_ble_eq_true rfl) dX5_addKind_115 ⟨Nat.zero_le _, Nat.zero_le _⟩ (fun S_21 H locs hp_20 hM => ?_)
    have hp_20 := hp_20.symm
    subst hp_20
    refine lv_goto (tgt := 134) B.1 B.2.1 dX5_addKind_118 (by decide) ?_
    exact c_retv B hM (by unfold K5_addKind; exact ((if_neg n_16).trans ((if_neg n_17).trans ((if_neg n_18).trans ((if_neg n_19).trans (if_pos c_1))))).symm) dX5_addKind_134
  · --
    have n_22 : ¬ letter = 68 := by omega
    have n_23 : ¬ letter = 83 := by omega
    have n_24 : ¬ letter = 87 := by omega
    have n_25 : ¬ letter = 100 := by omega
    have n_26 : ¬ letter = 115 := by omega
    refine z_lookup (tgt := 84) (off := 83) B.1 B.2.1 (zr_of (by omega) (by omega)) dX5_addKind_1 (by decide) (by rw [c_1]; decide) (by decide) ?_
    refine lv_aload_n B.1 B.2.1 dX5_addKind_84 rfl (lv_at hl 0 rfl) ?_
    refine lv_ldc2 (v := 287948901175001088) B.1 B.2.1 B.2.2.2.1 (B.2.2.2.2.1 _ (List.mem_cons_of_mem _ wC_kRX5_20)) dX5_addKind_85 ?_
    refine lv_ldc2 (v := 576460745995190270) B.1 B.2.1 B.2.2.2.1 (B.2.2.2.2.1 _ (List.mem_cons_of_mem _ wC_kRX5_30)) dX5_addKind_88 ?_
    refine c_callv (q := q) (As := [.long 287948901175001088, .long 576460745995190270]) (rest := []) B hK hM 9 (by decide) (by decide) rfl (cX5_addAll_ok l D cy q a b S hF  287948901175001088 576460745995190270 ) (cwC 2 B wC_mRX5_22 wC_im_yX5_addAll wC_sl_yX5_addAll wC_in_RX5 wC_cd_yX5_addAll rfl rfl (by decide +kernel) ⟨Nat.le_of_ble_eq_true rfl, Nat.le_of_ble_eq_true rfl⟩) rfl hl.1 rfl (Nat.le_of_ble_eq_true rfl) dX5_addKind_91 ⟨Nat.zero_le _, Nat.zero_le _⟩ (fun S_28 H locs hp_27 hM => ?_)
    have hp_27 := hp_27.symm
    subst hp_27
    refine lv_goto (tgt := 134) B.1 B.2.1 dX5_addKind_94 (by decide) ?_
    exact c_retv B hM (by unfold K5_addKind; exact ((if_neg n_22).trans ((if_neg n_23).trans ((if_neg n_24).trans ((if_neg n_25).trans ((if_neg n_26).trans (if_pos c_1)))))).symm) dX5_addKind_134
  · --
    have n_29 : ¬ letter = 68 := by omega
    have n_30 : ¬ letter = 83 := by omega
    have n_31 : ¬ letter = 87 := by omega
    have n_32 : ¬ letter = 100 := by omega
    have n_33 : ¬ letter = 115 := by omega
    have n_34 : ¬ letter = 119 := by omega
    refine z_lookup (tgt := 134) (off := 133) B.1 B.2.1 (zr_of (by omega) (by omega)) dX5_addKind_1 (by decide) (by show Op.lookupswitch.offset [(68, 70), (83, 120), (87, 96), (100, 59), (115, 109), (119, 83)] 133 letter = 133; rw [Op.lookupswitch.offset_cons, if_neg (by omega), Op.lookupswitch.offset_cons, if_neg (by omega), Op.lookupswitch.offset_cons, if_neg (by omega), Op.lookupswitch.offset_cons, if_neg (by omega), Op.lookupswitch.offset_cons, if_neg (by omega), Op.lookupswitch.offset_cons, if_neg (by omega), Op.lookupswitch.offset_nil]) (by decide) ?_
    exact c_retv B hM (by unfold K5_addKind; exact ((if_neg n_29).trans ((if_neg n_30).trans ((if_neg n_31).trans ((if_neg n_32).trans ((if_neg n_33).trans (if_neg n_34)))))).symm) dX5_addKind_134
theorem K5_addKind_1 {letter : Int} {S : CSt} : (K5_addKind letter S).1 = S.1 := by
  unfold K5_addKind
  (repeat' split) <;> rfl
theorem K5_addKind_22 {letter : Int} {S : CSt} : (K5_addKind letter S).2.2 = S.2.2 := by
  unfold K5_addKind
  (repeat' split) <;> rfl
theorem K5_addKind_2 {letter : Int} {S : CSt} {n : Nat} (h : n ≠ 9) : (K5_addKind letter S).2.1 n = S.2.1 n := by
  unfold K5_addKind
  (repeat' split) <;> simp only [cj_ne h]
def K5_addSameLetters (S : CSt) : CSt := (cj S 9 1 ((S.2.1 9 1) ||| ((zshl ((S.2.1 9 1) &&& 134217726) 32) ||| ((zushr (S.2.1 9 1) 32) &&& 134217726))))
set_option maxHeartbeats 4000000 in
set_option maxRecDepth 100000 in
theorem cX5_addSameLetters_ok (l : Launch) (D : va_G) (cy : Nat → ClassId) (q : Nat → Nat) (a b : Nat) (S : CSt) (hF : cFx a b S)  : cMv l D cy q yX5_addSameLetters (.code yX5_addSameLetters cX5_addSameLetters 5 none :: TBC) ({ frames := 0, cells := 0, slots := 0, locals := 0 }) S 9 [] (fun S' => S' = K5_addSameLetters S) := by
  refine c_of (cc := cX5_addSameLetters) (maxL := 5) (ret := none) (C := RX5) (by decide) rfl rfl (Nat.le_of_ble_eq_true rfl) ?_
  intro p e s m args below meth c ls B hK hM hl
  have hl : lv_has ls 5 [(0, .ref (q 9))] := hl
  refine lv_aload_n B.1 B.2.1 dX5_addSameLetters_0 rfl (lv_at hl 0 rfl) ?_
  refine c_getl (q := q) (x := S.2.1 9 1) B (iC5 _) hK hM 9 1 5 (by decide) rfl rfl (by decide) (by decide) rfl rfl rfl rfl (List.mem_cons_of_mem _ wC_fRX5_13) dX5_addSameLetters_1 ?_
  refine lv_ldc2 (v := 134217726) B.1 B.2.1 B.2.2.2.1 (B.2.2.2.2.1 _ (List.mem_cons_of_mem _ wC_kRX5_38)) dX5_addSameLetters_4 ?_
  refine lv_land B.1 B.2.1 dX5_addSameLetters_7 ?_
  refine z_bipush B.1 B.2.1 (by decide) dX5_addSameLetters_8 ?_
  refine lv_lshl (v := zshl ((S.2.1 9 1) &&& 134217726) 32) B.1 B.2.1 dX5_addSameLetters_10 rfl ?_
  refine lv_lstore_n (lv' := [(1, .long (zshl ((S.2.1 9 1) &&& 134217726) 32)), (0, .ref (q 9))]) B.1 B.2.1 dX5_addSameLetters_11 rfl hl (by decide) rfl (fun ls hl => ?_)
  refine lv_aload_n B.1 B.2.1 dX5_addSameLetters_12 rfl (lv_at hl 1 rfl) ?_
  refine c_getl (q := q) (x := S.2.1 9 1) B (iC5 _) hK hM 9 1 5 (by decide) rfl rfl (by decide) (by decide) rfl rfl rfl rfl (List.mem_cons_of_mem _ wC_fRX5_13) dX5_addSameLetters_13 ?_
  refine z_bipush B.1 B.2.1 (by decide) dX5_addSameLetters_16 ?_
  refine lv_lushr (v := zushr (S.2.1 9 1) 32) B.1 B.2.1 dX5_addSameLetters_18 rfl ?_
  refine lv_ldc2 (v := 134217726) B.1 B.2.1 B.2.2.2.1 (B.2.2.2.2.1 _ (List.mem_cons_of_mem _ wC_kRX5_38)) dX5_addSameLetters_19 ?_
  refine lv_land B.1 B.2.1 dX5_addSameLetters_22 ?_
  refine lv_lstore_n (lv' := [(3, .long ((zushr (S.2.1 9 1) 32) &&& 134217726)), (1, .long (zshl ((S.2.1 9 1) &&& 134217726) 32)), (0, .ref (q 9))]) B.1 B.2.1 dX5_addSameLetters_23 rfl hl (by decide) rfl (fun ls hl => ?_)
  refine lv_aload_n B.1 B.2.1 dX5_addSameLetters_24 rfl (lv_at hl 2 rfl) ?_
  refine lv_dup B.1 B.2.1 dX5_addSameLetters_25 rfl ?_
  refine c_getl (q := q) (x := S.2.1 9 1) B (iC5 _) hK hM 9 1 5 (by decide) rfl rfl (by decide) (by decide) rfl rfl rfl rfl (List.mem_cons_of_mem _ wC_fRX5_13) dX5_addSameLetters_26 ?_
  refine lv_lload_n B.1 B.2.1 dX5_addSameLetters_29 rfl (lv_at hl 1 rfl) ?_
  refine lv_lload_n B.1 B.2.1 dX5_addSameLetters_30 rfl (lv_at hl 0 rfl) ?_
  refine lv_lor B.1 B.2.1 dX5_addSameLetters_31 ?_
  refine lv_lor B.1 B.2.1 dX5_addSameLetters_32 ?_
  refine c_putl (q := q) B (iC5 _) tyX5 tyX5_ok nmX5 hK hM 9 1 5 (by decide) rfl rfl (by decide) (by decide) rfl rfl rfl (by decide +kernel) rfl (List.mem_cons_of_mem _ wC_fRX5_13) dX5_addSameLetters_33 (fun H locs hM => ?_)
  exact c_retv B hM (rfl) dX5_addSameLetters_36
theorem K5_addSameLetters_1 {S : CSt} : (K5_addSameLetters S).1 = S.1 := by
  unfold K5_addSameLetters
  (repeat' split) <;> rfl
theorem K5_addSameLetters_22 {S : CSt} : (K5_addSameLetters S).2.2 = S.2.2 := by
  unfold K5_addSameLetters
  (repeat' split) <;> rfl
theorem K5_addSameLetters_2 {S : CSt} {n : Nat} (h : n ≠ 9) : (K5_addSameLetters S).2.1 n = S.2.1 n := by
  unfold K5_addSameLetters
  (repeat' split) <;> simp only [cj_ne h]
def K5_turnRound (S : CSt) : CSt := (cj (cj S 9 0 ((S.2.1 9 0) ^^^ (-1))) 9 1 ((S.2.1 9 1) ^^^ (-1)))
set_option maxHeartbeats 4000000 in
set_option maxRecDepth 100000 in
theorem cX5_turnRound_ok (l : Launch) (D : va_G) (cy : Nat → ClassId) (q : Nat → Nat) (a b : Nat) (S : CSt) (hF : cFx a b S)  : cMv l D cy q yX5_turnRound (.code yX5_turnRound cX5_turnRound 1 none :: TBC) ({ frames := 0, cells := 0, slots := 0, locals := 0 }) S 9 [] (fun S' => S' = K5_turnRound S) := by
  refine c_of (cc := cX5_turnRound) (maxL := 1) (ret := none) (C := RX5) (by decide) rfl rfl (Nat.le_of_ble_eq_true rfl) ?_
  intro p e s m args below meth c ls B hK hM hl
  have hl : lv_has ls 1 [(0, .ref (q 9))] := hl
  refine lv_aload_n B.1 B.2.1 dX5_turnRound_0 rfl (lv_at hl 0 rfl) ?_
  refine lv_aload_n B.1 B.2.1 dX5_turnRound_1 rfl (lv_at hl 0 rfl) ?_
  refine c_getl (q := q) (x := S.2.1 9 0) B (iC5 _) hK hM 9 0 5 (by decide) rfl rfl (by decide) (by decide) rfl rfl rfl rfl (List.mem_cons_of_mem _ wC_fRX5_9) dX5_turnRound_2 ?_
  refine lv_ldc2 (v := (-1)) B.1 B.2.1 B.2.2.2.1 (B.2.2.2.2.1 _ (List.mem_cons_of_mem _ wC_kRX5_28)) dX5_turnRound_5 ?_
  refine lv_lxor B.1 B.2.1 dX5_turnRound_8 ?_
  refine c_putl (q := q) B (iC5 _) tyX5 tyX5_ok nmX5 hK hM 9 0 5 (by decide) rfl rfl (by decide) (by decide) rfl rfl rfl (by decide +kernel) rfl (List.mem_cons_of_mem _ wC_fRX5_9) dX5_turnRound_9 (fun H locs hM => ?_)
  refine lv_aload_n B.1 B.2.1 dX5_turnRound_12 rfl (lv_at hl 0 rfl) ?_
  refine lv_aload_n B.1 B.2.1 dX5_turnRound_13 rfl (lv_at hl 0 rfl) ?_
  refine c_getl (q := q) (x := S.2.1 9 1) B (iC5 _) hK hM 9 1 5 (by decide) rfl rfl (by decide) (by decide) rfl rfl rfl rfl (List.mem_cons_of_mem _ wC_fRX5_13) dX5_turnRound_14 ?_
  refine lv_ldc2 (v := (-1)) B.1 B.2.1 B.2.2.2.1 (B.2.2.2.2.1 _ (List.mem_cons_of_mem _ wC_kRX5_28)) dX5_turnRound_17 ?_
  refine lv_lxor B.1 B.2.1 dX5_turnRound_20 ?_
  refine c_putl (q := q) B (iC5 _) tyX5 tyX5_ok nmX5 hK hM 9 1 5 (by decide) rfl rfl (by decide) (by decide) rfl rfl rfl (by decide +kernel) rfl (List.mem_cons_of_mem _ wC_fRX5_13) dX5_turnRound_21 (fun H locs hM => ?_)
  exact c_retv B hM (rfl) dX5_turnRound_24
theorem K5_turnRound_1 {S : CSt} : (K5_turnRound S).1 = S.1 := by
  unfold K5_turnRound
  (repeat' split) <;> rfl
theorem K5_turnRound_22 {S : CSt} : (K5_turnRound S).2.2 = S.2.2 := by
  unfold K5_turnRound
  (repeat' split) <;> rfl
theorem K5_turnRound_2 {S : CSt} {n : Nat} (h : n ≠ 9) : (K5_turnRound S).2.1 n = S.2.1 n := by
  unfold K5_turnRound
  (repeat' split) <;> simp only [cj_ne h]
