/-! String.indexOf(sign) of a constant: nothing of the heap changes. -/
def jE (v1 kS vS N : Nat) (bl : List Int32) (U : State) (H : Heap) : Prop := vk_S 1 [N] [bl] (fun _ => kS) (fun _ => vS) (fun a => v1 ≤ a) U H ∧ va_Z "java/lang/String" "COMPACT_STRINGS" "Z" (.int 1) (fun a => v1 ≤ a) U H
theorem jE.moved {v1 kS vS N : Nat} {bl : List Int32} {u U : State} {H : Heap} (h : jE v1 kS vS N bl u H) (hvm : u.vm.Alike U.vm) : jE v1 kS vS N bl U H := ⟨vk_S.moved hvm h.1, va_Z.moved hvm h.2⟩
def jMi (l : Launch) (y : MethodName) (ws : List Cond) (rm : Room) (v1 kS vS N : Nat) (bl : List Int32) (As : List Value) (post : Int → Prop) : Prop := Met l y ws rm (va_Pc As (fun U => jE v1 kS vS N bl U U.heap)) (vp_Si (fun r => ∃ z, r = zI z ∧ post z)) 0 0 (fun _ => False)
theorem j_of {l : Launch} {y : MethodName} {ws ws' : List Cond} {rm : Room} {v1 kS vS N : Nat} {bl : List Int32} {As : List Value} {cc : ByteArray} {maxL : Nat} {ret : Option FieldType} {C : String} {Qc : Array Value → State → Outcome → State → Prop}
    (hy : plainName y.cls = true) (hcls : y.cls = C) (hw : ws = Cond.code y cc maxL ret :: ws') (hn : (lg_sl As).length ≤ maxL)
    (body : ∀ (p : Program) (e : Env) (s : State) (m : MethodId) (args : Array Value) (below : List Frame) (meth : Method) (c : Code) (ls : Array Slot), zAt p s m args meth c C cc maxL ret ws → jE v1 kS vS N bl s s.heap → lv_has ls maxL (lv_args 0 As) →
      W p l e (headSpec ws rm).room s m args below meth c s.heap [] 0 0 (MQ below Qc args s 0 0 (fun _ => False)) (F0 m 0 ls [])) : Met l y ws rm (va_Pc As (fun U => jE v1 kS vS N bl U U.heap)) Qc 0 0 (fun _ => False) := by
  refine Met.ofW (cc := cc) (maxL := maxL) (ret := ret) hy hw ?_
  intro p e s m args below meth c s₁ B hml hv
  obtain ⟨rfl, hE⟩ := hv
  rw [lg_entry_eq]
  refine body p e s m _ below meth c _ ⟨B.exec, B.bytes, hml, ?_, atoms_spec (ws := ws) B.pre, B.returns, B.notSynchronized⟩ hE (lv_entry As hn)
  have := findClass_of_methodNamed B.named
  rw [hcls] at this
  exact this
theorem j_blind {v1 kS vS N : Nat} {bl : List Int32} {As : List Value} : FrameBlind (va_Pc As (fun U => jE v1 kS vS N bl U U.heap)) := by
  intro a U g mk h
  exact ⟨h.1, h.2.moved (u := U) (U := U.calling g mk a) (Vm.Alike.refl U.vm)⟩
section JR
variable {p : Program} {l : Launch} {e : Env} {R : Room} {s : State} {m : MethodId} {args : Array Value} {below : List Frame} {meth : Method} {c : Code} {H : Heap} {locs : List Loc} {cells slots : Nat} {Q : State → Prop} {cc : ByteArray} {pc : Nat} {ls : Array Slot} {rest : List Value} {maxL : Nat} {ret : Option FieldType} {ws : List Cond} {index : Nat} {C : String} {v1 kS vS N : Nat} {bl : List Int32}
theorem j_calls {y : MethodName} {wy : List Cond} {rm : Room} {As : List Value} {post : Int → Prop} {bytes : ByteArray} {mxL n : Nat} {rt : Option FieldType} (B : zAt p s m args meth c C cc maxL ret ws) (hE : jE v1 kS vS N bl s H) (hM : jMi l y wy rm v1 kS vS N bl As post) (cw : CallB R s args C index y bytes mxL rt wy rm 0 0 n ∧ (Cond.static y).before args s = true) (hn : As.length = n) (hsz : ls.size = maxL) {st : List Value} (hst : st = As.reverse ++ rest) (hroom : (rest.map fun v => v.category).sum ≤ 8) (hd : decode cc pc = .ok (.invokestatic index, 3)) (hf : cells ≤ R.cells ∧ slots ≤ R.slots)
    (kk : ∀ z : Int, post z → W p l e R s m args below meth c H locs cells slots Q (F0 m (pc + 3) ls (.int (zI z) :: rest))) : W p l e R s m args below meth c H locs cells slots Q (F0 m pc ls st) := by
  refine vp_callSi (W.runS (As := As) (rest := rest) (g := F0 m pc ls st) ⟨B.1, B.2.1, B.2.2.1, B.2.2.2.1, B.2.2.2.2.1⟩ hM cw ⟨j_blind, fun U hU hW => ⟨rfl, by show jE v1 kS vS N bl U U.heap; rw [hU]; exact hE.moved hW.alike⟩⟩ rfl hn hsz hst (lv_room hroom) hd hf) (fun r hr => ?_)
  obtain ⟨z, rfl, hz⟩ := hr
  exact kk z hz
theorem j_callv {y : MethodName} {wy : List Cond} {rm : Room} {As : List Value} {post : Int → Prop} {bytes : ByteArray} {mxL n : Nat} {rt : Option FieldType} (B : zAt p s m args meth c C cc maxL ret ws) (hE : jE v1 kS vS N bl s H) (hM : jMi l y wy rm v1 kS vS N bl (.ref kS :: As) post) (cw : CallW R s args C "java/lang/String" index y bytes mxL rt wy rm 0 0 n) (hn : As.length = n) (hsz : ls.size = maxL) {st : List Value} (hst : st = As.reverse ++ .ref kS :: rest) (hroom : (rest.map fun v => v.category).sum ≤ 8) (hd : decode cc pc = .ok (.invokevirtual index, 3)) (hf : cells ≤ R.cells ∧ slots ≤ R.slots)
    (kk : ∀ z : Int, post z → W p l e R s m args below meth c H locs cells slots Q (F0 m (pc + 3) ls (.int (zI z) :: rest))) : W p l e R s m args below meth c H locs cells slots Q (F0 m pc ls st) := by
  have hrec : ∃ cell : Cell, H[kS]? = some cell ∧ cell.vm.isStatics = false ∧ s.vm.findClass "java/lang/String" = some cell.cls := by
    obtain ⟨cell, h1, h2, h3, -⟩ := (hE.1.1 0 (by decide)).1
    exact ⟨cell, h1, h2, h3⟩
  refine vp_callSi (W.runV (As := As) (rest := rest) (g := F0 m pc ls st) (b := kS) ⟨B.1, B.2.1, B.2.2.1, B.2.2.2.1, B.2.2.2.2.1⟩ hM cw ⟨j_blind, hrec, fun U hU hW => ⟨rfl, by show jE v1 kS vS N bl U U.heap; rw [hU]; exact hE.moved hW.alike⟩⟩ rfl hn hsz hst (lv_room hroom) hd hf) (fun r hr => ?_)
  obtain ⟨z, rfl, hz⟩ := hr
  exact kk z hz
end JR
def sIxL (f : Nat → Int32) (x : Int32) : Nat → Nat → Int
  | 0, _ => -1
  | n + 1, i => if f i = x then (i : Int) else sIxL f x n (i + 1)
theorem sIxL_bd (f : Nat → Int32) (x : Int32) : ∀ n i, -1 ≤ sIxL f x n i ∧ sIxL f x n i ≤ ((i + n : Nat) : Int)
  | 0, i => by rw [sIxL]; omega
  | n + 1, i => by
    rw [sIxL]
    have := sIxL_bd f x n (i + 1)
    split <;> omega

set_option maxHeartbeats 1000000 in
set_option maxRecDepth 100000 in
theorem cJ0_isLatin1_aae02_ok (l : Launch) (v1 kS vS N : Nat) (bl : List Int32)  : jMi l yJ0_isLatin1_aae02 (.code yJ0_isLatin1_aae02 cJ0_isLatin1_aae02 1 (some .boolean) :: TBC) { frames := 0, cells := 0, slots := 0, locals := 0 } v1 kS vS N bl [.ref kS] (fun z => z = 1) := by
  refine j_of (cc := cJ0_isLatin1_aae02) (maxL := 1) (ret := (some .boolean)) (C := RJ0) (by decide) rfl rfl (Nat.le_of_ble_eq_true rfl) ?_
  intro p e s m args below meth c ls B hE hl
  have hl : lv_has ls 1 [(0, .ref kS)] := hl
  have hS : va_S (fun a => v1 ≤ a) s.heap s.heap [] := va_S.rf
  refine va_gets B.1 B.2.1 hE.2 hS B.2.2.2.1 (B.2.2.2.2.1 _ (List.mem_cons_of_mem _ wC_fRJ0_38)) (fun _ h9 => h9) dJ0_isLatin1_aae02_0 ?_
  show W _ _ _ _ _ _ _ _ _ _ _ _ _ _ _ (F0 m 3 ls [.int (zI 1)])
  refine z_if_eq (tgt := 17) B.1 B.2.1 (zr_of (by decide) (by decide)) dJ0_isLatin1_aae02_3 (by decide) (fun c_1 => absurd c_1 (by decide)) (fun c_1 => ?_)
  refine lv_aload_n B.1 B.2.1 dJ0_isLatin1_aae02_6 rfl (lv_at hl 0 rfl) ?_
  refine vk_getf B.1 B.2.1 (hE.1.1 0 (by decide)).2.1 hS B.2.2.2.1 (B.2.2.2.2.1 _ (List.mem_cons_of_mem _ wC_fRJ0_15)) (fun _ h9 => h9) dJ0_isLatin1_aae02_7 ?_
  show W _ _ _ _ _ _ _ _ _ _ _ _ _ _ _ (F0 m 10 ls [.int (zI 0)])
  refine z_if_ne (tgt := 17) B.1 B.2.1 (zr_of (by decide) (by decide)) dJ0_isLatin1_aae02_10 (by decide) (fun c_1 => absurd rfl c_1) (fun c_1 => ?_)
  refine z_iconst B.1 B.2.1 dJ0_isLatin1_aae02_13 ?_
  refine lv_goto (tgt := 18) B.1 B.2.1 dJ0_isLatin1_aae02_14 (by decide) ?_
  exact s_retz B (Or.inr rfl) rfl dJ0_isLatin1_aae02_18
set_option maxHeartbeats 1000000 in
set_option maxRecDepth 100000 in
theorem cJ0_coder_7d493_ok (l : Launch) (v1 kS vS N : Nat) (bl : List Int32)  : jMi l yJ0_coder_7d493 (.code yJ0_coder_7d493 cJ0_coder_7d493 1 (some .byte) :: TBC) { frames := 0, cells := 0, slots := 0, locals := 0 } v1 kS vS N bl [.ref kS] (fun z => z = 0) := by
  refine j_of (cc := cJ0_coder_7d493) (maxL := 1) (ret := (some .byte)) (C := RJ0) (by decide) rfl rfl (Nat.le_of_ble_eq_true rfl) ?_
  intro p e s m args below meth c ls B hE hl
  have hl : lv_has ls 1 [(0, .ref kS)] := hl
  have hS : va_S (fun a => v1 ≤ a) s.heap s.heap [] := va_S.rf
  refine va_gets B.1 B.2.1 hE.2 hS B.2.2.2.1 (B.2.2.2.2.1 _ (List.mem_cons_of_mem _ wC_fRJ0_38)) (fun _ h9 => h9) dJ0_coder_7d493_0 ?_
  show W _ _ _ _ _ _ _ _ _ _ _ _ _ _ _ (F0 m 3 ls [.int (zI 1)])
  refine z_if_eq (tgt := 13) B.1 B.2.1 (zr_of (by decide) (by decide)) dJ0_coder_7d493_3 (by decide) (fun c_1 => absurd c_1 (by decide)) (fun c_1 => ?_)
  refine lv_aload_n B.1 B.2.1 dJ0_coder_7d493_6 rfl (lv_at hl 0 rfl) ?_
  refine vk_getf B.1 B.2.1 (hE.1.1 0 (by decide)).2.1 hS B.2.2.2.1 (B.2.2.2.2.1 _ (List.mem_cons_of_mem _ wC_fRJ0_15)) (fun _ h9 => h9) dJ0_coder_7d493_7 ?_
  refine lv_goto (tgt := 14) B.1 B.2.1 dJ0_coder_7d493_10 (by decide) ?_
  exact W.zret (v := zI 0) B.1 B.2.1 B.2.2.2.2.2.1 (by decide) (fun t ht _ => ⟨zI 0, rfl, ⟨0, rfl, rfl⟩, ht⟩) (fun q h => by cases h) dJ0_coder_7d493_14 B.2.2.2.2.2.2
set_option maxHeartbeats 1000000 in
set_option maxRecDepth 100000 in
theorem cJ0_length_8abf5_ok (l : Launch) (v1 kS vS N : Nat) (bl : List Int32)  : jMi l yJ0_length_8abf5 (.code yJ0_length_8abf5 cJ0_length_8abf5 1 (some .int) :: TBC) { frames := 1, cells := 0, slots := 0, locals := 20 } v1 kS vS N bl [.ref kS] (fun z => z = N) := by
  refine j_of (cc := cJ0_length_8abf5) (maxL := 1) (ret := (some .int)) (C := RJ0) (by decide) rfl rfl (Nat.le_of_ble_eq_true rfl) ?_
  intro p e s m args below meth c ls B hE hl
  have hl : lv_has ls 1 [(0, .ref kS)] := hl
  have hS : va_S (fun a => v1 ≤ a) s.heap s.heap [] := va_S.rf
  refine lv_aload_n B.1 B.2.1 dJ0_length_8abf5_0 rfl (lv_at hl 0 rfl) ?_
  refine vk_getf B.1 B.2.1 (hE.1.1 0 (by decide)).2.2.1 hS B.2.2.2.1 (B.2.2.2.2.1 _ (List.mem_cons_of_mem _ wC_fRJ0_9)) (fun _ h9 => h9) dJ0_length_8abf5_1 ?_
  refine va_tlen B.1 B.2.1 (hE.1.1 0 (by decide)).2.2.2 hS (v := zI (N : Nat)) (Int32.ofInt_eq_ofNat.symm) dJ0_length_8abf5_4 ?_
  refine lv_aload_n B.1 B.2.1 dJ0_length_8abf5_5 rfl (lv_at hl 0 rfl) ?_
  refine j_callv (As := []) (rest := [.int (zI (N : Nat))]) B hE (cJ0_coder_7d493_ok l v1 kS vS N bl) (cwC 0 B wC_mRJ0_335 wC_im_yJ0_coder_7d493 wC_sl_yJ0_coder_7d493 wC_in_RJ0 wC_cd_yJ0_coder_7d493 rfl rfl (by decide +kernel) ⟨Nat.le_of_ble_eq_true rfl, Nat.le_of_ble_eq_true rfl⟩) rfl hl.1 rfl (Nat.le_of_ble_eq_true rfl) dJ0_length_8abf5_6 ⟨Nat.zero_le _, Nat.zero_le _⟩ (fun z hz => ?_)
  subst hz
  refine lv_ishr B.1 B.2.1 dJ0_length_8abf5_9 ?_
  have e9 : ∀ x : Int32, x >>> (zI 0 &&& 31) = x := fun x => by show x >>> (0 : Int32) = x; exact Int32.shiftRight_zero
  rw [e9]
  exact s_reti B rfl dJ0_length_8abf5_10
set_option maxHeartbeats 1000000 in
set_option maxRecDepth 100000 in
theorem cJ1_canEncode_9a6ad_ok (l : Launch) (v1 kS vS N : Nat) (bl : List Int32) (x : Int) (h0 : 0 ≤ x) (h1 : x ≤ 126) : jMi l yJ1_canEncode_9a6ad (.code yJ1_canEncode_9a6ad cJ1_canEncode_9a6ad 1 (some .boolean) :: TBC) { frames := 0, cells := 0, slots := 0, locals := 0 } v1 kS vS N bl [.int (zI x)] (fun z => z = 1) := by
  refine j_of (cc := cJ1_canEncode_9a6ad) (maxL := 1) (ret := (some .boolean)) (C := RJ1) (by decide) rfl rfl (Nat.le_of_ble_eq_true rfl) ?_
  intro p e s m args below meth c ls B hE hl
  have hl : lv_has ls 1 [(0, .int (zI x))] := hl
  have hS : va_S (fun a => v1 ≤ a) s.heap s.heap [] := va_S.rf
  refine lv_iload_n B.1 B.2.1 dJ1_canEncode_9a6ad_0 rfl (lv_at hl 0 rfl) ?_
  refine z_if_lt (tgt := 15) B.1 B.2.1 (zr_of (by omega) (by omega)) dJ1_canEncode_9a6ad_1 (by decide) (fun c_1 => absurd c_1 (by omega)) (fun c_1 => ?_)
  refine lv_iload_n B.1 B.2.1 dJ1_canEncode_9a6ad_4 rfl (lv_at hl 0 rfl) ?_
  refine z_sipush B.1 B.2.1 (by decide) dJ1_canEncode_9a6ad_5 ?_
  refine z_icmp_gt (tgt := 15) B.1 B.2.1 (zr_of (by omega) (by omega)) (zr_of (by decide) (by decide)) dJ1_canEncode_9a6ad_8 (by decide) (fun c_1 => absurd c_1 (by omega)) (fun c_1 => ?_)
  refine z_iconst B.1 B.2.1 dJ1_canEncode_9a6ad_11 ?_
  refine lv_goto (tgt := 16) B.1 B.2.1 dJ1_canEncode_9a6ad_12 (by decide) ?_
  exact s_retz B (Or.inr rfl) rfl dJ1_canEncode_9a6ad_16
set_option maxHeartbeats 1000000 in
theorem lpJ1 (l : Launch) (v1 kS vS N : Nat) (bl : List Int32) (x : Int) (h0 : 0 ≤ x) (h1 : x ≤ 126) (hN : N ≤ 1000) {p : Program} {e : Env} {s : State} {m : MethodId} {args : Array Value} {below : List Frame} {meth : Method} {c : Code} (B : zAt p s m args meth c RJ1 cJ1_indexOfChar_4cfef 6 (some .int) (.code yJ1_indexOfChar_4cfef cJ1_indexOfChar_4cfef 6 (some .int) :: TBC)) (hE : jE v1 kS vS N bl s s.heap) :
    ∀ (n i : Nat) (ls : Array Slot), i + n = N → lv_has ls 6 [(0, .ref vS), (3, .int (zI (N : Nat))), (4, .int (zI x)), (5, .int (zI (i : Nat)))] → W p l e (headSpec (.code yJ1_indexOfChar_4cfef cJ1_indexOfChar_4cfef 6 (some .int) :: TBC) { frames := 0, cells := 0, slots := 0, locals := 0 }).room s m args below meth c s.heap [] 0 0 (MQ below (vp_Si (fun r => ∃ z, r = zI z ∧ z = sIxL (fun j => bl.getD j 0) (zI x) n i)) args s 0 0 (fun _ => False)) (F0 m 7 ls []) := by
  have hS : va_S (fun a => v1 ≤ a) s.heap s.heap [] := va_S.rf
  intro n
  induction n with
  | zero =>
    intro i ls hi hl
    refine lv_iload B.1 B.2.1 dJ1_indexOfChar_4cfef_7 (lv_at hl 3 rfl) ?_
    refine lv_iload_n B.1 B.2.1 dJ1_indexOfChar_4cfef_9 rfl (lv_at hl 1 rfl) ?_
    refine z_icmp_ge (tgt := 31) B.1 B.2.1 (zr_of (by omega) (by omega)) (zr_of (by omega) (by omega)) dJ1_indexOfChar_4cfef_10 (by decide) (fun c_1 => ?_) (fun c_1 => absurd c_1 (by omega))
    refine z_iconst B.1 B.2.1 dJ1_indexOfChar_4cfef_31 ?_
    exact s_reti B rfl dJ1_indexOfChar_4cfef_32
  | succ n ih =>
    intro i ls hi hl
    refine lv_iload B.1 B.2.1 dJ1_indexOfChar_4cfef_7 (lv_at hl 3 rfl) ?_
    refine lv_iload_n B.1 B.2.1 dJ1_indexOfChar_4cfef_9 rfl (lv_at hl 1 rfl) ?_
    refine z_icmp_ge (tgt := 31) B.1 B.2.1 (zr_of (by omega) (by omega)) (zr_of (by omega) (by omega)) dJ1_indexOfChar_4cfef_10 (by decide) (fun c_1 => absurd c_1 (by omega)) (fun c_1 => ?_)
    refine lv_aload_n B.1 B.2.1 dJ1_indexOfChar_4cfef_13 rfl (lv_at hl 0 rfl) ?_
    refine lv_iload B.1 B.2.1 dJ1_indexOfChar_4cfef_14 (lv_at hl 3 rfl) ?_
    have zi : zr ((i : Nat) : Int) := ⟨by omega, by omega⟩
    refine va_tb B.1 B.2.1 (hE.1.1 0 (by decide)).2.2.2 hS (i := zI (i : Nat)) (vp_in_iff.mpr ⟨by rw [zI_toInt zi]; omega, by rw [zI_toInt zi]; show (i : Int) < (N : Int); omega⟩) (v := .int (bl.getD i 0)) (by rw [zI_clamp zi]; rfl) dJ1_indexOfChar_4cfef_16 ?_
    refine lv_iload B.1 B.2.1 dJ1_indexOfChar_4cfef_17 (lv_at hl 2 rfl) ?_
    refine lv_icmp_ne (tgt := 25) B.1 B.2.1 dJ1_indexOfChar_4cfef_19 (by decide) (fun c_2 => ?_) (fun c_2 => ?_)
    · rw [show sIxL (fun j => bl.getD j 0) (zI x) (n + 1) i = sIxL (fun j => bl.getD j 0) (zI x) n (i + 1) from if_neg c_2]
      refine z_iinc (v := ((i + 1 : Nat) : Int)) (lv' := [(5, .int (zI ((i + 1 : Nat) : Int))), (0, .ref vS), (3, .int (zI (N : Nat))), (4, .int (zI x))]) B.1 B.2.1 dJ1_indexOfChar_4cfef_25 hl (k := 3) rfl rfl (by decide) rfl (fun ls hl => ?_)
      refine lv_goto (tgt := 7) B.1 B.2.1 dJ1_indexOfChar_4cfef_28 (by decide) ?_
      exact ih (i + 1) ls (by omega) (lv_sub hl [1, 2, 3, 0] rfl)
    · rw [show sIxL (fun j => bl.getD j 0) (zI x) (n + 1) i = (i : Int) from if_pos c_2]
      refine lv_iload B.1 B.2.1 dJ1_indexOfChar_4cfef_22 (lv_at hl 3 rfl) ?_
      exact s_reti B rfl dJ1_indexOfChar_4cfef_24

set_option maxHeartbeats 1000000 in
set_option maxRecDepth 100000 in
theorem cJ1_indexOfChar_4cfef_ok (l : Launch) (v1 kS vS N : Nat) (bl : List Int32) (x : Int) (h0 : 0 ≤ x) (h1 : x ≤ 126) (hN : N ≤ 1000) : jMi l yJ1_indexOfChar_4cfef (.code yJ1_indexOfChar_4cfef cJ1_indexOfChar_4cfef 6 (some .int) :: TBC) { frames := 0, cells := 0, slots := 0, locals := 0 } v1 kS vS N bl [.ref vS, .int (zI x), .int (zI 0), .int (zI (N : Nat))] (fun z => z = sIxL (fun j => bl.getD j 0) (zI x) N 0) := by
  refine j_of (cc := cJ1_indexOfChar_4cfef) (maxL := 6) (ret := (some .int)) (C := RJ1) (by decide) rfl rfl (Nat.le_of_ble_eq_true rfl) ?_
  intro p e s m args below meth c ls B hE hl
  have hl : lv_has ls 6 [(0, .ref vS), (1, .int (zI x)), (2, .int (zI 0)), (3, .int (zI (N : Nat)))] := hl
  have hS : va_S (fun a => v1 ≤ a) s.heap s.heap [] := va_S.rf
  refine lv_iload_n B.1 B.2.1 dJ1_indexOfChar_4cfef_0 rfl (lv_at hl 1 rfl) ?_
  have e9 : (zI x).toInt8.toInt32 = zI x := by
    obtain ⟨n, rfl⟩ : ∃ n : Nat, x = n := ⟨x.toNat, by omega⟩
    have : ∀ n : Nat, n ≤ 126 → (zI (n : Nat)).toInt8.toInt32 = zI (n : Nat) := by decide
    exact this n (by omega)
  refine lv_i2b (v := zI x) B.1 B.2.1 dJ1_indexOfChar_4cfef_1 e9 ?_
  refine lv_istore (lv' := [(4, .int (zI x)), (0, .ref vS), (1, .int (zI x)), (2, .int (zI 0)), (3, .int (zI (N : Nat)))]) B.1 B.2.1 dJ1_indexOfChar_4cfef_2 hl (by decide) rfl (fun ls hl => ?_)
  refine lv_iload_n B.1 B.2.1 dJ1_indexOfChar_4cfef_4 rfl (lv_at hl 3 rfl) ?_
  refine lv_istore (lv' := [(5, .int (zI 0)), (4, .int (zI x)), (0, .ref vS), (1, .int (zI x)), (2, .int (zI 0)), (3, .int (zI (N : Nat)))]) B.1 B.2.1 dJ1_indexOfChar_4cfef_5 hl (by decide) rfl (fun ls hl => ?_)
  exact lpJ1 l v1 kS vS N bl x h0 h1 hN B hE N 0 ls (by omega) (lv_sub hl [2, 5, 1, 0] rfl)
set_option maxHeartbeats 1000000 in
set_option maxRecDepth 100000 in
theorem cJ1_indexOf_4cfef_ok (l : Launch) (v1 kS vS N : Nat) (bl : List Int32) (x : Int) (h0 : 0 ≤ x) (h1 : x ≤ 126) (hN : N ≤ 1000) (hN1 : 1 ≤ N) : jMi l yJ1_indexOf_4cfef (.code yJ1_indexOf_4cfef cJ1_indexOf_4cfef 4 (some .int) :: TBC) { frames := 1, cells := 0, slots := 0, locals := 60 } v1 kS vS N bl [.ref vS, .int (zI x), .int (zI 0), .int (zI (N : Nat))] (fun z => z = sIxL (fun j => bl.getD j 0) (zI x) N 0) := by
  refine j_of (cc := cJ1_indexOf_4cfef) (maxL := 4) (ret := (some .int)) (C := RJ1) (by decide) rfl rfl (Nat.le_of_ble_eq_true rfl) ?_
  intro p e s m args below meth c ls B hE hl
  have hl : lv_has ls 4 [(0, .ref vS), (1, .int (zI x)), (2, .int (zI 0)), (3, .int (zI (N : Nat)))] := hl
  have hS : va_S (fun a => v1 ≤ a) s.heap s.heap [] := va_S.rf
  refine lv_iload_n B.1 B.2.1 dJ1_indexOf_4cfef_0 rfl (lv_at hl 1 rfl) ?_
  refine j_calls (As := [.int (zI x)]) (rest := []) B hE (cJ1_canEncode_9a6ad_ok l v1 kS vS N bl x h0 h1) (csC 1 B wC_mRJ1_88 wC_st_yJ1_canEncode_9a6ad wC_in_RJ1 wC_cd_yJ1_canEncode_9a6ad rfl rfl (by decide +kernel) ⟨Nat.le_of_ble_eq_true rfl, Nat.le_of_ble_eq_true rfl⟩) rfl hl.1 rfl (Nat.le_of_ble_eq_true rfl) dJ1_indexOf_4cfef_1 ⟨Nat.zero_le _, Nat.zero_le _⟩ (fun z hz => ?_)
  subst hz
  refine z_if_ne (tgt := 9) B.1 B.2.1 (zr_of (by decide) (by decide)) dJ1_indexOf_4cfef_4 (by decide) (fun c_1 => ?_) (fun c_1 => absurd c_1 (by decide))
  refine lv_iload_n B.1 B.2.1 dJ1_indexOf_4cfef_9 rfl (lv_at hl 2 rfl) ?_
  refine z_iconst B.1 B.2.1 dJ1_indexOf_4cfef_10 ?_
  refine z_mmax (x := 0) (y := 0) B (List.mem_cons_of_mem _ wC_mRJ1_92) (List.mem_cons_of_mem _ wC_st_Lib_Math_max_name) (List.mem_cons_of_mem _ wC_in__java_lang_Math_) (List.mem_cons_of_mem _ wC_cd_Lib_Math_max_name) hl.1 (zr_of (by decide) (by decide)) (zr_of (by decide) (by decide)) (Nat.le_of_ble_eq_true rfl) (Nat.le_of_ble_eq_true rfl) ⟨Nat.zero_le _, Nat.zero_le _⟩ dJ1_indexOf_4cfef_11 ?_
  rw [if_neg (show ¬ (0 : Int) < 0 by decide)]
  refine lv_istore_n (lv' := [(2, .int (zI 0)), (0, .ref vS), (1, .int (zI x)), (3, .int (zI (N : Nat)))]) B.1 B.2.1 dJ1_indexOf_4cfef_14 rfl hl (by decide) rfl (fun ls hl => ?_)
  refine lv_iload_n B.1 B.2.1 dJ1_indexOf_4cfef_15 rfl (lv_at hl 3 rfl) ?_
  refine lv_aload_n B.1 B.2.1 dJ1_indexOf_4cfef_16 rfl (lv_at hl 1 rfl) ?_
  refine va_tlen B.1 B.2.1 (hE.1.1 0 (by decide)).2.2.2 hS (v := zI (N : Nat)) (Int32.ofInt_eq_ofNat.symm) dJ1_indexOf_4cfef_17 ?_
  refine z_mmin (x := N) (y := N) B (List.mem_cons_of_mem _ wC_mRJ1_38) (List.mem_cons_of_mem _ wC_st_Lib_Math_min_name) (List.mem_cons_of_mem _ wC_in__java_lang_Math_) (List.mem_cons_of_mem _ wC_cd_Lib_Math_min_name) hl.1 (zr_of (by omega) (by omega)) (zr_of (by omega) (by omega)) (Nat.le_of_ble_eq_true rfl) (Nat.le_of_ble_eq_true rfl) ⟨Nat.zero_le _, Nat.zero_le _⟩ dJ1_indexOf_4cfef_18 ?_
  rw [if_neg (show ¬ (N : Int) < N by omega)]
  refine lv_istore_n (lv' := [(3, .int (zI (N : Nat))), (2, .int (zI 0)), (0, .ref vS), (1, .int (zI x))]) B.1 B.2.1 dJ1_indexOf_4cfef_21 rfl hl (by decide) rfl (fun ls hl => ?_)
  refine lv_iload_n B.1 B.2.1 dJ1_indexOf_4cfef_22 rfl (lv_at hl 1 rfl) ?_
  refine lv_iload_n B.1 B.2.1 dJ1_indexOf_4cfef_23 rfl (lv_at hl 0 rfl) ?_
  refine z_icmp_lt (tgt := 29) B.1 B.2.1 (zr_of (by decide) (by decide)) (zr_of (by omega) (by omega)) dJ1_indexOf_4cfef_24 (by decide) (fun c_1 => ?_) (fun c_1 => absurd c_1 (by omega))
  refine lv_aload_n B.1 B.2.1 dJ1_indexOf_4cfef_29 rfl (lv_at hl 2 rfl) ?_
  refine lv_iload_n B.1 B.2.1 dJ1_indexOf_4cfef_30 rfl (lv_at hl 3 rfl) ?_
  refine lv_iload_n B.1 B.2.1 dJ1_indexOf_4cfef_31 rfl (lv_at hl 1 rfl) ?_
  refine lv_iload_n B.1 B.2.1 dJ1_indexOf_4cfef_32 rfl (lv_at hl 0 rfl) ?_
  refine j_calls (As := [.ref vS, .int (zI x), .int (zI 0), .int (zI (N : Nat))]) (rest := []) B hE (cJ1_indexOfChar_4cfef_ok l v1 kS vS N bl x h0 h1 hN) (csC 4 B wC_mRJ1_95 wC_st_yJ1_indexOfChar_4cfef wC_in_RJ1 wC_cd_yJ1_indexOfChar_4cfef rfl rfl (by decide +kernel) ⟨Nat.le_of_ble_eq_true rfl, Nat.le_of_ble_eq_true rfl⟩) rfl hl.1 rfl (Nat.le_of_ble_eq_true rfl) dJ1_indexOf_4cfef_33 ⟨Nat.zero_le _, Nat.zero_le _⟩ (fun z hz => ?_)
  subst hz
  exact s_reti B rfl dJ1_indexOf_4cfef_36
set_option maxHeartbeats 1000000 in
set_option maxRecDepth 100000 in
theorem cJ0_indexOf_7cf53_ok (l : Launch) (v1 kS vS N : Nat) (bl : List Int32) (x : Int) (h0 : 0 ≤ x) (h1 : x ≤ 126) (hN : N ≤ 1000) (hN1 : 1 ≤ N) : jMi l yJ0_indexOf_7cf53 (.code yJ0_indexOf_7cf53 cJ0_indexOf_7cf53 3 (some .int) :: TBC) { frames := 2, cells := 0, slots := 0, locals := 100 } v1 kS vS N bl [.ref kS, .int (zI x), .int (zI 0)] (fun z => z = sIxL (fun j => bl.getD j 0) (zI x) N 0) := by
  refine j_of (cc := cJ0_indexOf_7cf53) (maxL := 3) (ret := (some .int)) (C := RJ0) (by decide) rfl rfl (Nat.le_of_ble_eq_true rfl) ?_
  intro p e s m args below meth c ls B hE hl
  have hl : lv_has ls 3 [(0, .ref kS), (1, .int (zI x)), (2, .int (zI 0))] := hl
  have hS : va_S (fun a => v1 ≤ a) s.heap s.heap [] := va_S.rf
  refine lv_aload_n B.1 B.2.1 dJ0_indexOf_7cf53_0 rfl (lv_at hl 0 rfl) ?_
  refine j_callv (As := []) (rest := []) B hE (cJ0_isLatin1_aae02_ok l v1 kS vS N bl) (cwC 0 B wC_mRJ0_492 wC_im_yJ0_isLatin1_aae02 wC_sl_yJ0_isLatin1_aae02 wC_in_RJ0 wC_cd_yJ0_isLatin1_aae02 rfl rfl (by decide +kernel) ⟨Nat.le_of_ble_eq_true rfl, Nat.le_of_ble_eq_true rfl⟩) rfl hl.1 rfl (Nat.le_of_ble_eq_true rfl) dJ0_indexOf_7cf53_1 ⟨Nat.zero_le _, Nat.zero_le _⟩ (fun z hz => ?_)
  subst hz
  refine z_if_eq (tgt := 23) B.1 B.2.1 (zr_of (by decide) (by decide)) dJ0_indexOf_7cf53_4 (by decide) (fun c_1 => absurd c_1 (by decide)) (fun c_1 => ?_)
  refine lv_aload_n B.1 B.2.1 dJ0_indexOf_7cf53_7 rfl (lv_at hl 0 rfl) ?_
  refine vk_getf B.1 B.2.1 (hE.1.1 0 (by decide)).2.2.1 hS B.2.2.2.1 (B.2.2.2.2.1 _ (List.mem_cons_of_mem _ wC_fRJ0_9)) (fun _ h9 => h9) dJ0_indexOf_7cf53_8 ?_
  refine lv_iload_n B.1 B.2.1 dJ0_indexOf_7cf53_11 rfl (lv_at hl 1 rfl) ?_
  refine lv_iload_n B.1 B.2.1 dJ0_indexOf_7cf53_12 rfl (lv_at hl 2 rfl) ?_
  refine lv_aload_n B.1 B.2.1 dJ0_indexOf_7cf53_13 rfl (lv_at hl 0 rfl) ?_
  refine j_callv (As := []) (rest := [.int (zI 0), .int (zI x), .ref vS]) B hE (cJ0_length_8abf5_ok l v1 kS vS N bl) (cwC 0 B wC_mRJ0_505 wC_im_yJ0_length_8abf5 wC_sl_yJ0_length_8abf5 wC_in_RJ0 wC_cd_yJ0_length_8abf5 rfl rfl (by decide +kernel) ⟨Nat.le_of_ble_eq_true rfl, Nat.le_of_ble_eq_true rfl⟩) rfl hl.1 rfl (Nat.le_of_ble_eq_true rfl) dJ0_indexOf_7cf53_14 ⟨Nat.zero_le _, Nat.zero_le _⟩ (fun z hz => ?_)
  subst hz
  refine j_calls (As := [.ref vS, .int (zI x), .int (zI 0), .int (zI (N : Nat))]) (rest := []) B hE (cJ1_indexOf_4cfef_ok l v1 kS vS N bl x h0 h1 hN hN1) (csC 4 B wC_mRJ0_637 wC_st_yJ1_indexOf_4cfef wC_in_RJ1 wC_cd_yJ1_indexOf_4cfef rfl rfl (by decide +kernel) ⟨Nat.le_of_ble_eq_true rfl, Nat.le_of_ble_eq_true rfl⟩) rfl hl.1 rfl (Nat.le_of_ble_eq_true rfl) dJ0_indexOf_7cf53_17 ⟨Nat.zero_le _, Nat.zero_le _⟩ (fun z hz => ?_)
  subst hz
  refine lv_goto (tgt := 36) B.1 B.2.1 dJ0_indexOf_7cf53_20 (by decide) ?_
  exact s_reti B rfl dJ0_indexOf_7cf53_36
set_option maxHeartbeats 1000000 in
set_option maxRecDepth 100000 in
theorem cJ0_indexOf_0f7a4_ok (l : Launch) (v1 kS vS N : Nat) (bl : List Int32) (x : Int) (h0 : 0 ≤ x) (h1 : x ≤ 126) (hN : N ≤ 1000) (hN1 : 1 ≤ N) : jMi l yJ0_indexOf_0f7a4 (.code yJ0_indexOf_0f7a4 cJ0_indexOf_0f7a4 2 (some .int) :: TBC) { frames := 3, cells := 0, slots := 0, locals := 130 } v1 kS vS N bl [.ref kS, .int (zI x)] (fun z => z = sIxL (fun j => bl.getD j 0) (zI x) N 0) := by
  refine j_of (cc := cJ0_indexOf_0f7a4) (maxL := 2) (ret := (some .int)) (C := RJ0) (by decide) rfl rfl (Nat.le_of_ble_eq_true rfl) ?_
  intro p e s m args below meth c ls B hE hl
  have hl : lv_has ls 2 [(0, .ref kS), (1, .int (zI x))] := hl
  have hS : va_S (fun a => v1 ≤ a) s.heap s.heap [] := va_S.rf
  refine lv_aload_n B.1 B.2.1 dJ0_indexOf_0f7a4_0 rfl (lv_at hl 0 rfl) ?_
  refine lv_iload_n B.1 B.2.1 dJ0_indexOf_0f7a4_1 rfl (lv_at hl 1 rfl) ?_
  refine z_iconst B.1 B.2.1 dJ0_indexOf_0f7a4_2 ?_
  refine j_callv (As := [.int (zI x), .int (zI 0)]) (rest := []) B hE (cJ0_indexOf_7cf53_ok l v1 kS vS N bl x h0 h1 hN hN1) (cwC 2 B wC_mRJ0_633 wC_im_yJ0_indexOf_7cf53 wC_sl_yJ0_indexOf_7cf53 wC_in_RJ0 wC_cd_yJ0_indexOf_7cf53 rfl rfl (by decide +kernel) ⟨Nat.le_of_ble_eq_true rfl, Nat.le_of_ble_eq_true rfl⟩) rfl hl.1 rfl (Nat.le_of_ble_eq_true rfl) dJ0_indexOf_0f7a4_3 ⟨Nat.zero_le _, Nat.zero_le _⟩ (fun z hz => ?_)
  subst hz
  exact s_reti B rfl dJ0_indexOf_0f7a4_6
