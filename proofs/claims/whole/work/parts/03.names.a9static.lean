/-! METHODS THAT READ NO HEAP (static, numbers in, a number out); joins of roads -/
def sMi (l : Launch) (y : MethodName) (ws : List Cond) (rm : Room) (As : List Value) (post : Int → Prop) : Prop := Met l y ws rm (va_Pc As (fun _ => True)) (vp_Si (fun r => ∃ z, r = zI z ∧ post z)) 0 0 (fun _ => False)
theorem s_of {l : Launch} {y : MethodName} {ws ws' : List Cond} {rm : Room} {As : List Value} {cc : ByteArray} {maxL : Nat} {ret : Option FieldType} {C : String} {Qc : Array Value → State → Outcome → State → Prop}
    (hy : plainName y.cls = true) (hcls : y.cls = C) (hw : ws = Cond.code y cc maxL ret :: ws') (hn : (lg_sl As).length ≤ maxL)
    (body : ∀ (p : Program) (e : Env) (s : State) (m : MethodId) (args : Array Value) (below : List Frame) (meth : Method) (c : Code) (ls : Array Slot), zAt p s m args meth c C cc maxL ret ws → lv_has ls maxL (lv_args 0 As) →
      W p l e (headSpec ws rm).room s m args below meth c s.heap [] 0 0 (MQ below Qc args s 0 0 (fun _ => False)) (F0 m 0 ls [])) : Met l y ws rm (va_Pc As (fun _ => True)) Qc 0 0 (fun _ => False) := by
  refine Met.ofW (cc := cc) (maxL := maxL) (ret := ret) hy hw ?_
  intro p e s m args below meth c s₁ B hml hv
  obtain ⟨rfl, -⟩ := hv
  rw [lg_entry_eq]
  refine body p e s m _ below meth c _ ⟨B.exec, B.bytes, hml, ?_, atoms_spec (ws := ws) B.pre, B.returns, B.notSynchronized⟩ (lv_entry As hn)
  have := findClass_of_methodNamed B.named
  rw [hcls] at this
  exact this
section SR
variable {p : Program} {l : Launch} {e : Env} {R : Room} {s : State} {m : MethodId} {args : Array Value} {below : List Frame} {meth : Method} {c : Code} {H : Heap} {locs : List Loc} {cells slots : Nat} {Q : State → Prop} {cc : ByteArray} {pc : Nat} {ls : Array Slot} {rest : List Value} {maxL : Nat} {ret : Option FieldType} {ws : List Cond} {index : Nat} {C : String}
theorem s_calli {y : MethodName} {wy : List Cond} {rm : Room} {As : List Value} {post : Int → Prop} {bytes : ByteArray} {mxL n : Nat} {rt : Option FieldType} (B : zAt p s m args meth c C cc maxL ret ws) (hM : sMi l y wy rm As post) (cw : CallB R s args C index y bytes mxL rt wy rm 0 0 n ∧ (Cond.static y).before args s = true) (hn : As.length = n) (hsz : ls.size = maxL) {st : List Value} (hst : st = As.reverse ++ rest) (hroom : (rest.map fun v => v.category).sum ≤ 8) (hd : decode cc pc = .ok (.invokestatic index, 3)) (hf : cells ≤ R.cells ∧ slots ≤ R.slots)
    (kk : ∀ z : Int, post z → W p l e R s m args below meth c H locs cells slots Q (F0 m (pc + 3) ls (.int (zI z) :: rest))) : W p l e R s m args below meth c H locs cells slots Q (F0 m pc ls st) := by
  refine vp_callSi (W.runS (As := As) (rest := rest) (g := F0 m pc ls st) ⟨B.1, B.2.1, B.2.2.1, B.2.2.2.1, B.2.2.2.2.1⟩ hM cw ⟨fun a U g mk h => h, fun U hU hW => ⟨rfl, trivial⟩⟩ rfl hn hsz hst (lv_room hroom) hd hf) (fun r hr => ?_)
  obtain ⟨z, rfl, hz⟩ := hr
  exact kk z hz
theorem s_reti {post : Int → Prop} (B : zAt p s m args meth c C cc maxL (some .int) ws) {r : Int} (hp : post r) (hd : decode cc pc = .ok (.ireturn, 1)) : W p l e R s m args below meth c s.heap [] cells slots (MQ below (vp_Si (fun r => ∃ z, r = zI z ∧ post z)) args s cells slots (fun _ => False)) (F0 m pc ls [.int (zI r)]) :=
  W.iret (v := zI r) B.1 B.2.1 B.2.2.2.2.2.1 (fun t ht _ => ⟨zI r, rfl, ⟨r, rfl, hp⟩, ht⟩) (fun q h => by cases h) hd B.2.2.2.2.2.2
theorem s_retz {post : Int → Prop} (B : zAt p s m args meth c C cc maxL (some .boolean) ws) {r : Int} (hr : r = 0 ∨ r = 1) (hp : post r) (hd : decode cc pc = .ok (.ireturn, 1)) : W p l e R s m args below meth c s.heap [] cells slots (MQ below (vp_Si (fun r => ∃ z, r = zI z ∧ post z)) args s cells slots (fun _ => False)) (F0 m pc ls [.int (zI r)]) :=
  W.zret (v := zI r) B.1 B.2.1 B.2.2.2.2.2.1 (by rcases hr with rfl | rfl <;> decide) (fun t ht _ => ⟨zI r, rfl, ⟨r, rfl, hp⟩, ht⟩) (fun q h => by cases h) hd B.2.2.2.2.2.2
/-- roads that meet at pcJ with one number more on the stack -/
theorem z_join {P : Int → Prop} {pcJ : Nat} {lsJ : Array Slot} {stJ : List Value} {g : JFrame} (J : ∀ v : Int, P v → W p l e R s m args below meth c H locs cells slots Q (F0 m pcJ lsJ (.int (zI v) :: stJ))) (K : (∀ v : Int, P v → W p l e R s m args below meth c H locs cells slots Q (F0 m pcJ lsJ (.int (zI v) :: stJ))) → W p l e R s m args below meth c H locs cells slots Q g) : W p l e R s m args below meth c H locs cells slots Q g := K J
/-- roads that meet at pcJ, whatever they did to heap and locals -/
theorem z_joinA {P : Array Slot → Heap → List Loc → Prop} {pcJ : Nat} {stJ : List Value} {g : JFrame} (J : ∀ (ls' : Array Slot) (H' : Heap) (locs' : List Loc), P ls' H' locs' → W p l e R s m args below meth c H' locs' cells slots Q (F0 m pcJ ls' stJ)) (K : (∀ (ls' : Array Slot) (H' : Heap) (locs' : List Loc), P ls' H' locs' → W p l e R s m args below meth c H' locs' cells slots Q (F0 m pcJ ls' stJ)) → W p l e R s m args below meth c H locs cells slots Q g) : W p l e R s m args below meth c H locs cells slots Q g := K J
/-- .. with a number more, whatever they did to the heap -/
theorem z_joinH {P : Int → Heap → List Loc → Prop} {pcJ : Nat} {lsJ : Array Slot} {stJ : List Value} {g : JFrame} (J : ∀ (v : Int) (H' : Heap) (locs' : List Loc), P v H' locs' → W p l e R s m args below meth c H' locs' cells slots Q (F0 m pcJ lsJ (.int (zI v) :: stJ))) (K : (∀ (v : Int) (H' : Heap) (locs' : List Loc), P v H' locs' → W p l e R s m args below meth c H' locs' cells slots Q (F0 m pcJ lsJ (.int (zI v) :: stJ))) → W p l e R s m args below meth c H locs cells slots Q g) : W p l e R s m args below meth c H locs cells slots Q g := K J
end SR
