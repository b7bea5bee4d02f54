/-! THE LAW'S OWN METHODS: each calls one of the component's and says whether it threw -/
section CT
variable {p : Program} {l : Launch} {e : Env} {R : Room} {s : State} {m : MethodId} {args : Array Value} {below : List Frame} {meth : Method} {c : Code} {H : Heap} {locs : List Loc} {cells slots : Nat} {Q : State → Prop} {pc : Nat} {ls : Array Slot} {rest : List Value}
/-- an exception of the class E comes to a frame whose table has one row, and that row takes E: on at its handler -/
theorem ct_catch {own name E : String} {ce : Cell} {q : Addr} (hown : s.vm.findClass own = some m.cls) (x : ExceptionTableEntry) (htab : c.exceptionTable.toList = [x]) (hx : covers x pc = true) (h0 : x.catchType ≠ 0)
    (hlink : (Cond.classLink own x.catchType name).before args s = true) (hcast : (Cond.castable E name).before args s = true) (hcell : H[q]? = some ce) (hv : ce.vm = .none) (hcl : s.vm.findClass E = some ce.cls)
    (kk : W p l e R s m args below meth c H locs cells slots Q (F0 m x.handlerPc ls [.ref q])) : vx_W p l e R s m args below meth c H locs cells slots Q (F0 m pc ls rest) q := by
  intro T hT X
  have hpl : e.platform.magicAccessors = ({} : Platform).magicAccessors := by rw [X.admits.platform]
  obtain ⟨c3, c4, hc3, hc4, hasg⟩ := Cond.castable_spec hcast
  cases Option.some.inj (hc3.symm.trans hcl)
  obtain ⟨c5, hc5, hl⟩ := Cond.classLink_spec hown hlink e.platform hpl
  cases Option.some.inj (hc4.symm.trans hc5)
  obtain ⟨dk, _, _, kt, hd, _, _, _, _, hkt, _, hopen⟩ := hl.here
  obtain ⟨k0, hk0, -⟩ := Vm.findClass_spec hcl
  have hW' : s.WarmedH (T.vm.noted m.cls x.catchType (.cls c4)) := X.warmed.noted hd hopen (State.rightAt_cls hl)
  obtain ⟨t, a1, b1⟩ := kk (T.setVm (T.vm.noted m.cls x.catchType (.cls c4))) hT (X.noted hW')
  refine ⟨t, ?_, b1⟩
  obtain ⟨k1, hk1, -⟩ := hW'.alike.2.2 _ _ hk0
  obtain ⟨k2, hk2, -⟩ := hW'.alike.2.2 _ _ hkt
  have hfit : (T.vm.noted m.cls x.catchType (.cls c4)).assignable ce.cls c4 = true := by rw [hW'.alike.assignable]; exact hasg
  have hcT : T.heap[q]? = some ce := by rw [hT]; exact hcell
  have hno : ∀ k, ce.vm ≠ .statics k := fun k h => by rw [hv] at h; cases h
  have hfind : ∀ (Q9 : Handler → Pre) (E9 : CtlPost) (d9 : Bool) (acts : List Action), wp (findHandler (F0 m pc ls rest) q) Q9 E9 e d9 acts ((T.setTop (F0 m pc ls rest)).pushFrame (.throwing q)) ↔ Q9 (.found x.handlerPc) d9 acts (((T.setTop (F0 m pc ls rest)).pushFrame (.throwing q)).setVm (T.vm.noted m.cls x.catchType (.cls c4))) := by
    intro Q9 E9 d9 acts
    have hx' := hx
    simp only [covers] at hx'
    obtain ⟨ha, ht⟩ := (resolveClass_links e.toSetting (X.warmed.classLinks hl)).op (op := VmOp.resolveClass m.cls x.catchType) rfl
    have hm' : ((T.setTop (F0 m pc ls rest)).pushFrame (.throwing q)).vm.method? (F0 m pc ls rest).method = some meth := X.method'
    have hh' : ((T.setTop (F0 m pc ls rest)).pushFrame (.throwing q)).heap[q]? = some ce := hcT
    have hvm' : ((T.setTop (F0 m pc ls rest)).pushFrame (.throwing q)).vm = T.vm := rfl
    rw [Jvm.W.findHandler_eq hm' X.code, htab]
    generalize (T.setTop (F0 m pc ls rest)).pushFrame (.throwing q) = U at hh' hvm' ⊢
    rw [← hvm'] at ha ht hk1 hk2 hfit ⊢
    simp [findHandler.go, hx', h0, ha, ht, hh', hno, hk1, hk2, hfit, VmOp.dirties, VmOp.acts]
  obtain ⟨hg1, hg2⟩ := X.here.throwing (g := F0 m pc ls rest) q
  refine Steps.head hg1 hg2 ?_
  have hst : ∀ r : List Frame, (stepThrowing e ((T.setTop (F0 m pc ls rest)).pushFrame (.throwing q)) q (.java (F0 m pc ls rest) :: r)).Is ((((T.setTop (F0 m pc ls rest)).pushFrame (.throwing q)).setVm (T.vm.noted m.cls x.catchType (.cls c4))).setFrames (.java (F0 m x.handlerPc ls [.ref q]) :: r)) [] := by
    intro r
    simp only [stepThrowing, searchFrame, vmDo]
    generalize hr : Sem.go _ e false [] ((T.setTop (F0 m pc ls rest)).pushFrame (.throwing q)) = res
    obtain ⟨as, rfl, ha⟩ := Sem.eq_ok_of hr (a := Handler.found x.handlerPc) (s' := ((T.setTop (F0 m pc ls rest)).pushFrame (.throwing q)).setVm (T.vm.noted m.cls x.catchType (.cls c4))) (acts' := []) (by simp [hfind _ _ _ _])
    exact ⟨rfl, ha⟩
  rw [stepThread_throwing (frames_entered X.here.top _), (hst _).1]
  obtain ⟨g₀, hg⟩ := Option.isSome_iff_exists.mp X.here.top
  obtain ⟨r, hr⟩ := State.topJava?_eq_some.mp hg
  have hr' : (T.setVm (T.vm.noted m.cls x.catchType (.cls c4))).frames = .java g₀ :: r := hr
  rw [State.setTop_of_frames _ hr'] at a1
  rw [hr, List.tail_cons, State.pushFrame, State.setTop_of_frames _ hr]
  have e1 : ∀ (F G : List Frame) (v9 : Vm), ((T.setFrames F).setVm v9).setFrames G = (T.setVm v9).setFrames G := fun F G v9 => by
    rw [show (T.setFrames F).setVm v9 = (T.setVm v9).setFrames F from rfl, State.setFrames_setFrames]
  rw [State.setFrames_setFrames, e1]
  exact a1
end CT
abbrev oW (cy : Nat → ClassId) (ao : Nat) (f : Nat → Int64) : va_W := [(ao, .inl (cy 2, 1, .inr (.inl f)))]
def sA (q : Nat → Nat) (n0 ao : Nat) : Nat → Prop := fun a => gA q n0 a ∨ a = ao
def sPre (D : va_G) (cy : Nat → ClassId) (q : Nat → Nat) (V : Nat × (Nat → Nat)) (n0 ao : Nat) (S : CSt) (f : Nat → Int64) (As : List Value) : Array Value → State → Prop := va_Pc As (fun U => (va_P D vwCl (cW cy q S) U.heap ∧ va_D (fun a => V.1 ≤ a) (cW cy q S)) ∧ (va_P D vwCl (oW cy ao f) U.heap ∧ ¬ cA q ao ∧ ao < n0) ∧ va_K D vwCl (zTY cy) U ∧ cEnv V U U.heap ∧ n0 ≤ U.heap.size ∧ V.1 ≤ n0)
/-- what stands behind the component's call -/
def sF (D : va_G) (cy : Nat → ClassId) (q : Nat → Nat) (x y n0 ao : Nat) (r : CR) (z : CSt × Nat × Nat) (f : Nat → Int64) (H : Heap) : Prop := z.1 = r.2.2 ∧ (r.1 = 0 → f 0 = (zI r.2.1).toInt64) ∧ va_P D vwCl (cW cy (cq q z.2.1 z.2.2) z.1) H ∧ va_D (gA (cq q x y) n0) (cW cy (cq q z.2.1 z.2.2) z.1) ∧ va_P D vwCl (oW cy ao f) H
def sQ (D : va_G) (cy : Nat → ClassId) (q : Nat → Nat) (x y n0 ao : Nat) (r : CR) : Array Value → State → Outcome → State → Prop := va_Qi (S := (CSt × Nat × Nat) × (Nat → Int64)) (fun k _ => k = zI r.1) (fun u t => sF D cy q x y n0 ao r u.1 u.2 t.heap) (sA (cq q x y) n0 ao)
def sX9 (q : Nat → Nat) (n0 ao : Nat) : String → State → State → Prop := vx_X (S := Unit) (fun _ => False) (fun _ _ _ => True) (sA q n0 ao)
def sM (l : Launch) (D : va_G) (cy : Nat → ClassId) (q : Nat → Nat) (V : Nat × (Nat → Nat)) (n0 x y ao : Nat) (yn : MethodName) (ws : List Cond) (fr lo : Nat) (S : CSt) (f : Nat → Int64) (As : List Value) (r : CR) : Prop := vx_Met l yn ws (gRm fr lo S) (sPre D cy (cq q x y) V n0 ao S f As) (sQ D cy q x y n0 ao r) (sX9 (cq q x y) n0 ao) (gc S r) (gs S r) (sA (cq q x y) n0 ao)
theorem sPre_blind {D : va_G} {cy : Nat → ClassId} {q : Nat → Nat} {V : Nat × (Nat → Nat)} {n0 ao : Nat} {S : CSt} {f : Nat → Int64} {As : List Value} : FrameBlind (sPre D cy q V n0 ao S f As) := by
  intro a U g mk h
  obtain ⟨h0, hP, hO, hK, hE, hn, hn'⟩ := h
  refine ⟨h0, hP, hO, va_K.moved (u := U) (U := U.calling g mk a) (Vm.Alike.refl U.vm) hK, ?_, hn, hn'⟩
  exact cEnv.go (s := U) (U := U.calling g mk a) (A := fun a => V.1 ≤ a) hE (fun _ h => h) va_S.rf (State.WarmedH.refl U)
theorem oW_D {cy : Nat → ClassId} {ao : Nat} {f : Nat → Int64} {A : Nat → Prop} (h : A ao) : va_D A (oW cy ao f) := by
  refine ⟨fun i j a b ha hb _ => ?_, fun k a ha => ?_⟩
  · cases i with
    | zero => cases j with
      | zero => rfl
      | succ j => simp at hb
    | succ i => simp at ha
  · cases k with
    | zero => cases ha; exact h
    | succ k => simp at ha
theorem cA_lt {D : va_G} {cy : Nat → ClassId} {q : Nat → Nat} {S : CSt} {H : Heap} (h : va_P D vwCl (cW cy q S) H) : ∀ a, cA q a → a < H.size := by
  rintro a ⟨n, hn, rfl⟩
  exact vx_lt h (cW_get hn)
theorem oW_lt {D : va_G} {cy : Nat → ClassId} {ao : Nat} {f : Nat → Int64} {H : Heap} (h : va_P D vwCl (oW cy ao f) H) : ao < H.size := vx_lt h (k := 0) rfl
/-- what a body of such a method has -/
def sBd (D : va_G) (cy : Nat → ClassId) (q : Nat → Nat) (V : Nat × (Nat → Nat)) (n0 x y ao : Nat) (S : CSt) (f : Nat → Int64) (s : State) (c : Code) (hh : List (Nat × Nat × Nat × Nat)) : Prop := (va_P D vwCl (cW cy (cq q x y) S) s.heap ∧ va_D (fun a => V.1 ≤ a) (cW cy (cq q x y) S)) ∧ (va_P D vwCl (oW cy ao f) s.heap ∧ ¬ cA (cq q x y) ao ∧ ao < n0) ∧ va_K D vwCl (zTY cy) s ∧ cEnv V s s.heap ∧ (n0 ≤ s.heap.size ∧ V.1 ≤ n0) ∧ c.exceptionTable.toList = tableOf hh
theorem sl_of {l : Launch} {D : va_G} {cy : Nat → ClassId} {q : Nat → Nat} {V : Nat × (Nat → Nat)} {n0 x y ao : Nat} {yn : MethodName} {ws ws' : List Cond} {fr lo : Nat} {S : CSt} {f : Nat → Int64} {As : List Value} {r : CR} {cc : ByteArray} {maxL : Nat} {hh : List (Nat × Nat × Nat × Nat)}
    (hy : plainName yn.cls = true) (hcls : yn.cls = RL) (hw : ws = Cond.codeWith yn cc maxL (some .int) hh :: ws') (hn : (lg_sl As).length ≤ maxL)
    (body : ∀ (p : Program) (e : Env) (s : State) (m : MethodId) (args : Array Value) (below : List Frame) (meth : Method) (c : Code) (ls : Array Slot), zAt p s m args meth c RL cc maxL (some .int) ws → sBd D cy q V n0 x y ao S f s c hh → lv_has ls maxL (lv_args 0 As) →
      W p l e (headSpec ws (gRm fr lo S)).room s m args below meth c s.heap [] 0 0 (vx_MQ below (sQ D cy q x y n0 ao r) (sX9 (cq q x y) n0 ao) args s (gc S r) (gs S r) (sA (cq q x y) n0 ao)) (F0 m 0 ls [])) : sM l D cy q V n0 x y ao yn ws fr lo S f As r := by
  refine vx_ofWH (cc := cc) (maxL := maxL) (ret := some .int) (hh := hh) hy hw ?_
  intro p e s m args below meth c s₁ B hml hv
  obtain ⟨rfl, hP, hO, hK, hE, hs, hs'⟩ := hv
  rw [lg_entry_eq]
  exact body p e s m _ below meth c _ ⟨B.exec, B.bytes, hml, (by have := findClass_of_methodNamed B.named; rw [hcls] at this; exact this), atoms_spec (ws := ws) B.pre, B.returns, B.notSynchronized⟩ ⟨hP, hO, hK, hE, ⟨hs, hs'⟩, vx_table (x := yn) B (atoms_spec (ws := ws) B.pre _ (by rw [hw]; exact List.mem_cons_self))⟩ (lv_entry As hn)
section SC
variable {p : Program} {l : Launch} {e : Env} {R : Room} {s : State} {m : MethodId} {args : Array Value} {below : List Frame} {meth : Method} {c : Code} {H : Heap} {locs : List Loc} {cc : ByteArray} {pc : Nat} {ls : Array Slot}
variable {D : va_G} {cy : Nat → ClassId} {q : Nat → Nat} {V : Nat × (Nat → Nat)} {n0 x y ao : Nat} {S : CSt} {maxL : Nat} {ws : List Cond} {index : Nat} {E : String} {r : CR} {f : Nat → Int64} {hh : List (Nat × Nat × Nat × Nat)}
theorem s_ret (B : zAt p s m args meth c RL cc maxL (some .int) ws) {z : CSt × Nat × Nat} {f1 : Nat → Int64} (h : sF D cy q x y n0 ao r z f1 H) (hS : va_S (sA (cq q x y) n0 ao) s.heap H locs) {k : Int} (hk : r.1 = k) (hd : decode cc pc = .ok (.ireturn, 1)) :
    W p l e R s m args below meth c H locs (gc S r) (gs S r) (vx_MQ below (sQ D cy q x y n0 ao r) (sX9 (cq q x y) n0 ao) args s (gc S r) (gs S r) (sA (cq q x y) n0 ao)) (F0 m pc ls [.int (zI k)]) :=
  vx_ret (W.iret (v := zI k) B.1 B.2.1 B.2.2.2.2.2.1 (fun t ht _ => ⟨⟨zI k, (z, f1), rfl, by rw [hk], by show sF D cy q x y n0 ao r z f1 t.heap; rw [ht]; exact h⟩, hS.F ht⟩) hS.2.2 hd B.2.2.2.2.2.2)
/-- the component's call, and what is done with its answer -/
theorem s_core {yn : MethodName} {fr lo : Nat} {As : List Value} {bytes : ByteArray} {mxL na : Nat} {rt : Option FieldType} (B : zAt p s m args meth c RL cc maxL (some .int) ws) (hB : sBd D cy q V n0 x y ao S f s c hh) (x9 : ExceptionTableEntry) (hx9 : tableOf hh = [x9]) (hcov : covers x9 pc = true) (h09 : x9.catchType ≠ 0) (hlk : Cond.classLink RL x9.catchType E ∈ ws) (hE9 : E ∈ sX)
    (hM : gMi l D cy q V n0 x y E yn (.code yn bytes mxL rt :: TBC) fr lo S (.ref (q 0) :: As) r) (cw : CallW R s args RL RX6 index yn bytes mxL rt (.code yn bytes mxL rt :: TBC) (gRm fr lo S) ((gK - gl S) + 1) (2 * (gK - gl S) + 6) na) (hna : As.length = na) (hsz : ls.size = maxL) {st : List Value} (hst : st = As.reverse ++ .ref (q 0) :: [.int (zI 0), .ref ao])
    (hd : decode cc pc = .ok (.invokevirtual index, 3)) (hd3 : decode cc (pc + 3) = .ok (.i2l, 1)) (hd4 : decode cc (pc + 3 + 1) = .ok (.lastore, 1)) (hR : R.cells = (gK - gl S) + 1 ∧ R.slots = 2 * (gK - gl S) + 6)
    (kx : ∀ (z : CSt × Nat × Nat) (H1 : Heap) (locs1 : List Loc) (q9 : Nat), r.1 = 1 → sF D cy q x y n0 ao r z f H1 → va_S (sA (cq q x y) n0 ao) s.heap H1 locs1 → W p l e R s m args below meth c H1 locs1 (gc S r) (gs S r) (vx_MQ below (sQ D cy q x y n0 ao r) (sX9 (cq q x y) n0 ao) args s (gc S r) (gs S r) (sA (cq q x y) n0 ao)) (F0 m x9.handlerPc ls [.ref q9]))
    (kk : ∀ (z : CSt × Nat × Nat) (f1 : Nat → Int64) (H1 : Heap) (locs1 : List Loc), r.1 = 0 → sF D cy q x y n0 ao r z f1 H1 → va_S (sA (cq q x y) n0 ao) s.heap H1 locs1 → W p l e R s m args below meth c H1 locs1 (gc S r) (gs S r) (vx_MQ below (sQ D cy q x y n0 ao r) (sX9 (cq q x y) n0 ao) args s (gc S r) (gs S r) (sA (cq q x y) n0 ao)) (F0 m (pc + 3 + 1 + 1) ls [])) :
    W p l e R s m args below meth c s.heap [] 0 0 (vx_MQ below (sQ D cy q x y n0 ao r) (sX9 (cq q x y) n0 ao) args s (gc S r) (gs S r) (sA (cq q x y) n0 ao)) (F0 m pc ls st) := by
  obtain ⟨⟨hP, hD⟩, ⟨hO, hao, han⟩, hK, hEn, ⟨hn0, hV0⟩, htb⟩ := hB
  have hAA : ∀ a, gA (cq q x y) n0 a → sA (cq q x y) n0 ao a := fun a ha => Or.inl ha
  have e0 : cq q x y 0 = q 0 := cq_ne (Or.inl (by decide))
  have hgn : ¬ gA (cq q x y) n0 ao := fun h => h.elim hao (fun h => absurd han (Nat.not_lt.mpr h))
  have hM' : gMi l D cy q V n0 x y E yn (.code yn bytes mxL rt :: TBC) fr lo S (.ref (cq q x y 0) :: As) r := by rw [e0]; exact hM
  refine vx_calli (gx_runV (As := As) (rest := [.int (zI 0), .ref ao]) (g := F0 m pc ls st) (b := cq q x y 0) ⟨B.1, B.2.1, B.2.2.1, B.2.2.2.1, B.2.2.2.2.1⟩ hM' cw ⟨gPre_blind, va_recv hK hP (ci := cK 0) (q := (RX6, TX6, 13)) (q0 := 0) rfl (by rw [cW_get (by decide), cE_obj (by decide)]), fun U hU hW => ⟨rfl, by rw [hU]; exact hP, va_K.moved hW.alike hK, hD, by rw [hU]; exact hEn.go (A := fun a => V.1 ≤ a) (fun _ h => h) va_S.rf hW, by rw [hU]; exact hn0, hV0⟩⟩ rfl hna hsz (by rw [e0]; exact hst) (lv_room (Nat.le_of_ble_eq_true rfl)) hd (by rw [hR.1, hR.2, Nat.zero_add, Nat.zero_add]; exact ⟨Nat.le_refl _, Nat.le_refl _⟩)) (A0 := sA (cq q x y) n0 ao) (H0 := s.heap) va_S.rf (fun a _ ha => hAA a ha) (fun a ha => hAA a ha) (fun a _ ha => hAA a ha) ?_ ?_
  · intro E9 ce q9 u t H1 locs1 ht _ hp hB2 hz hk hS h7 h8 h9
    obtain ⟨S1, x1, y1⟩ := u
    obtain ⟨hE2, hP1, hD1⟩ := hB2
    rw [hE2] at h9
    have hr : r = (1, 0, S1) := hp
    rw [Nat.zero_add, Nat.zero_add]
    refine ct_catch (own := RL) (name := E) (E := E) B.2.2.2.1 x9 (by rw [htb, hx9]) hcov h09 (B.2.2.2.2.1 _ hlk) (va_Nw.use rfl (hEn.2.2.2.1 _ hE9)) h7 h8 h9 ?_
    refine kx (S1, x1, y1) H1 locs1 q9 (by rw [hr]) ⟨by rw [hr], fun h => absurd h (by rw [hr]; show ¬ (1 : Int) = 0; decide), by rw [← ht]; exact hP1, hD1, ?_⟩ hS
    exact va_P.kept hO (fun k z hz => hk z.1 (vx_lt hO hz) (by
      cases k with
      | zero => cases hz; exact hgn
      | succ k => simp at hz))
  · intro k9 u t H1 locs1 ht _ hp hB2 hz hk hS
    obtain ⟨v, S1, x1, y1⟩ := u
    obtain ⟨rfl, hr⟩ := hp
    obtain ⟨hP1, hD1⟩ := hB2
    have hr : r = (0, v, S1) := hr
    rw [Nat.zero_add, Nat.zero_add]
    have hP1 : va_P D vwCl (cW cy (cq q x1 y1) S1) H1 := by rw [← ht]; exact hP1
    have hO1 : va_P D vwCl (oW cy ao f) H1 := va_P.kept hO (fun k z hz => hk z.1 (vx_lt hO hz) (by
      cases k with
      | zero => cases hz; exact hgn
      | succ k => simp at hz))
    have hPJ : va_P D vwCl (oW cy ao f ++ cW cy (cq q x1 y1) S1) H1 := va_P.app hO1 hP1
    have hDJ : va_D (sA (cq q x y) n0 ao) (oW cy ao f ++ cW cy (cq q x1 y1) S1) := by
      refine va_D.app (oW_D (Or.inr rfl)) (hD1.weaken (fun _ _ _ h => Or.inl h)) ?_
      intro i j a b ha hb hab
      cases i with
      | zero =>
        cases ha
        have := hD1.2 j b hb
        rw [← hab] at this
        exact hgn this
      | succ i => simp at ha
    refine lv_i2l B.1 B.2.1 hd3 rfl ?_
    refine va_last (cl := vwCl) (tys := zTY cy) (A := sA (cq q x y) n0 ao) (H0 := s.heap) (ws := oW cy ao f ++ cW cy (cq q x1 y1) S1) (f := f) (i := zI 0) B.1 B.2.1 hK hPJ hDJ hS 0 2 rfl rfl (zI_in zr0 (by decide) (by decide)) hd4 (fun H2 locs2 hP2 _ hS2 => ?_)
    have hP2 : va_P D vwCl (oW cy ao (vp_updL f 0 (zI v).toInt64) ++ cW cy (cq q x1 y1) S1) H2 := hP2
    refine kk (S1, x1, y1) (vp_updL f 0 (zI v).toInt64) H2 locs2 (by rw [hr]) ⟨by rw [hr], fun _ => by rw [hr]; exact pk_uLs, ?_, hD1, ?_⟩ hS2
    · exact hP2.by (fun k => k + 1) (fun k z hz => hz)
    · exact hP2.by (fun k => k) (fun k z hz => by
        cases k with
        | zero => exact hz
        | succ k => simp at hz)
end SC
set_option maxRecDepth 100000 in
theorem cL_type_ok (l : Launch) (D : va_G) (cy : Nat → ClassId) (q : Nat → Nat) (V : Nat × (Nat → Nat)) (n0 x y ao : Nat) (S : CSt) (f : Nat → Int64) (s9 : Int64) (v9 : Int) (r : CR) (hM : gMi l D cy q V n0 x y "java/lang/IllegalArgumentException" yX6_type (.code yX6_type cX6_type 6 (some .int) :: TBC) 6 90 S [.ref (q 0), .long s9, .int (zI v9)] r) : sM l D cy q V n0 x y ao yL_type (Cond.codeWith yL_type cL_type 6 (some .int) [(0, 11, 14, 13)] :: TBL) 7 115 S f [.ref (q 0), .long s9, .int (zI v9), .ref ao] r := by
  refine sl_of (cc := cL_type) (maxL := 6) (hh := [(0, 11, 14, 13)]) (by decide) rfl rfl (Nat.le_of_ble_eq_true rfl) ?_
  intro p e s m args below meth c ls B hB hl
  have hl : lv_has ls 6 [(0, .ref (q 0)), (1, .long s9), (3, .int (zI v9)), (4, .ref ao)] := hl
  refine lv_aload B.1 B.2.1 dL_type_0 (lv_at hl 3 rfl) ?_
  refine z_iconst B.1 B.2.1 dL_type_2 ?_
  refine lv_aload_n B.1 B.2.1 dL_type_3 rfl (lv_at hl 0 rfl) ?_
  refine lv_lload_n B.1 B.2.1 dL_type_4 rfl (lv_at hl 1 rfl) ?_
  refine lv_iload_n B.1 B.2.1 dL_type_5 rfl (lv_at hl 2 rfl) ?_
  refine s_core (As := [.long s9, .int (zI v9)]) (E := "java/lang/IllegalArgumentException") B hB { startPc := 0, endPc := 11, handlerPc := 14, catchType := 13 } rfl (by decide) (by decide) (List.mem_cons_of_mem _ wL_c_13) sX_java_lang_IllegalArgumentException hM (cwL 2 B wL_m_type wL_i_type wL_s_type wC_cd_yX6_type rfl rfl (by decide +kernel) ⟨Nat.le_refl _, Nat.le_of_ble_eq_true rfl⟩) rfl hl.1 rfl dL_type_6 dL_type_9 dL_type_10 ⟨rfl, rfl⟩ ?_ ?_
  · intro z H1 locs1 q9 hr hF hS
    refine lv_astore (lv' := (5, .ref q9) :: [(0, .ref (q 0)), (1, .long s9), (3, .int (zI v9)), (4, .ref ao)]) B.1 B.2.1 dL_type_14 hl (by decide) rfl (fun ls hl => ?_)
    refine z_iconst B.1 B.2.1 dL_type_16 ?_
    exact s_ret B hF hS hr dL_type_17
  · intro z f1 H1 locs1 hr hF hS
    refine lv_goto (tgt := 18) B.1 B.2.1 dL_type_11 (by decide) ?_
    refine z_iconst B.1 B.2.1 dL_type_18 ?_
    exact s_ret B hF hS hr dL_type_19
set_option maxRecDepth 100000 in
theorem cL_pattern_ok (l : Launch) (D : va_G) (cy : Nat → ClassId) (q : Nat → Nat) (V : Nat × (Nat → Nat)) (n0 x y ao : Nat) (S : CSt) (f : Nat → Int64) (v9 : Int) (r : CR) (hM : gMi l D cy q V n0 x y "java/lang/IllegalArgumentException" yX6_pattern (.code yX6_pattern cX6_pattern 3 (some .int) :: TBC) 128 2866 S [.ref (q 0), .int (zI v9)] r) : sM l D cy q V n0 x y ao yL_pattern (Cond.codeWith yL_pattern cL_pattern 4 (some .int) [(0, 9, 12, 13)] :: TBL) 129 2888 S f [.ref (q 0), .int (zI v9), .ref ao] r := by
  refine sl_of (cc := cL_pattern) (maxL := 4) (hh := [(0, 9, 12, 13)]) (by decide) rfl rfl (Nat.le_of_ble_eq_true rfl) ?_
  intro p e s m args below meth c ls B hB hl
  have hl : lv_has ls 4 [(0, .ref (q 0)), (1, .int (zI v9)), (2, .ref ao)] := hl
  refine lv_aload_n B.1 B.2.1 dL_pattern_0 rfl (lv_at hl 2 rfl) ?_
  refine z_iconst B.1 B.2.1 dL_pattern_1 ?_
  refine lv_aload_n B.1 B.2.1 dL_pattern_2 rfl (lv_at hl 0 rfl) ?_
  refine lv_iload_n B.1 B.2.1 dL_pattern_3 rfl (lv_at hl 1 rfl) ?_
  refine s_core (As := [.int (zI v9)]) (E := "java/lang/IllegalArgumentException") B hB { startPc := 0, endPc := 9, handlerPc := 12, catchType := 13 } rfl (by decide) (by decide) (List.mem_cons_of_mem _ wL_c_13) sX_java_lang_IllegalArgumentException hM (cwL 1 B wL_m_pattern wL_i_pattern wL_s_pattern wC_cd_yX6_pattern rfl rfl (by decide +kernel) ⟨Nat.le_refl _, Nat.le_of_ble_eq_true rfl⟩) rfl hl.1 rfl dL_pattern_4 dL_pattern_7 dL_pattern_8 ⟨rfl, rfl⟩ ?_ ?_
  · intro z H1 locs1 q9 hr hF hS
    refine lv_astore_n (lv' := (3, .ref q9) :: [(0, .ref (q 0)), (1, .int (zI v9)), (2, .ref ao)]) B.1 B.2.1 dL_pattern_12 rfl hl (by decide) rfl (fun ls hl => ?_)
    refine z_iconst B.1 B.2.1 dL_pattern_13 ?_
    exact s_ret B hF hS hr dL_pattern_14
  · intro z f1 H1 locs1 hr hF hS
    refine lv_goto (tgt := 15) B.1 B.2.1 dL_pattern_9 (by decide) ?_
    refine z_iconst B.1 B.2.1 dL_pattern_15 ?_
    exact s_ret B hF hS hr dL_pattern_16
set_option maxRecDepth 100000 in
theorem cL_text_ok (l : Launch) (D : va_G) (cy : Nat → ClassId) (q : Nat → Nat) (V : Nat × (Nat → Nat)) (n0 x y ao : Nat) (S : CSt) (f : Nat → Int64) (r : CR) (hM : gMi l D cy q V n0 x y "java/lang/IllegalStateException" yX6_text (.code yX6_text cX6_text 1 (some .int) :: TBC) 6 90 S [.ref (q 0)] r) : sM l D cy q V n0 x y ao yL_text (Cond.codeWith yL_text cL_text 3 (some .int) [(0, 8, 11, 23)] :: TBL) 7 110 S f [.ref (q 0), .ref ao] r := by
  refine sl_of (cc := cL_text) (maxL := 3) (hh := [(0, 8, 11, 23)]) (by decide) rfl rfl (Nat.le_of_ble_eq_true rfl) ?_
  intro p e s m args below meth c ls B hB hl
  have hl : lv_has ls 3 [(0, .ref (q 0)), (1, .ref ao)] := hl
  refine lv_aload_n B.1 B.2.1 dL_text_0 rfl (lv_at hl 1 rfl) ?_
  refine z_iconst B.1 B.2.1 dL_text_1 ?_
  refine lv_aload_n B.1 B.2.1 dL_text_2 rfl (lv_at hl 0 rfl) ?_
  refine s_core (As := []) (E := "java/lang/IllegalStateException") B hB { startPc := 0, endPc := 8, handlerPc := 11, catchType := 23 } rfl (by decide) (by decide) (List.mem_cons_of_mem _ wL_c_23) sX_java_lang_IllegalStateException hM (cwL 0 B wL_m_text wL_i_text wL_s_text wC_cd_yX6_text rfl rfl (by decide +kernel) ⟨Nat.le_refl _, Nat.le_of_ble_eq_true rfl⟩) rfl hl.1 rfl dL_text_3 dL_text_6 dL_text_7 ⟨rfl, rfl⟩ ?_ ?_
  · intro z H1 locs1 q9 hr hF hS
    refine lv_astore_n (lv' := (2, .ref q9) :: [(0, .ref (q 0)), (1, .ref ao)]) B.1 B.2.1 dL_text_11 rfl hl (by decide) rfl (fun ls hl => ?_)
    refine z_iconst B.1 B.2.1 dL_text_12 ?_
    exact s_ret B hF hS hr dL_text_13
  · intro z f1 H1 locs1 hr hF hS
    refine lv_goto (tgt := 14) B.1 B.2.1 dL_text_8 (by decide) ?_
    refine z_iconst B.1 B.2.1 dL_text_14 ?_
    exact s_ret B hF hS hr dL_text_15
set_option maxRecDepth 100000 in
theorem cL_start_ok (l : Launch) (D : va_G) (cy : Nat → ClassId) (q : Nat → Nat) (V : Nat × (Nat → Nat)) (n0 x y ao : Nat) (S : CSt) (f : Nat → Int64) (v9 : Int) (r : CR) (hM : gMi l D cy q V n0 x y "java/lang/IllegalArgumentException" yX6_start (.code yX6_start cX6_start 2 (some .int) :: TBC) 6 90 S [.ref (q 0), .int (zI v9)] r) : sM l D cy q V n0 x y ao yL_start (Cond.codeWith yL_start cL_start 4 (some .int) [(0, 9, 12, 13)] :: TBL) 7 111 S f [.ref (q 0), .int (zI v9), .ref ao] r := by
  refine sl_of (cc := cL_start) (maxL := 4) (hh := [(0, 9, 12, 13)]) (by decide) rfl rfl (Nat.le_of_ble_eq_true rfl) ?_
  intro p e s m args below meth c ls B hB hl
  have hl : lv_has ls 4 [(0, .ref (q 0)), (1, .int (zI v9)), (2, .ref ao)] := hl
  refine lv_aload_n B.1 B.2.1 dL_start_0 rfl (lv_at hl 2 rfl) ?_
  refine z_iconst B.1 B.2.1 dL_start_1 ?_
  refine lv_aload_n B.1 B.2.1 dL_start_2 rfl (lv_at hl 0 rfl) ?_
  refine lv_iload_n B.1 B.2.1 dL_start_3 rfl (lv_at hl 1 rfl) ?_
  refine s_core (As := [.int (zI v9)]) (E := "java/lang/IllegalArgumentException") B hB { startPc := 0, endPc := 9, handlerPc := 12, catchType := 13 } rfl (by decide) (by decide) (List.mem_cons_of_mem _ wL_c_13) sX_java_lang_IllegalArgumentException hM (cwL 1 B wL_m_start wL_i_start wL_s_start wC_cd_yX6_start rfl rfl (by decide +kernel) ⟨Nat.le_refl _, Nat.le_of_ble_eq_true rfl⟩) rfl hl.1 rfl dL_start_4 dL_start_7 dL_start_8 ⟨rfl, rfl⟩ ?_ ?_
  · intro z H1 locs1 q9 hr hF hS
    refine lv_astore_n (lv' := (3, .ref q9) :: [(0, .ref (q 0)), (1, .int (zI v9)), (2, .ref ao)]) B.1 B.2.1 dL_start_12 rfl hl (by decide) rfl (fun ls hl => ?_)
    refine z_iconst B.1 B.2.1 dL_start_13 ?_
    exact s_ret B hF hS hr dL_start_14
  · intro z f1 H1 locs1 hr hF hS
    refine lv_goto (tgt := 15) B.1 B.2.1 dL_start_9 (by decide) ?_
    refine z_iconst B.1 B.2.1 dL_start_15 ?_
    exact s_ret B hF hS hr dL_start_16
set_option maxRecDepth 100000 in
theorem cL_find_ok (l : Launch) (D : va_G) (cy : Nat → ClassId) (q : Nat → Nat) (V : Nat × (Nat → Nat)) (n0 x y ao : Nat) (S : CSt) (f : Nat → Int64) (r : CR) (hM : gMi l D cy q V n0 x y "java/lang/UnsupportedOperationException" yX6_find (.code yX6_find cX6_find 3 (some .int) :: TBC) 11 221 S [.ref (q 0)] r) : sM l D cy q V n0 x y ao yL_find (Cond.codeWith yL_find cL_find 3 (some .int) [(0, 8, 11, 31)] :: TBL) 12 243 S f [.ref (q 0), .ref ao] r := by
  refine sl_of (cc := cL_find) (maxL := 3) (hh := [(0, 8, 11, 31)]) (by decide) rfl rfl (Nat.le_of_ble_eq_true rfl) ?_
  intro p e s m args below meth c ls B hB hl
  have hl : lv_has ls 3 [(0, .ref (q 0)), (1, .ref ao)] := hl
  refine lv_aload_n B.1 B.2.1 dL_find_0 rfl (lv_at hl 1 rfl) ?_
  refine z_iconst B.1 B.2.1 dL_find_1 ?_
  refine lv_aload_n B.1 B.2.1 dL_find_2 rfl (lv_at hl 0 rfl) ?_
  refine s_core (As := []) (E := "java/lang/UnsupportedOperationException") B hB { startPc := 0, endPc := 8, handlerPc := 11, catchType := 31 } rfl (by decide) (by decide) (List.mem_cons_of_mem _ wL_c_31) sX_java_lang_UnsupportedOperationException hM (cwL 0 B wL_m_find wL_i_find wL_s_find wC_cd_yX6_find rfl rfl (by decide +kernel) ⟨Nat.le_refl _, Nat.le_of_ble_eq_true rfl⟩) rfl hl.1 rfl dL_find_3 dL_find_6 dL_find_7 ⟨rfl, rfl⟩ ?_ ?_
  · intro z H1 locs1 q9 hr hF hS
    refine lv_astore_n (lv' := (2, .ref q9) :: [(0, .ref (q 0)), (1, .ref ao)]) B.1 B.2.1 dL_find_11 rfl hl (by decide) rfl (fun ls hl => ?_)
    refine z_iconst B.1 B.2.1 dL_find_12 ?_
    exact s_ret B hF hS hr dL_find_13
  · intro z f1 H1 locs1 hr hF hS
    refine lv_goto (tgt := 14) B.1 B.2.1 dL_find_8 (by decide) ?_
    refine z_iconst B.1 B.2.1 dL_find_14 ?_
    exact s_ret B hF hS hr dL_find_15
set_option maxRecDepth 100000 in
theorem cL_replace_ok (l : Launch) (D : va_G) (cy : Nat → ClassId) (q : Nat → Nat) (V : Nat × (Nat → Nat)) (n0 x y ao : Nat) (S : CSt) (f : Nat → Int64) (r : CR) (hM : gMi l D cy q V n0 x y "java/lang/UnsupportedOperationException" yX6_replace (.code yX6_replace cX6_replace 7 (some .int) :: TBC) 11 221 S [.ref (q 0)] r) : sM l D cy q V n0 x y ao yL_replace (Cond.codeWith yL_replace cL_replace 3 (some .int) [(0, 8, 11, 31)] :: TBL) 12 247 S f [.ref (q 0), .ref ao] r := by
  refine sl_of (cc := cL_replace) (maxL := 3) (hh := [(0, 8, 11, 31)]) (by decide) rfl rfl (Nat.le_of_ble_eq_true rfl) ?_
  intro p e s m args below meth c ls B hB hl
  have hl : lv_has ls 3 [(0, .ref (q 0)), (1, .ref ao)] := hl
  refine lv_aload_n B.1 B.2.1 dL_replace_0 rfl (lv_at hl 1 rfl) ?_
  refine z_iconst B.1 B.2.1 dL_replace_1 ?_
  refine lv_aload_n B.1 B.2.1 dL_replace_2 rfl (lv_at hl 0 rfl) ?_
  refine s_core (As := []) (E := "java/lang/UnsupportedOperationException") B hB { startPc := 0, endPc := 8, handlerPc := 11, catchType := 31 } rfl (by decide) (by decide) (List.mem_cons_of_mem _ wL_c_31) sX_java_lang_UnsupportedOperationException hM (cwL 0 B wL_m_replace wL_i_replace wL_s_replace wC_cd_yX6_replace rfl rfl (by decide +kernel) ⟨Nat.le_refl _, Nat.le_of_ble_eq_true rfl⟩) rfl hl.1 rfl dL_replace_3 dL_replace_6 dL_replace_7 ⟨rfl, rfl⟩ ?_ ?_
  · intro z H1 locs1 q9 hr hF hS
    refine lv_astore_n (lv' := (2, .ref q9) :: [(0, .ref (q 0)), (1, .ref ao)]) B.1 B.2.1 dL_replace_11 rfl hl (by decide) rfl (fun ls hl => ?_)
    refine z_iconst B.1 B.2.1 dL_replace_12 ?_
    exact s_ret B hF hS hr dL_replace_13
  · intro z f1 H1 locs1 hr hF hS
    refine lv_goto (tgt := 14) B.1 B.2.1 dL_replace_8 (by decide) ?_
    refine z_iconst B.1 B.2.1 dL_replace_14 ?_
    exact s_ret B hF hS hr dL_replace_15
set_option maxRecDepth 100000 in
theorem cL_result_ok (l : Launch) (D : va_G) (cy : Nat → ClassId) (q : Nat → Nat) (V : Nat × (Nat → Nat)) (n0 x y ao : Nat) (S : CSt) (f : Nat → Int64) (v9 : Int) (r : CR) (hM : gMi l D cy q V n0 x y "java/util/NoSuchElementException" yX6_result (.code yX6_result cX6_result 2 (some .char) :: TBC) 6 90 S [.ref (q 0), .int (zI v9)] r) : sM l D cy q V n0 x y ao yL_result (Cond.codeWith yL_result cL_result 4 (some .int) [(0, 9, 12, 40)] :: TBL) 7 111 S f [.ref (q 0), .int (zI v9), .ref ao] r := by
  refine sl_of (cc := cL_result) (maxL := 4) (hh := [(0, 9, 12, 40)]) (by decide) rfl rfl (Nat.le_of_ble_eq_true rfl) ?_
  intro p e s m args below meth c ls B hB hl
  have hl : lv_has ls 4 [(0, .ref (q 0)), (1, .int (zI v9)), (2, .ref ao)] := hl
  refine lv_aload_n B.1 B.2.1 dL_result_0 rfl (lv_at hl 2 rfl) ?_
  refine z_iconst B.1 B.2.1 dL_result_1 ?_
  refine lv_aload_n B.1 B.2.1 dL_result_2 rfl (lv_at hl 0 rfl) ?_
  refine lv_iload_n B.1 B.2.1 dL_result_3 rfl (lv_at hl 1 rfl) ?_
  refine s_core (As := [.int (zI v9)]) (E := "java/util/NoSuchElementException") B hB { startPc := 0, endPc := 9, handlerPc := 12, catchType := 40 } rfl (by decide) (by decide) (List.mem_cons_of_mem _ wL_c_40) sX_java_util_NoSuchElementException hM (cwL 1 B wL_m_result wL_i_result wL_s_result wC_cd_yX6_result rfl rfl (by decide +kernel) ⟨Nat.le_refl _, Nat.le_of_ble_eq_true rfl⟩) rfl hl.1 rfl dL_result_4 dL_result_7 dL_result_8 ⟨rfl, rfl⟩ ?_ ?_
  · intro z H1 locs1 q9 hr hF hS
    refine lv_astore_n (lv' := (3, .ref q9) :: [(0, .ref (q 0)), (1, .int (zI v9)), (2, .ref ao)]) B.1 B.2.1 dL_result_12 rfl hl (by decide) rfl (fun ls hl => ?_)
    refine z_iconst B.1 B.2.1 dL_result_13 ?_
    exact s_ret B hF hS hr dL_result_14
  · intro z f1 H1 locs1 hr hF hS
    refine lv_goto (tgt := 15) B.1 B.2.1 dL_result_9 (by decide) ?_
    refine z_iconst B.1 B.2.1 dL_result_15 ?_
    exact s_ret B hF hS hr dL_result_16
