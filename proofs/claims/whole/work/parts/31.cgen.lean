/-! CONTRACTS OF THE COMPONENT: a method may throw (an exception of the class E) and may let Past's rows (cells 36, 37) grow. What it does is a result r : CR = (1 if it throws, else 0; its answer; the state behind it). -/
section GX
variable {l : Launch} {R : Room} {p : Program} {e : Env} {below : List Frame} {s : State} {sargs : Array Value} {y : MethodName} {len W9 : Nat}
theorem gx_back {ws : List Cond} {rm : Room} {Pc : Array Value → State → Prop} {Qc : Array Value → State → Outcome → State → Prop} {XC : String → State → State → Prop} {mc ms rc rs : Nat} {free : Addr → Prop} {bytes : ByteArray} {maxL : Nat} {ret : Option FieldType}
    (hM : vx_Met l y ws rm Pc Qc XC mc ms free) (hblind : FrameBlind Pc) (hrc : rm.cells = rc) (hrs : rm.slots = rs)
    (hframes : rm.frames + 1 ≤ R.frames) (hlocals : W9 + (maxL + 11) + rm.locals ≤ R.locals)
    (hws : ∀ w ∈ ws, ∀ a' U, s.WarmedH U.vm → w.before a' U = true) (hcode : Cond.code y bytes maxL ret ∈ ws) (hinit : ∀ a' U, s.WarmedH U.vm → (Cond.initialized y.cls).before a' U = true) :
    vx_Back l R p e below s sargs y len W9 (PreOf R rc rs Pc) (PostOf Qc mc ms free) (vx_Post XC mc ms free) := by
  intro m meth c A g ig mk a X hg hsize hdg hW hn hp
  have h1 : (headSpec ws rm).pre.before a A.U = true := atoms_intro fun w hw => hws w hw _ _ X.warmed
  have h2 : (Cond.code y bytes maxL ret).before a A.U = true := hws _ hcode _ _ X.warmed
  have h3 : (Cond.initialized y.cls).before a A.U = true := hinit _ _ X.warmed
  have h4 : A.cells + (headSpec ws rm).room.cells ≤ R.cells := by rw [show (headSpec ws rm).room.cells = rc from hrc]; exact hp.1
  have h5 : A.slots + (headSpec ws rm).room.slots ≤ R.slots := by rw [show (headSpec ws rm).room.slots = rs from hrs]; exact hp.2.1
  have hPc : Pc a (A.U.calling g mk a) := hblind _ _ _ _ hp.2.2
  obtain ⟨U, Ls, c0, s0⟩ := A
  dsimp only [Pt.U, Pt.locs, Pt.cells, Pt.slots] at h1 h2 h3 h4 h5 X hn hPc ⊢
  obtain ⟨methY, cY, hmY, hcY, -, hlY, -, -, -, -⟩ := Cond.code_spec hn h2
  obtain ⟨kY, hkY, -⟩ := className_of_methodNamed hn
  have hinitY : kY.init = .initialized := Cond.initialized_spec (findClass_of_methodNamed hn) hkY h3
  have h : At U g.method c below := by rw [hg]; exact X.here
  have hlocals9 : W9 + (maxL + 11) + (headSpec ws rm).room.locals ≤ R.locals := hlocals
  have happ : (headSpec ws rm).appliesLoose y e.platform (U.calling g mk a) = true :=
    Spec.appliesLoose_calling (g := g) h hdg hn hkY hinitY
      (X.room_calling (g := g) (R' := (headSpec ws rm).room) hsize hmY hcY hframes (by rw [hlY]; omega) h4 h5) h1
  obtain ⟨mid, hmid⟩ := h.above
  have hfr : (U.setTop g).frames = (.java g :: mid) ++ below := by rw [State.frames_setTop' g h.top, hmid]; rfl
  obtain ⟨o, s₂, hsteps, -, hend, hq⟩ := Steps.callFree hM p X.admits X.cas X.clock (acts := []) hfr happ hPc trivial
  have hq' : vx_Q Qc XC mc ms free a (U.calling g mk a) o s₂ := hq
  rw [State.frames_setTop' g h.top] at hend
  obtain ⟨g₀, hg0⟩ := Option.isSome_iff_exists.mp h.top
  obtain ⟨r, hr⟩ := State.topJava?_eq_some.mp hg0
  have hr' : (({ U with heap := s₂.heap, slotsUsed := s₂.slotsUsed } : State).setVm s₂.vm).frames = .java g₀ :: r := hr
  rcases hq' with ⟨hqc, L, hfe, hL⟩ | ⟨q, rfl, E, ce, L, hx, hce, hcv, hcl, hW₂, hsm, hL⟩
  · obtain ⟨⟨v, rfl⟩, hW₂, e2, q2, q3, q4, q5, q6⟩ := id hfe
    have e3 : s₂ = ({ (U.calling g mk a).setFrames s₂.frames with heap := s₂.heap, slotsUsed := s₂.slotsUsed } : State).setVm s₂.vm := by
      have : s₂ = ({ s₂ with vm := (U.calling g mk a).vm } : State).setVm s₂.vm := rfl
      rw [e2] at this
      exact this
    obtain ⟨c₂, i₂, len₂, hc₂, hd₂, hf₂⟩ := hend
    have hW' : U.WarmedH s₂.vm := hW₂
    have hcc : c₂ = c := by
      have h1 : s₂.code? g.method = U.code? g.method := by
        rw [State.code?_eq, State.code?_eq, hW'.alike.method?]
      exact Option.some.inj (hc₂.symm.trans (h1.trans h.code))
    subst hcc
    have hlen : len₂ = len := by rw [hdg] at hd₂; cases hd₂; rfl
    subst hlen
    have hs₂ : s₂ = (({ U with heap := s₂.heap, slotsUsed := s₂.slotsUsed } : State).setVm s₂.vm).setTop { g with pc := g.pc + len₂, stack := v.toList ++ g.stack } := by
      refine e3.trans ?_
      rw [hf₂, State.calling_eq h.top, State.setFrames_setFrames, State.setTop_of_frames _ hr', hr]
      rfl
    have hsame : U.sameButNew ({ U with heap := s₂.heap, slotsUsed := s₂.slotsUsed } : State) L mc ms := by
      refine ⟨?_, q2, q3, q4, q5, q6⟩
      obtain ⟨t, ht, -⟩ := State.frames_cons hr
      show ({ U with heap := s₂.heap, slotsUsed := s₂.slotsUsed } : State) = { U.setFrames U.frames with heap := s₂.heap, slotsUsed := s₂.slotsUsed }
      rw [State.setFrames_self ht]
    subst hg
    refine Or.inl ⟨v, ⟨(({ U with heap := s₂.heap, slotsUsed := s₂.slotsUsed } : State).setVm s₂.vm), Ls ++ L, c0 + mc, s0 + ms⟩,
      ⟨X.admits, X.cas, X.clock, X.frames, X.room, X.hears, X.method, X.code, (X.here.setHeapUsed s₂.heap s₂.slotsUsed).setVm hW'.alike, X.tail, State.WarmedH.trans X.warmed hW', X.limits, X.bytes, X.same.trans (hsame.setVm s.vm)⟩,
      ⟨g, mk, s₂, L, rfl, rfl, hqc, rfl, hL, rfl, rfl⟩, ?_⟩
    show Steps p.tables e below _ ((({ U with heap := s₂.heap, slotsUsed := s₂.slotsUsed } : State).setVm s₂.vm).setTop { g with pc := g.pc + len₂, stack := v.toList ++ g.stack })
    rw [← hs₂]
    exact hsteps
  · obtain ⟨e2, q2, q3, q4, q5, q6⟩ := id hsm
    have e3 : s₂ = ({ (U.calling g mk a).setFrames s₂.frames with heap := s₂.heap, slotsUsed := s₂.slotsUsed } : State).setVm s₂.vm := by
      have : s₂ = ({ s₂ with vm := (U.calling g mk a).vm } : State).setVm s₂.vm := rfl
      rw [e2] at this
      exact this
    have hf₂ : s₂.frames = .throwing q :: .java g :: U.frames.tail := hend
    have hW' : U.WarmedH s₂.vm := hW₂
    have hs₂ : s₂ = ((({ U with heap := s₂.heap, slotsUsed := s₂.slotsUsed } : State).setVm s₂.vm).setTop g).pushFrame (.throwing q) := by
      refine e3.trans ?_
      rw [hf₂, State.calling_eq h.top, State.setFrames_setFrames, State.pushFrame, State.frames_setTop _ hr', State.setTop_of_frames _ hr', State.setFrames_setFrames, hr]
      rfl
    have hsame : U.sameButNew ({ U with heap := s₂.heap, slotsUsed := s₂.slotsUsed } : State) L mc ms := by
      refine ⟨?_, q2, q3, q4, q5, q6⟩
      obtain ⟨t, ht, -⟩ := State.frames_cons hr
      show ({ U with heap := s₂.heap, slotsUsed := s₂.slotsUsed } : State) = { U.setFrames U.frames with heap := s₂.heap, slotsUsed := s₂.slotsUsed }
      rw [State.setFrames_self ht]
    subst hg
    refine Or.inr ⟨q, ⟨(({ U with heap := s₂.heap, slotsUsed := s₂.slotsUsed } : State).setVm s₂.vm), Ls ++ L, c0 + mc, s0 + ms⟩,
      ⟨X.admits, X.cas, X.clock, X.frames, X.room, X.hears, X.method, X.code, (X.here.setHeapUsed s₂.heap s₂.slotsUsed).setVm hW'.alike, X.tail, State.WarmedH.trans X.warmed hW', X.limits, X.bytes, X.same.trans (hsame.setVm s.vm)⟩,
      ⟨g, mk, s₂, L, E, ce, rfl, rfl, hx, hce, hcv, hcl, rfl, hL, rfl, rfl⟩, ?_⟩
    show Steps p.tables e below _ (((({ U with heap := s₂.heap, slotsUsed := s₂.slotsUsed } : State).setVm s₂.vm).setTop g).pushFrame (.throwing q))
    rw [← hs₂]
    exact hsteps
end GX
section GX2
variable {p : Program} {l : Launch} {e : Env} {R : Room} {s : State} {m : MethodId} {args : Array Value} {below : List Frame} {meth : Method} {c : Code} {H : Heap} {locs : List Loc} {cells slots : Nat}
variable {y : MethodName} {bytes cc : ByteArray} {maxL nL mc ms rc rs n index : Nat} {ret : Option FieldType} {ws : List Cond} {rm : Room} {Pc : Array Value → State → Prop} {Qc : Array Value → State → Outcome → State → Prop} {XC : String → State → State → Prop} {free : Addr → Prop} {Ts : List Cond} {own C : String} {b : Addr} {As rest : List Value} {g : JFrame}
theorem gx_callBack (cb : CallB R s args own index y bytes maxL ret ws rm rc rs n) (hM : vx_Met l y ws rm Pc Qc XC mc ms free) (hbl : FrameBlind Pc) : vx_Back l R p e below s args y 3 8 (PreOf R rc rs Pc) (PostOf Qc mc ms free) (vx_Post XC mc ms free) := by
  obtain ⟨hrc, hrs, hfr, hlo, hws, hcw, -, hini, -⟩ := cb
  exact gx_back (bytes := bytes) (maxL := maxL) (ret := ret) hM hbl hrc hrs hfr hlo hws hcw (fun a' U hW => word_at hW (Or.inl (by first | rfl | simp [Cond.onTables, Cond.keeps, Cond.steady])) hini)
theorem gx_runV (S : CallFix p m c cc nL s args Ts own) (hM : vx_Met l y ws rm Pc Qc XC mc ms free) (cw : CallW R s args own C index y bytes maxL ret ws rm rc rs n) (hp : PreV s H C b Pc As)
    (hg : g.method = m) (hn : As.length = n) (hsize : g.locals.size = nL) (hstack : g.stack = As.reverse ++ .ref b :: rest) (hW : 2 * g.monitorRoom + (rest.map fun v => v.category).sum ≤ 8) (hdg : decode cc g.pc = .ok (.invokevirtual index, 3)) (hf : cells + rc ≤ R.cells ∧ slots + rs ≤ R.slots) :
    vx_Run p l e R s m args below meth c H locs cells slots mc ms g rest (Qc (Value.ref b :: As).toArray) XC free := by
  have hK : vx_Back l R p e below s args y 3 8 (PreOf R rc rs Pc) (PostOf Qc mc ms free) (vx_Post XC mc ms free) := gx_callBack cw.1 hM hp.1
  obtain ⟨⟨-, -, -, -, -, -, hcode, -, hy, hlen, hl⟩, hin, hse⟩ := cw
  obtain ⟨hx, hb, hml, ho, -⟩ := S
  obtain ⟨-, ⟨cellB, hcB, hoB, hclB⟩, hPc⟩ := hp
  intro T hT X
  rcases vx_callV X hx (C := C) (bytes := bytes) (maxL := maxL) (ret := ret) ho hl hin hse hcode hy hK (by rw [hT]; exact hcB) hoB hclB hg (hsize.trans hml.symm) (argsL := As) (rest := rest) (fun sig h => hn.trans (hlen sig h)) hstack hW (by rw [hb]; exact hdg)
    (fun vm₁ hW₁ => ⟨hf.1, hf.2, hPc (T.setVm vm₁) hT hW₁⟩) with ⟨v, vm₁, ⟨U', l2, c2, s2⟩, hW₁, X', ⟨g', mk, t, L, e1, e2, hq, h1, hL, h2, h3⟩, st⟩ | ⟨q, vm₁, ⟨U', l2, c2, s2⟩, hW₁, X', ⟨g', mk, t, L, E, ce, e1, e2, hq, hce, hcv, hcl, h1, hL, h2, h3⟩, st⟩
  · dsimp only [Pt.U, Pt.locs, Pt.cells, Pt.slots] at X' e1 e2 h1 h2 h3 st
    subst h1; subst h2; subst h3
    exact Or.inl ⟨v, (T.setVm vm₁).calling g' mk (Value.ref b :: As).toArray, t, U', L, hT, X', hL, e1, e2, hq, st⟩
  · dsimp only [Pt.U, Pt.locs, Pt.cells, Pt.slots] at X' e1 e2 h1 h2 h3 st hcl
    subst h1; subst h2; subst h3
    exact Or.inr ⟨q, (T.setVm vm₁).calling g' mk (Value.ref b :: As).toArray, t, U', L, E, ce, hT, X', hL, e1, e2, hq, hce, hcv, vx_cls hW₁ hcl, st⟩
theorem gx_runS (S : CallFix p m c cc nL s args Ts own) (hM : vx_Met l y ws rm Pc Qc XC mc ms free) (cw : CallB R s args own index y bytes maxL ret ws rm rc rs n ∧ (Cond.static y).before args s = true) (hp : PreS s H Pc As)
    (hg : g.method = m) (hn : As.length = n) (hsize : g.locals.size = nL) (hstack : g.stack = As.reverse ++ rest) (hW : 2 * g.monitorRoom + (rest.map fun v => v.category).sum ≤ 8) (hdg : decode cc g.pc = .ok (.invokestatic index, 3)) (hf : cells + rc ≤ R.cells ∧ slots + rs ≤ R.slots) :
    vx_Run p l e R s m args below meth c H locs cells slots mc ms g rest (Qc As.toArray) XC free := by
  have hK : vx_Back l R p e below s args y 3 8 (PreOf R rc rs Pc) (PostOf Qc mc ms free) (vx_Post XC mc ms free) := gx_callBack cw.1 hM hp.1
  obtain ⟨⟨-, -, -, -, -, -, hcode, hini, hy, hlen, hl⟩, hstt⟩ := cw
  obtain ⟨hx, hb, hml, ho, -⟩ := S
  intro T hT X
  rcases vx_callS X hx (bytes := bytes) (maxL := maxL) (ret := ret) ho hl hstt hini hcode hy hK hg (hsize.trans hml.symm) (argsL := As) (rest := rest) (fun sig h => hn.trans (hlen sig h)) hstack hW (by rw [hb]; exact hdg)
    (fun vm₁ hW₁ => ⟨hf.1, hf.2, hp.2 (T.setVm vm₁) hT hW₁⟩) with ⟨v, vm₁, ⟨U', l2, c2, s2⟩, hW₁, X', ⟨g', mk, t, L, e1, e2, hq, h1, hL, h2, h3⟩, st⟩ | ⟨q, vm₁, ⟨U', l2, c2, s2⟩, hW₁, X', ⟨g', mk, t, L, E, ce, e1, e2, hq, hce, hcv, hcl, h1, hL, h2, h3⟩, st⟩
  · dsimp only [Pt.U, Pt.locs, Pt.cells, Pt.slots] at X' e1 e2 h1 h2 h3 st
    subst h1; subst h2; subst h3
    exact Or.inl ⟨v, (T.setVm vm₁).calling g' mk As.toArray, t, U', L, hT, X', hL, e1, e2, hq, st⟩
  · dsimp only [Pt.U, Pt.locs, Pt.cells, Pt.slots] at X' e1 e2 h1 h2 h3 st hcl
    subst h1; subst h2; subst h3
    exact Or.inr ⟨q, (T.setVm vm₁).calling g' mk As.toArray, t, U', L, E, ce, hT, X', hL, e1, e2, hq, hce, hcv, vx_cls hW₁ hcl, st⟩
end GX2
def cq (q : Nat → Nat) (x y n : Nat) : Nat := if n = 36 then x else if n = 37 then y else q n
theorem cq_ne {q : Nat → Nat} {x y n : Nat} (h : n < 36 ∨ 37 < n) : cq q x y n = q n := by
  unfold cq
  rw [if_neg (by omega), if_neg (by omega)]
abbrev CR : Type := Int × Int × CSt
def gl (S : CSt) : Nat := S.2.2.2 36 + S.2.2.2 37
abbrev gK : Nat := 50000
def gc (S : CSt) (r : CR) : Nat := (gl r.2.2 - gl S) + r.1.toNat
def gs (S : CSt) (r : CR) : Nat := 2 * (gl r.2.2 - gl S) + 6 * r.1.toNat
abbrev gRm (f lo : Nat) (S : CSt) : Room := { frames := f, cells := (gK - gl S) + 1, slots := 2 * (gK - gl S) + 6, locals := lo }
def sT (j : Nat) : String × Nat × String := match j with
  | 0 => ("PatternRunner", 114, "more than 24 signs are typed")
  | 1 => ("PatternRunner", 117, "the place is not 0 to 24")
  | 2 => ("PatternRunner", 141, "the result has no such place")
  | 3 => ("PatternRunner", 163, "the result would have more than 200 signs")
  | 4 => ("PatternRunner", 75, "n is not 1 to 8")
  | 5 => ("PatternRunner", 84, "more than 40 signs would be typed")
  | 6 => ("PatternRunner", 90, "a byte is no sign")
  | 7 => ("PatternRunner", 96, "flags are not 0 to 7")
  | 8 => ("PatternRunner$Matcher", 126, "more than 500 steps would be made")
  | 9 => ("PatternRunner$Program", 65, "the pattern is too long")
  | 10 => ("PatternRunner$Program", 89, "the pattern has more than 9 groups")
  | 11 => ("PatternRunner$Program", 91, "the pattern has too many looks")
  | 12 => ("PatternRunner$Program", 93, "the pattern has too many counts")
  | 13 => ("PatternRunner$Reader", 112, "more than 8 stand in one another")
  | 14 => ("PatternRunner$Reader", 114, "a bracket is not closed")
  | 15 => ("PatternRunner$Reader", 160, "^$\\.*+?()[]{}|")
  | 16 => ("PatternRunner$Reader", 188, "dwsDWS")
  | 17 => ("PatternRunner$Reader", 194, "a sign is behind \\ that can't be")
  | 18 => ("PatternRunner$Reader", 203, "a range can't be so")
  | 19 => ("PatternRunner$Reader", 205, "a set is not closed")
  | 20 => ("PatternRunner$Reader", 213, "a count is not closed")
  | 21 => ("PatternRunner$Reader", 215, "a count's n is greater than its m")
  | 22 => ("PatternRunner$Reader", 217, "a count has no digit")
  | 23 => ("PatternRunner$Reader", 51, "a sign stands where none can")
  | 24 => ("PatternRunner$Reader", 59, "a reference is to no group")
  | 25 => ("PatternRunner$Reader", 68, "the pattern weighs more than 120")
  | _ => ("", 0, "")
abbrev sX : List String := ["java/lang/IllegalArgumentException", "java/lang/IllegalStateException", "java/lang/UnsupportedOperationException", "java/util/NoSuchElementException"]
abbrev sY : List String := ["java/lang/RuntimeException", "java/lang/Exception", Bundle.tN]
abbrev sNG (E : String) : List Cond := [Cond.castable E E, Cond.declares (Bundle.initS "java/lang/RuntimeException"), Cond.declares (Bundle.initS "java/lang/Exception"), Cond.declares (Bundle.initS Bundle.tN)]
def sB1 : List Int32 := [94, 36, 92, 46, 42, 43, 63, 40, 41, 91, 93, 123, 125, 124]
def sB2 : List Int32 := [100, 119, 115, 68, 87, 83]
/-- what the class's own cells don't touch: its strings, what a throw needs -/
def cEnv (V : Nat × (Nat → Nat)) (U : State) (H : Heap) : Prop := (∀ j, j < 26 → vk_R (sT j).1 (sT j).2.1 (sT j).2.2 (V.2 j) U) ∧ vx_Zq Bundle.tN "UNASSIGNED_STACK" Bundle.steD (fun a => V.1 ≤ a) U H ∧ vx_Zq Bundle.tN "SUPPRESSED_SENTINEL" Bundle.listD (fun a => V.1 ≤ a) U H ∧ (∀ E ∈ sX, va_Nw (.castable E E) U) ∧ (∀ Y ∈ sY, va_Nw (.declares (Bundle.initS Y)) U) ∧ vk_S 1 [14] [sB1] (fun _ => V.2 15) (fun _ => V.2 26) (fun a => V.1 ≤ a) U H ∧ vk_S 1 [6] [sB2] (fun _ => V.2 16) (fun _ => V.2 27) (fun a => V.1 ≤ a) U H ∧ va_Z "java/lang/String" "COMPACT_STRINGS" "Z" (.int 1) (fun a => V.1 ≤ a) U H
theorem cEnv.go {V : Nat × (Nat → Nat)} {s U : State} {A : Nat → Prop} {H : Heap} {locs : List Loc} (h : cEnv V s s.heap) (hA : ∀ a, A a → V.1 ≤ a) (hS : va_S A s.heap H locs) (hW : s.WarmedH U.vm) : cEnv V U H := by
  obtain ⟨h1, h2, h3, h4, h8, h5, h6, h7⟩ := h
  have hq : ∀ a : Nat, a < s.heap.size → ¬ (V.1 ≤ a) → H[a]? = s.heap[a]? := fun a ha hn => hS.2.1 a ha (fun z => hn (hA a z))
  exact ⟨fun j hj => (h1 j hj).warm hW, (h2.kept hq).moved hW.alike, (h3.kept hq).moved hW.alike, fun E hE => va_Nw.warmC hW (h4 E hE), fun Y hY => va_Nw.warmD hW (h8 Y hY), (h5.kept hq).moved hW.alike, (h6.kept hq).moved hW.alike, (h7.kept hq).moved hW.alike⟩
def gA (q : Nat → Nat) (n0 : Nat) : Nat → Prop := fun a => cA q a ∨ n0 ≤ a
def gB (D : va_G) (cy : Nat → ClassId) (q : Nat → Nat) (A : Nat → Prop) (z : CSt × Nat × Nat) (t : State) : Prop := va_P D vwCl (cW cy (cq q z.2.1 z.2.2) z.1) t.heap ∧ va_D A (cW cy (cq q z.2.1 z.2.2) z.1)
def gPre (D : va_G) (cy : Nat → ClassId) (q : Nat → Nat) (V : Nat × (Nat → Nat)) (n0 : Nat) (S : CSt) (As : List Value) : Array Value → State → Prop := va_Pc As (fun U => va_P D vwCl (cW cy q S) U.heap ∧ va_K D vwCl (zTY cy) U ∧ va_D (fun a => V.1 ≤ a) (cW cy q S) ∧ cEnv V U U.heap ∧ n0 ≤ U.heap.size ∧ V.1 ≤ n0)
def gQi (D : va_G) (cy : Nat → ClassId) (q : Nat → Nat) (A : Nat → Prop) (r : CR) : Array Value → State → Outcome → State → Prop := va_Qi (S := Int × CSt × Nat × Nat) (fun k u => k = zI u.1 ∧ r = (0, u.1, u.2.1)) (fun u t => gB D cy q A u.2 t) A
def gQv (D : va_G) (cy : Nat → ClassId) (q : Nat → Nat) (A : Nat → Prop) (r : CR) : Array Value → State → Outcome → State → Prop := va_Qv (S := CSt × Nat × Nat) (fun u => r = (0, 0, u.1)) (fun u t => gB D cy q A u t) A
def gX (D : va_G) (cy : Nat → ClassId) (q : Nat → Nat) (A : Nat → Prop) (E : String) (r : CR) : String → State → State → Prop := vx_X (S := CSt × Nat × Nat) (fun u => r = (1, 0, u.1)) (fun E' u t => E' = E ∧ gB D cy q A u t) A
def gMi (l : Launch) (D : va_G) (cy : Nat → ClassId) (q : Nat → Nat) (V : Nat × (Nat → Nat)) (n0 x y : Nat) (E : String) (yn : MethodName) (ws : List Cond) (f lo : Nat) (S : CSt) (As : List Value) (r : CR) : Prop := vx_Met l yn ws (gRm f lo S) (gPre D cy (cq q x y) V n0 S As) (gQi D cy q (gA (cq q x y) n0) r) (gX D cy q (gA (cq q x y) n0) E r) (gc S r) (gs S r) (gA (cq q x y) n0)
def gMv (l : Launch) (D : va_G) (cy : Nat → ClassId) (q : Nat → Nat) (V : Nat × (Nat → Nat)) (n0 x y : Nat) (E : String) (yn : MethodName) (ws : List Cond) (f lo : Nat) (S : CSt) (As : List Value) (r : CR) : Prop := vx_Met l yn ws (gRm f lo S) (gPre D cy (cq q x y) V n0 S As) (gQv D cy q (gA (cq q x y) n0) r) (gX D cy q (gA (cq q x y) n0) E r) (gc S r) (gs S r) (gA (cq q x y) n0)
theorem gPre_blind {D : va_G} {cy : Nat → ClassId} {q : Nat → Nat} {V : Nat × (Nat → Nat)} {n0 : Nat} {S : CSt} {As : List Value} : FrameBlind (gPre D cy q V n0 S As) := by
  intro a U g mk h
  obtain ⟨h0, hP, hK, hD, hE, hn, hn'⟩ := h
  refine ⟨h0, hP, va_K.moved (u := U) (U := U.calling g mk a) (Vm.Alike.refl U.vm) hK, hD, ?_, hn, hn'⟩
  exact cEnv.go (s := U) (U := U.calling g mk a) (A := fun a => V.1 ≤ a) hE (fun _ h => h) va_S.rf (State.WarmedH.refl U)
/-- what a body of such a method has -/
def gEn (V : Nat × (Nat → Nat)) (n0 : Nat) (A : Nat → Prop) (s : State) (c : Code) : Prop := cEnv V s s.heap ∧ (∀ a, A a → V.1 ≤ a) ∧ (∀ a, n0 ≤ a → A a) ∧ n0 ≤ s.heap.size ∧ V.1 ≤ n0 ∧ ∀ z ∈ c.exceptionTable.toList, False
theorem g_of {l : Launch} {D : va_G} {cy : Nat → ClassId} {q : Nat → Nat} {V : Nat × (Nat → Nat)} {n0 x y : Nat} {yn : MethodName} {C : String} {ws ws' : List Cond} {rm : Room} {S : CSt} {As : List Value} {cc : ByteArray} {maxL mc ms : Nat} {ret : Option FieldType} {Qc : Array Value → State → Outcome → State → Prop} {XC : String → State → State → Prop}
    (hy : plainName yn.cls = true) (hcls : yn.cls = C) (hw : ws = Cond.code yn cc maxL ret :: ws') (hn : (lg_sl As).length ≤ maxL)
    (body : ∀ (p : Program) (e : Env) (s : State) (m : MethodId) (args : Array Value) (below : List Frame) (meth : Method) (c : Code) (ls : Array Slot), zAt p s m args meth c C cc maxL ret ws → va_K D vwCl (zTY cy) s → gEn V n0 (gA (cq q x y) n0) s c → cH D cy (cq q x y) (gA (cq q x y) n0) s.heap S s.heap [] → lv_has ls maxL (lv_args 0 As) →
      W p l e (headSpec ws rm).room s m args below meth c s.heap [] (gl S - gl S) (2 * (gl S - gl S)) (vx_MQ below Qc XC args s mc ms (gA (cq q x y) n0)) (F0 m 0 ls [])) : vx_Met l yn ws rm (gPre D cy (cq q x y) V n0 S As) Qc XC mc ms (gA (cq q x y) n0) := by
  refine vx_ofW (cc := cc) (maxL := maxL) (ret := ret) hy hw ?_
  intro p e s m args below meth c s₁ B hml ht hv
  obtain ⟨rfl, hP, hK, hD, hE, hs, hs'⟩ := hv
  rw [lg_entry_eq]
  have hb := body p e s m _ below meth c _ ⟨B.exec, B.bytes, hml, (by have := findClass_of_methodNamed B.named; rw [hcls] at this; exact this), atoms_spec (ws := ws) B.pre, B.returns, B.notSynchronized⟩ hK ⟨hE, fun a ha => ha.elim (fun h => cA_in hD a h) (fun h => Nat.le_trans hs' h), fun a h => Or.inr h, hs, hs', ht⟩ ⟨hP, hD.weaken (fun k a ha _ => Or.inl (cW_in ha)), va_S.rf⟩ (lv_entry As hn)
  rw [Nat.sub_self] at hb
  exact hb
section GR
variable {p : Program} {l : Launch} {e : Env} {R : Room} {s : State} {m : MethodId} {args : Array Value} {below : List Frame} {meth : Method} {c : Code} {H : Heap} {locs : List Loc} {Q : State → Prop} {cc : ByteArray} {pc : Nat} {ls : Array Slot} {rest : List Value}
variable {D : va_G} {cy : Nat → ClassId} {q : Nat → Nat} {V : Nat × (Nat → Nat)} {n0 x y : Nat} {A : Nat → Prop} {S S0 : CSt} {maxL : Nat} {ret : Option FieldType} {ws : List Cond} {index : Nat} {C E : String} {rc : CR} {Qc : Array Value → State → Outcome → State → Prop}
/-- an exception that goes on to the caller -/
theorem g_out {ce : Cell} {q9 : Nat} {cells slots : Nat} (B : zAt p s m args meth c C cc maxL ret ws) (hG : gEn V n0 A s c) (h : cH D cy (cq q x y) A s.heap S H locs) (hcell : H[q9]? = some ce) (hv : ce.vm = .none) (hcl : s.vm.findClass E = some ce.cls) (hr : rc = (1, 0, S)) (hc : cells ≤ gc S0 rc) (hs : slots ≤ gs S0 rc) :
    vx_W p l e R s m args below meth c H locs cells slots (vx_MQ below Qc (gX D cy q A E rc) args s (gc S0 rc) (gs S0 rc) A) (F0 m pc ls rest) q9 :=
  vx_out (fun z hz => (hG.2.2.2.2.2 z hz).elim) B.2.2.2.2.2.2 hcell hv hcl (fun t ht _ => ⟨(S, x, y), hr, ⟨rfl, by show va_P _ _ _ _; rw [ht]; exact h.1, h.2.1⟩, h.2.2.F ht⟩) h.2.2.2.2 hc hs
theorem g_calli {yn : MethodName} {wy : List Cond} {f lo : Nat} {As : List Value} {r : CR} {bytes : ByteArray} {mxL na : Nat} {rt : Option FieldType} {CY : String} {TY : u_T} {NY : Nat} (B : zAt p s m args meth c C cc maxL ret ws) (hK : va_K D vwCl (zTY cy) s) (hG : gEn V n0 A s c) (h : cH D cy (cq q x y) A s.heap S H locs) (n : Nat) (hn : n < 40) (hc : cK n < 7) (hcl : vwCl[cK n]? = some (CY, TY, NY)) (hM : gMi l D cy q V n0 x y E yn wy f lo S (.ref (cq q x y n) :: As) r) (cw : CallW R s args C CY index yn bytes mxL rt wy (gRm f lo S) ((gK - gl S) + 1) (2 * (gK - gl S) + 6) na) (hna : As.length = na) (hsz : ls.size = maxL) {st : List Value} (hst : st = As.reverse ++ .ref (cq q x y n) :: rest) (hroom : (rest.map fun v => v.category).sum ≤ 8) (hd : decode cc pc = .ok (.invokevirtual index, 3)) (hR : R.cells = (gK - gl S0) + 1 ∧ R.slots = 2 * (gK - gl S0) + 6) (hg0 : gl S0 ≤ gl S) (hg1 : gl S ≤ gK) (hg2 : gl S ≤ gl r.2.2)
    (kx : ¬ r.1 = 0 → rc = (1, 0, r.2.2))
    (kk : ∀ (x y : Nat) (H1 : Heap) (locs1 : List Loc), r.1 = 0 → cH D cy (cq q x y) A s.heap r.2.2 H1 locs1 → W p l e R s m args below meth c H1 locs1 (gl r.2.2 - gl S0) (2 * (gl r.2.2 - gl S0)) (vx_MQ below Qc (gX D cy q A E rc) args s (gc S0 rc) (gs S0 rc) A) (F0 m (pc + 3) ls (.int (zI r.2.1) :: rest))) : W p l e R s m args below meth c H locs (gl S - gl S0) (2 * (gl S - gl S0)) (vx_MQ below Qc (gX D cy q A E rc) args s (gc S0 rc) (gs S0 rc) A) (F0 m pc ls st) := by
  have hAA : ∀ a, gA (cq q x y) n0 a → A a := fun a ha => ha.elim (fun h' => cA_in h.2.1 a h') (hG.2.2.1 a)
  refine vx_calli (gx_runV (As := As) (rest := rest) (g := F0 m pc ls st) (b := cq q x y n) ⟨B.1, B.2.1, B.2.2.1, B.2.2.2.1, B.2.2.2.2.1⟩ hM cw ⟨gPre_blind, va_recv hK h.1 (ci := cK n) (q := (CY, TY, NY)) (q0 := n) hcl (by rw [cW_get hn, cE_obj hc]), fun U hU hW => ⟨rfl, by rw [hU]; exact h.1, va_K.moved hW.alike hK, h.2.1.weaken (fun _ _ _ ha => hG.2.1 _ ha), by rw [hU]; exact hG.1.go hG.2.1 h.2.2 hW, by rw [hU]; exact Nat.le_trans hG.2.2.2.1 h.2.2.1, hG.2.2.2.2.1⟩⟩ rfl hna hsz hst (lv_room hroom) hd (by rw [hR.1, hR.2]; omega)) h.2.2 (fun a _ ha => hAA a ha) (fun a ha => hAA a ha) (fun a _ ha => hAA a ha) ?_ ?_
  · intro E9 ce q9 u t H1 locs1 ht _ hp hB _ _ hS h7 h8 h9
    obtain ⟨S1, x1, y1⟩ := u
    obtain ⟨rfl, hP, hD⟩ := hB
    have hr : r = (1, 0, S1) := hp
    have hrc := kx (by rw [hr]; show ¬ (1 : Int) = 0; decide)
    subst hr
    refine g_out B hG (x := x1) (y := y1) (S := S1) ⟨by rw [← ht]; exact hP, hD.weaken (fun _ _ _ ha => hAA _ ha), hS⟩ h7 h8 h9 hrc ?_ ?_
    · subst hrc
      simp only [gc] at hg2 ⊢
      omega
    · subst hrc
      simp only [gs] at hg2 ⊢
      omega
  · intro k u t H1 locs1 ht _ hp hB _ _ hS
    obtain ⟨v, S1, x1, y1⟩ := u
    obtain ⟨rfl, hr⟩ := hp
    obtain ⟨hP, hD⟩ := hB
    have hr : r = (0, v, S1) := hr
    subst hr
    refine W.widen ?_ ?_ (kk x1 y1 H1 locs1 rfl ⟨by rw [← ht]; exact hP, hD.weaken (fun _ _ _ ha => hAA _ ha), hS⟩)
    · simp only [gc] at hg2 ⊢
      omega
    · simp only [gs] at hg2 ⊢
      omega
theorem g_callv {yn : MethodName} {wy : List Cond} {f lo : Nat} {As : List Value} {r : CR} {bytes : ByteArray} {mxL na : Nat} {CY : String} {TY : u_T} {NY : Nat} (B : zAt p s m args meth c C cc maxL ret ws) (hK : va_K D vwCl (zTY cy) s) (hG : gEn V n0 A s c) (h : cH D cy (cq q x y) A s.heap S H locs) (n : Nat) (hn : n < 40) (hc : cK n < 7) (hcl : vwCl[cK n]? = some (CY, TY, NY)) (hM : gMv l D cy q V n0 x y E yn wy f lo S (.ref (cq q x y n) :: As) r) (cw : CallW R s args C CY index yn bytes mxL none wy (gRm f lo S) ((gK - gl S) + 1) (2 * (gK - gl S) + 6) na) (hna : As.length = na) (hsz : ls.size = maxL) {st : List Value} (hst : st = As.reverse ++ .ref (cq q x y n) :: rest) (hroom : (rest.map fun v => v.category).sum ≤ 8) (hd : decode cc pc = .ok (.invokevirtual index, 3)) (hR : R.cells = (gK - gl S0) + 1 ∧ R.slots = 2 * (gK - gl S0) + 6) (hg0 : gl S0 ≤ gl S) (hg1 : gl S ≤ gK) (hg2 : gl S ≤ gl r.2.2)
    (kx : ¬ r.1 = 0 → rc = (1, 0, r.2.2))
    (kk : ∀ (x y : Nat) (H1 : Heap) (locs1 : List Loc), r.1 = 0 → cH D cy (cq q x y) A s.heap r.2.2 H1 locs1 → W p l e R s m args below meth c H1 locs1 (gl r.2.2 - gl S0) (2 * (gl r.2.2 - gl S0)) (vx_MQ below Qc (gX D cy q A E rc) args s (gc S0 rc) (gs S0 rc) A) (F0 m (pc + 3) ls rest)) : W p l e R s m args below meth c H locs (gl S - gl S0) (2 * (gl S - gl S0)) (vx_MQ below Qc (gX D cy q A E rc) args s (gc S0 rc) (gs S0 rc) A) (F0 m pc ls st) := by
  have hAA : ∀ a, gA (cq q x y) n0 a → A a := fun a ha => ha.elim (fun h' => cA_in h.2.1 a h') (hG.2.2.1 a)
  refine vx_callv (gx_runV (As := As) (rest := rest) (g := F0 m pc ls st) (b := cq q x y n) ⟨B.1, B.2.1, B.2.2.1, B.2.2.2.1, B.2.2.2.2.1⟩ hM cw ⟨gPre_blind, va_recv hK h.1 (ci := cK n) (q := (CY, TY, NY)) (q0 := n) hcl (by rw [cW_get hn, cE_obj hc]), fun U hU hW => ⟨rfl, by rw [hU]; exact h.1, va_K.moved hW.alike hK, h.2.1.weaken (fun _ _ _ ha => hG.2.1 _ ha), by rw [hU]; exact hG.1.go hG.2.1 h.2.2 hW, by rw [hU]; exact Nat.le_trans hG.2.2.2.1 h.2.2.1, hG.2.2.2.2.1⟩⟩ rfl hna hsz hst (lv_room hroom) hd (by rw [hR.1, hR.2]; omega)) h.2.2 (fun a _ ha => hAA a ha) (fun a ha => hAA a ha) (fun a _ ha => hAA a ha) ?_ ?_
  · intro E9 ce q9 u t H1 locs1 ht _ hp hB _ _ hS h7 h8 h9
    obtain ⟨S1, x1, y1⟩ := u
    obtain ⟨rfl, hP, hD⟩ := hB
    have hr : r = (1, 0, S1) := hp
    have hrc := kx (by rw [hr]; show ¬ (1 : Int) = 0; decide)
    subst hr
    refine g_out B hG (x := x1) (y := y1) (S := S1) ⟨by rw [← ht]; exact hP, hD.weaken (fun _ _ _ ha => hAA _ ha), hS⟩ h7 h8 h9 hrc ?_ ?_
    · subst hrc
      simp only [gc] at hg2 ⊢
      omega
    · subst hrc
      simp only [gs] at hg2 ⊢
      omega
  · intro u t H1 locs1 ht _ hp hB _ _ hS
    obtain ⟨S1, x1, y1⟩ := u
    obtain ⟨hP, hD⟩ := hB
    have hr : r = (0, 0, S1) := hp
    subst hr
    refine W.widen ?_ ?_ (kk x1 y1 H1 locs1 rfl ⟨by rw [← ht]; exact hP, hD.weaken (fun _ _ _ ha => hAA _ ha), hS⟩)
    · simp only [gc] at hg2 ⊢
      omega
    · simp only [gs] at hg2 ⊢
      omega
theorem g_reti (B : zAt p s m args meth c C cc maxL (some .int) ws) (h : cH D cy (cq q x y) A s.heap S H locs) {v : Int} (hr : rc = (0, v, S)) (hd : decode cc pc = .ok (.ireturn, 1)) : W p l e R s m args below meth c H locs (gl S - gl S0) (2 * (gl S - gl S0)) (vx_MQ below (gQi D cy q A rc) (gX D cy q A E rc) args s (gc S0 rc) (gs S0 rc) A) (F0 m pc ls [.int (zI v)]) := by
  have e1 : gc S0 rc = gl S - gl S0 := by rw [hr]; rfl
  have e2 : gs S0 rc = 2 * (gl S - gl S0) := by rw [hr]; rfl
  rw [e1, e2]
  exact vx_ret (W.iret (v := zI v) B.1 B.2.1 B.2.2.2.2.2.1 (fun t ht _ => ⟨⟨zI v, (v, S, x, y), rfl, ⟨rfl, hr⟩, by show va_P _ _ _ _; rw [ht]; exact h.1, h.2.1⟩, h.2.2.F ht⟩) h.2.2.2.2 hd B.2.2.2.2.2.2)
theorem g_retz (B : zAt p s m args meth c C cc maxL (some .boolean) ws) (h : cH D cy (cq q x y) A s.heap S H locs) {v : Int} (hv : v = 0 ∨ v = 1) (hr : rc = (0, v, S)) (hd : decode cc pc = .ok (.ireturn, 1)) : W p l e R s m args below meth c H locs (gl S - gl S0) (2 * (gl S - gl S0)) (vx_MQ below (gQi D cy q A rc) (gX D cy q A E rc) args s (gc S0 rc) (gs S0 rc) A) (F0 m pc ls [.int (zI v)]) := by
  have e1 : gc S0 rc = gl S - gl S0 := by rw [hr]; rfl
  have e2 : gs S0 rc = 2 * (gl S - gl S0) := by rw [hr]; rfl
  rw [e1, e2]
  exact vx_ret (W.zret (v := zI v) B.1 B.2.1 B.2.2.2.2.2.1 (by rcases hv with rfl | rfl <;> decide) (fun t ht _ => ⟨⟨zI v, (v, S, x, y), rfl, ⟨rfl, hr⟩, by show va_P _ _ _ _; rw [ht]; exact h.1, h.2.1⟩, h.2.2.F ht⟩) h.2.2.2.2 hd B.2.2.2.2.2.2)
theorem g_retc (B : zAt p s m args meth c C cc maxL (some .char) ws) (h : cH D cy (cq q x y) A s.heap S H locs) {v : Int} (v0 : 0 ≤ v) (v1 : v < 65536) (hr : rc = (0, v, S)) (hd : decode cc pc = .ok (.ireturn, 1)) : W p l e R s m args below meth c H locs (gl S - gl S0) (2 * (gl S - gl S0)) (vx_MQ below (gQi D cy q A rc) (gX D cy q A E rc) args s (gc S0 rc) (gs S0 rc) A) (F0 m pc ls [.int (zI v)]) := by
  have e1 : gc S0 rc = gl S - gl S0 := by rw [hr]; rfl
  have e2 : gs S0 rc = 2 * (gl S - gl S0) := by rw [hr]; rfl
  rw [e1, e2]
  exact vx_ret (W.zret (v := zI v) B.1 B.2.1 B.2.2.2.2.2.1 (by
    obtain ⟨n, rfl⟩ : ∃ n : Nat, v = n := ⟨v.toNat, by omega⟩
    have h2 : zI n = nI n := Int32.ofInt_eq_ofNat
    rw [h2]
    exact (pk_charN (q := n) (by omega)).1) (fun t ht _ => ⟨⟨zI v, (v, S, x, y), rfl, ⟨rfl, hr⟩, by show va_P _ _ _ _; rw [ht]; exact h.1, h.2.1⟩, h.2.2.F ht⟩) h.2.2.2.2 hd B.2.2.2.2.2.2)
theorem g_retv (B : zAt p s m args meth c C cc maxL none ws) (h : cH D cy (cq q x y) A s.heap S H locs) (hr : rc = (0, 0, S)) (hd : decode cc pc = .ok (.return_, 1)) : W p l e R s m args below meth c H locs (gl S - gl S0) (2 * (gl S - gl S0)) (vx_MQ below (gQv D cy q A rc) (gX D cy q A E rc) args s (gc S0 rc) (gs S0 rc) A) (F0 m pc ls []) := by
  have e1 : gc S0 rc = gl S - gl S0 := by rw [hr]; rfl
  have e2 : gs S0 rc = 2 * (gl S - gl S0) := by rw [hr]; rfl
  rw [e1, e2]
  exact vx_ret (W.vret B.1 B.2.1 B.2.2.2.2.2.1 (fun t ht _ => ⟨⟨(S, x, y), rfl, hr, by show va_P _ _ _ _; rw [ht]; exact h.1, h.2.1⟩, h.2.2.F ht⟩) h.2.2.2.2 hd B.2.2.2.2.2.2)
/-- 'throw new E(text)' -/
theorem g_throw {ik is ic : Nat} {text : String} (j : Nat) (hj : j < 26) (hl0 : l.stackTraces = false) (B : zAt p s m args meth c C cc maxL ret ws) (hG : gEn V n0 A s c) (h : cH D cy (cq q x y) A s.heap S H locs) (hT : sT j = (C, is, text)) (hE : E ∈ sX) (hfit : Bundle.fit E = true) (hk : Cond.classLink C ik E ∈ ws) (hini : Cond.initialized E ∈ ws) (hat : ∀ w ∈ (vx_atS C ic E ["java/lang/RuntimeException", "java/lang/Exception"]).filter goodWord, w ∈ ws) (hng : ∀ w ∈ (vx_atS C ic E ["java/lang/RuntimeException", "java/lang/Exception"]).filter (fun w => !goodWord w), w ∈ sNG E) (hsize : ls.size = maxL) (hroom : (rest.map fun v => v.category).sum ≤ 8) (hR : R.cells = (gK - gl S0) + 1 ∧ R.slots = 2 * (gK - gl S0) + 6) (hF : 5 < R.frames) (hL : 90 ≤ R.locals) (hg0 : gl S0 ≤ gl S) (hg1 : gl S ≤ gK)
    (hgood : ∀ w ∈ Cond.classLink C ik E :: Cond.initialized E :: vx_atS C ic E ["java/lang/RuntimeException", "java/lang/Exception"], vx_ot w = true)
    (d0 : decode cc pc = .ok (.new ik, 3)) (d3 : decode cc (pc + 3) = .ok (.dup, 1)) (d4 : decode cc (pc + 4) = .ok (.ldc is, 2)) (d6 : decode cc (pc + 6) = .ok (.invokespecial ic, 3)) (d9 : decode cc (pc + 9) = .ok (.athrow, 1)) (hr : rc = (1, 0, S)) :
    W p l e R s m args below meth c H locs (gl S - gl S0) (2 * (gl S - gl S0)) (vx_MQ below Qc (gX D cy q A E rc) args s (gc S0 rc) (gs S0 rc) A) (F0 m pc ls rest) := by
  obtain ⟨h1, h2, h3, h4, h5, -⟩ := hG.1
  have hs := h1 j hj
  rw [hT] at hs
  have e1 : gc S0 rc = (gl S - gl S0) + 1 := by rw [hr]; rfl
  have e2 : gs S0 rc = 2 * (gl S - gl S0) + 6 := by rw [hr]; rfl
  refine vx_throwS (A := A) (mc := gc S0 rc) (ms := gs S0 rc) (names := ["java/lang/RuntimeException", "java/lang/Exception"]) (sa := V.2 j) B.1 B.2.1 hl0 B.2.2.2.1 hfit (by decide +kernel) (B.2.2.2.2.1 _ hk) (B.2.2.2.2.1 _ hini) hs ?_ hgood (h2.narrow hG.2.1) (h3.narrow hG.2.1) h.2.2 (hsize.trans B.2.2.1.symm) d0 d3 d4 d6 d9 (fun z hz => (hG.2.2.2.2.2 z hz).elim) (by show 2 + 3 < R.frames; exact hF) (by show _ + (13 * (2 + 1) + 43) ≤ R.locals; omega) (by rw [hR.1]; omega) (by rw [hR.2]; omega) B.2.2.2.2.2.2 ?_ h.2.2.2.2 (by rw [e1]; exact Nat.le_refl _) (by rw [e2]; exact Nat.le_refl _)
  · refine vx_hat (B := sNG E) (fun w hw => B.2.2.2.2.1 w (hat w hw)) hng ?_
    exact vx_c (va_Nw.use rfl (h4 E hE)) (vx_c (va_Nw.use rfl (h5 _ (List.Mem.head _))) (vx_c (va_Nw.use rfl (h5 _ (List.Mem.tail _ (List.Mem.head _)))) (vx_c (va_Nw.use rfl (h5 _ (List.Mem.tail _ (List.Mem.tail _ (List.Mem.head _))))) vx_n)))
  · intro t hvm hsz hsm
    refine ⟨(S, x, y), hr, ⟨rfl, ?_, h.2.1⟩, ?_⟩
    · exact va_P.kept h.1 (fun k z hk => hsm z.1 (vx_lt h.1 hk))
    · exact ⟨Nat.le_trans h.2.2.1 hsz, fun a ha hn => (hsm a (Nat.lt_of_lt_of_le ha h.2.2.1)).trans (h.2.2.2.1 a ha hn)⟩
end GR
