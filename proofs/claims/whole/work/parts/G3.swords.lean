/-! a static method with a table of handlers, whose room is greater than what it uses; the words of the law's own methods -/
section GXW
variable {l : Launch} {R : Room} {p : Program} {e : Env} {below : List Frame} {s : State} {sargs : Array Value} {y : MethodName} {len W9 : Nat}
theorem gx_backW {hh : List (Nat × Nat × Nat × Nat)} {ws : List Cond} {rm : Room} {Pc : Array Value → State → Prop} {Qc : Array Value → State → Outcome → State → Prop} {XC : String → State → State → Prop} {mc ms rc rs : Nat} {free : Addr → Prop} {bytes : ByteArray} {maxL : Nat} {ret : Option FieldType}
    (hM : vx_Met l y ws rm Pc Qc XC mc ms free) (hblind : FrameBlind Pc) (hrc : rm.cells = rc) (hrs : rm.slots = rs)
    (hframes : rm.frames + 1 ≤ R.frames) (hlocals : W9 + (maxL + 11) + rm.locals ≤ R.locals)
    (hws : ∀ w ∈ ws, ∀ a' U, s.WarmedH U.vm → w.before a' U = true) (hcode : Cond.codeWith y bytes maxL ret hh ∈ ws) (hinit : ∀ a' U, s.WarmedH U.vm → (Cond.initialized y.cls).before a' U = true) :
    vx_Back l R p e below s sargs y len W9 (PreOf R rc rs Pc) (PostOf Qc mc ms free) (vx_Post XC mc ms free) := by
  intro m meth c A g ig mk a X hg hsize hdg hW hn hp
  have h1 : (headSpec ws rm).pre.before a A.U = true := atoms_intro fun w hw => hws w hw _ _ X.warmed
  have h2 : (Cond.codeWith y bytes maxL ret hh).before a A.U = true := hws _ hcode _ _ X.warmed
  have h3 : (Cond.initialized y.cls).before a A.U = true := hinit _ _ X.warmed
  have h4 : A.cells + (headSpec ws rm).room.cells ≤ R.cells := by rw [show (headSpec ws rm).room.cells = rc from hrc]; exact hp.1
  have h5 : A.slots + (headSpec ws rm).room.slots ≤ R.slots := by rw [show (headSpec ws rm).room.slots = rs from hrs]; exact hp.2.1
  have hPc : Pc a (A.U.calling g mk a) := hblind _ _ _ _ hp.2.2
  obtain ⟨U, Ls, c0, s0⟩ := A
  dsimp only [Pt.U, Pt.locs, Pt.cells, Pt.slots] at h1 h2 h3 h4 h5 X hn hPc ⊢
  obtain ⟨m9, methY, cY, hn9, hmY, hcY, -, hlY, -⟩ := Cond.codeWith_spec h2
  cases Option.some.inj (hn9.symm.trans hn)
  obtain ⟨kY, hkY, -⟩ := className_of_methodNamed hn
  have hinitY : kY.init = .initialized := Cond.initialized_spec (findClass_of_methodNamed hn) hkY h3
  have h : At U g.method c below := by rw [hg]; exact X.here
  have hlocals9 : W9 + (maxL + 11) + (headSpec ws rm).room.locals ≤ R.locals := hlocals
  have happ : (headSpec ws rm).appliesLoose y e.platform (U.calling g mk a) = true :=
    Spec.appliesLoose_calling (g := g) h hdg hn hkY hinitY
      (X.room_calling (g := g) (R' := (headSpec ws rm).room) hsize hmY hcY hframes (by rw [hlY]; omega) h4 h5) h1
  obtain ⟨mid, hmid⟩ := h.above
  have hfr : (U.setTop g).frames = (.java g :: mid) ++ below := by rw [State.frames_setTop' g h.top, hmid]; rfl
  obtain ⟨o, s₂, hsteps, -, hend, hq⟩ := Steps.callFree hM p X.admits X.cas X.clock (acts := []) hfr happ hPc trivial
  have hq' : vx_Q Qc XC mc ms free a (U.calling g mk a) o s₂ := hq
  rw [State.frames_setTop' g h.top] at hend
  obtain ⟨g₀, hg0⟩ := Option.isSome_iff_exists.mp h.top
  obtain ⟨r, hr⟩ := State.topJava?_eq_some.mp hg0
  have hr' : (({ U with heap := s₂.heap, slotsUsed := s₂.slotsUsed } : State).setVm s₂.vm).frames = .java g₀ :: r := hr
  rcases hq' with ⟨hqc, L, hfe, hL⟩ | ⟨q, rfl, E, ce, L, hx, hce, hcv, hcl, hW₂, hsm, hL⟩
  · obtain ⟨⟨v, rfl⟩, hW₂, e2, q2, q3, q4, q5, q6⟩ := id hfe
    have e3 : s₂ = ({ (U.calling g mk a).setFrames s₂.frames with heap := s₂.heap, slotsUsed := s₂.slotsUsed } : State).setVm s₂.vm := by
      have : s₂ = ({ s₂ with vm := (U.calling g mk a).vm } : State).setVm s₂.vm := rfl
      rw [e2] at this
      exact this
    obtain ⟨c₂, i₂, len₂, hc₂, hd₂, hf₂⟩ := hend
    have hW' : U.WarmedH s₂.vm := hW₂
    have hcc : c₂ = c := by
      have h1 : s₂.code? g.method = U.code? g.method := by
        rw [State.code?_eq, State.code?_eq, hW'.alike.method?]
      exact Option.some.inj (hc₂.symm.trans (h1.trans h.code))
    subst hcc
    have hlen : len₂ = len := by rw [hdg] at hd₂; cases hd₂; rfl
    subst hlen
    have hs₂ : s₂ = (({ U with heap := s₂.heap, slotsUsed := s₂.slotsUsed } : State).setVm s₂.vm).setTop { g with pc := g.pc + len₂, stack := v.toList ++ g.stack } := by
      refine e3.trans ?_
      rw [hf₂, State.calling_eq h.top, State.setFrames_setFrames, State.setTop_of_frames _ hr', hr]
      rfl
    have hsame : U.sameButNew ({ U with heap := s₂.heap, slotsUsed := s₂.slotsUsed } : State) L mc ms := by
      refine ⟨?_, q2, q3, q4, q5, q6⟩
      obtain ⟨t, ht, -⟩ := State.frames_cons hr
      show ({ U with heap := s₂.heap, slotsUsed := s₂.slotsUsed } : State) = { U.setFrames U.frames with heap := s₂.heap, slotsUsed := s₂.slotsUsed }
      rw [State.setFrames_self ht]
    subst hg
    refine Or.inl ⟨v, ⟨(({ U with heap := s₂.heap, slotsUsed := s₂.slotsUsed } : State).setVm s₂.vm), Ls ++ L, c0 + mc, s0 + ms⟩,
      ⟨X.admits, X.cas, X.clock, X.frames, X.room, X.hears, X.method, X.code, (X.here.setHeapUsed s₂.heap s₂.slotsUsed).setVm hW'.alike, X.tail, State.WarmedH.trans X.warmed hW', X.limits, X.bytes, X.same.trans (hsame.setVm s.vm)⟩,
      ⟨g, mk, s₂, L, rfl, rfl, hqc, rfl, hL, rfl, rfl⟩, ?_⟩
    show Steps p.tables e below _ ((({ U with heap := s₂.heap, slotsUsed := s₂.slotsUsed } : State).setVm s₂.vm).setTop { g with pc := g.pc + len₂, stack := v.toList ++ g.stack })
    rw [← hs₂]
    exact hsteps
  · obtain ⟨e2, q2, q3, q4, q5, q6⟩ := id hsm
    have e3 : s₂ = ({ (U.calling g mk a).setFrames s₂.frames with heap := s₂.heap, slotsUsed := s₂.slotsUsed } : State).setVm s₂.vm := by
      have : s₂ = ({ s₂ with vm := (U.calling g mk a).vm } : State).setVm s₂.vm := rfl
      rw [e2] at this
      exact this
    have hf₂ : s₂.frames = .throwing q :: .java g :: U.frames.tail := hend
    have hW' : U.WarmedH s₂.vm := hW₂
    have hs₂ : s₂ = ((({ U with heap := s₂.heap, slotsUsed := s₂.slotsUsed } : State).setVm s₂.vm).setTop g).pushFrame (.throwing q) := by
      refine e3.trans ?_
      rw [hf₂, State.calling_eq h.top, State.setFrames_setFrames, State.pushFrame, State.frames_setTop _ hr', State.setTop_of_frames _ hr', State.setFrames_setFrames, hr]
      rfl
    have hsame : U.sameButNew ({ U with heap := s₂.heap, slotsUsed := s₂.slotsUsed } : State) L mc ms := by
      refine ⟨?_, q2, q3, q4, q5, q6⟩
      obtain ⟨t, ht, -⟩ := State.frames_cons hr
      show ({ U with heap := s₂.heap, slotsUsed := s₂.slotsUsed } : State) = { U.setFrames U.frames with heap := s₂.heap, slotsUsed := s₂.slotsUsed }
      rw [State.setFrames_self ht]
    subst hg
    refine Or.inr ⟨q, ⟨(({ U with heap := s₂.heap, slotsUsed := s₂.slotsUsed } : State).setVm s₂.vm), Ls ++ L, c0 + mc, s0 + ms⟩,
      ⟨X.admits, X.cas, X.clock, X.frames, X.room, X.hears, X.method, X.code, (X.here.setHeapUsed s₂.heap s₂.slotsUsed).setVm hW'.alike, X.tail, State.WarmedH.trans X.warmed hW', X.limits, X.bytes, X.same.trans (hsame.setVm s.vm)⟩,
      ⟨g, mk, s₂, L, E, ce, rfl, rfl, hx, hce, hcv, hcl, rfl, hL, rfl, rfl⟩, ?_⟩
    show Steps p.tables e below _ (((({ U with heap := s₂.heap, slotsUsed := s₂.slotsUsed } : State).setVm s₂.vm).setTop g).pushFrame (.throwing q))
    rw [← hs₂]
    exact hsteps
end GXW
section GXW2
variable {p : Program} {l : Launch} {e : Env} {R : Room} {s : State} {m : MethodId} {args : Array Value} {below : List Frame} {meth : Method} {c : Code} {H : Heap} {locs : List Loc} {cells slots : Nat}
variable {y : MethodName} {bytes cc : ByteArray} {maxL nL mc ms rc rs n index : Nat} {ret : Option FieldType} {ws : List Cond} {rm : Room} {Pc : Array Value → State → Prop} {Qc : Array Value → State → Outcome → State → Prop} {XC : String → State → State → Prop} {free : Addr → Prop} {Ts : List Cond} {own C : String} {b : Addr} {As rest : List Value} {g : JFrame}
theorem gx_runSX {hh : List (Nat × Nat × Nat × Nat)} (S : CallFix p m c cc nL s args Ts own) (hM : vx_Met l y ws rm Pc Qc XC mc ms free) (cw : vx_CSW R s args own index y bytes maxL ret hh ws rm rc rs n) (hp : PreS s H Pc As)
    (hg : g.method = m) (hn : As.length = n) (hsize : g.locals.size = nL) (hstack : g.stack = As.reverse ++ rest) (hW : 2 * g.monitorRoom + (rest.map fun v => v.category).sum ≤ 8) (hdg : decode cc g.pc = .ok (.invokestatic index, 3)) (hf : cells + rc ≤ R.cells ∧ slots + rs ≤ R.slots) :
    vx_Run p l e R s m args below meth c H locs cells slots mc ms g rest (Qc As.toArray) XC free := by
  obtain ⟨⟨hrc, hrs, hfr, hlo, hws, hcw⟩, hcode, hini, hy, hlen, hl, hstt⟩ := cw
  have hK : vx_Back l R p e below s args y 3 8 (PreOf R rc rs Pc) (PostOf Qc mc ms free) (vx_Post XC mc ms free) := gx_backW (hh := hh) (bytes := bytes) (maxL := maxL) (ret := ret) hM hp.1 hrc hrs hfr hlo hws hcw (fun a' U hW => word_at hW (Or.inl (by first | rfl | simp [Cond.onTables, Cond.keeps, Cond.steady])) hini)
  obtain ⟨hx, hb, hml, ho, -⟩ := S
  intro T hT X
  rcases vx_callSX X hx (hh := hh) (bytes := bytes) (maxL := maxL) (ret := ret) ho hl hstt hini hcode hy hK hg (hsize.trans hml.symm) (argsL := As) (rest := rest) (fun sig h => hn.trans (hlen sig h)) hstack hW (by rw [hb]; exact hdg)
    (fun vm₁ hW₁ => ⟨hf.1, hf.2, hp.2 (T.setVm vm₁) hT hW₁⟩) with ⟨v, vm₁, ⟨U', l2, c2, s2⟩, hW₁, X', ⟨g', mk, t, L, e1, e2, hq, h1, hL, h2, h3⟩, st⟩ | ⟨q, vm₁, ⟨U', l2, c2, s2⟩, hW₁, X', ⟨g', mk, t, L, E, ce, e1, e2, hq, hce, hcv, hcl, h1, hL, h2, h3⟩, st⟩
  · dsimp only [Pt.U, Pt.locs, Pt.cells, Pt.slots] at X' e1 e2 h1 h2 h3 st
    subst h1; subst h2; subst h3
    exact Or.inl ⟨v, (T.setVm vm₁).calling g' mk As.toArray, t, U', L, hT, X', hL, e1, e2, hq, st⟩
  · dsimp only [Pt.U, Pt.locs, Pt.cells, Pt.slots] at X' e1 e2 h1 h2 h3 st hcl
    subst h1; subst h2; subst h3
    exact Or.inr ⟨q, (T.setVm vm₁).calling g' mk As.toArray, t, U', L, E, ce, hT, X', hL, e1, e2, hq, hce, hcv, vx_cls hW₁ hcl, st⟩
end GXW2
def TWL : List Cond := [
  .methodLink RL 7 yX6_type,
  .instanceMethod yX6_type,
  .selects RX6 yX6_type yX6_type,
  .classLink RL 13 "java/lang/IllegalArgumentException",
  .methodLink RL 15 yX6_pattern,
  .instanceMethod yX6_pattern,
  .selects RX6 yX6_pattern yX6_pattern,
  .methodLink RL 19 yX6_text,
  .instanceMethod yX6_text,
  .selects RX6 yX6_text yX6_text,
  .classLink RL 23 "java/lang/IllegalStateException",
  .methodLink RL 25 yX6_start,
  .instanceMethod yX6_start,
  .selects RX6 yX6_start yX6_start,
  .methodLink RL 28 yX6_find,
  .instanceMethod yX6_find,
  .selects RX6 yX6_find yX6_find,
  .classLink RL 31 "java/lang/UnsupportedOperationException",
  .methodLink RL 33 yX6_replace,
  .instanceMethod yX6_replace,
  .selects RX6 yX6_replace yX6_replace,
  .methodLink RL 36 yX6_result,
  .instanceMethod yX6_result,
  .selects RX6 yX6_result yX6_result,
  .classLink RL 40 "java/util/NoSuchElementException"]
def TBL : List Cond := TWL ++ TBC
theorem TWL_good : TWL.all goodWord = true := by decide +kernel
theorem TBL_ok {w : Cond} (h : w ∈ TBL) : goodWord w = true := by
  rcases List.mem_append.mp h with h | h
  · exact List.all_eq_true.mp TWL_good w h
  · exact TBC_ok h
theorem wL_m_type : Cond.methodLink RL 7 yX6_type ∈ TBL := List.mem_append_left _ (List.mem_of_getElem? (i := 0) rfl)
theorem wL_i_type : Cond.instanceMethod yX6_type ∈ TBL := List.mem_append_left _ (List.mem_of_getElem? (i := 1) rfl)
theorem wL_s_type : Cond.selects RX6 yX6_type yX6_type ∈ TBL := List.mem_append_left _ (List.mem_of_getElem? (i := 2) rfl)
theorem wL_c_13 : Cond.classLink RL 13 "java/lang/IllegalArgumentException" ∈ TBL := List.mem_append_left _ (List.mem_of_getElem? (i := 3) rfl)
theorem wL_m_pattern : Cond.methodLink RL 15 yX6_pattern ∈ TBL := List.mem_append_left _ (List.mem_of_getElem? (i := 4) rfl)
theorem wL_i_pattern : Cond.instanceMethod yX6_pattern ∈ TBL := List.mem_append_left _ (List.mem_of_getElem? (i := 5) rfl)
theorem wL_s_pattern : Cond.selects RX6 yX6_pattern yX6_pattern ∈ TBL := List.mem_append_left _ (List.mem_of_getElem? (i := 6) rfl)
theorem wL_m_text : Cond.methodLink RL 19 yX6_text ∈ TBL := List.mem_append_left _ (List.mem_of_getElem? (i := 7) rfl)
theorem wL_i_text : Cond.instanceMethod yX6_text ∈ TBL := List.mem_append_left _ (List.mem_of_getElem? (i := 8) rfl)
theorem wL_s_text : Cond.selects RX6 yX6_text yX6_text ∈ TBL := List.mem_append_left _ (List.mem_of_getElem? (i := 9) rfl)
theorem wL_c_23 : Cond.classLink RL 23 "java/lang/IllegalStateException" ∈ TBL := List.mem_append_left _ (List.mem_of_getElem? (i := 10) rfl)
theorem wL_m_start : Cond.methodLink RL 25 yX6_start ∈ TBL := List.mem_append_left _ (List.mem_of_getElem? (i := 11) rfl)
theorem wL_i_start : Cond.instanceMethod yX6_start ∈ TBL := List.mem_append_left _ (List.mem_of_getElem? (i := 12) rfl)
theorem wL_s_start : Cond.selects RX6 yX6_start yX6_start ∈ TBL := List.mem_append_left _ (List.mem_of_getElem? (i := 13) rfl)
theorem wL_m_find : Cond.methodLink RL 28 yX6_find ∈ TBL := List.mem_append_left _ (List.mem_of_getElem? (i := 14) rfl)
theorem wL_i_find : Cond.instanceMethod yX6_find ∈ TBL := List.mem_append_left _ (List.mem_of_getElem? (i := 15) rfl)
theorem wL_s_find : Cond.selects RX6 yX6_find yX6_find ∈ TBL := List.mem_append_left _ (List.mem_of_getElem? (i := 16) rfl)
theorem wL_c_31 : Cond.classLink RL 31 "java/lang/UnsupportedOperationException" ∈ TBL := List.mem_append_left _ (List.mem_of_getElem? (i := 17) rfl)
theorem wL_m_replace : Cond.methodLink RL 33 yX6_replace ∈ TBL := List.mem_append_left _ (List.mem_of_getElem? (i := 18) rfl)
theorem wL_i_replace : Cond.instanceMethod yX6_replace ∈ TBL := List.mem_append_left _ (List.mem_of_getElem? (i := 19) rfl)
theorem wL_s_replace : Cond.selects RX6 yX6_replace yX6_replace ∈ TBL := List.mem_append_left _ (List.mem_of_getElem? (i := 20) rfl)
theorem wL_m_result : Cond.methodLink RL 36 yX6_result ∈ TBL := List.mem_append_left _ (List.mem_of_getElem? (i := 21) rfl)
theorem wL_i_result : Cond.instanceMethod yX6_result ∈ TBL := List.mem_append_left _ (List.mem_of_getElem? (i := 22) rfl)
theorem wL_s_result : Cond.selects RX6 yX6_result yX6_result ∈ TBL := List.mem_append_left _ (List.mem_of_getElem? (i := 23) rfl)
theorem wL_c_40 : Cond.classLink RL 40 "java/util/NoSuchElementException" ∈ TBL := List.mem_append_left _ (List.mem_of_getElem? (i := 24) rfl)
set_option maxRecDepth 100000 in
theorem TWL_L0 : TWL.map some = [340, 341, 342, 339, 429, 430, 431, 749, 750, 751, 748, 772, 773, 774, 781, 782, 783, 780, 990, 991, 992, 1018, 1019, 1020, 1017].map (fun i => lw_tbl[i]?) := by decide +kernel
theorem TBL_L : ∀ w ∈ TBL, w ∈ lw_tbl := List.forall_mem_append.mpr ⟨at_some TWL_L0, TBC_L⟩
theorem cwL {p : Program} {R : Room} {s : State} {m : MethodId} {args : Array Value} {meth : Method} {c : Code} {cc : ByteArray} {maxL : Nat} {ret : Option FieldType} {w0 : Cond} {idx mxL rc rs : Nat} {y : MethodName} {bytes : ByteArray} {rt : Option FieldType} {rm : Room} (n : Nat) (B : zAt p s m args meth c RL cc maxL ret (w0 :: TBL)) (h1 : Cond.methodLink RL idx y ∈ TBL) (h2 : Cond.instanceMethod y ∈ TBL) (h3 : Cond.selects RX6 y y ∈ TBL) (h4 : Cond.code y bytes mxL rt ∈ TBC) (hrc : rm.cells = rc) (hrs : rm.slots = rs)
    (hd : y.cls = RX6 ∧ y.cls ≠ "java/lang/invoke/MethodHandle" ∧ y.cls ≠ "java/lang/invoke/VarHandle" ∧ (parseMethodDescriptor y.desc).map (fun d => d.parameters.length) = some n) (hR : rm.frames + 1 ≤ R.frames ∧ 8 + (mxL + 11) + rm.locals ≤ R.locals) : CallW R s args RL RX6 idx y bytes mxL rt (.code y bytes mxL rt :: TBC) rm rc rs n := by
  refine cwV n B.2.2.2.2.1 ?_ rfl hrc hrs hd hR
  intro w hw
  have : w ∈ TBL := by
    rcases List.mem_append.mp hw with h | h
    · simp only [List.mem_cons, List.not_mem_nil, or_false] at h
      rcases h with rfl | rfl | rfl | rfl
      · exact h1
      · exact h2
      · exact h3
      · exact List.mem_append_right _ wC_in_RX6
    · rcases List.mem_cons.mp h with rfl | h
      · exact List.mem_append_right _ h4
      · exact List.mem_append_right _ h
  exact ⟨List.mem_cons_of_mem _ this, good_of_word (TBL_ok this)⟩
