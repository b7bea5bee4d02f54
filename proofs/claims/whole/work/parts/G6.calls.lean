/-! THE CLAIM OUT OF ONE WALK OF THE LAW'S BODY. Your part is whole_start (and what it stands on); all else here is the same for every law, but numbers. -/
def R_law : String := "PatternRunnerLaw"
def lw_P (b : Addr) (xs : List Int32) (args : Array Value) (s : State) : Prop := args = #[.ref b] ∧ s.IntsAt b xs ∧ xs.length ≤ 2048 ∧ (Jvm.Cond.and given_1 narrow_1).before args s = true
def lw_Q (_ : Array Value) (s : State) (o : Outcome) (t : State) : Prop := o = .returned (some (.int 1)) ∧ Framed s o t [] 601024 7293034
def lw_Z (below : List Frame) (a : Array Value) (s : State) : State → Prop := fun t => ∃ o, t.status = .running ∧ Ended t below o ∧ lw_Q a s o t
/-- the law's own end, with 1 on the stack, nothing written that was there before, its room as the claim has it -/
theorem lw_ret {p : Program} {l : Launch} {e : Env} {s : State} {m : MethodId} {below : List Frame} {meth : Method} {c : Code} {b : Nat} (hx : p.tables.exec = Jvm.exec) (hb : c.code = code) (hr : meth.sig.returnType = ret) (hlocks : meth.locks = false) {pc : Nat} {H : Heap} {ls : Array Slot} (hdg : decode code pc = .ok (.ireturn, 1)) : W p l e room_1 s m #[Value.ref b] below meth c H [] 601024 7293034 (lw_Z below #[Value.ref b] s) (F0 m pc ls [.int 1]) := by
  intro T hT X
  obtain ⟨fs, hret, hrun, hended, hW, hframe⟩ := X.leave (v := some (.int 1)) (hlocks := hlocks) (fun h => by rw [hr] at h; cases h)
  have hmeth' : T.vm.method? m = some meth := X.method'
  refine ⟨T.setFrames fs, ?_, .returned (some (.int 1)), hrun, hended, rfl, ⟨_, rfl⟩, hW, hframe⟩
  jvm_step X.here [X.here.top, hx, hb, hdg, hmeth', hr, ret, narrow_b1]
  (try refine ⟨rfl, ?_⟩); (try refine ⟨rfl, ?_⟩)
  first | (intro acts; rw [hret _ acts rfl rfl rfl]) | rw [hret _ _ rfl rfl rfl]
  exact Steps.refl _
/-- what holds at the law's entry: the machine, the code, the tables' words (any of lw_tbl by 'hts w (by decide +kernel)'), the script of L ints xs at the cell b, what the Statement gives of the start (any of its parts by flat_of_before) -/
def lw_At (p : Program) (s : State) (m : MethodId) (meth : Method) (c : Code) (b L : Nat) (xs : Nat → Int32) : Prop :=
  p.tables.exec = Jvm.exec ∧ c.code = code ∧ meth.sig.returnType = ret ∧ c.maxLocals = 7 ∧ s.vm.findClass R_law = some m.cls ∧ (∀ w ∈ lw_tbl, w.before #[Value.ref b] s = true) ∧ va_X b L xs s s.heap ∧ b < s.heap.size ∧ meth.locks = false ∧ (Jvm.Cond.and given_1 narrow_1).before #[Value.ref b] s = true
set_option maxRecDepth 100000 in
theorem tL_in_RL : Cond.initialized RL ∈ lw_tbl := List.mem_of_getElem? (i := 86) (by decide +kernel)
set_option maxRecDepth 100000 in
theorem tL_m_type : Cond.methodLink RL 48 yL_type ∈ lw_tbl := List.mem_of_getElem? (i := 336) (by decide +kernel)
set_option maxRecDepth 100000 in
theorem tL_t_type : Cond.static yL_type ∈ lw_tbl := List.mem_of_getElem? (i := 337) (by decide +kernel)
set_option maxRecDepth 100000 in
theorem tL_c_type : Cond.codeWith yL_type cL_type 6 (some .int) [(0, 11, 14, 13)] ∈ lw_tbl := List.mem_of_getElem? (i := 338) (by decide +kernel)
set_option maxRecDepth 100000 in
theorem tL_m_pattern : Cond.methodLink RL 57 yL_pattern ∈ lw_tbl := List.mem_of_getElem? (i := 426) (by decide +kernel)
set_option maxRecDepth 100000 in
theorem tL_t_pattern : Cond.static yL_pattern ∈ lw_tbl := List.mem_of_getElem? (i := 427) (by decide +kernel)
set_option maxRecDepth 100000 in
theorem tL_c_pattern : Cond.codeWith yL_pattern cL_pattern 4 (some .int) [(0, 9, 12, 13)] ∈ lw_tbl := List.mem_of_getElem? (i := 428) (by decide +kernel)
set_option maxRecDepth 100000 in
theorem tL_m_text : Cond.methodLink RL 61 yL_text ∈ lw_tbl := List.mem_of_getElem? (i := 745) (by decide +kernel)
set_option maxRecDepth 100000 in
theorem tL_t_text : Cond.static yL_text ∈ lw_tbl := List.mem_of_getElem? (i := 746) (by decide +kernel)
set_option maxRecDepth 100000 in
theorem tL_c_text : Cond.codeWith yL_text cL_text 3 (some .int) [(0, 8, 11, 23)] ∈ lw_tbl := List.mem_of_getElem? (i := 747) (by decide +kernel)
set_option maxRecDepth 100000 in
theorem tL_m_start : Cond.methodLink RL 65 yL_start ∈ lw_tbl := List.mem_of_getElem? (i := 769) (by decide +kernel)
set_option maxRecDepth 100000 in
theorem tL_t_start : Cond.static yL_start ∈ lw_tbl := List.mem_of_getElem? (i := 770) (by decide +kernel)
set_option maxRecDepth 100000 in
theorem tL_c_start : Cond.codeWith yL_start cL_start 4 (some .int) [(0, 9, 12, 13)] ∈ lw_tbl := List.mem_of_getElem? (i := 771) (by decide +kernel)
set_option maxRecDepth 100000 in
theorem tL_m_find : Cond.methodLink RL 68 yL_find ∈ lw_tbl := List.mem_of_getElem? (i := 777) (by decide +kernel)
set_option maxRecDepth 100000 in
theorem tL_t_find : Cond.static yL_find ∈ lw_tbl := List.mem_of_getElem? (i := 778) (by decide +kernel)
set_option maxRecDepth 100000 in
theorem tL_c_find : Cond.codeWith yL_find cL_find 3 (some .int) [(0, 8, 11, 31)] ∈ lw_tbl := List.mem_of_getElem? (i := 779) (by decide +kernel)
set_option maxRecDepth 100000 in
theorem tL_m_replace : Cond.methodLink RL 83 yL_replace ∈ lw_tbl := List.mem_of_getElem? (i := 987) (by decide +kernel)
set_option maxRecDepth 100000 in
theorem tL_t_replace : Cond.static yL_replace ∈ lw_tbl := List.mem_of_getElem? (i := 988) (by decide +kernel)
set_option maxRecDepth 100000 in
theorem tL_c_replace : Cond.codeWith yL_replace cL_replace 3 (some .int) [(0, 8, 11, 31)] ∈ lw_tbl := List.mem_of_getElem? (i := 989) (by decide +kernel)
set_option maxRecDepth 100000 in
theorem tL_m_result : Cond.methodLink RL 86 yL_result ∈ lw_tbl := List.mem_of_getElem? (i := 1014) (by decide +kernel)
set_option maxRecDepth 100000 in
theorem tL_t_result : Cond.static yL_result ∈ lw_tbl := List.mem_of_getElem? (i := 1015) (by decide +kernel)
set_option maxRecDepth 100000 in
theorem tL_c_result : Cond.codeWith yL_result cL_result 4 (some .int) [(0, 9, 12, 40)] ∈ lw_tbl := List.mem_of_getElem? (i := 1016) (by decide +kernel)
set_option maxRecDepth 100000 in
theorem tL_M_type : Cond.methodLink RL 53 yX7_type ∈ lw_tbl := List.mem_of_getElem? (i := 1265) (by decide +kernel)
set_option maxRecDepth 100000 in
theorem tL_I_type : Cond.instanceMethod yX7_type ∈ lw_tbl := List.mem_of_getElem? (i := 1266) (by decide +kernel)
set_option maxRecDepth 100000 in
theorem tL_S_type : Cond.selects RX7 yX7_type yX7_type ∈ lw_tbl := List.mem_of_getElem? (i := 1267) (by decide +kernel)
set_option maxRecDepth 100000 in
theorem tL_M_pattern : Cond.methodLink RL 60 yX7_pattern ∈ lw_tbl := List.mem_of_getElem? (i := 1276) (by decide +kernel)
set_option maxRecDepth 100000 in
theorem tL_I_pattern : Cond.instanceMethod yX7_pattern ∈ lw_tbl := List.mem_of_getElem? (i := 1277) (by decide +kernel)
set_option maxRecDepth 100000 in
theorem tL_S_pattern : Cond.selects RX7 yX7_pattern yX7_pattern ∈ lw_tbl := List.mem_of_getElem? (i := 1278) (by decide +kernel)
set_option maxRecDepth 100000 in
theorem tL_M_text : Cond.methodLink RL 64 yX7_text ∈ lw_tbl := List.mem_of_getElem? (i := 1280) (by decide +kernel)
set_option maxRecDepth 100000 in
theorem tL_I_text : Cond.instanceMethod yX7_text ∈ lw_tbl := List.mem_of_getElem? (i := 1281) (by decide +kernel)
set_option maxRecDepth 100000 in
theorem tL_S_text : Cond.selects RX7 yX7_text yX7_text ∈ lw_tbl := List.mem_of_getElem? (i := 1282) (by decide +kernel)
set_option maxRecDepth 100000 in
theorem tL_M_start : Cond.methodLink RL 67 yX7_start ∈ lw_tbl := List.mem_of_getElem? (i := 1284) (by decide +kernel)
set_option maxRecDepth 100000 in
theorem tL_I_start : Cond.instanceMethod yX7_start ∈ lw_tbl := List.mem_of_getElem? (i := 1285) (by decide +kernel)
set_option maxRecDepth 100000 in
theorem tL_S_start : Cond.selects RX7 yX7_start yX7_start ∈ lw_tbl := List.mem_of_getElem? (i := 1286) (by decide +kernel)
set_option maxRecDepth 100000 in
theorem tL_M_find : Cond.methodLink RL 70 yX7_find ∈ lw_tbl := List.mem_of_getElem? (i := 1288) (by decide +kernel)
set_option maxRecDepth 100000 in
theorem tL_I_find : Cond.instanceMethod yX7_find ∈ lw_tbl := List.mem_of_getElem? (i := 1289) (by decide +kernel)
set_option maxRecDepth 100000 in
theorem tL_S_find : Cond.selects RX7 yX7_find yX7_find ∈ lw_tbl := List.mem_of_getElem? (i := 1290) (by decide +kernel)
set_option maxRecDepth 100000 in
theorem tL_M_from : Cond.methodLink RL 74 yX7_from ∈ lw_tbl := List.mem_of_getElem? (i := 1371) (by decide +kernel)
set_option maxRecDepth 100000 in
theorem tL_I_from : Cond.instanceMethod yX7_from ∈ lw_tbl := List.mem_of_getElem? (i := 1372) (by decide +kernel)
set_option maxRecDepth 100000 in
theorem tL_S_from : Cond.selects RX7 yX7_from yX7_from ∈ lw_tbl := List.mem_of_getElem? (i := 1373) (by decide +kernel)
set_option maxRecDepth 100000 in
theorem tL_M_to : Cond.methodLink RL 78 yX7_to ∈ lw_tbl := List.mem_of_getElem? (i := 1379) (by decide +kernel)
set_option maxRecDepth 100000 in
theorem tL_I_to : Cond.instanceMethod yX7_to ∈ lw_tbl := List.mem_of_getElem? (i := 1380) (by decide +kernel)
set_option maxRecDepth 100000 in
theorem tL_S_to : Cond.selects RX7 yX7_to yX7_to ∈ lw_tbl := List.mem_of_getElem? (i := 1381) (by decide +kernel)
set_option maxRecDepth 100000 in
theorem tL_M_steps : Cond.methodLink RL 82 yX7_steps ∈ lw_tbl := List.mem_of_getElem? (i := 1383) (by decide +kernel)
set_option maxRecDepth 100000 in
theorem tL_I_steps : Cond.instanceMethod yX7_steps ∈ lw_tbl := List.mem_of_getElem? (i := 1384) (by decide +kernel)
set_option maxRecDepth 100000 in
theorem tL_S_steps : Cond.selects RX7 yX7_steps yX7_steps ∈ lw_tbl := List.mem_of_getElem? (i := 1385) (by decide +kernel)
set_option maxRecDepth 100000 in
theorem tL_M_replace : Cond.methodLink RL 85 yX7_replace ∈ lw_tbl := List.mem_of_getElem? (i := 1387) (by decide +kernel)
set_option maxRecDepth 100000 in
theorem tL_I_replace : Cond.instanceMethod yX7_replace ∈ lw_tbl := List.mem_of_getElem? (i := 1388) (by decide +kernel)
set_option maxRecDepth 100000 in
theorem tL_S_replace : Cond.selects RX7 yX7_replace yX7_replace ∈ lw_tbl := List.mem_of_getElem? (i := 1389) (by decide +kernel)
set_option maxRecDepth 100000 in
theorem tL_M_result : Cond.methodLink RL 88 yX7_result ∈ lw_tbl := List.mem_of_getElem? (i := 1403) (by decide +kernel)
set_option maxRecDepth 100000 in
theorem tL_I_result : Cond.instanceMethod yX7_result ∈ lw_tbl := List.mem_of_getElem? (i := 1404) (by decide +kernel)
set_option maxRecDepth 100000 in
theorem tL_S_result : Cond.selects RX7 yX7_result yX7_result ∈ lw_tbl := List.mem_of_getElem? (i := 1405) (by decide +kernel)
set_option maxRecDepth 100000 in
theorem tL_M_thrown : Cond.methodLink RL 54 yX7_thrown ∈ lw_tbl := List.mem_of_getElem? (i := 1261) (by decide +kernel)
set_option maxRecDepth 100000 in
theorem tL_I_thrown : Cond.instanceMethod yX7_thrown ∈ lw_tbl := List.mem_of_getElem? (i := 1262) (by decide +kernel)
set_option maxRecDepth 100000 in
theorem tL_S_thrown : Cond.selects RX7 yX7_thrown yX7_thrown ∈ lw_tbl := List.mem_of_getElem? (i := 1263) (by decide +kernel)
set_option maxRecDepth 100000 in
theorem tL_K_from : Cond.methodLink RL 71 yX6_from ∈ lw_tbl := List.mem_of_getElem? (i := 324) (by decide +kernel)
set_option maxRecDepth 100000 in
theorem tL_J_from : Cond.instanceMethod yX6_from ∈ lw_tbl := List.mem_of_getElem? (i := 325) (by decide +kernel)
set_option maxRecDepth 100000 in
theorem tL_T_from : Cond.selects RX6 yX6_from yX6_from ∈ lw_tbl := List.mem_of_getElem? (i := 326) (by decide +kernel)
set_option maxRecDepth 100000 in
theorem tL_K_to : Cond.methodLink RL 75 yX6_to ∈ lw_tbl := List.mem_of_getElem? (i := 328) (by decide +kernel)
set_option maxRecDepth 100000 in
theorem tL_J_to : Cond.instanceMethod yX6_to ∈ lw_tbl := List.mem_of_getElem? (i := 329) (by decide +kernel)
set_option maxRecDepth 100000 in
theorem tL_T_to : Cond.selects RX6 yX6_to yX6_to ∈ lw_tbl := List.mem_of_getElem? (i := 330) (by decide +kernel)
set_option maxRecDepth 100000 in
theorem tL_K_steps : Cond.methodLink RL 79 yX6_steps ∈ lw_tbl := List.mem_of_getElem? (i := 332) (by decide +kernel)
set_option maxRecDepth 100000 in
theorem tL_J_steps : Cond.instanceMethod yX6_steps ∈ lw_tbl := List.mem_of_getElem? (i := 333) (by decide +kernel)
set_option maxRecDepth 100000 in
theorem tL_T_steps : Cond.selects RX6 yX6_steps yX6_steps ∈ lw_tbl := List.mem_of_getElem? (i := 334) (by decide +kernel)
set_option maxRecDepth 100000 in
theorem tL_k46 : Cond.constantLong RL 46 4294967295 ∈ lw_tbl := List.mem_of_getElem? (i := 1407) (by decide +kernel)
set_option maxRecDepth 100000 in
theorem tL_al : Cond.arrayClass .long ∈ lw_tbl := List.mem_of_getElem? (i := 185) (by decide +kernel)
set_option maxRecDepth 100000 in
theorem tL_cX6 : Cond.classLink RL 8 RX6 ∈ lw_tbl := List.mem_of_getElem? (i := 110) (by decide +kernel)
set_option maxRecDepth 100000 in
theorem tL_nX6 : Cond.instantiable RX6 13 ∈ lw_tbl := List.mem_of_getElem? (i := 111) (by decide +kernel)
set_option maxRecDepth 100000 in
theorem tL_pX6 : Cond.methodLink RL 42 yX6_init ∈ lw_tbl := List.mem_of_getElem? (i := 112) (by decide +kernel)
set_option maxRecDepth 100000 in
theorem tL_qX6 : Cond.instanceMethod yX6_init ∈ lw_tbl := List.mem_of_getElem? (i := 113) (by decide +kernel)
set_option maxRecDepth 100000 in
theorem tL_cX7 : Cond.classLink RL 43 RX7 ∈ lw_tbl := List.mem_of_getElem? (i := 1038) (by decide +kernel)
set_option maxRecDepth 100000 in
theorem tL_nX7 : Cond.instantiable RX7 50 ∈ lw_tbl := List.mem_of_getElem? (i := 1039) (by decide +kernel)
set_option maxRecDepth 100000 in
theorem tL_pX7 : Cond.methodLink RL 45 yX7_init ∈ lw_tbl := List.mem_of_getElem? (i := 1040) (by decide +kernel)
set_option maxRecDepth 100000 in
theorem tL_qX7 : Cond.instanceMethod yX7_init ∈ lw_tbl := List.mem_of_getElem? (i := 1041) (by decide +kernel)
theorem csL {R : Room} {s : State} {args : Array Value} {idx mxL rc rs : Nat} {y : MethodName} {bytes : ByteArray} {hh : List (Nat × Nat × Nat × Nat)} {rm : Room} (n : Nat) (hts : ∀ w ∈ lw_tbl, w.before args s = true) (h1 : Cond.methodLink RL idx y ∈ lw_tbl) (h2 : Cond.static y ∈ lw_tbl) (h4 : Cond.codeWith y bytes mxL (some .int) hh ∈ lw_tbl) (h0 : y.cls = RL) (hrc : rm.cells = rc) (hrs : rm.slots = rs)
    (hd : y.cls ≠ "java/lang/invoke/MethodHandle" ∧ y.cls ≠ "java/lang/invoke/VarHandle" ∧ (parseMethodDescriptor y.desc).map (fun d => d.parameters.length) = some n) (hR : rm.frames + 1 ≤ R.frames ∧ 8 + (mxL + 11) + rm.locals ≤ R.locals) : vx_CSW R s args RL idx y bytes mxL (some .int) hh (Cond.codeWith y bytes mxL (some .int) hh :: TBL) rm rc rs n := by
  refine vx_cwSW n hts ?_ rfl hrc hrs hd hR
  intro w hw
  rcases List.mem_append.mp hw with h | h
  · simp only [List.mem_cons, List.not_mem_nil, or_false] at h
    rcases h with rfl | rfl | rfl
    · exact ⟨h1, good_of_word rfl⟩
    · exact ⟨h2, good_of_word rfl⟩
    · rw [h0]; exact ⟨tL_in_RL, good_of_word rfl⟩
  · rcases List.mem_cons.mp h with rfl | h
    · exact ⟨h4, good_of_word rfl⟩
    · exact ⟨TBL_L w h, good_of_word (TBL_ok h)⟩
theorem cwM {R : Room} {s : State} {args : Array Value} {idx mxL : Nat} {y : MethodName} {bytes : ByteArray} {rt : Option FieldType} {rm : Room} (n : Nat) (hts : ∀ w ∈ lw_tbl, w.before args s = true) (h1 : Cond.methodLink RL idx y ∈ lw_tbl) (h2 : Cond.instanceMethod y ∈ lw_tbl) (h3 : Cond.selects RX7 y y ∈ lw_tbl) (h4 : Cond.code y bytes mxL rt ∈ TB7) (hrc : rm.cells = 0) (hrs : rm.slots = 0)
    (hd : y.cls = RX7 ∧ y.cls ≠ "java/lang/invoke/MethodHandle" ∧ y.cls ≠ "java/lang/invoke/VarHandle" ∧ (parseMethodDescriptor y.desc).map (fun d => d.parameters.length) = some n) (hR : rm.frames + 1 ≤ R.frames ∧ 8 + (mxL + 11) + rm.locals ≤ R.locals) : CallW R s args RL RX7 idx y bytes mxL rt (.code y bytes mxL rt :: TB7) rm 0 0 n := by
  refine cwV n hts ?_ rfl hrc hrs hd hR
  intro w hw
  rcases List.mem_append.mp hw with h | h
  · simp only [List.mem_cons, List.not_mem_nil, or_false] at h
    rcases h with rfl | rfl | rfl | rfl
    · exact ⟨h1, good_of_word rfl⟩
    · exact ⟨h2, good_of_word rfl⟩
    · exact ⟨h3, good_of_word rfl⟩
    · exact ⟨TB7_L _ w7_in_RX7, good_of_word rfl⟩
  · rcases List.mem_cons.mp h with rfl | h
    · exact ⟨TB7_L _ h4, good_of_word rfl⟩
    · exact ⟨TB7_L w h, good_of_word (TB7_ok h)⟩
theorem cwK {R : Room} {s : State} {args : Array Value} {idx mxL : Nat} {y : MethodName} {bytes : ByteArray} {rt : Option FieldType} {rm : Room} (n : Nat) (hts : ∀ w ∈ lw_tbl, w.before args s = true) (h1 : Cond.methodLink RL idx y ∈ lw_tbl) (h2 : Cond.instanceMethod y ∈ lw_tbl) (h3 : Cond.selects RX6 y y ∈ lw_tbl) (h4 : Cond.code y bytes mxL rt ∈ TBC) (hrc : rm.cells = 0) (hrs : rm.slots = 0)
    (hd : y.cls = RX6 ∧ y.cls ≠ "java/lang/invoke/MethodHandle" ∧ y.cls ≠ "java/lang/invoke/VarHandle" ∧ (parseMethodDescriptor y.desc).map (fun d => d.parameters.length) = some n) (hR : rm.frames + 1 ≤ R.frames ∧ 8 + (mxL + 11) + rm.locals ≤ R.locals) : CallW R s args RL RX6 idx y bytes mxL rt (.code y bytes mxL rt :: TBC) rm 0 0 n := by
  refine cwV n hts ?_ rfl hrc hrs hd hR
  intro w hw
  rcases List.mem_append.mp hw with h | h
  · simp only [List.mem_cons, List.not_mem_nil, or_false] at h
    rcases h with rfl | rfl | rfl | rfl
    · exact ⟨h1, good_of_word rfl⟩
    · exact ⟨h2, good_of_word rfl⟩
    · exact ⟨h3, good_of_word rfl⟩
    · exact ⟨TBC_L _ wC_in_RX6, good_of_word rfl⟩
  · rcases List.mem_cons.mp h with rfl | h
    · exact ⟨TBC_L _ h4, good_of_word rfl⟩
    · exact ⟨TBC_L w h, good_of_word (TBC_ok h)⟩
/-- the three worlds of the law's body stand: the component's, the reference's, the row of one long; they are apart -/
def jF (D : va_G) (cy : Nat → ClassId) (q : Nat → Nat) (x y o : Nat) (q2 : Nat → Nat) (ao Z : Nat) (S : CSt) (M : MSt) (f : Nat → Int64) (H0 H : Heap) (locs : List Loc) : Prop :=
  (va_P D vwCl (cW cy (cq q x y) S) H ∧ va_D (fun a => Z ≤ a) (cW cy (cq q x y) S)) ∧ (va_P D vwCl (mW cy o q2 M) H ∧ va_D (fun a => Z ≤ a) (mW cy o q2 M)) ∧ (va_P D vwCl (oW cy ao f) H ∧ Z ≤ ao) ∧ ((∀ a, cA (cq q x y) a → ¬ mA o q2 a) ∧ ¬ cA (cq q x y) ao ∧ ¬ mA o q2 ao) ∧ va_S (fun a => Z ≤ a) H0 H locs
theorem mA_lt {D : va_G} {cy : Nat → ClassId} {o : Nat} {q : Nat → Nat} {M : MSt} {H : Heap} (h : va_P D vwCl (mW cy o q M) H) : ∀ a, mA o q a → a < H.size := by
  rintro a (rfl | ⟨k, hk, rfl⟩)
  · exact vx_lt h mW_0
  · obtain ⟨j, hj, e⟩ := List.getElem_of_mem hk
    have : mR[j]? = some k := by rw [List.getElem?_eq_getElem hj, e]
    exact vx_lt h (mW_arr this)
theorem oW_k {D : va_G} {cy : Nat → ClassId} {ao : Nat} {f : Nat → Int64} {H H1 : Heap} (h : va_P D vwCl (oW cy ao f) H) (e : H1[ao]? = H[ao]?) : va_P D vwCl (oW cy ao f) H1 := va_P.kept h (fun k z hz => by
  cases k with
  | zero => cases hz; exact e
  | succ k => simp at hz)
section LC
variable {p : Program} {l : Launch} {e : Env} {R : Room} {s : State} {m : MethodId} {args : Array Value} {below : List Frame} {meth : Method} {c : Code} {H : Heap} {locs : List Loc} {cells slots : Nat} {Q : State → Prop} {cc : ByteArray} {pc : Nat} {ls : Array Slot} {rest : List Value}
variable {D : va_G} {cy : Nat → ClassId} {q : Nat → Nat} {V : Nat × (Nat → Nat)} {x y o : Nat} {q2 : Nat → Nat} {ao : Nat} {S : CSt} {M : MSt} {f : Nat → Int64} {maxL : Nat} {Ts : List Cond} {index : Nat}
theorem l_scall {yn : MethodName} {wy : List Cond} {fr lo : Nat} {As : List Value} {r : CR} {bytes : ByteArray} {mxL na : Nat} {hh : List (Nat × Nat × Nat × Nat)} (hx : p.tables.exec = Jvm.exec) (hb : c.code = cc) (hml : c.maxLocals = maxL) (hown : s.vm.findClass RL = some m.cls) (hts : ∀ w ∈ Ts, w.before args s = true) (hK : va_K D vwCl (zTY cy) s) (hE : cEnv V s s.heap) (hV : V.1 = s.heap.size) (h : jF D cy q x y o q2 ao s.heap.size S M f s.heap H locs)
    (hM : sM l D cy q V H.size x y ao yn wy fr lo S f As r) (cw : vx_CSW R s args RL index yn bytes mxL (some .int) hh wy (gRm fr lo S) ((gK - gl S) + 1) (2 * (gK - gl S) + 6) na) (hna : As.length = na) (hsz : ls.size = maxL) {st : List Value} (hst : st = As.reverse ++ rest) (hroom : (rest.map fun v => v.category).sum ≤ 8) (hd : decode cc pc = .ok (.invokestatic index, 3)) (hf : cells + ((gK - gl S) + 1) ≤ R.cells ∧ slots + (2 * (gK - gl S) + 6) ≤ R.slots)
    (kk : ∀ (x1 y1 : Nat) (f1 : Nat → Int64) (H1 : Heap) (locs1 : List Loc), (r.1 = 0 → f1 0 = (zI r.2.1).toInt64) → jF D cy q x1 y1 o q2 ao s.heap.size r.2.2 M f1 s.heap H1 locs1 → W p l e R s m args below meth c H1 locs1 (cells + gc S r) (slots + gs S r) Q (F0 m (pc + 3) ls (.int (zI r.1) :: rest))) : W p l e R s m args below meth c H locs cells slots Q (F0 m pc ls st) := by
  obtain ⟨⟨hP, hD⟩, ⟨hP2, hD2⟩, ⟨hO, hZ⟩, ⟨j1, j2, j3⟩, hS⟩ := h
  have hAA : ∀ a, sA (cq q x y) H.size ao a → s.heap.size ≤ a := by
    rintro a ((h | h) | rfl)
    · exact cA_in hD a h
    · exact Nat.le_trans hS.1 h
    · exact hZ
  refine vx_calli (gx_runSX (As := As) (rest := rest) (g := F0 m pc ls st) ⟨hx, hb, hml, hown, hts⟩ hM cw ⟨sPre_blind, fun U hU hW => ⟨rfl, ⟨by rw [hU]; exact hP, by rw [hV]; exact hD⟩, ⟨by rw [hU]; exact hO, j2, oW_lt hO⟩, va_K.moved hW.alike hK, by rw [hU]; exact hE.go (A := fun a => V.1 ≤ a) (fun _ h => h) (by rw [hV]; exact hS) hW, by rw [hU]; exact Nat.le_refl _, by rw [hV]; exact hS.1⟩⟩ rfl hna hsz hst (lv_room hroom) hd hf) (A0 := fun a => s.heap.size ≤ a) (H0 := s.heap) hS (fun a _ ha => hAA a ha) (fun a ha => hAA a ha) (fun a _ ha => hAA a ha) ?_ ?_
  · intro E ce q9 u t H1 locs1 _ _ hp
    exact hp.elim
  · intro k9 u t H1 locs1 ht _ hp hB hz hk hS1
    obtain ⟨⟨S1, x1, y1⟩, f1⟩ := u
    have hp : k9 = zI r.1 := hp
    obtain ⟨e1, e2, hP1, hD1, hO1⟩ := hB
    have e1 : S1 = r.2.2 := e1
    subst hp
    subst e1
    refine kk x1 y1 f1 H1 locs1 e2 ⟨⟨by rw [← ht]; exact hP1, hD1.weaken (fun _ _ _ h => hAA _ (Or.inl h))⟩, ⟨va_P.kept hP2 (fun k z hz => hk z.1 (vx_lt hP2 hz) ?_), hD2⟩, ⟨by rw [← ht]; exact hO1, hZ⟩, ⟨?_, ?_, j3⟩, hS1⟩
    · rintro ((h | h) | h)
      · exact j1 _ h (mW_in hz)
      · exact absurd (vx_lt hP2 hz) (Nat.not_lt.mpr h)
      · have := mW_in hz
        rw [h] at this
        exact j3 this
    · intro a ha hm
      rcases cA_in hD1 a ha with h | h
      · exact j1 a h hm
      · exact absurd (mA_lt hP2 a hm) (Nat.not_lt.mpr h)
    · intro ha
      rcases cA_in hD1 _ ha with h | h
      · exact j2 h
      · exact absurd (oW_lt hO) (Nat.not_lt.mpr h)
theorem l_mcall {yn : MethodName} {wy : List Cond} {rm : Room} {As : List Value} {post : Int → MSt → Prop} {bytes : ByteArray} {mxL na : Nat} {rt : Option FieldType} (hx : p.tables.exec = Jvm.exec) (hb : c.code = cc) (hml : c.maxLocals = maxL) (hown : s.vm.findClass RL = some m.cls) (hts : ∀ w ∈ Ts, w.before args s = true) (hK : va_K D vwCl (zTY cy) s) (h : jF D cy q x y o q2 ao s.heap.size S M f s.heap H locs)
    (hM : mMi l D cy o q2 yn wy rm M As post) (cw : CallW R s args RL RX7 index yn bytes mxL rt wy rm 0 0 na) (hna : As.length = na) (hsz : ls.size = maxL) {st : List Value} (hst : st = As.reverse ++ .ref o :: rest) (hroom : (rest.map fun v => v.category).sum ≤ 8) (hd : decode cc pc = .ok (.invokevirtual index, 3)) (hf : cells ≤ R.cells ∧ slots ≤ R.slots)
    (kk : ∀ (r : Int) (M' : MSt) (H1 : Heap) (locs1 : List Loc), post r M' → jF D cy q x y o q2 ao s.heap.size S M' f s.heap H1 locs1 → W p l e R s m args below meth c H1 locs1 cells slots Q (F0 m (pc + 3) ls (.int (zI r) :: rest))) : W p l e R s m args below meth c H locs cells slots Q (F0 m pc ls st) := by
  obtain ⟨⟨hP, hD⟩, ⟨hP2, hD2⟩, ⟨hO, hZ⟩, ⟨j1, j2, j3⟩, hS⟩ := h
  refine va_calli (va_runV (As := As) (rest := rest) (g := F0 m pc ls st) (b := o) ⟨hx, hb, hml, hown, hts⟩ hM cw ⟨mPre_blind, va_recv hK hP2 (ci := 7) (q := (RX7, TX7, 50)) (q0 := 0) rfl mW_0, fun U hU hW => ⟨rfl, by rw [hU]; exact hP2, va_K.moved hW.alike hK, hD2.weaken (fun _ _ _ _ => trivial)⟩⟩ rfl hna hsz hst (lv_room hroom) hd hf) hS (fun a _ ha => mA_in hD2 a ha) (fun a ha => mA_in hD2 a ha) (fun r9 u t H1 locs1 ht hvm hw hB hz1 hk1 hS1 => ?_)
  obtain ⟨r0, M'⟩ := u
  obtain ⟨rfl, hpost⟩ := hw
  refine kk r0 M' H1 locs1 hpost ⟨⟨va_P.kept hP (fun k z hz => hk1 z.1 (vx_lt hP hz) (fun hm => j1 _ (cW_in hz) hm)), hD⟩, ⟨by rw [← ht]; exact hB, mW_D M' hD2⟩, ⟨oW_k hO (hk1 _ (oW_lt hO) j3), hZ⟩, ⟨j1, j2, j3⟩, hS1⟩
theorem l_ccall {yn : MethodName} {wy : List Cond} {rm : Room} {As : List Value} {v : Int} {bytes : ByteArray} {mxL na : Nat} {rt : Option FieldType} (hx : p.tables.exec = Jvm.exec) (hb : c.code = cc) (hml : c.maxLocals = maxL) (hown : s.vm.findClass RL = some m.cls) (hts : ∀ w ∈ Ts, w.before args s = true) (hK : va_K D vwCl (zTY cy) s) (h : jF D cy q x y o q2 ao s.heap.size S M f s.heap H locs)
    (hM : cMi l D cy (cq q x y) yn wy rm S 0 As (fun r S' => r = v ∧ S' = S)) (cw : CallW R s args RL RX6 index yn bytes mxL rt wy rm 0 0 na) (hna : As.length = na) (hsz : ls.size = maxL) {st : List Value} (hst : st = As.reverse ++ .ref (q 0) :: rest) (hroom : (rest.map fun v => v.category).sum ≤ 8) (hd : decode cc pc = .ok (.invokevirtual index, 3)) (hf : cells ≤ R.cells ∧ slots ≤ R.slots)
    (kk : ∀ (H1 : Heap) (locs1 : List Loc), jF D cy q x y o q2 ao s.heap.size S M f s.heap H1 locs1 → W p l e R s m args below meth c H1 locs1 cells slots Q (F0 m (pc + 3) ls (.int (zI v) :: rest))) : W p l e R s m args below meth c H locs cells slots Q (F0 m pc ls st) := by
  obtain ⟨⟨hP, hD⟩, ⟨hP2, hD2⟩, ⟨hO, hZ⟩, ⟨j1, j2, j3⟩, hS⟩ := h
  have e0 : cq q x y 0 = q 0 := cq_ne (Or.inl (by decide))
  refine va_calli (va_runV (As := As) (rest := rest) (g := F0 m pc ls st) (b := cq q x y 0) ⟨hx, hb, hml, hown, hts⟩ hM cw ⟨cPre_blind, va_recv hK hP (ci := cK 0) (q := (RX6, TX6, 13)) (q0 := 0) rfl (by rw [cW_get (by decide), cE_obj (by decide)]), fun U hU hW => ⟨rfl, by rw [hU]; exact hP, va_K.moved hW.alike hK, hD.weaken (fun _ _ _ _ => trivial)⟩⟩ rfl hna hsz (by rw [e0]; exact hst) (lv_room hroom) hd hf) hS (fun a _ ha => cA_in hD a ha) (fun a ha => cA_in hD a ha) (fun r9 u t H1 locs1 ht hvm hw hB hz1 hk1 hS1 => ?_)
  obtain ⟨r0, S'⟩ := u
  obtain ⟨rfl, hpost⟩ := hw
  obtain ⟨rfl, rfl⟩ := hpost
  refine kk H1 locs1 ⟨⟨by rw [← ht]; exact hB, hD⟩, ⟨va_P.kept hP2 (fun k z hz => hk1 z.1 (vx_lt hP2 hz) (fun hc => j1 _ hc (mW_in hz))), hD2⟩, ⟨oW_k hO (hk1 _ (oW_lt hO) j2), hZ⟩, ⟨j1, j2, j3⟩, hS1⟩
/-- the component's state in order again -/
theorem jF_sw {i : Nat} {H0 : Heap} {Z : Nat} (h : jF D cy q x y o q2 ao Z (cSw i S) M f H0 H locs) : jF D cy (swq i q) x y o q2 ao Z S M f H0 H locs := by
  obtain ⟨⟨hP, hD⟩, h2, h3, ⟨j1, j2, j3⟩, hS⟩ := h
  have h1 := cH_sw.mp (⟨hP, hD, hS⟩ : cH D cy (cq q x y) (fun a => Z ≤ a) H0 (cSw i S) H locs)
  have h4 := cH_sw.mp (⟨hP, hD.weaken (fun k a ha _ => cW_in ha), va_S.rf⟩ : cH D cy (cq q x y) (cA (cq q x y)) H (cSw i S) H [])
  rw [cq_sw] at h1 h4
  have hc := cA_in h4.2.1
  exact ⟨⟨h1.1, h1.2.1⟩, h2, h3, ⟨fun a ha => j1 a (hc a ha), fun ha => j2 (hc _ ha), j3⟩, hS⟩
theorem l_sld {b L : Nat} {xs : Nat → Int32} {H0 : Heap} {A : Nat → Prop} (hx : p.tables.exec = Jvm.exec) (hb : c.code = cc) (hX : va_X b L xs s H0) (hbl : b < H0.size) (hbA : ¬ A b) (hS : va_S A H0 H locs) (j : Nat) (hj : j < L) (hL : L ≤ 2048) {z : Int} (hz : z = j) (hd : decode cc pc = .ok (.iaload, 1))
    (kk : W p l e R s m args below meth c H locs cells slots Q (F0 m (pc + 1) ls (.int (zI (xs j).toInt) :: rest))) : W p l e R s m args below meth c H locs cells slots Q (F0 m pc ls (.int (zI z) :: .ref b :: rest)) := by
  subst hz
  have hr : zr (j : Int) := ⟨by omega, by omega⟩
  refine va_sld hx hb hX hbl hbA hS (zI_in hr (by omega) (by omega)) hd ?_
  rw [zI_clamp hr, show ((j : Int)).toNat = j from Int.toNat_natCast j, show xs j = zI (xs j).toInt from (zI_of _).symm]
  exact kk
end LC
