/-! the reference's words: every method's are its own code and the table TB7 -/
theorem TB7_ok {w : Cond} (h : w ∈ TB7) : goodWord w = true := List.all_eq_true.mp TB7_good w h
theorem i7 (c : Cond) : ∀ w ∈ wsX70, w ∈ c :: TB7 := fun _ h => List.mem_cons_of_mem _ (List.mem_append_right _ h)
theorem gdV7 (c : Cond) {idx : Nat} {y : MethodName} {bytes : ByteArray} {mxL : Nat} {rt : Option FieldType} (h1 : Cond.methodLink RX7 idx y ∈ TB7) (h2 : Cond.instanceMethod y ∈ TB7) (h3 : Cond.selects RX7 y y ∈ TB7) (h4 : Cond.code y bytes mxL rt ∈ TB7) : GoodIn (c :: TB7) (wsV RX7 idx RX7 y (.code y bytes mxL rt :: TB7)) := by
  intro w hw
  have : w ∈ TB7 := by
    rcases List.mem_append.mp hw with h | h
    · simp only [List.mem_cons, List.not_mem_nil, or_false] at h
      rcases h with rfl | rfl | rfl | rfl
      · exact h1
      · exact h2
      · exact h3
      · exact w7_in_RX7
    · rcases List.mem_cons.mp h with rfl | h
      · exact h4
      · exact h
  exact ⟨List.mem_cons_of_mem _ this, good_of_word (TB7_ok this)⟩
theorem gdS7 (c : Cond) {idx : Nat} {y : MethodName} {bytes : ByteArray} {mxL : Nat} {rt : Option FieldType} (h0 : y.cls = RX7) (h1 : Cond.methodLink RX7 idx y ∈ TB7) (h2 : Cond.static y ∈ TB7) (h4 : Cond.code y bytes mxL rt ∈ TB7) : GoodIn (c :: TB7) (va_wsS RX7 idx y (.code y bytes mxL rt :: TB7)) := by
  intro w hw
  have : w ∈ TB7 := by
    rcases List.mem_append.mp hw with h | h
    · simp only [List.mem_cons, List.not_mem_nil, or_false] at h
      rcases h with rfl | rfl | rfl
      · exact h1
      · exact h2
      · rw [h0]; exact w7_in_RX7
    · rcases List.mem_cons.mp h with rfl | h
      · exact h4
      · exact h
  exact ⟨List.mem_cons_of_mem _ this, good_of_word (TB7_ok this)⟩
theorem cw7 {p : Program} {R : Room} {s : State} {m : MethodId} {args : Array Value} {meth : Method} {c : Code} {cc : ByteArray} {maxL : Nat} {ret : Option FieldType} {w0 : Cond} {idx mxL : Nat} {y : MethodName} {bytes : ByteArray} {rt : Option FieldType} {rm : Room} (n : Nat) (B : zAt p s m args meth c RX7 cc maxL ret (w0 :: TB7)) (h1 : Cond.methodLink RX7 idx y ∈ TB7) (h2 : Cond.instanceMethod y ∈ TB7) (h3 : Cond.selects RX7 y y ∈ TB7) (h4 : Cond.code y bytes mxL rt ∈ TB7) (hrc : rm.cells = 0) (hrs : rm.slots = 0)
    (hd : y.cls = RX7 ∧ y.cls ≠ "java/lang/invoke/MethodHandle" ∧ y.cls ≠ "java/lang/invoke/VarHandle" ∧ (parseMethodDescriptor y.desc).map (fun d => d.parameters.length) = some n) (hR : rm.frames + 1 ≤ R.frames ∧ 8 + (mxL + 11) + rm.locals ≤ R.locals) : CallW R s args RX7 RX7 idx y bytes mxL rt (.code y bytes mxL rt :: TB7) rm 0 0 n := cwV n B.2.2.2.2.1 (gdV7 w0 h1 h2 h3 h4) rfl hrc hrs hd hR
theorem cs7 {p : Program} {R : Room} {s : State} {m : MethodId} {args : Array Value} {meth : Method} {c : Code} {cc : ByteArray} {maxL : Nat} {ret : Option FieldType} {w0 : Cond} {idx mxL : Nat} {y : MethodName} {bytes : ByteArray} {rt : Option FieldType} {rm : Room} (n : Nat) (B : zAt p s m args meth c RX7 cc maxL ret (w0 :: TB7)) (h0 : y.cls = RX7) (h1 : Cond.methodLink RX7 idx y ∈ TB7) (h2 : Cond.static y ∈ TB7) (h4 : Cond.code y bytes mxL rt ∈ TB7) (hrc : rm.cells = 0) (hrs : rm.slots = 0)
    (hd : y.cls ≠ "java/lang/invoke/MethodHandle" ∧ y.cls ≠ "java/lang/invoke/VarHandle" ∧ (parseMethodDescriptor y.desc).map (fun d => d.parameters.length) = some n) (hR : rm.frames + 1 ≤ R.frames ∧ 8 + (mxL + 11) + rm.locals ≤ R.locals) : CallB R s args RX7 idx y bytes mxL rt (.code y bytes mxL rt :: TB7) rm 0 0 n ∧ (Cond.static y).before args s = true := va_cwS n B.2.2.2.2.1 (gdS7 w0 h0 h1 h2 h4) rfl hrc hrs hd hR
