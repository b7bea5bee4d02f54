/-! THE COMPONENT'S WORLD: 40 cells by number: 0 PatternRunner; 1 .. 5 SignRow; 6, 7 Program; 8 Reader; 9 SignSet; 10 Matcher; 11 Past; 12 .. 16 the rows of 1 .. 5; 17 .. 25 and 26 .. 34 those of 6 and 7; 35 .. 37 those of Past; 38, 39 takenFrom, takenTo.
Its state: S.1 n k the number in field (at place) k of cell n, S.2.1 the longs, S.2.2.1 the cell to which a field refers, S.2.2.2 n the length of a row. -/
abbrev CSt : Type := (Nat → Nat → Int) × (Nat → Nat → Int64) × (Nat → Nat → Nat) × (Nat → Nat)
/-- the kind of a cell: 0 .. 6 an object of that class, 7 chars, 8 ints, 9 longs -/
def cK (n : Nat) : Nat := if n = 0 then 6 else if n ≤ 5 then 4 else if n ≤ 7 then 2 else if n = 8 then 3 else if n = 9 then 5 else if n = 10 then 0 else if n = 11 then 1 else if n ≤ 16 then 7 else if n = 20 ∨ n = 21 ∨ n = 29 ∨ n = 30 then 9 else 8
/-- how many fields a class has -/
def cN (c : Nat) : Nat := match c with
  | 0 => 5
  | 1 => 6
  | 2 => 14
  | 3 => 8
  | 4 => 2
  | 5 => 2
  | _ => 13
/-- a field's kind: 0 int, 1 boolean, 2 long, 3 a reference -/
def cFk (c k : Nat) : Nat := match c with
  | 0 => if k ≤ 2 then 3 else 0
  | 1 => if k ≤ 2 then 3 else 0
  | 2 => if k ≤ 4 then 3 else if k = 5 then 0 else if k ≤ 9 then 3 else 0
  | 3 => if k ≤ 2 then 3 else if k = 7 then 1 else 0
  | 4 => if k = 0 then 3 else 0
  | 5 => 2
  | _ => if k ≤ 10 then 3 else 0
def ci (S : CSt) (n k : Nat) (v : Int) : CSt := (fun a => if a = n then zu (S.1 n) k v else S.1 a, S.2)
def cj (S : CSt) (n k : Nat) (v : Int64) : CSt := (S.1, fun a => if a = n then vp_updL (S.2.1 n) k v else S.2.1 a, S.2.2)
def cr (S : CSt) (n k r : Nat) : CSt := (S.1, S.2.1, fun a => if a = n then (fun j => if j = k then r else S.2.2.1 n j) else S.2.2.1 a, S.2.2.2)
def cV (q : Nat → Nat) (S : CSt) (n k f : Nat) : Value := if f = 3 then .ref (q (S.2.2.1 n k)) else if f = 2 then .long (S.2.1 n k) else .int (zI (S.1 n k))
def cF (q : Nat → Nat) (S : CSt) (n : Nat) : List Value := (List.range (cN (cK n))).map (fun k => cV q S n k (cFk (cK n) k))
def cE (cy : Nat → ClassId) (q : Nat → Nat) (S : CSt) (n : Nat) : va_E := if cK n < 7 then .inr (cK n, cF q S n) else if cK n = 7 then .inl (cy 0, S.2.2.2 n, .inl (fun j => zI (S.1 n j))) else if cK n = 8 then .inl (cy 1, S.2.2.2 n, .inl (fun j => zI (S.1 n j))) else .inl (cy 2, S.2.2.2 n, .inr (.inl (S.2.1 n)))
def cW (cy : Nat → ClassId) (q : Nat → Nat) (S : CSt) : va_W := (List.range 40).map (fun n => (q n, cE cy q S n))
def cA (q : Nat → Nat) : Nat → Prop := fun a => ∃ n, n < 40 ∧ a = q n
theorem cW_get {cy : Nat → ClassId} {q : Nat → Nat} {S : CSt} {n : Nat} (h : n < 40) : (cW cy q S)[n]? = some (q n, cE cy q S n) := by simp [cW, h]
theorem cW_none {cy : Nat → ClassId} {q : Nat → Nat} {S : CSt} {n : Nat} (h : ¬ n < 40) : (cW cy q S)[n]? = none := by simp [cW]; omega
theorem cW_len {cy : Nat → ClassId} {q : Nat → Nat} {S : CSt} : (cW cy q S).length = 40 := by simp [cW]
theorem cF_get {q : Nat → Nat} {S : CSt} {n k : Nat} (h : k < cN (cK n)) : (cF q S n)[k]? = some (cV q S n k (cFk (cK n) k)) := by simp [cF, h]
theorem cF_len {q : Nat → Nat} {S : CSt} {n : Nat} : (cF q S n).length = cN (cK n) := by simp [cF]
theorem cE_obj {cy : Nat → ClassId} {q : Nat → Nat} {S : CSt} {n : Nat} (h : cK n < 7) : cE cy q S n = .inr (cK n, cF q S n) := if_pos h
/-- a cell set anew gives the world of the new state, when the state changed there alone -/
theorem cW_set {cy : Nat → ClassId} {q : Nat → Nat} {S S' : CSt} {n : Nat} {x : va_E} (h : n < 40) (hx : x = cE cy q S' n) (ho : ∀ a, a ≠ n → cE cy q S a = cE cy q S' a) : (cW cy q S).set n (q n, x) = cW cy q S' := by
  apply List.ext_getElem?
  intro j
  rw [List.getElem?_set, cW_len]
  by_cases e : n = j
  · subst e
    rw [if_pos rfl, if_pos h, cW_get h, hx]
  · rw [if_neg e]
    by_cases hj : j < 40
    · rw [cW_get hj, cW_get hj, ho j (fun h => e h.symm)]
    · rw [cW_none hj, cW_none hj]
theorem cF_cong {q : Nat → Nat} {S S' : CSt} {a : Nat} (h1 : S.1 a = S'.1 a) (h2 : S.2.1 a = S'.2.1 a) (h3 : S.2.2.1 a = S'.2.2.1 a) : cF q S a = cF q S' a := by
  unfold cF cV
  rw [h1, h2, h3]
theorem cE_cong {cy : Nat → ClassId} {q : Nat → Nat} {S S' : CSt} {a : Nat} (h1 : S.1 a = S'.1 a) (h2 : S.2.1 a = S'.2.1 a) (h3 : S.2.2.1 a = S'.2.2.1 a) (h4 : S.2.2.2 a = S'.2.2.2 a) : cE cy q S a = cE cy q S' a := by
  unfold cE
  rw [cF_cong h1 h2 h3, h1, h2, h4]
theorem ci_ne {S : CSt} {n k a : Nat} {v : Int} (h : a ≠ n) : (ci S n k v).1 a = S.1 a := if_neg h
theorem ci_eq {S : CSt} {n k : Nat} {v : Int} : (ci S n k v).1 n = zu (S.1 n) k v := if_pos rfl
theorem cj_ne {S : CSt} {n k a : Nat} {v : Int64} (h : a ≠ n) : (cj S n k v).2.1 a = S.2.1 a := if_neg h
theorem cj_eq {S : CSt} {n k : Nat} {v : Int64} : (cj S n k v).2.1 n = vp_updL (S.2.1 n) k v := if_pos rfl
theorem cr_ne {S : CSt} {n k a r : Nat} (h : a ≠ n) : (cr S n k r).2.2.1 a = S.2.2.1 a := if_neg h
theorem cr_eq {S : CSt} {n k r : Nat} : (cr S n k r).2.2.1 n = (fun j => if j = k then r else S.2.2.1 n j) := if_pos rfl
theorem cF_set {q : Nat → Nat} {S S' : CSt} {n k : Nat} {x : Value} (hk : k < cN (cK n)) (hx : x = cV q S' n k (cFk (cK n) k)) (ho : ∀ j, j ≠ k → cV q S n j (cFk (cK n) j) = cV q S' n j (cFk (cK n) j)) : (cF q S n).set k x = cF q S' n := by
  apply List.ext_getElem?
  intro j
  rw [List.getElem?_set, cF_len]
  by_cases e : k = j
  · subst e
    rw [if_pos rfl, if_pos hk, cF_get hk, hx]
  · rw [if_neg e]
    by_cases hj : j < cN (cK n)
    · rw [cF_get hj, cF_get hj, ho j (fun h => e h.symm)]
    · rw [List.getElem?_eq_none (by rw [cF_len]; omega), List.getElem?_eq_none (by rw [cF_len]; omega)]
theorem cW_setI {cy : Nat → ClassId} {q : Nat → Nat} {S : CSt} {n k : Nat} {v : Int} (h : n < 40) (hc : cK n < 7) (hk : k < cN (cK n)) (hf : cFk (cK n) k < 2) : (cW cy q S).set n (q n, .inr (cK n, (cF q S n).set k (.int (zI v)))) = cW cy q (ci S n k v) := by
  refine cW_set h ?_ (fun a ha => cE_cong (ci_ne ha).symm rfl rfl rfl)
  rw [cE_obj hc]
  refine congrArg (fun l => Sum.inr (cK n, l)) (cF_set hk ?_ (fun j hj => ?_))
  · unfold cV
    rw [if_neg (by omega), if_neg (by omega), ci_eq, zu_eq]
  · unfold cV
    rw [ci_eq, zu_ne hj]
    rfl
theorem cW_setJ {cy : Nat → ClassId} {q : Nat → Nat} {S : CSt} {n k : Nat} {v : Int64} (h : n < 40) (hc : cK n < 7) (hk : k < cN (cK n)) (hf : cFk (cK n) k = 2) : (cW cy q S).set n (q n, .inr (cK n, (cF q S n).set k (.long v))) = cW cy q (cj S n k v) := by
  refine cW_set h ?_ (fun a ha => cE_cong rfl (cj_ne ha).symm rfl rfl)
  rw [cE_obj hc]
  refine congrArg (fun l => Sum.inr (cK n, l)) (cF_set hk ?_ (fun j hj => ?_))
  · unfold cV
    rw [if_neg (by omega), if_pos hf, cj_eq, pk_uLs]
  · unfold cV
    rw [cj_eq, pk_uLn hj]
    rfl
theorem cW_setR {cy : Nat → ClassId} {q : Nat → Nat} {S : CSt} {n k r : Nat} (h : n < 40) (hc : cK n < 7) (hk : k < cN (cK n)) (hf : cFk (cK n) k = 3) : (cW cy q S).set n (q n, .inr (cK n, (cF q S n).set k (.ref (q r)))) = cW cy q (cr S n k r) := by
  refine cW_set h ?_ (fun a ha => cE_cong rfl rfl (cr_ne ha).symm rfl)
  rw [cE_obj hc]
  refine congrArg (fun l => Sum.inr (cK n, l)) (cF_set hk ?_ (fun j hj => ?_))
  · unfold cV
    rw [if_pos hf, cr_eq]
    show _ = Value.ref (q (if k = k then r else _))
    rw [if_pos rfl]
  · unfold cV
    rw [cr_eq]
    dsimp only
    rw [if_neg hj]
    rfl
theorem cE_c {cy : Nat → ClassId} {q : Nat → Nat} {S : CSt} {n : Nat} (h : cK n = 7) : cE cy q S n = .inl (cy 0, S.2.2.2 n, .inl (fun j => zI (S.1 n j))) := by
  unfold cE
  rw [if_neg (by omega), if_pos h]
theorem cE_i {cy : Nat → ClassId} {q : Nat → Nat} {S : CSt} {n : Nat} (h : cK n = 8) : cE cy q S n = .inl (cy 1, S.2.2.2 n, .inl (fun j => zI (S.1 n j))) := by
  unfold cE
  rw [if_neg (by omega), if_neg (by omega), if_pos h]
theorem cE_j {cy : Nat → ClassId} {q : Nat → Nat} {S : CSt} {n : Nat} (h : cK n = 9) : cE cy q S n = .inl (cy 2, S.2.2.2 n, .inr (.inl (S.2.1 n))) := by
  unfold cE
  rw [if_neg (by omega), if_neg (by omega), if_neg (by omega)]
theorem cW_setC {cy : Nat → ClassId} {q : Nat → Nat} {S : CSt} {n i : Nat} {v : Int} (h : n < 40) (hc : cK n = 7) : (cW cy q S).set n (q n, .inl (cy 0, S.2.2.2 n, .inl (fun j => zI (zu (S.1 n) i v j)))) = cW cy q (ci S n i v) :=
  cW_set h (by rw [cE_c hc, ci_eq]; rfl) (fun a ha => cE_cong (ci_ne ha).symm rfl rfl rfl)
theorem cW_setIA {cy : Nat → ClassId} {q : Nat → Nat} {S : CSt} {n i : Nat} {v : Int} (h : n < 40) (hc : cK n = 8) : (cW cy q S).set n (q n, .inl (cy 1, S.2.2.2 n, .inl (fun j => zI (zu (S.1 n) i v j)))) = cW cy q (ci S n i v) :=
  cW_set h (by rw [cE_i hc, ci_eq]; rfl) (fun a ha => cE_cong (ci_ne ha).symm rfl rfl rfl)
theorem cW_setJA {cy : Nat → ClassId} {q : Nat → Nat} {S : CSt} {n i : Nat} {v : Int64} (h : n < 40) (hc : cK n = 9) : (cW cy q S).set n (q n, .inl (cy 2, S.2.2.2 n, .inr (.inl (vp_updL (S.2.1 n) i v)))) = cW cy q (cj S n i v) :=
  cW_set h (by rw [cE_j hc, cj_eq]; rfl) (fun a ha => cE_cong rfl (cj_ne ha).symm rfl rfl)
theorem cW_D {cy : Nat → ClassId} {q : Nat → Nat} {S : CSt} (S' : CSt) {A : Nat → Prop} (h : va_D A (cW cy q S)) : va_D A (cW cy q S') := by
  have key : ∀ {i : Nat} {e : Nat × va_E}, (cW cy q S')[i]? = some e → (cW cy q S)[i]? = some (e.1, cE cy q S i) := by
    intro i e he
    by_cases hi : i < 40
    · rw [cW_get hi] at he
      cases he
      exact cW_get hi
    · rw [cW_none hi] at he
      cases he
  exact ⟨fun i j a b ha hb hab => h.1 i j _ _ (key ha) (key hb) hab, fun k a ha => h.2 k (a.1, cE cy q S k) (key ha)⟩
theorem cW_in {cy : Nat → ClassId} {q : Nat → Nat} {S : CSt} {j : Nat} {e : Nat × va_E} (h : (cW cy q S)[j]? = some e) : cA q e.1 := by
  by_cases hj : j < 40
  · rw [cW_get hj] at h
    cases h
    exact ⟨j, hj, rfl⟩
  · rw [cW_none hj] at h
    cases h
theorem cA_in {cy : Nat → ClassId} {q : Nat → Nat} {S : CSt} {A : Nat → Prop} (h : va_D A (cW cy q S)) : ∀ a, cA q a → A a := by
  rintro a ⟨n, hn, rfl⟩
  exact h.2 n _ (cW_get hn)
/-- the component's world stands -/
def cH (D : va_G) (cy : Nat → ClassId) (q : Nat → Nat) (A : Nat → Prop) (H0 : Heap) (S : CSt) (H : Heap) (locs : List Loc) : Prop := va_P D vwCl (cW cy q S) H ∧ va_D A (cW cy q S) ∧ va_S A H0 H locs
def cPre (D : va_G) (cy : Nat → ClassId) (q : Nat → Nat) (S : CSt) (t : Nat) (As : List Value) : Array Value → State → Prop := va_Pc (.ref (q t) :: As) (fun U => va_P D vwCl (cW cy q S) U.heap ∧ va_K D vwCl (zTY cy) U ∧ va_D (fun _ => True) (cW cy q S))
def cQi (D : va_G) (cy : Nat → ClassId) (q : Nat → Nat) (post : Int → CSt → Prop) : Array Value → State → Outcome → State → Prop := va_Qi (S := Int × CSt) (fun r u => r = zI u.1 ∧ post u.1 u.2) (fun u t => va_P D vwCl (cW cy q u.2) t.heap) (cA q)
def cQv (D : va_G) (cy : Nat → ClassId) (q : Nat → Nat) (post : CSt → Prop) : Array Value → State → Outcome → State → Prop := va_Qv (S := CSt) post (fun u t => va_P D vwCl (cW cy q u) t.heap) (cA q)
/-- a method of the component, on the object t, that makes nothing and throws nothing -/
def cMi (l : Launch) (D : va_G) (cy : Nat → ClassId) (q : Nat → Nat) (y : MethodName) (ws : List Cond) (rm : Room) (S : CSt) (t : Nat) (As : List Value) (post : Int → CSt → Prop) : Prop := Met l y ws rm (cPre D cy q S t As) (cQi D cy q post) 0 0 (cA q)
def cMv (l : Launch) (D : va_G) (cy : Nat → ClassId) (q : Nat → Nat) (y : MethodName) (ws : List Cond) (rm : Room) (S : CSt) (t : Nat) (As : List Value) (post : CSt → Prop) : Prop := Met l y ws rm (cPre D cy q S t As) (cQv D cy q post) 0 0 (cA q)
theorem cPre_blind {D : va_G} {cy : Nat → ClassId} {q : Nat → Nat} {S : CSt} {t : Nat} {As : List Value} : FrameBlind (cPre D cy q S t As) := by
  intro a U g mk h
  obtain ⟨h0, hP, hK, hD⟩ := h
  exact ⟨h0, hP, va_K.moved (u := U) (U := U.calling g mk a) (Vm.Alike.refl U.vm) hK, hD⟩
theorem c_of {l : Launch} {D : va_G} {cy : Nat → ClassId} {q : Nat → Nat} {y : MethodName} {C : String} {ws ws' : List Cond} {rm : Room} {S : CSt} {t : Nat} {As : List Value} {cc : ByteArray} {maxL : Nat} {ret : Option FieldType} {Qc : Array Value → State → Outcome → State → Prop}
    (hy : plainName y.cls = true) (hcls : y.cls = C) (hw : ws = Cond.code y cc maxL ret :: ws') (hn : (lg_sl (.ref (q t) :: As)).length ≤ maxL)
    (body : ∀ (p : Program) (e : Env) (s : State) (m : MethodId) (args : Array Value) (below : List Frame) (meth : Method) (c : Code) (ls : Array Slot), zAt p s m args meth c C cc maxL ret ws → va_K D vwCl (zTY cy) s → cH D cy q (cA q) s.heap S s.heap [] → lv_has ls maxL (lv_args 0 (.ref (q t) :: As)) →
      W p l e (headSpec ws rm).room s m args below meth c s.heap [] 0 0 (MQ below Qc args s 0 0 (cA q)) (F0 m 0 ls [])) : Met l y ws rm (cPre D cy q S t As) Qc 0 0 (cA q) := by
  refine Met.ofW (cc := cc) (maxL := maxL) (ret := ret) hy hw ?_
  intro p e s m args below meth c s₁ B hml hv
  obtain ⟨rfl, hP, hK, hD⟩ := hv
  rw [lg_entry_eq]
  refine body p e s m _ below meth c _ ⟨B.exec, B.bytes, hml, ?_, atoms_spec (ws := ws) B.pre, B.returns, B.notSynchronized⟩ hK ⟨hP, hD.weaken (fun k a ha _ => cW_in ha), va_S.rf⟩ (lv_entry (.ref (q t) :: As) hn)
  have := findClass_of_methodNamed B.named
  rw [hcls] at this
  exact this
section CR
variable {p : Program} {l : Launch} {e : Env} {R : Room} {s : State} {m : MethodId} {args : Array Value} {below : List Frame} {meth : Method} {c : Code} {H : Heap} {locs : List Loc} {cells slots : Nat} {Q : State → Prop} {cc : ByteArray} {pc : Nat} {ls : Array Slot} {rest : List Value}
variable {D : va_G} {cy : Nat → ClassId} {q : Nat → Nat} {A : Nat → Prop} {H0 : Heap} {S : CSt} {maxL : Nat} {ret : Option FieldType} {ws : List Cond} {index : Nat} {C : String} {T : u_T} {N : Nat}
theorem c_get0 (B : zAt p s m args meth c C cc maxL ret ws) (hin : ∀ w ∈ u_ws C T N, w ∈ ws) (hK : va_K D vwCl (zTY cy) s) (h : cH D cy q A H0 S H locs) (n k : Nat) (hn : n < 40) (hc : cK n < 7) (hcl : vwCl[cK n]? = some (C, T, N)) (hk : k < N) (hN : N = cN (cK n)) (hT1 : (T k).1 = C) {v : Value} (hv : cV q S n k (cFk (cK n) k) = v) (hl : Cond.fieldLink C index C (T k).2.1 (T k).2.2.1 ∈ ws) (hd : decode cc pc = .ok (.getfield index, 3))
    (kk : W p l e R s m args below meth c H locs cells slots Q (F0 m (pc + 3) ls (v :: rest))) : W p l e R s m args below meth c H locs cells slots Q (F0 m pc ls (.ref (q n) :: rest)) := by
  subst hv
  exact va_get (D := D) (ci := cK n) (C := C) (T := T) (N := N) B.1 B.2.1 B.2.2.2.2.1 hin B.2.2.2.1 hK h.1 n (by rw [cW_get hn, cE_obj hc]) hcl k hk (B.2.2.2.2.1 _ hl) (fun x9 h9 => by rw [hT1] at h9; exact h9) (cF_get (by rw [← hN]; exact hk)) hd kk
theorem c_puti0 (B : zAt p s m args meth c C cc maxL ret ws) (hin : ∀ w ∈ u_ws C T N, w ∈ ws) (ty0 : Nat → FieldType) (hty0 : ∀ k, k < N → parseFieldDescriptor (T k).2.2.1 = some (ty0 k)) (hnm : ∀ a, a < N → ∀ b, b < N → a ≠ b → (T a).2.1 ≠ (T b).2.1) (hK : va_K D vwCl (zTY cy) s) (h : cH D cy q A H0 S H locs) (n k : Nat) (hn : n < 40) (hc : cK n < 7) (hcl : vwCl[cK n]? = some (C, T, N)) (hk : k < N) (hN : N = cN (cK n)) (hT1 : (T k).1 = C) (hT4 : (T k).2.2.2 = false) {v : Int} {ty : FieldType} (hty : parseFieldDescriptor (T k).2.2.1 = some ty) (hna : narrow ty (.int (zI v)) = .int (zI v)) (hfit : fits ty (.int (zI v)) = true) (hf : cFk (cK n) k < 2) (hl : Cond.fieldLink C index C (T k).2.1 (T k).2.2.1 ∈ ws) (hd : decode cc pc = .ok (.putfield index, 3))
    (kk : ∀ (H1 : Heap) (locs1 : List Loc), cH D cy q A H0 (ci S n k v) H1 locs1 → W p l e R s m args below meth c H1 locs1 cells slots Q (F0 m (pc + 3) ls rest)) : W p l e R s m args below meth c H locs cells slots Q (F0 m pc ls (.int (zI v) :: .ref (q n) :: rest)) := by
  refine va_put (D := D) (ci := cK n) (v := .int (zI v)) (ty := ty) (C := C) (T := T) (N := N) B.1 B.2.1 B.2.2.2.2.1 hin ty0 hty0 hnm B.2.2.2.1 hK h.1 h.2.1 h.2.2 n (by rw [cW_get hn, cE_obj hc]) hcl k hk (B.2.2.2.2.1 _ hl) (fun x9 h9 => by rw [hT1] at h9; exact h9) hT4 hty hna hfit (by rw [cF_len, ← hN]; exact hk) hd (fun H1 locs1 hP hD hS => kk H1 locs1 ?_)
  rw [cW_setI hn hc (by rw [← hN]; exact hk) hf] at hP hD
  exact ⟨hP, hD, hS⟩
theorem c_putj0 (B : zAt p s m args meth c C cc maxL ret ws) (hin : ∀ w ∈ u_ws C T N, w ∈ ws) (ty0 : Nat → FieldType) (hty0 : ∀ k, k < N → parseFieldDescriptor (T k).2.2.1 = some (ty0 k)) (hnm : ∀ a, a < N → ∀ b, b < N → a ≠ b → (T a).2.1 ≠ (T b).2.1) (hK : va_K D vwCl (zTY cy) s) (h : cH D cy q A H0 S H locs) (n k : Nat) (hn : n < 40) (hc : cK n < 7) (hcl : vwCl[cK n]? = some (C, T, N)) (hk : k < N) (hN : N = cN (cK n)) (hT1 : (T k).1 = C) (hT4 : (T k).2.2.2 = false) {v : Int64} (hty : parseFieldDescriptor (T k).2.2.1 = some .long) (hf : cFk (cK n) k = 2) (hl : Cond.fieldLink C index C (T k).2.1 (T k).2.2.1 ∈ ws) (hd : decode cc pc = .ok (.putfield index, 3))
    (kk : ∀ (H1 : Heap) (locs1 : List Loc), cH D cy q A H0 (cj S n k v) H1 locs1 → W p l e R s m args below meth c H1 locs1 cells slots Q (F0 m (pc + 3) ls rest)) : W p l e R s m args below meth c H locs cells slots Q (F0 m pc ls (.long v :: .ref (q n) :: rest)) := by
  refine va_put (D := D) (ci := cK n) (v := .long v) (ty := .long) (C := C) (T := T) (N := N) B.1 B.2.1 B.2.2.2.2.1 hin ty0 hty0 hnm B.2.2.2.1 hK h.1 h.2.1 h.2.2 n (by rw [cW_get hn, cE_obj hc]) hcl k hk (B.2.2.2.2.1 _ hl) (fun x9 h9 => by rw [hT1] at h9; exact h9) hT4 hty rfl rfl (by rw [cF_len, ← hN]; exact hk) hd (fun H1 locs1 hP hD hS => kk H1 locs1 ?_)
  rw [cW_setJ hn hc (by rw [← hN]; exact hk) hf] at hP hD
  exact ⟨hP, hD, hS⟩
theorem c_cald (B : zAt p s m args meth c C cc maxL ret ws) (hK : va_K D vwCl (zTY cy) s) (h : cH D cy q A H0 S H locs) (n : Nat) (hn : n < 40) (hc : cK n = 7) {i x : Int} (hz : zr i) (h0 : 0 ≤ i) (h1 : i < S.2.2.2 n) (hx : S.1 n i.toNat = x) (hd : decode cc pc = .ok (.caload, 1))
    (kk : W p l e R s m args below meth c H locs cells slots Q (F0 m (pc + 1) ls (.int (zI x) :: rest))) : W p l e R s m args below meth c H locs cells slots Q (F0 m pc ls (.int (zI i) :: .ref (q n) :: rest)) := by
  subst hx
  refine va_cald (D := D) (cA := cy 0) (n := S.2.2.2 n) (f := fun j => zI (S.1 n j)) B.1 B.2.1 hK h.1 n 0 (by rw [cW_get hn, cE_c hc]) rfl (zI_in hz h0 h1) hd ?_
  rw [zI_clamp hz]
  exact kk
theorem c_iald (B : zAt p s m args meth c C cc maxL ret ws) (hK : va_K D vwCl (zTY cy) s) (h : cH D cy q A H0 S H locs) (n : Nat) (hn : n < 40) (hc : cK n = 8) {i x : Int} (hz : zr i) (h0 : 0 ≤ i) (h1 : i < S.2.2.2 n) (hx : S.1 n i.toNat = x) (hd : decode cc pc = .ok (.iaload, 1))
    (kk : W p l e R s m args below meth c H locs cells slots Q (F0 m (pc + 1) ls (.int (zI x) :: rest))) : W p l e R s m args below meth c H locs cells slots Q (F0 m pc ls (.int (zI i) :: .ref (q n) :: rest)) := by
  subst hx
  refine va_iald (D := D) (cA := cy 1) (n := S.2.2.2 n) (f := fun j => zI (S.1 n j)) B.1 B.2.1 hK h.1 n 1 (by rw [cW_get hn, cE_i hc]) rfl (zI_in hz h0 h1) hd ?_
  rw [zI_clamp hz]
  exact kk
theorem c_lald (B : zAt p s m args meth c C cc maxL ret ws) (hK : va_K D vwCl (zTY cy) s) (h : cH D cy q A H0 S H locs) (n : Nat) (hn : n < 40) (hc : cK n = 9) {i : Int} (hz : zr i) (h0 : 0 ≤ i) (h1 : i < S.2.2.2 n) (hd : decode cc pc = .ok (.laload, 1))
    (kk : W p l e R s m args below meth c H locs cells slots Q (F0 m (pc + 1) ls (.long (S.2.1 n i.toNat) :: rest))) : W p l e R s m args below meth c H locs cells slots Q (F0 m pc ls (.int (zI i) :: .ref (q n) :: rest)) := by
  refine va_lald (D := D) (cA := cy 2) (n := S.2.2.2 n) (f := S.2.1 n) B.1 B.2.1 hK h.1 n 2 (by rw [cW_get hn, cE_j hc]) rfl (zI_in hz h0 h1) hd ?_
  rw [zI_clamp hz]
  exact kk
theorem c_cast (B : zAt p s m args meth c C cc maxL ret ws) (hK : va_K D vwCl (zTY cy) s) (h : cH D cy q A H0 S H locs) (n : Nat) (hn : n < 40) (hc : cK n = 7) {i v : Int} (hz : zr i) (h0 : 0 ≤ i) (h1 : i < S.2.2.2 n) (v0 : 0 ≤ v) (v1 : v < 65536) (hd : decode cc pc = .ok (.castore, 1))
    (kk : ∀ (H1 : Heap) (locs1 : List Loc), cH D cy q A H0 (ci S n i.toNat v) H1 locs1 → W p l e R s m args below meth c H1 locs1 cells slots Q (F0 m (pc + 1) ls rest)) : W p l e R s m args below meth c H locs cells slots Q (F0 m pc ls (.int (zI v) :: .int (zI i) :: .ref (q n) :: rest)) := by
  refine va_cast (D := D) (cA := cy 0) (n := S.2.2.2 n) (f := fun j => zI (S.1 n j)) B.1 B.2.1 hK h.1 h.2.1 h.2.2 n 0 (by rw [cW_get hn, cE_c hc]) rfl (zI_in hz h0 h1) hd (fun H1 locs1 hP hD hS => kk H1 locs1 ?_)
  rw [zI_clamp hz, zI_char v0 v1, zu_upd, cW_setC hn hc] at hP hD
  exact ⟨hP, hD, hS⟩
theorem c_iast (B : zAt p s m args meth c C cc maxL ret ws) (hK : va_K D vwCl (zTY cy) s) (h : cH D cy q A H0 S H locs) (n : Nat) (hn : n < 40) (hc : cK n = 8) {i v : Int} (hz : zr i) (h0 : 0 ≤ i) (h1 : i < S.2.2.2 n) (hd : decode cc pc = .ok (.iastore, 1))
    (kk : ∀ (H1 : Heap) (locs1 : List Loc), cH D cy q A H0 (ci S n i.toNat v) H1 locs1 → W p l e R s m args below meth c H1 locs1 cells slots Q (F0 m (pc + 1) ls rest)) : W p l e R s m args below meth c H locs cells slots Q (F0 m pc ls (.int (zI v) :: .int (zI i) :: .ref (q n) :: rest)) := by
  refine va_iast (D := D) (cA := cy 1) (n := S.2.2.2 n) (f := fun j => zI (S.1 n j)) B.1 B.2.1 hK h.1 h.2.1 h.2.2 n 1 (by rw [cW_get hn, cE_i hc]) rfl (zI_in hz h0 h1) hd (fun H1 locs1 hP hD hS => kk H1 locs1 ?_)
  rw [zI_clamp hz, zu_upd, cW_setIA hn hc] at hP hD
  exact ⟨hP, hD, hS⟩
theorem c_last (B : zAt p s m args meth c C cc maxL ret ws) (hK : va_K D vwCl (zTY cy) s) (h : cH D cy q A H0 S H locs) (n : Nat) (hn : n < 40) (hc : cK n = 9) {i : Int} {v : Int64} (hz : zr i) (h0 : 0 ≤ i) (h1 : i < S.2.2.2 n) (hd : decode cc pc = .ok (.lastore, 1))
    (kk : ∀ (H1 : Heap) (locs1 : List Loc), cH D cy q A H0 (cj S n i.toNat v) H1 locs1 → W p l e R s m args below meth c H1 locs1 cells slots Q (F0 m (pc + 1) ls rest)) : W p l e R s m args below meth c H locs cells slots Q (F0 m pc ls (.long v :: .int (zI i) :: .ref (q n) :: rest)) := by
  refine va_last (D := D) (cA := cy 2) (n := S.2.2.2 n) (f := S.2.1 n) B.1 B.2.1 hK h.1 h.2.1 h.2.2 n 2 (by rw [cW_get hn, cE_j hc]) rfl (zI_in hz h0 h1) hd (fun H1 locs1 hP hD hS => kk H1 locs1 ?_)
  rw [zI_clamp hz, cW_setJA hn hc] at hP hD
  exact ⟨hP, hD, hS⟩
theorem c_alen (B : zAt p s m args meth c C cc maxL ret ws) (hK : va_K D vwCl (zTY cy) s) (h : cH D cy q A H0 S H locs) (n : Nat) (hn : n < 40) (hc : 7 ≤ cK n) (hd : decode cc pc = .ok (.arraylength, 1))
    (kk : W p l e R s m args below meth c H locs cells slots Q (F0 m (pc + 1) ls (.int (zI (S.2.2.2 n)) :: rest))) : W p l e R s m args below meth c H locs cells slots Q (F0 m pc ls (.ref (q n) :: rest)) := by
  have e9 : ∀ j : Nat, Int32.ofNat j = zI j := fun j => Int32.ofInt_eq_ofNat.symm
  rcases (show cK n = 7 ∨ cK n = 8 ∨ cK n = 9 by have : cK n ≤ 9 := (by unfold cK; (repeat' split) <;> decide); omega) with hk | hk | hk
  · exact va_alen (D := D) (cA := cy 0) (x := (S.2.2.2 n, .inl (fun j => zI (S.1 n j)))) (ty := .char) B.1 B.2.1 hK h.1 n 0 (by rw [cW_get hn, cE_c hk]) rfl (e9 _) hd kk
  · exact va_alen (D := D) (cA := cy 1) (x := (S.2.2.2 n, .inl (fun j => zI (S.1 n j)))) (ty := .int) B.1 B.2.1 hK h.1 n 1 (by rw [cW_get hn, cE_i hk]) rfl (e9 _) hd kk
  · exact va_alen (D := D) (cA := cy 2) (x := (S.2.2.2 n, .inr (.inl (S.2.1 n)))) (ty := .long) B.1 B.2.1 hK h.1 n 2 (by rw [cW_get hn, cE_j hk]) rfl (e9 _) hd kk
theorem c_calli {y : MethodName} {wy : List Cond} {rm : Room} {As : List Value} {post : Int → CSt → Prop} {bytes : ByteArray} {mxL na : Nat} {rt : Option FieldType} {CY : String} {TY : u_T} {NY : Nat} (B : zAt p s m args meth c C cc maxL ret ws) (hK : va_K D vwCl (zTY cy) s) (h : cH D cy q A H0 S H locs) (n : Nat) (hn : n < 40) (hc : cK n < 7) (hcl : vwCl[cK n]? = some (CY, TY, NY)) (hM : cMi l D cy q y wy rm S n As post) (cw : CallW R s args C CY index y bytes mxL rt wy rm 0 0 na) (hna : As.length = na) (hsz : ls.size = maxL) {st : List Value} (hst : st = As.reverse ++ .ref (q n) :: rest) (hroom : (rest.map fun v => v.category).sum ≤ 8) (hd : decode cc pc = .ok (.invokevirtual index, 3)) (hf : cells ≤ R.cells ∧ slots ≤ R.slots)
    (kk : ∀ (r : Int) (S' : CSt) (H1 : Heap) (locs1 : List Loc), post r S' → cH D cy q A H0 S' H1 locs1 → W p l e R s m args below meth c H1 locs1 cells slots Q (F0 m (pc + 3) ls (.int (zI r) :: rest))) : W p l e R s m args below meth c H locs cells slots Q (F0 m pc ls st) := by
  refine va_calli (va_runV (As := As) (rest := rest) (g := F0 m pc ls st) (b := q n) ⟨B.1, B.2.1, B.2.2.1, B.2.2.2.1, B.2.2.2.2.1⟩ hM cw ⟨cPre_blind, va_recv hK h.1 (ci := cK n) (q := (CY, TY, NY)) (q0 := n) hcl (by rw [cW_get hn, cE_obj hc]), fun U hU hW => ⟨rfl, by rw [hU]; exact h.1, va_K.moved hW.alike hK, h.2.1.weaken (fun _ _ _ _ => trivial)⟩⟩ rfl hna hsz hst (lv_room hroom) hd hf) h.2.2 (fun a _ ha => cA_in h.2.1 a ha) (fun a ha => cA_in h.2.1 a ha) (fun r u t H1 locs1 ht hvm hw hB hz1 hk1 hS => ?_)
  obtain ⟨r0, S'⟩ := u
  obtain ⟨rfl, hpost⟩ := hw
  refine kk r0 S' H1 locs1 hpost ⟨?_, cW_D S' h.2.1, hS⟩
  rw [← ht]
  exact hB
theorem c_callv {y : MethodName} {wy : List Cond} {rm : Room} {As : List Value} {post : CSt → Prop} {bytes : ByteArray} {mxL na : Nat} {CY : String} {TY : u_T} {NY : Nat} (B : zAt p s m args meth c C cc maxL ret ws) (hK : va_K D vwCl (zTY cy) s) (h : cH D cy q A H0 S H locs) (n : Nat) (hn : n < 40) (hc : cK n < 7) (hcl : vwCl[cK n]? = some (CY, TY, NY)) (hM : cMv l D cy q y wy rm S n As post) (cw : CallW R s args C CY index y bytes mxL none wy rm 0 0 na) (hna : As.length = na) (hsz : ls.size = maxL) {st : List Value} (hst : st = As.reverse ++ .ref (q n) :: rest) (hroom : (rest.map fun v => v.category).sum ≤ 8) (hd : decode cc pc = .ok (.invokevirtual index, 3)) (hf : cells ≤ R.cells ∧ slots ≤ R.slots)
    (kk : ∀ (S' : CSt) (H1 : Heap) (locs1 : List Loc), post S' → cH D cy q A H0 S' H1 locs1 → W p l e R s m args below meth c H1 locs1 cells slots Q (F0 m (pc + 3) ls rest)) : W p l e R s m args below meth c H locs cells slots Q (F0 m pc ls st) := by
  refine va_callv (va_runV (As := As) (rest := rest) (g := F0 m pc ls st) (b := q n) ⟨B.1, B.2.1, B.2.2.1, B.2.2.2.1, B.2.2.2.2.1⟩ hM cw ⟨cPre_blind, va_recv hK h.1 (ci := cK n) (q := (CY, TY, NY)) (q0 := n) hcl (by rw [cW_get hn, cE_obj hc]), fun U hU hW => ⟨rfl, by rw [hU]; exact h.1, va_K.moved hW.alike hK, h.2.1.weaken (fun _ _ _ _ => trivial)⟩⟩ rfl hna hsz hst (lv_room hroom) hd hf) h.2.2 (fun a _ ha => cA_in h.2.1 a ha) (fun a ha => cA_in h.2.1 a ha) (fun u t H1 locs1 ht hvm hw hB hz1 hk1 hS => ?_)
  refine kk u H1 locs1 hw ⟨?_, cW_D u h.2.1, hS⟩
  rw [← ht]
  exact hB
theorem c_reti {post : Int → CSt → Prop} (B : zAt p s m args meth c C cc maxL (some .int) ws) (h : cH D cy q (cA q) s.heap S H locs) {r : Int} (hp : post r S) (hd : decode cc pc = .ok (.ireturn, 1)) : W p l e R s m args below meth c H locs cells slots (MQ below (cQi D cy q post) args s cells slots (cA q)) (F0 m pc ls [.int (zI r)]) :=
  W.iret (v := zI r) B.1 B.2.1 B.2.2.2.2.2.1 (fun t ht _ => ⟨⟨zI r, (r, S), rfl, ⟨rfl, hp⟩, by show va_P _ _ _ _; rw [ht]; exact h.1⟩, h.2.2.F ht⟩) h.2.2.2.2 hd B.2.2.2.2.2.2
theorem c_retz {post : Int → CSt → Prop} (B : zAt p s m args meth c C cc maxL (some .boolean) ws) (h : cH D cy q (cA q) s.heap S H locs) {r : Int} (hr : r = 0 ∨ r = 1) (hp : post r S) (hd : decode cc pc = .ok (.ireturn, 1)) : W p l e R s m args below meth c H locs cells slots (MQ below (cQi D cy q post) args s cells slots (cA q)) (F0 m pc ls [.int (zI r)]) :=
  W.zret (v := zI r) B.1 B.2.1 B.2.2.2.2.2.1 (by rcases hr with rfl | rfl <;> decide) (fun t ht _ => ⟨⟨zI r, (r, S), rfl, ⟨rfl, hp⟩, by show va_P _ _ _ _; rw [ht]; exact h.1⟩, h.2.2.F ht⟩) h.2.2.2.2 hd B.2.2.2.2.2.2
theorem c_retc {post : Int → CSt → Prop} (B : zAt p s m args meth c C cc maxL (some .char) ws) (h : cH D cy q (cA q) s.heap S H locs) {r : Int} (h0 : 0 ≤ r) (h1 : r < 65536) (hp : post r S) (hd : decode cc pc = .ok (.ireturn, 1)) : W p l e R s m args below meth c H locs cells slots (MQ below (cQi D cy q post) args s cells slots (cA q)) (F0 m pc ls [.int (zI r)]) :=
  W.zret (v := zI r) B.1 B.2.1 B.2.2.2.2.2.1 (by
    obtain ⟨n, rfl⟩ : ∃ n : Nat, r = n := ⟨r.toNat, by omega⟩
    have h2 : zI n = nI n := Int32.ofInt_eq_ofNat
    rw [h2]
    exact (pk_charN (q := n) (by omega)).1) (fun t ht _ => ⟨⟨zI r, (r, S), rfl, ⟨rfl, hp⟩, by show va_P _ _ _ _; rw [ht]; exact h.1⟩, h.2.2.F ht⟩) h.2.2.2.2 hd B.2.2.2.2.2.2
theorem c_retv {post : CSt → Prop} (B : zAt p s m args meth c C cc maxL none ws) (h : cH D cy q (cA q) s.heap S H locs) (hp : post S) (hd : decode cc pc = .ok (.return_, 1)) : W p l e R s m args below meth c H locs cells slots (MQ below (cQv D cy q post) args s cells slots (cA q)) (F0 m pc ls []) :=
  W.vret B.1 B.2.1 B.2.2.2.2.2.1 (fun t ht _ => ⟨⟨S, rfl, hp, by show va_P _ _ _ _; rw [ht]; exact h.1⟩, h.2.2.F ht⟩) h.2.2.2.2 hd B.2.2.2.2.2.2
end CR
