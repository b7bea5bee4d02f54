/-! THE REFERENCE'S WORLD: one object and its 25 arrays. Its state: S.1 k is the number in field k, S.2 k j the number at place j of the array in field k. -/
abbrev MSt : Type := (Nat → Int) × (Nat → Nat → Int)
def mi (S : MSt) (k : Nat) (v : Int) : MSt := (fun j => if j = k then v else S.1 j, S.2)
def ma (S : MSt) (k i : Nat) (v : Int) : MSt := (S.1, fun a => if a = k then zu (S.2 k) i v else S.2 a)
def mR : List Nat := [1, 3, 7, 8, 9, 10, 11, 13, 15, 16, 17, 18, 26, 27, 28, 29, 30, 31, 33, 34, 36, 43, 44, 46, 48]
def mN (k : Nat) : Nat := match k with
  | 1 => 40
  | 3 => 24
  | 7 => 40
  | 13 => 40
  | 26 => 44
  | 27 => 44
  | 28 => 44
  | 29 => 44
  | 30 => 44
  | 31 => 44
  | 33 => 180
  | 34 => 6000
  | 36 => 3000
  | 43 => 10
  | 44 => 10
  | 46 => 200
  | 48 => 260
  | _ => 220
def mC (cy : Nat → ClassId) (k : Nat) : ClassId := match k with
  | 1 => cy 0
  | 3 => cy 0
  | 7 => cy 0
  | 13 => cy 0
  | 46 => cy 0
  | 48 => cy 0
  | _ => cy 1
abbrev zTY (cy : Nat → ClassId) : List (ClassId × FieldType) := [(cy 0, .char), (cy 1, .int), (cy 2, .long)]
def mF (q : Nat → Nat) (S : MSt) : List Value := (List.range 50).map (fun k => if mR.contains k = true then .ref (q k) else .int (zI (S.1 k)))
def mE (cy : Nat → ClassId) (S : MSt) (k : Nat) : va_E := .inl (mC cy k, mN k, .inl (fun j => zI (S.2 k j)))
def mW (cy : Nat → ClassId) (o : Nat) (q : Nat → Nat) (S : MSt) : va_W := (o, .inr (7, mF q S)) :: mR.map (fun k => (q k, mE cy S k))
/-- the places that the reference's methods may write -/
def mA (o : Nat) (q : Nat → Nat) : Nat → Prop := fun a => a = o ∨ ∃ k, k ∈ mR ∧ a = q k
theorem mi_eq {S : MSt} {k : Nat} {v : Int} : (mi S k v).1 k = v := if_pos rfl
theorem mi_ne {S : MSt} {k j : Nat} {v : Int} (h : j ≠ k) : (mi S k v).1 j = S.1 j := if_neg h
theorem mi_2 {S : MSt} {k : Nat} {v : Int} : (mi S k v).2 = S.2 := rfl
theorem ma_1 {S : MSt} {k i : Nat} {v : Int} : (ma S k i v).1 = S.1 := rfl
theorem ma_eq {S : MSt} {k i : Nat} {v : Int} : (ma S k i v).2 k = zu (S.2 k) i v := if_pos rfl
theorem ma_ne {S : MSt} {k i a : Nat} {v : Int} (h : a ≠ k) : (ma S k i v).2 a = S.2 a := if_neg h
theorem mF_get {q : Nat → Nat} {S : MSt} {k : Nat} (hk : k < 50) : (mF q S)[k]? = some (if mR.contains k = true then .ref (q k) else .int (zI (S.1 k))) := by
  simp [mF, hk]
theorem mF_int {q : Nat → Nat} {S : MSt} {k : Nat} (hk : k < 50) (hr : mR.contains k = false) : (mF q S)[k]? = some (.int (zI (S.1 k))) := by
  rw [mF_get hk, hr]; rfl
theorem mF_ref {q : Nat → Nat} {S : MSt} {k : Nat} (hk : k < 50) (hr : mR.contains k = true) : (mF q S)[k]? = some (.ref (q k)) := by
  rw [mF_get hk, hr]; rfl
theorem mF_len {q : Nat → Nat} {S : MSt} : (mF q S).length = 50 := by simp [mF]
theorem mF_set {q : Nat → Nat} {S : MSt} {k : Nat} {v : Int} (hk : k < 50) (hr : mR.contains k = false) : (mF q S).set k (.int (zI v)) = mF q (mi S k v) := by
  apply List.ext_getElem?
  intro j
  by_cases hj : j < 50
  · rw [mF_get hj, List.getElem?_set, mF_len]
    by_cases e : k = j
    · subst e
      rw [if_pos rfl, if_pos hk, hr, mi_eq]
      rfl
    · rw [if_neg e, mF_get hj, mi_ne (fun h => e h.symm)]
  · have h1 : ((mF q S).set k (.int (zI v))).length ≤ j := by rw [List.length_set, mF_len]; omega
    have h2 : (mF q (mi S k v)).length ≤ j := by rw [mF_len]; omega
    rw [List.getElem?_eq_none h1, List.getElem?_eq_none h2]
theorem mW_0 {cy : Nat → ClassId} {o : Nat} {q : Nat → Nat} {S : MSt} : (mW cy o q S)[0]? = some (o, .inr (7, mF q S)) := rfl
theorem mW_arr {cy : Nat → ClassId} {o : Nat} {q : Nat → Nat} {S : MSt} {p k : Nat} (hp : mR[p]? = some k) : (mW cy o q S)[p + 1]? = some (q k, mE cy S k) := by
  simp [mW, hp]
theorem mR_inj {p p' k : Nat} (h : mR[p]? = some k) (h' : mR[p']? = some k) : p = p' := by
  have hd : ∀ a, a < 25 → ∀ b, b < 25 → mR[a]? = mR[b]? → a = b := by decide
  have h1 : p < 25 := (List.getElem?_eq_some_iff.mp h).1
  have h2 : p' < 25 := (List.getElem?_eq_some_iff.mp h').1
  exact hd p h1 p' h2 (h.trans h'.symm)
theorem mW_setI {cy : Nat → ClassId} {o : Nat} {q : Nat → Nat} {S : MSt} {k : Nat} {v : Int} (hk : k < 50) (hr : mR.contains k = false) : (mW cy o q S).set 0 (o, .inr (7, (mF q S).set k (.int (zI v)))) = mW cy o q (mi S k v) := by
  rw [mF_set hk hr]
  rfl
theorem mW_setA {cy : Nat → ClassId} {o : Nat} {q : Nat → Nat} {S : MSt} {p k i : Nat} {v : Int} (hp : mR[p]? = some k) : (mW cy o q S).set (p + 1) (q k, .inl (mC cy k, mN k, .inl (fun j => zI (zu (S.2 k) i v j)))) = mW cy o q (ma S k i v) := by
  apply List.ext_getElem?
  intro j
  cases j with
  | zero => rfl
  | succ j =>
    rw [List.getElem?_set]
    by_cases e : p + 1 = j + 1
    · have e' : p = j := by omega
      subst e'
      have hl : p + 1 < (mW cy o q S).length := (List.getElem?_eq_some_iff.mp (mW_arr (cy := cy) (o := o) (q := q) (S := S) hp)).1
      rw [if_pos rfl, if_pos hl, mW_arr hp, mE, ma_eq]
    · rw [if_neg e]
      cases hj : mR[j]? with
      | none =>
        have h1 : mR.length ≤ j := List.getElem?_eq_none_iff.mp hj
        simp [mW, h1]
      | some k' =>
        have hne : k' ≠ k := fun h => e (by rw [h] at hj; have := mR_inj hp hj; omega)
        rw [mW_arr hj, mW_arr hj, mE, mE, ma_ne hne]
theorem mW_addr {cy : Nat → ClassId} {o : Nat} {q : Nat → Nat} {S : MSt} (S' : MSt) {j : Nat} {e : Nat × va_E} (h : (mW cy o q S)[j]? = some e) : ∃ e', (mW cy o q S')[j]? = some (e.1, e') := by
  cases j with
  | zero => exact ⟨_, by rw [mW_0] at h; cases h; exact mW_0⟩
  | succ j =>
    cases hj : mR[j]? with
    | none =>
      have h1 : mR.length ≤ j := List.getElem?_eq_none_iff.mp hj
      simp [mW, h1] at h
    | some k => exact ⟨_, by rw [mW_arr hj] at h; cases h; exact mW_arr hj⟩
theorem mW_D {cy : Nat → ClassId} {o : Nat} {q : Nat → Nat} {S : MSt} (S' : MSt) {A : Nat → Prop} (h : va_D A (mW cy o q S)) : va_D A (mW cy o q S') := by
  refine ⟨fun i j a b ha hb hab => ?_, fun k a ha => ?_⟩
  · obtain ⟨a', ha'⟩ := mW_addr S ha
    obtain ⟨b', hb'⟩ := mW_addr S hb
    exact h.1 i j _ _ ha' hb' hab
  · obtain ⟨a', ha'⟩ := mW_addr S ha
    exact h.2 k (a.1, a') ha'
theorem mW_in {cy : Nat → ClassId} {o : Nat} {q : Nat → Nat} {S : MSt} {j : Nat} {e : Nat × va_E} (h : (mW cy o q S)[j]? = some e) : mA o q e.1 := by
  cases j with
  | zero => rw [mW_0] at h; cases h; exact Or.inl rfl
  | succ j =>
    cases hj : mR[j]? with
    | none =>
      have h1 : mR.length ≤ j := List.getElem?_eq_none_iff.mp hj
      simp [mW, h1] at h
    | some k => rw [mW_arr hj] at h; cases h; exact Or.inr ⟨k, List.mem_of_getElem? hj, rfl⟩
theorem mA_in {cy : Nat → ClassId} {o : Nat} {q : Nat → Nat} {S : MSt} {A : Nat → Prop} (h : va_D A (mW cy o q S)) : ∀ a, mA o q a → A a := by
  rintro a (rfl | ⟨k, hk, rfl⟩)
  · exact h.2 0 _ mW_0
  · obtain ⟨j, hj, e⟩ := List.getElem_of_mem hk
    have : mR[j]? = some k := by rw [List.getElem?_eq_getElem hj, e]
    exact h.2 _ _ (mW_arr this)
/-- the world stands: in the heap H, its cells apart and in A, nothing outside A changed since H0 -/
def mH (D : va_G) (cy : Nat → ClassId) (o : Nat) (q : Nat → Nat) (A : Nat → Prop) (H0 : Heap) (S : MSt) (H : Heap) (locs : List Loc) : Prop := va_P D vwCl (mW cy o q S) H ∧ va_D A (mW cy o q S) ∧ va_S A H0 H locs
def mPre (D : va_G) (cy : Nat → ClassId) (o : Nat) (q : Nat → Nat) (S : MSt) (As : List Value) : Array Value → State → Prop := va_Pc (.ref o :: As) (fun U => va_P D vwCl (mW cy o q S) U.heap ∧ va_K D vwCl (zTY cy) U ∧ va_D (fun _ => True) (mW cy o q S))
def mB (D : va_G) (cy : Nat → ClassId) (o : Nat) (q : Nat → Nat) (S' : MSt) (t : State) : Prop := va_P D vwCl (mW cy o q S') t.heap
def mQi (D : va_G) (cy : Nat → ClassId) (o : Nat) (q : Nat → Nat) (post : Int → MSt → Prop) : Array Value → State → Outcome → State → Prop := va_Qi (S := Int × MSt) (fun r u => r = zI u.1 ∧ post u.1 u.2) (fun u t => mB D cy o q u.2 t) (mA o q)
def mQv (D : va_G) (cy : Nat → ClassId) (o : Nat) (q : Nat → Nat) (post : MSt → Prop) : Array Value → State → Outcome → State → Prop := va_Qv (S := MSt) post (fun u t => mB D cy o q u t) (mA o q)
/-- a method of the reference: from the state S with the arguments As it returns, 'post answer state' -/
def mMi (l : Launch) (D : va_G) (cy : Nat → ClassId) (o : Nat) (q : Nat → Nat) (y : MethodName) (ws : List Cond) (rm : Room) (S : MSt) (As : List Value) (post : Int → MSt → Prop) : Prop := Met l y ws rm (mPre D cy o q S As) (mQi D cy o q post) 0 0 (mA o q)
def mMv (l : Launch) (D : va_G) (cy : Nat → ClassId) (o : Nat) (q : Nat → Nat) (y : MethodName) (ws : List Cond) (rm : Room) (S : MSt) (As : List Value) (post : MSt → Prop) : Prop := Met l y ws rm (mPre D cy o q S As) (mQv D cy o q post) 0 0 (mA o q)
theorem mPre_blind {D : va_G} {cy : Nat → ClassId} {o : Nat} {q : Nat → Nat} {S : MSt} {As : List Value} : FrameBlind (mPre D cy o q S As) := by
  intro a U g mk h
  obtain ⟨h0, hP, hK, hD⟩ := h
  exact ⟨h0, hP, va_K.moved (u := U) (U := U.calling g mk a) (Vm.Alike.refl U.vm) hK, hD⟩
theorem m_of {l : Launch} {D : va_G} {cy : Nat → ClassId} {o : Nat} {q : Nat → Nat} {y : MethodName} {ws ws' : List Cond} {rm : Room} {S : MSt} {As : List Value} {cc : ByteArray} {maxL : Nat} {ret : Option FieldType} {Qc : Array Value → State → Outcome → State → Prop}
    (hy : plainName y.cls = true) (hcls : y.cls = RX7) (hw : ws = Cond.code y cc maxL ret :: ws') (hn : (lg_sl (.ref o :: As)).length ≤ maxL)
    (body : ∀ (p : Program) (e : Env) (s : State) (m : MethodId) (args : Array Value) (below : List Frame) (meth : Method) (c : Code) (ls : Array Slot), zAt p s m args meth c RX7 cc maxL ret ws → va_K D vwCl (zTY cy) s → mH D cy o q (mA o q) s.heap S s.heap [] → lv_has ls maxL (lv_args 0 (.ref o :: As)) →
      W p l e (headSpec ws rm).room s m args below meth c s.heap [] 0 0 (MQ below Qc args s 0 0 (mA o q)) (F0 m 0 ls [])) : Met l y ws rm (mPre D cy o q S As) Qc 0 0 (mA o q) := by
  refine Met.ofW (cc := cc) (maxL := maxL) (ret := ret) hy hw ?_
  intro p e s m args below meth c s₁ B hml hv
  obtain ⟨rfl, hP, hK, hD⟩ := hv
  rw [lg_entry_eq]
  refine body p e s m _ below meth c _ ⟨B.exec, B.bytes, hml, ?_, atoms_spec (ws := ws) B.pre, B.returns, B.notSynchronized⟩ hK ⟨hP, hD.weaken (fun k a ha _ => mW_in ha), va_S.rf⟩ (lv_entry (.ref o :: As) hn)
  have := findClass_of_methodNamed B.named
  rw [hcls] at this
  exact this
section MR
variable {p : Program} {l : Launch} {e : Env} {R : Room} {s : State} {m : MethodId} {args : Array Value} {below : List Frame} {meth : Method} {c : Code} {H : Heap} {locs : List Loc} {cells slots : Nat} {Q : State → Prop} {cc : ByteArray} {pc : Nat} {ls : Array Slot} {rest : List Value}
variable {D : va_G} {cy : Nat → ClassId} {o : Nat} {q : Nat → Nat} {A : Nat → Prop} {H0 : Heap} {S : MSt} {maxL : Nat} {ret : Option FieldType} {ws : List Cond} {index : Nat}
theorem m_get (B : zAt p s m args meth c RX7 cc maxL ret ws) (hin : ∀ w ∈ wsX70, w ∈ ws) (hK : va_K D vwCl (zTY cy) s) (h : mH D cy o q A H0 S H locs) (k : Nat) (hk : k < 50) (hr : mR.contains k = false) {x : Int} (hx : S.1 k = x) (hl : Cond.fieldLink RX7 index RX7 (TX7 k).2.1 (TX7 k).2.2.1 ∈ ws) (hd : decode cc pc = .ok (.getfield index, 3))
    (kk : W p l e R s m args below meth c H locs cells slots Q (F0 m (pc + 3) ls (.int (zI x) :: rest))) : W p l e R s m args below meth c H locs cells slots Q (F0 m pc ls (.ref o :: rest)) := by
  subst hx
  have hT1 : (TX7 k).1 = RX7 := by unfold TX7; split <;> rfl
  exact va_get (D := D) (ci := 7) (v := .int (zI (S.1 k))) (C := RX7) (T := TX7) (N := 50) B.1 B.2.1 B.2.2.2.2.1 hin B.2.2.2.1 hK h.1 0 mW_0 rfl k hk (B.2.2.2.2.1 _ hl) (fun x9 h9 => by rw [hT1] at h9; exact h9) (mF_int hk hr) hd kk
theorem m_getr (B : zAt p s m args meth c RX7 cc maxL ret ws) (hin : ∀ w ∈ wsX70, w ∈ ws) (hK : va_K D vwCl (zTY cy) s) (h : mH D cy o q A H0 S H locs) (k : Nat) (hk : k < 50) (hr : mR.contains k = true) (hl : Cond.fieldLink RX7 index RX7 (TX7 k).2.1 (TX7 k).2.2.1 ∈ ws) (hd : decode cc pc = .ok (.getfield index, 3))
    (kk : W p l e R s m args below meth c H locs cells slots Q (F0 m (pc + 3) ls (.ref (q k) :: rest))) : W p l e R s m args below meth c H locs cells slots Q (F0 m pc ls (.ref o :: rest)) := by
  have hT1 : (TX7 k).1 = RX7 := by unfold TX7; split <;> rfl
  exact va_get (D := D) (ci := 7) (v := .ref (q k)) (C := RX7) (T := TX7) (N := 50) B.1 B.2.1 B.2.2.2.2.1 hin B.2.2.2.1 hK h.1 0 mW_0 rfl k hk (B.2.2.2.2.1 _ hl) (fun x9 h9 => by rw [hT1] at h9; exact h9) (mF_ref hk hr) hd kk
theorem m_put0 (B : zAt p s m args meth c RX7 cc maxL ret ws) (hin : ∀ w ∈ wsX70, w ∈ ws) (hK : va_K D vwCl (zTY cy) s) (h : mH D cy o q A H0 S H locs) (k : Nat) (hk : k < 50) (hr : mR.contains k = false) {v : Int} {ty : FieldType} (hty : parseFieldDescriptor (TX7 k).2.2.1 = some ty) (hn : narrow ty (.int (zI v)) = .int (zI v)) (hfit : fits ty (.int (zI v)) = true) (hl : Cond.fieldLink RX7 index RX7 (TX7 k).2.1 (TX7 k).2.2.1 ∈ ws) (hd : decode cc pc = .ok (.putfield index, 3))
    (kk : ∀ (H1 : Heap) (locs1 : List Loc), mH D cy o q A H0 (mi S k v) H1 locs1 → W p l e R s m args below meth c H1 locs1 cells slots Q (F0 m (pc + 3) ls rest)) : W p l e R s m args below meth c H locs cells slots Q (F0 m pc ls (.int (zI v) :: .ref o :: rest)) := by
  have hT1 : (TX7 k).1 = RX7 := by unfold TX7; split <;> rfl
  have hT4 : (TX7 k).2.2.2 = false := by unfold TX7; split <;> rfl
  refine va_put (D := D) (ci := 7) (v := .int (zI v)) (ty := ty) (C := RX7) (T := TX7) (N := 50) B.1 B.2.1 B.2.2.2.2.1 hin tyX7 tyX7_ok nmX7 B.2.2.2.1 hK h.1 h.2.1 h.2.2 0 mW_0 rfl k hk (B.2.2.2.2.1 _ hl) (fun x9 h9 => by rw [hT1] at h9; exact h9) hT4 hty hn hfit (by rw [mF_len]; exact hk) hd (fun H1 locs1 hP hD hS => kk H1 locs1 ?_)
  rw [mW_setI hk hr] at hP hD
  exact ⟨hP, hD, hS⟩
theorem m_put (B : zAt p s m args meth c RX7 cc maxL ret ws) (hin : ∀ w ∈ wsX70, w ∈ ws) (hK : va_K D vwCl (zTY cy) s) (h : mH D cy o q A H0 S H locs) (k : Nat) (hk : k < 50) (hr : mR.contains k = false) {v : Int} (hty : parseFieldDescriptor (TX7 k).2.2.1 = some .int) (hl : Cond.fieldLink RX7 index RX7 (TX7 k).2.1 (TX7 k).2.2.1 ∈ ws) (hd : decode cc pc = .ok (.putfield index, 3))
    (kk : ∀ (H1 : Heap) (locs1 : List Loc), mH D cy o q A H0 (mi S k v) H1 locs1 → W p l e R s m args below meth c H1 locs1 cells slots Q (F0 m (pc + 3) ls rest)) : W p l e R s m args below meth c H locs cells slots Q (F0 m pc ls (.int (zI v) :: .ref o :: rest)) := m_put0 B hin hK h k hk hr hty rfl rfl hl hd kk
theorem m_putz (B : zAt p s m args meth c RX7 cc maxL ret ws) (hin : ∀ w ∈ wsX70, w ∈ ws) (hK : va_K D vwCl (zTY cy) s) (h : mH D cy o q A H0 S H locs) (k : Nat) (hk : k < 50) (hr : mR.contains k = false) {v : Int} (hv : v = 0 ∨ v = 1) (hty : parseFieldDescriptor (TX7 k).2.2.1 = some .boolean) (hl : Cond.fieldLink RX7 index RX7 (TX7 k).2.1 (TX7 k).2.2.1 ∈ ws) (hd : decode cc pc = .ok (.putfield index, 3))
    (kk : ∀ (H1 : Heap) (locs1 : List Loc), mH D cy o q A H0 (mi S k v) H1 locs1 → W p l e R s m args below meth c H1 locs1 cells slots Q (F0 m (pc + 3) ls rest)) : W p l e R s m args below meth c H locs cells slots Q (F0 m pc ls (.int (zI v) :: .ref o :: rest)) := m_put0 B hin hK h k hk hr hty (by rcases hv with rfl | rfl <;> decide) (by rcases hv with rfl | rfl <;> decide) hl hd kk
theorem m_iald (B : zAt p s m args meth c RX7 cc maxL ret ws) (hK : va_K D vwCl (zTY cy) s) (h : mH D cy o q A H0 S H locs) (j k : Nat) (hj : mR[j]? = some k) (hc : mC cy k = cy 1) {i x : Int} (h0 : 0 ≤ i) (h1 : i < mN k) (hx : S.2 k i.toNat = x) (hd : decode cc pc = .ok (.iaload, 1))
    (kk : W p l e R s m args below meth c H locs cells slots Q (F0 m (pc + 1) ls (.int (zI x) :: rest))) : W p l e R s m args below meth c H locs cells slots Q (F0 m pc ls (.int (zI i) :: .ref (q k) :: rest)) := by
  subst hx
  have hN : mN k ≤ 6000 := by unfold mN; split <;> decide
  have hz : zr i := ⟨by omega, by omega⟩
  refine va_iald (D := D) (cA := mC cy k) (n := mN k) (f := fun j => zI (S.2 k j)) B.1 B.2.1 hK h.1 (j + 1) 1 (mW_arr hj) (by rw [hc]; rfl) (zI_in hz h0 h1) hd ?_
  rw [zI_clamp hz]
  exact kk
theorem m_cald (B : zAt p s m args meth c RX7 cc maxL ret ws) (hK : va_K D vwCl (zTY cy) s) (h : mH D cy o q A H0 S H locs) (j k : Nat) (hj : mR[j]? = some k) (hc : mC cy k = cy 0) {i x : Int} (h0 : 0 ≤ i) (h1 : i < mN k) (hx : S.2 k i.toNat = x) (hd : decode cc pc = .ok (.caload, 1))
    (kk : W p l e R s m args below meth c H locs cells slots Q (F0 m (pc + 1) ls (.int (zI x) :: rest))) : W p l e R s m args below meth c H locs cells slots Q (F0 m pc ls (.int (zI i) :: .ref (q k) :: rest)) := by
  subst hx
  have hN : mN k ≤ 6000 := by unfold mN; split <;> decide
  have hz : zr i := ⟨by omega, by omega⟩
  refine va_cald (D := D) (cA := mC cy k) (n := mN k) (f := fun j => zI (S.2 k j)) B.1 B.2.1 hK h.1 (j + 1) 0 (mW_arr hj) (by rw [hc]; rfl) (zI_in hz h0 h1) hd ?_
  rw [zI_clamp hz]
  exact kk
theorem m_iast (B : zAt p s m args meth c RX7 cc maxL ret ws) (hK : va_K D vwCl (zTY cy) s) (h : mH D cy o q A H0 S H locs) (j k : Nat) (hj : mR[j]? = some k) (hc : mC cy k = cy 1) {i v : Int} (h0 : 0 ≤ i) (h1 : i < mN k) (hd : decode cc pc = .ok (.iastore, 1))
    (kk : ∀ (H1 : Heap) (locs1 : List Loc), mH D cy o q A H0 (ma S k i.toNat v) H1 locs1 → W p l e R s m args below meth c H1 locs1 cells slots Q (F0 m (pc + 1) ls rest)) : W p l e R s m args below meth c H locs cells slots Q (F0 m pc ls (.int (zI v) :: .int (zI i) :: .ref (q k) :: rest)) := by
  have hN : mN k ≤ 6000 := by unfold mN; split <;> decide
  have hz : zr i := ⟨by omega, by omega⟩
  refine va_iast (D := D) (cA := mC cy k) (n := mN k) (f := fun j => zI (S.2 k j)) B.1 B.2.1 hK h.1 h.2.1 h.2.2 (j + 1) 1 (mW_arr hj) (by rw [hc]; rfl) (zI_in hz h0 h1) hd (fun H1 locs1 hP hD hS => kk H1 locs1 ?_)
  rw [zI_clamp hz, zu_upd, mW_setA hj] at hP hD
  exact ⟨hP, hD, hS⟩
theorem m_cast (B : zAt p s m args meth c RX7 cc maxL ret ws) (hK : va_K D vwCl (zTY cy) s) (h : mH D cy o q A H0 S H locs) (j k : Nat) (hj : mR[j]? = some k) (hc : mC cy k = cy 0) {i v : Int} (h0 : 0 ≤ i) (h1 : i < mN k) (v0 : 0 ≤ v) (v1 : v < 65536) (hd : decode cc pc = .ok (.castore, 1))
    (kk : ∀ (H1 : Heap) (locs1 : List Loc), mH D cy o q A H0 (ma S k i.toNat v) H1 locs1 → W p l e R s m args below meth c H1 locs1 cells slots Q (F0 m (pc + 1) ls rest)) : W p l e R s m args below meth c H locs cells slots Q (F0 m pc ls (.int (zI v) :: .int (zI i) :: .ref (q k) :: rest)) := by
  have hN : mN k ≤ 6000 := by unfold mN; split <;> decide
  have hz : zr i := ⟨by omega, by omega⟩
  refine va_cast (D := D) (cA := mC cy k) (n := mN k) (f := fun j => zI (S.2 k j)) B.1 B.2.1 hK h.1 h.2.1 h.2.2 (j + 1) 0 (mW_arr hj) (by rw [hc]; rfl) (zI_in hz h0 h1) hd (fun H1 locs1 hP hD hS => kk H1 locs1 ?_)
  rw [zI_clamp hz, zI_char v0 v1, zu_upd, mW_setA hj] at hP hD
  exact ⟨hP, hD, hS⟩
theorem m_calli {y : MethodName} {wy : List Cond} {rm : Room} {As : List Value} {post : Int → MSt → Prop} {bytes : ByteArray} {mxL n : Nat} {rt : Option FieldType} (B : zAt p s m args meth c RX7 cc maxL ret ws) (hK : va_K D vwCl (zTY cy) s) (h : mH D cy o q A H0 S H locs) (hM : mMi l D cy o q y wy rm S As post) (cw : CallW R s args RX7 RX7 index y bytes mxL rt wy rm 0 0 n) (hn : As.length = n) (hsz : ls.size = maxL) {st : List Value} (hst : st = As.reverse ++ .ref o :: rest) (hroom : (rest.map fun v => v.category).sum ≤ 8) (hd : decode cc pc = .ok (.invokevirtual index, 3)) (hf : cells ≤ R.cells ∧ slots ≤ R.slots)
    (kk : ∀ (r : Int) (S' : MSt) (H1 : Heap) (locs1 : List Loc), post r S' → mH D cy o q A H0 S' H1 locs1 → W p l e R s m args below meth c H1 locs1 cells slots Q (F0 m (pc + 3) ls (.int (zI r) :: rest))) : W p l e R s m args below meth c H locs cells slots Q (F0 m pc ls st) := by
  refine va_calli (va_runV (As := As) (rest := rest) (g := F0 m pc ls st) (b := o) ⟨B.1, B.2.1, B.2.2.1, B.2.2.2.1, B.2.2.2.2.1⟩ hM cw ⟨mPre_blind, va_recv hK h.1 (ci := 7) (q := (RX7, TX7, 50)) (q0 := 0) rfl mW_0, fun U hU hW => ⟨rfl, by rw [hU]; exact h.1, va_K.moved hW.alike hK, h.2.1.weaken (fun _ _ _ _ => trivial)⟩⟩ rfl hn hsz hst (lv_room hroom) hd hf) h.2.2 (fun a _ ha => mA_in h.2.1 a ha) (fun a ha => mA_in h.2.1 a ha) (fun r u t H1 locs1 ht hvm hw hB hz1 hk1 hS => ?_)
  obtain ⟨r0, S'⟩ := u
  obtain ⟨rfl, hpost⟩ := hw
  refine kk r0 S' H1 locs1 hpost ⟨?_, mW_D S' h.2.1, hS⟩
  rw [← ht]
  exact hB
theorem m_callv {y : MethodName} {wy : List Cond} {rm : Room} {As : List Value} {post : MSt → Prop} {bytes : ByteArray} {mxL n : Nat} (B : zAt p s m args meth c RX7 cc maxL ret ws) (hK : va_K D vwCl (zTY cy) s) (h : mH D cy o q A H0 S H locs) (hM : mMv l D cy o q y wy rm S As post) (cw : CallW R s args RX7 RX7 index y bytes mxL none wy rm 0 0 n) (hn : As.length = n) (hsz : ls.size = maxL) {st : List Value} (hst : st = As.reverse ++ .ref o :: rest) (hroom : (rest.map fun v => v.category).sum ≤ 8) (hd : decode cc pc = .ok (.invokevirtual index, 3)) (hf : cells ≤ R.cells ∧ slots ≤ R.slots)
    (kk : ∀ (S' : MSt) (H1 : Heap) (locs1 : List Loc), post S' → mH D cy o q A H0 S' H1 locs1 → W p l e R s m args below meth c H1 locs1 cells slots Q (F0 m (pc + 3) ls rest)) : W p l e R s m args below meth c H locs cells slots Q (F0 m pc ls st) := by
  refine va_callv (va_runV (As := As) (rest := rest) (g := F0 m pc ls st) (b := o) ⟨B.1, B.2.1, B.2.2.1, B.2.2.2.1, B.2.2.2.2.1⟩ hM cw ⟨mPre_blind, va_recv hK h.1 (ci := 7) (q := (RX7, TX7, 50)) (q0 := 0) rfl mW_0, fun U hU hW => ⟨rfl, by rw [hU]; exact h.1, va_K.moved hW.alike hK, h.2.1.weaken (fun _ _ _ _ => trivial)⟩⟩ rfl hn hsz hst (lv_room hroom) hd hf) h.2.2 (fun a _ ha => mA_in h.2.1 a ha) (fun a ha => mA_in h.2.1 a ha) (fun u t H1 locs1 ht hvm hw hB hz1 hk1 hS => ?_)
  refine kk u H1 locs1 hw ⟨?_, mW_D u h.2.1, hS⟩
  rw [← ht]
  exact hB
theorem m_reti {post : Int → MSt → Prop} (B : zAt p s m args meth c RX7 cc maxL (some .int) ws) (h : mH D cy o q (mA o q) s.heap S H locs) {r : Int} (hp : post r S) (hd : decode cc pc = .ok (.ireturn, 1)) : W p l e R s m args below meth c H locs cells slots (MQ below (mQi D cy o q post) args s cells slots (mA o q)) (F0 m pc ls [.int (zI r)]) :=
  W.iret (v := zI r) B.1 B.2.1 B.2.2.2.2.2.1 (fun t ht _ => ⟨⟨zI r, (r, S), rfl, ⟨rfl, hp⟩, by show va_P _ _ _ _; rw [ht]; exact h.1⟩, h.2.2.F ht⟩) h.2.2.2.2 hd B.2.2.2.2.2.2
theorem m_retz {post : Int → MSt → Prop} (B : zAt p s m args meth c RX7 cc maxL (some .boolean) ws) (h : mH D cy o q (mA o q) s.heap S H locs) {r : Int} (hr : r = 0 ∨ r = 1) (hp : post r S) (hd : decode cc pc = .ok (.ireturn, 1)) : W p l e R s m args below meth c H locs cells slots (MQ below (mQi D cy o q post) args s cells slots (mA o q)) (F0 m pc ls [.int (zI r)]) :=
  W.zret (v := zI r) B.1 B.2.1 B.2.2.2.2.2.1 (by rcases hr with rfl | rfl <;> decide) (fun t ht _ => ⟨⟨zI r, (r, S), rfl, ⟨rfl, hp⟩, by show va_P _ _ _ _; rw [ht]; exact h.1⟩, h.2.2.F ht⟩) h.2.2.2.2 hd B.2.2.2.2.2.2
theorem m_retv {post : MSt → Prop} (B : zAt p s m args meth c RX7 cc maxL none ws) (h : mH D cy o q (mA o q) s.heap S H locs) (hp : post S) (hd : decode cc pc = .ok (.return_, 1)) : W p l e R s m args below meth c H locs cells slots (MQ below (mQv D cy o q post) args s cells slots (mA o q)) (F0 m pc ls []) :=
  W.vret B.1 B.2.1 B.2.2.2.2.2.1 (fun t ht _ => ⟨⟨S, rfl, hp, by show va_P _ _ _ _; rw [ht]; exact h.1⟩, h.2.2.F ht⟩) h.2.2.2.2 hd B.2.2.2.2.2.2
end MR
