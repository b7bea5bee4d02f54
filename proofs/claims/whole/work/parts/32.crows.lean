abbrev cI (S : CSt) (n k : Nat) (v : Int) : CSt := ci S n k v
/-! WHAT STAYS FIXED: the references (but Reader.made = a and Matcher.program = b) and the lengths (but those of Past's rows); rows by class number. -/
def pA (t j : Nat) : Nat := 9 * t - 37 + j
def cRef (a b n k : Nat) : Nat := if n = 0 then (match k with
    | 0 => 1
    | 1 => 2
    | 2 => 3
    | 3 => 4
    | 4 => 5
    | 5 => 6
    | 6 => 7
    | 7 => 8
    | 8 => 10
    | 9 => 38
    | _ => 39) else if n ≤ 5 then 11 + n else if n ≤ 7 then (if k ≤ 4 then pA n k else pA n (k - 1)) else if n = 8 then (match k with
    | 0 => 2
    | 1 => 9
    | 2 => a
    | _ => 0) else if n = 10 then (match k with
    | 0 => 3
    | 1 => 11
    | 2 => b
    | _ => 0) else 35 + k
def cLen (n : Nat) : Nat := if n = 12 ∨ n = 13 then 40 else if n = 14 then 24 else if n ≤ 16 then 200 else if n ≤ 21 ∨ (26 ≤ n ∧ n ≤ 30) then 96 else if n ≤ 34 then 20 else if n = 35 then 90 else 10
def cFx (a b : Nat) (S : CSt) : Prop := S.2.2.1 = cRef a b ∧ (∀ n, n ≠ 36 → n ≠ 37 → S.2.2.2 n = cLen n) ∧ 192 ≤ S.2.2.2 36 ∧ S.2.2.2 36 ≤ 18432 ∧ 512 ≤ S.2.2.2 37 ∧ S.2.2.2 37 ≤ 24576
theorem cFx_of {a b : Nat} {S S' : CSt} (h : S'.2.2 = S.2.2) (hF : cFx a b S) : cFx a b S' := by
  unfold cFx
  rw [h]
  exact hF
theorem cFx_gl {a b : Nat} {S : CSt} (hF : cFx a b S) : gl S ≤ gK := by
  obtain ⟨-, -, h1, h2, h3, h4⟩ := hF
  show S.2.2.2 36 + S.2.2.2 37 ≤ 50000
  omega
theorem cRef_sr {a b t : Nat} (ht : 1 ≤ t ∧ t ≤ 5) (k : Nat) : cRef a b t k = 11 + t := by
  unfold cRef
  rw [if_neg (by omega), if_pos (by omega)]
theorem cRef_pr {a b t : Nat} (ht : t = 6 ∨ t = 7) (k : Nat) : cRef a b t k = if k ≤ 4 then pA t k else pA t (k - 1) := by
  unfold cRef
  rw [if_neg (by omega), if_neg (by omega), if_pos (by omega)]
theorem cK_sr {t : Nat} (ht : 1 ≤ t ∧ t ≤ 5) : cK t = 4 := by
  unfold cK
  rw [if_neg (by omega), if_pos (by omega)]
theorem cK_sa {t : Nat} (ht : 1 ≤ t ∧ t ≤ 5) : cK (11 + t) = 7 := by
  rcases (show t = 1 ∨ t = 2 ∨ t = 3 ∨ t = 4 ∨ t = 5 by omega) with rfl | rfl | rfl | rfl | rfl <;> rfl
theorem cK_pr {t : Nat} (ht : t = 6 ∨ t = 7) : cK t = 2 := by
  rcases ht with rfl | rfl <;> rfl
theorem cK_pi {t : Nat} (ht : t = 6 ∨ t = 7) (j : Nat) (hj : j < 9 ∧ j ≠ 3 ∧ j ≠ 4) : cK (pA t j) = 8 := by
  rcases ht with rfl | rfl <;> rcases (show j = 0 ∨ j = 1 ∨ j = 2 ∨ j = 5 ∨ j = 6 ∨ j = 7 ∨ j = 8 by omega) with rfl | rfl | rfl | rfl | rfl | rfl | rfl <;> rfl
theorem cK_pl {t : Nat} (ht : t = 6 ∨ t = 7) (j : Nat) (hj : j = 3 ∨ j = 4) : cK (pA t j) = 9 := by
  rcases ht with rfl | rfl <;> rcases hj with rfl | rfl <;> rfl
theorem pA_lt {t : Nat} (ht : t = 6 ∨ t = 7) (j : Nat) (hj : j < 9) : pA t j < 40 := by
  unfold pA
  omega
theorem cLen_pa {t : Nat} (ht : t = 6 ∨ t = 7) (j : Nat) (hj : j < 5) : cLen (pA t j) = 96 := by
  unfold cLen pA
  rw [if_neg (by omega), if_neg (by omega), if_neg (by omega), if_pos (by omega)]
theorem cLen_pb {t : Nat} (ht : t = 6 ∨ t = 7) (j : Nat) (hj : 5 ≤ j ∧ j < 9) : cLen (pA t j) = 20 := by
  unfold cLen pA
  rw [if_neg (by omega), if_neg (by omega), if_neg (by omega), if_neg (by omega), if_pos (by omega)]
theorem cFx_r {a b : Nat} {S : CSt} (hF : cFx a b S) (n k : Nat) : S.2.2.1 n k = cRef a b n k := by rw [hF.1]
theorem cFx_sr {a b t : Nat} {S : CSt} (hF : cFx a b S) (ht : 1 ≤ t ∧ t ≤ 5) : S.2.2.1 t 0 = 11 + t := by rw [hF.1, cRef_sr ht]
theorem cFx_sl {a b t : Nat} {S : CSt} (hF : cFx a b S) (ht : 1 ≤ t ∧ t ≤ 5) : S.2.2.2 (11 + t) = cLen (11 + t) := hF.2.1 _ (by omega) (by omega)
theorem cLen_sa {t : Nat} (ht : 1 ≤ t ∧ t ≤ 5) : cLen (11 + t) ≤ 200 := by
  rcases (show t = 1 ∨ t = 2 ∨ t = 3 ∨ t = 4 ∨ t = 5 by omega) with rfl | rfl | rfl | rfl | rfl <;> decide
theorem cFx_pa {a b t : Nat} {S : CSt} (hF : cFx a b S) (ht : t = 6 ∨ t = 7) (k : Nat) (hk : k ≤ 4) : S.2.2.1 t k = pA t k := by rw [hF.1, cRef_pr ht, if_pos hk]
theorem cFx_pb {a b t : Nat} {S : CSt} (hF : cFx a b S) (ht : t = 6 ∨ t = 7) (k : Nat) (hk : 5 ≤ k) : S.2.2.1 t (k + 1) = pA t k := by rw [hF.1, cRef_pr ht, if_neg (by omega)]; rfl
theorem cFx_ll {a b t : Nat} {S : CSt} (hF : cFx a b S) (ht : t = 6 ∨ t = 7) (j : Nat) (hj : j < 5) : S.2.2.2 (pA t j) = 96 := by rw [hF.2.1 _ (by unfold pA; omega) (by unfold pA; omega), cLen_pa ht j hj]
theorem cFx_lm {a b t : Nat} {S : CSt} (hF : cFx a b S) (ht : t = 6 ∨ t = 7) (j : Nat) (hj : 5 ≤ j ∧ j < 9) : S.2.2.2 (pA t j) = 20 := by rw [hF.2.1 _ (by unfold pA; omega) (by unfold pA; omega), cLen_pb ht j hj]
theorem cV_i {q : Nat → Nat} {S : CSt} {n k f : Nat} (h : f < 2) : cV q S n k f = .int (zI (S.1 n k)) := by
  unfold cV
  rw [if_neg (by omega), if_neg (by omega)]
theorem cV_l {q : Nat → Nat} {S : CSt} {n k f : Nat} (h : f = 2) : cV q S n k f = .long (S.2.1 n k) := by
  unfold cV
  rw [if_neg (by omega), if_pos h]
theorem cV_r {q : Nat → Nat} {S : CSt} {n k f : Nat} (h : f = 3) : cV q S n k f = .ref (q (S.2.2.1 n k)) := by
  unfold cV
  rw [if_pos h]
section CR2
variable {p : Program} {l : Launch} {e : Env} {R : Room} {s : State} {m : MethodId} {args : Array Value} {below : List Frame} {meth : Method} {c : Code} {H : Heap} {locs : List Loc} {cells slots : Nat} {Q : State → Prop} {cc : ByteArray} {pc : Nat} {ls : Array Slot} {rest : List Value}
variable {D : va_G} {cy : Nat → ClassId} {q : Nat → Nat} {A : Nat → Prop} {H0 : Heap} {S : CSt} {maxL : Nat} {ret : Option FieldType} {ws : List Cond} {index : Nat} {C : String} {T : u_T} {N : Nat}
theorem c_geti (B : zAt p s m args meth c C cc maxL ret ws) (hin : ∀ w ∈ u_ws C T N, w ∈ ws) (hK : va_K D vwCl (zTY cy) s) (h : cH D cy q A H0 S H locs) (n k ci : Nat) (hn : n < 40) (hci : cK n = ci) (hcl : vwCl[ci]? = some (C, T, N)) (h7 : ci < 7) (hk : k < N) (hN : N = cN ci) (hT1 : (T k).1 = C) (hf : cFk ci k < 2) {x : Int} (hx : S.1 n k = x) (hl : Cond.fieldLink C index C (T k).2.1 (T k).2.2.1 ∈ ws) (hd : decode cc pc = .ok (.getfield index, 3))
    (kk : W p l e R s m args below meth c H locs cells slots Q (F0 m (pc + 3) ls (.int (zI x) :: rest))) : W p l e R s m args below meth c H locs cells slots Q (F0 m pc ls (.ref (q n) :: rest)) := by
  subst hci hx
  exact c_get0 B hin hK h n k hn h7 hcl hk hN hT1 (cV_i hf) hl hd kk
theorem c_getl (B : zAt p s m args meth c C cc maxL ret ws) (hin : ∀ w ∈ u_ws C T N, w ∈ ws) (hK : va_K D vwCl (zTY cy) s) (h : cH D cy q A H0 S H locs) (n k ci : Nat) (hn : n < 40) (hci : cK n = ci) (hcl : vwCl[ci]? = some (C, T, N)) (h7 : ci < 7) (hk : k < N) (hN : N = cN ci) (hT1 : (T k).1 = C) (hf : cFk ci k = 2) {x : Int64} (hx : S.2.1 n k = x) (hl : Cond.fieldLink C index C (T k).2.1 (T k).2.2.1 ∈ ws) (hd : decode cc pc = .ok (.getfield index, 3))
    (kk : W p l e R s m args below meth c H locs cells slots Q (F0 m (pc + 3) ls (.long x :: rest))) : W p l e R s m args below meth c H locs cells slots Q (F0 m pc ls (.ref (q n) :: rest)) := by
  subst hci hx
  exact c_get0 B hin hK h n k hn h7 hcl hk hN hT1 (cV_l hf) hl hd kk
theorem c_getr (B : zAt p s m args meth c C cc maxL ret ws) (hin : ∀ w ∈ u_ws C T N, w ∈ ws) (hK : va_K D vwCl (zTY cy) s) (h : cH D cy q A H0 S H locs) (n k ci : Nat) (hn : n < 40) (hci : cK n = ci) (hcl : vwCl[ci]? = some (C, T, N)) (h7 : ci < 7) (hk : k < N) (hN : N = cN ci) (hT1 : (T k).1 = C) (hf : cFk ci k = 3) {r : Nat} (hx : S.2.2.1 n k = r) (hl : Cond.fieldLink C index C (T k).2.1 (T k).2.2.1 ∈ ws) (hd : decode cc pc = .ok (.getfield index, 3))
    (kk : W p l e R s m args below meth c H locs cells slots Q (F0 m (pc + 3) ls (.ref (q r) :: rest))) : W p l e R s m args below meth c H locs cells slots Q (F0 m pc ls (.ref (q n) :: rest)) := by
  subst hci hx
  exact c_get0 B hin hK h n k hn h7 hcl hk hN hT1 (cV_r hf) hl hd kk
theorem c_puti (B : zAt p s m args meth c C cc maxL ret ws) (hin : ∀ w ∈ u_ws C T N, w ∈ ws) (ty0 : Nat → FieldType) (hty0 : ∀ k, k < N → parseFieldDescriptor (T k).2.2.1 = some (ty0 k)) (hnm : ∀ a, a < N → ∀ b, b < N → a ≠ b → (T a).2.1 ≠ (T b).2.1) (hK : va_K D vwCl (zTY cy) s) (h : cH D cy q A H0 S H locs) (n k ci : Nat) (hn : n < 40) (hci : cK n = ci) (hcl : vwCl[ci]? = some (C, T, N)) (h7 : ci < 7) (hk : k < N) (hN : N = cN ci) (hT1 : (T k).1 = C) (hT4 : (T k).2.2.2 = false) {v : Int} (hty : parseFieldDescriptor (T k).2.2.1 = some .int) (hf : cFk ci k < 2) (hl : Cond.fieldLink C index C (T k).2.1 (T k).2.2.1 ∈ ws) (hd : decode cc pc = .ok (.putfield index, 3))
    (kk : ∀ (H1 : Heap) (locs1 : List Loc), cH D cy q A H0 (cI S n k v) H1 locs1 → W p l e R s m args below meth c H1 locs1 cells slots Q (F0 m (pc + 3) ls rest)) : W p l e R s m args below meth c H locs cells slots Q (F0 m pc ls (.int (zI v) :: .ref (q n) :: rest)) := by
  subst hci
  exact c_puti0 B hin ty0 hty0 hnm hK h n k hn h7 hcl hk hN hT1 hT4 hty rfl rfl hf hl hd kk
theorem c_putz (B : zAt p s m args meth c C cc maxL ret ws) (hin : ∀ w ∈ u_ws C T N, w ∈ ws) (ty0 : Nat → FieldType) (hty0 : ∀ k, k < N → parseFieldDescriptor (T k).2.2.1 = some (ty0 k)) (hnm : ∀ a, a < N → ∀ b, b < N → a ≠ b → (T a).2.1 ≠ (T b).2.1) (hK : va_K D vwCl (zTY cy) s) (h : cH D cy q A H0 S H locs) (n k ci : Nat) (hn : n < 40) (hci : cK n = ci) (hcl : vwCl[ci]? = some (C, T, N)) (h7 : ci < 7) (hk : k < N) (hN : N = cN ci) (hT1 : (T k).1 = C) (hT4 : (T k).2.2.2 = false) {v : Int} (hv : v = 0 ∨ v = 1) (hty : parseFieldDescriptor (T k).2.2.1 = some .boolean) (hf : cFk ci k < 2) (hl : Cond.fieldLink C index C (T k).2.1 (T k).2.2.1 ∈ ws) (hd : decode cc pc = .ok (.putfield index, 3))
    (kk : ∀ (H1 : Heap) (locs1 : List Loc), cH D cy q A H0 (cI S n k v) H1 locs1 → W p l e R s m args below meth c H1 locs1 cells slots Q (F0 m (pc + 3) ls rest)) : W p l e R s m args below meth c H locs cells slots Q (F0 m pc ls (.int (zI v) :: .ref (q n) :: rest)) := by
  subst hci
  exact c_puti0 B hin ty0 hty0 hnm hK h n k hn h7 hcl hk hN hT1 hT4 hty (by rcases hv with rfl | rfl <;> decide) (by rcases hv with rfl | rfl <;> decide) hf hl hd kk
theorem c_putl (B : zAt p s m args meth c C cc maxL ret ws) (hin : ∀ w ∈ u_ws C T N, w ∈ ws) (ty0 : Nat → FieldType) (hty0 : ∀ k, k < N → parseFieldDescriptor (T k).2.2.1 = some (ty0 k)) (hnm : ∀ a, a < N → ∀ b, b < N → a ≠ b → (T a).2.1 ≠ (T b).2.1) (hK : va_K D vwCl (zTY cy) s) (h : cH D cy q A H0 S H locs) (n k ci : Nat) (hn : n < 40) (hci : cK n = ci) (hcl : vwCl[ci]? = some (C, T, N)) (h7 : ci < 7) (hk : k < N) (hN : N = cN ci) (hT1 : (T k).1 = C) (hT4 : (T k).2.2.2 = false) {v : Int64} (hty : parseFieldDescriptor (T k).2.2.1 = some .long) (hf : cFk ci k = 2) (hl : Cond.fieldLink C index C (T k).2.1 (T k).2.2.1 ∈ ws) (hd : decode cc pc = .ok (.putfield index, 3))
    (kk : ∀ (H1 : Heap) (locs1 : List Loc), cH D cy q A H0 (cj S n k v) H1 locs1 → W p l e R s m args below meth c H1 locs1 cells slots Q (F0 m (pc + 3) ls rest)) : W p l e R s m args below meth c H locs cells slots Q (F0 m pc ls (.long v :: .ref (q n) :: rest)) := by
  subst hci
  exact c_putj0 B hin ty0 hty0 hnm hK h n k hn h7 hcl hk hN hT1 hT4 hty hf hl hd kk
theorem c_putr (B : zAt p s m args meth c C cc maxL ret ws) (hin : ∀ w ∈ u_ws C T N, w ∈ ws) (ty0 : Nat → FieldType) (hty0 : ∀ k, k < N → parseFieldDescriptor (T k).2.2.1 = some (ty0 k)) (hnm : ∀ a, a < N → ∀ b, b < N → a ≠ b → (T a).2.1 ≠ (T b).2.1) (hK : va_K D vwCl (zTY cy) s) (h : cH D cy q A H0 S H locs) (n k ci : Nat) (hn : n < 40) (hci : cK n = ci) (hcl : vwCl[ci]? = some (C, T, N)) (h7 : ci < 7) (hk : k < N) (hN : N = cN ci) (hT1 : (T k).1 = C) (hT4 : (T k).2.2.2 = false) {r : Nat} {ty : FieldType} (hty : parseFieldDescriptor (T k).2.2.1 = some ty) (hna : narrow ty (.ref (q r)) = .ref (q r)) (hfit : fits ty (.ref (q r)) = true) (hf : cFk ci k = 3) (hl : Cond.fieldLink C index C (T k).2.1 (T k).2.2.1 ∈ ws) (hd : decode cc pc = .ok (.putfield index, 3))
    (kk : ∀ (H1 : Heap) (locs1 : List Loc), cH D cy q A H0 (cr S n k r) H1 locs1 → W p l e R s m args below meth c H1 locs1 cells slots Q (F0 m (pc + 3) ls rest)) : W p l e R s m args below meth c H locs cells slots Q (F0 m pc ls (.ref (q r) :: .ref (q n) :: rest)) := by
  subst hci
  refine va_put (D := D) (ci := cK n) (v := .ref (q r)) (ty := ty) (C := C) (T := T) (N := N) B.1 B.2.1 B.2.2.2.2.1 hin ty0 hty0 hnm B.2.2.2.1 hK h.1 h.2.1 h.2.2 n (by rw [cW_get hn, cE_obj h7]) hcl k hk (B.2.2.2.2.1 _ hl) (fun x9 h9 => by rw [hT1] at h9; exact h9) hT4 hty hna hfit (by rw [cF_len, ← hN]; exact hk) hd (fun H1 locs1 hP hD hS => kk H1 locs1 ?_)
  rw [cW_setR hn h7 (by rw [← hN]; exact hk) hf] at hP hD
  exact ⟨hP, hD, hS⟩
/-- a static method over the component's world -/
theorem c_scallv {y : MethodName} {wy : List Cond} {rm : Room} {As : List Value} {post : CSt → Prop} {bytes : ByteArray} {mxL na : Nat} (B : zAt p s m args meth c C cc maxL ret ws) (hK : va_K D vwCl (zTY cy) s) (h : cH D cy q A H0 S H locs) (hM : Met l y wy rm (va_Pc As (fun U => va_P D vwCl (cW cy q S) U.heap ∧ va_K D vwCl (zTY cy) U ∧ va_D (fun _ => True) (cW cy q S))) (cQv D cy q post) 0 0 (cA q)) (cw : CallB R s args C index y bytes mxL none wy rm 0 0 na ∧ (Cond.static y).before args s = true) (hna : As.length = na) (hsz : ls.size = maxL) {st : List Value} (hst : st = As.reverse ++ rest) (hroom : (rest.map fun v => v.category).sum ≤ 8) (hd : decode cc pc = .ok (.invokestatic index, 3)) (hf : cells ≤ R.cells ∧ slots ≤ R.slots)
    (kk : ∀ (S' : CSt) (H1 : Heap) (locs1 : List Loc), post S' → cH D cy q A H0 S' H1 locs1 → W p l e R s m args below meth c H1 locs1 cells slots Q (F0 m (pc + 3) ls rest)) : W p l e R s m args below meth c H locs cells slots Q (F0 m pc ls st) := by
  refine va_callv (va_runS (As := As) (rest := rest) (g := F0 m pc ls st) ⟨B.1, B.2.1, B.2.2.1, B.2.2.2.1, B.2.2.2.2.1⟩ hM cw ⟨?_, fun U hU hW => ⟨rfl, by rw [hU]; exact h.1, va_K.moved hW.alike hK, h.2.1.weaken (fun _ _ _ _ => trivial)⟩⟩ rfl hna hsz hst (lv_room hroom) hd hf) h.2.2 (fun a _ ha => cA_in h.2.1 a ha) (fun a ha => cA_in h.2.1 a ha) (fun u t H1 locs1 ht hvm hw hB hz1 hk1 hS => ?_)
  · intro a U g mk h
    obtain ⟨h0, hP, hK, hD⟩ := h
    exact ⟨h0, hP, va_K.moved (u := U) (U := U.calling g mk a) (Vm.Alike.refl U.vm) hK, hD⟩
  · refine kk u H1 locs1 hw ⟨?_, cW_D u h.2.1, hS⟩
    rw [← ht]
    exact hB
end CR2
theorem gdVC (c : Cond) {own CY : String} {idx : Nat} {y : MethodName} {bytes : ByteArray} {mxL : Nat} {rt : Option FieldType} (h1 : Cond.methodLink own idx y ∈ TBC) (h2 : Cond.instanceMethod y ∈ TBC) (h3 : Cond.selects CY y y ∈ TBC) (h5 : Cond.initialized CY ∈ TBC) (h4 : Cond.code y bytes mxL rt ∈ TBC) : GoodIn (c :: TBC) (wsV own idx CY y (.code y bytes mxL rt :: TBC)) := by
  intro w hw
  have : w ∈ TBC := by
    rcases List.mem_append.mp hw with h | h
    · simp only [List.mem_cons, List.not_mem_nil, or_false] at h
      rcases h with rfl | rfl | rfl | rfl
      · exact h1
      · exact h2
      · exact h3
      · exact h5
    · rcases List.mem_cons.mp h with rfl | h
      · exact h4
      · exact h
  exact ⟨List.mem_cons_of_mem _ this, good_of_word (TBC_ok this)⟩
theorem gdSC (c : Cond) {own : String} {idx : Nat} {y : MethodName} {bytes : ByteArray} {mxL : Nat} {rt : Option FieldType} (h1 : Cond.methodLink own idx y ∈ TBC) (h2 : Cond.static y ∈ TBC) (h5 : Cond.initialized y.cls ∈ TBC) (h4 : Cond.code y bytes mxL rt ∈ TBC) : GoodIn (c :: TBC) (va_wsS own idx y (.code y bytes mxL rt :: TBC)) := by
  intro w hw
  have : w ∈ TBC := by
    rcases List.mem_append.mp hw with h | h
    · simp only [List.mem_cons, List.not_mem_nil, or_false] at h
      rcases h with rfl | rfl | rfl
      · exact h1
      · exact h2
      · exact h5
    · rcases List.mem_cons.mp h with rfl | h
      · exact h4
      · exact h
  exact ⟨List.mem_cons_of_mem _ this, good_of_word (TBC_ok this)⟩
theorem cwC {p : Program} {R : Room} {s : State} {m : MethodId} {args : Array Value} {meth : Method} {c : Code} {own CY : String} {cc : ByteArray} {maxL : Nat} {ret : Option FieldType} {w0 : Cond} {idx mxL rc rs : Nat} {y : MethodName} {bytes : ByteArray} {rt : Option FieldType} {rm : Room} (n : Nat) (B : zAt p s m args meth c own cc maxL ret (w0 :: TBC)) (h1 : Cond.methodLink own idx y ∈ TBC) (h2 : Cond.instanceMethod y ∈ TBC) (h3 : Cond.selects CY y y ∈ TBC) (h5 : Cond.initialized CY ∈ TBC) (h4 : Cond.code y bytes mxL rt ∈ TBC) (hrc : rm.cells = rc) (hrs : rm.slots = rs)
    (hd : y.cls = CY ∧ y.cls ≠ "java/lang/invoke/MethodHandle" ∧ y.cls ≠ "java/lang/invoke/VarHandle" ∧ (parseMethodDescriptor y.desc).map (fun d => d.parameters.length) = some n) (hR : rm.frames + 1 ≤ R.frames ∧ 8 + (mxL + 11) + rm.locals ≤ R.locals) : CallW R s args own CY idx y bytes mxL rt (.code y bytes mxL rt :: TBC) rm rc rs n := cwV n B.2.2.2.2.1 (gdVC w0 h1 h2 h3 h5 h4) rfl hrc hrs hd hR
theorem csC {p : Program} {R : Room} {s : State} {m : MethodId} {args : Array Value} {meth : Method} {c : Code} {own : String} {cc : ByteArray} {maxL : Nat} {ret : Option FieldType} {w0 : Cond} {idx mxL rc rs : Nat} {y : MethodName} {bytes : ByteArray} {rt : Option FieldType} {rm : Room} (n : Nat) (B : zAt p s m args meth c own cc maxL ret (w0 :: TBC)) (h1 : Cond.methodLink own idx y ∈ TBC) (h2 : Cond.static y ∈ TBC) (h5 : Cond.initialized y.cls ∈ TBC) (h4 : Cond.code y bytes mxL rt ∈ TBC) (hrc : rm.cells = rc) (hrs : rm.slots = rs)
    (hd : y.cls ≠ "java/lang/invoke/MethodHandle" ∧ y.cls ≠ "java/lang/invoke/VarHandle" ∧ (parseMethodDescriptor y.desc).map (fun d => d.parameters.length) = some n) (hR : rm.frames + 1 ≤ R.frames ∧ 8 + (mxL + 11) + rm.locals ≤ R.locals) : CallB R s args own idx y bytes mxL rt (.code y bytes mxL rt :: TBC) rm rc rs n ∧ (Cond.static y).before args s = true := va_cwS n B.2.2.2.2.1 (gdSC w0 h1 h2 h5 h4) rfl hrc hrs hd hR
