theorem ci_2 {S : CSt} {n k : Nat} {v : Int} : (ci S n k v).2 = S.2 := rfl
theorem cj_1 {S : CSt} {n k : Nat} {v : Int64} : (cj S n k v).1 = S.1 := rfl
theorem cj_22 {S : CSt} {n k : Nat} {v : Int64} : (cj S n k v).2.2 = S.2.2 := rfl
theorem cr_1 {S : CSt} {n k r : Nat} : (cr S n k r).1 = S.1 := rfl
theorem cr_21 {S : CSt} {n k r : Nat} : (cr S n k r).2.1 = S.2.1 := rfl
def zshl (x : Int64) (k : Int) : Int64 := x <<< ((zI k).toInt64 &&& 63)
def zushr (x : Int64) (k : Int) : Int64 := (x.toUInt64 >>> ((zI k).toInt64.toUInt64 &&& Int64.toUInt64 63)).toInt64
def zlc (x y : Int64) : Int := if y < x then 1 else if x = y then 0 else -1
theorem zlc_bd (x y : Int64) : -1 ≤ zlc x y ∧ zlc x y ≤ 1 ∧ (zlc x y = 0 ↔ x = y) := by
  unfold zlc
  split
  · rename_i h
    refine ⟨by omega, by omega, fun h0 => absurd h0 (by omega), fun h1 => ?_⟩
    rw [h1] at h
    exact (Int64.lt_irrefl h).elim
  · split
    · rename_i h; exact ⟨by omega, by omega, fun _ => h, fun _ => rfl⟩
    · rename_i h; exact ⟨by omega, by omega, fun h0 => absurd h0 (by omega), fun h1 => absurd h1 h⟩
def zli (x : Int64) : Int := x.toInt32.toInt
theorem zli_bd (x : Int64) : -2147483648 ≤ zli x ∧ zli x ≤ 2147483647 := by
  have h1 := Int32.toInt_lt x.toInt32
  have h2 := Int32.le_toInt x.toInt32
  unfold zli
  omega
theorem sX_java_lang_IllegalArgumentException : "java/lang/IllegalArgumentException" ∈ sX := List.Mem.head _
theorem sX_java_lang_IllegalStateException : "java/lang/IllegalStateException" ∈ sX := List.Mem.tail _ (List.Mem.head _)
theorem sX_java_lang_UnsupportedOperationException : "java/lang/UnsupportedOperationException" ∈ sX := List.Mem.tail _ (List.Mem.tail _ (List.Mem.head _))
theorem sX_java_util_NoSuchElementException : "java/util/NoSuchElementException" ∈ sX := List.Mem.tail _ (List.Mem.tail _ (List.Mem.tail _ (List.Mem.head _)))
theorem g_rc {R : Room} {S S0 : CSt} (hR : R.cells = (gK - gl S0) + 1 ∧ R.slots = 2 * (gK - gl S0) + 6) (h0 : gl S0 ≤ gl S) (h1 : gl S ≤ gK) : gl S - gl S0 ≤ R.cells := by rw [hR.1]; omega
theorem g_rs {R : Room} {S S0 : CSt} (hR : R.cells = (gK - gl S0) + 1 ∧ R.slots = 2 * (gK - gl S0) + 6) (h0 : gl S0 ≤ gl S) (h1 : gl S ≤ gK) : 2 * (gl S - gl S0) ≤ R.slots := by rw [hR.2]; omega
theorem gl_of {S S' : CSt} (h : S'.2.2 = S.2.2) : gl S ≤ gl S' := by
  unfold gl
  rw [h]
  exact Nat.le_refl _
section LR3
variable {p : Program} {l : Launch} {e : Env} {R : Room} {s : State} {m : MethodId} {args : Array Value} {below : List Frame} {meth : Method} {c : Code} {H : Heap} {locs : List Loc} {cells slots : Nat} {Q : State → Prop} {cc : ByteArray} {pc : Nat} {ls : Array Slot} {rest : List Value}
theorem z_lc (hexec : p.tables.exec = Jvm.exec) (hb : c.code = cc) {x y : Int64} (hdg : decode cc pc = .ok (.lcmp, 1)) (kk : W p l e R s m args below meth c H locs cells slots Q (F0 m (pc + 1) ls (.int (zI (zlc x y)) :: rest))) : W p l e R s m args below meth c H locs cells slots Q (F0 m pc ls (.long y :: .long x :: rest)) := by
  refine W.lcmp hexec hb hdg ?_
  have : lg_cmp x y = zI (zlc x y) := by
    unfold lg_cmp zlc
    (repeat' split) <;> first | rfl | contradiction
  rw [this]
  exact kk
theorem z_l2i (hexec : p.tables.exec = Jvm.exec) (hb : c.code = cc) {x : Int64} (hdg : decode cc pc = .ok (.l2i, 1)) (kk : W p l e R s m args below meth c H locs cells slots Q (F0 m (pc + 1) ls (.int (zI (zli x)) :: rest))) : W p l e R s m args below meth c H locs cells slots Q (F0 m pc ls (.long x :: rest)) := by
  refine lv_l2i (v := zI (zli x)) hexec hb hdg ?_ kk
  show x.toInt32 = Int32.ofInt x.toInt32.toInt
  rw [Int32.ofInt_toInt]
end LR3
section GS
variable {p : Program} {l : Launch} {e : Env} {R : Room} {s : State} {m : MethodId} {args : Array Value} {below : List Frame} {meth : Method} {c : Code} {H : Heap} {locs : List Loc} {Q : State → Prop} {cc : ByteArray} {pc : Nat} {ls : Array Slot} {rest : List Value}
variable {D : va_G} {cy : Nat → ClassId} {q : Nat → Nat} {V : Nat × (Nat → Nat)} {n0 x y : Nat} {A : Nat → Prop} {S S0 : CSt} {maxL : Nat} {ret : Option FieldType} {ws : List Cond} {index : Nat} {C E : String} {rc : CR} {Qc : Array Value → State → Outcome → State → Prop}
theorem g_scallv {yn : MethodName} {wy : List Cond} {f lo : Nat} {As : List Value} {r : CR} {bytes : ByteArray} {mxL na : Nat} (B : zAt p s m args meth c C cc maxL ret ws) (hK : va_K D vwCl (zTY cy) s) (hG : gEn V n0 A s c) (h : cH D cy (cq q x y) A s.heap S H locs) (hM : gMv l D cy q V n0 x y E yn wy f lo S As r) (cw : CallB R s args C index yn bytes mxL none wy (gRm f lo S) ((gK - gl S) + 1) (2 * (gK - gl S) + 6) na ∧ (Cond.static yn).before args s = true) (hna : As.length = na) (hsz : ls.size = maxL) {st : List Value} (hst : st = As.reverse ++ rest) (hroom : (rest.map fun v => v.category).sum ≤ 8) (hd : decode cc pc = .ok (.invokestatic index, 3)) (hR : R.cells = (gK - gl S0) + 1 ∧ R.slots = 2 * (gK - gl S0) + 6) (hg0 : gl S0 ≤ gl S) (hg1 : gl S ≤ gK) (hg2 : gl S ≤ gl r.2.2)
    (kx : ¬ r.1 = 0 → rc = (1, 0, r.2.2))
    (kk : ∀ (x y : Nat) (H1 : Heap) (locs1 : List Loc), r.1 = 0 → cH D cy (cq q x y) A s.heap r.2.2 H1 locs1 → W p l e R s m args below meth c H1 locs1 (gl r.2.2 - gl S0) (2 * (gl r.2.2 - gl S0)) (vx_MQ below Qc (gX D cy q A E rc) args s (gc S0 rc) (gs S0 rc) A) (F0 m (pc + 3) ls rest)) : W p l e R s m args below meth c H locs (gl S - gl S0) (2 * (gl S - gl S0)) (vx_MQ below Qc (gX D cy q A E rc) args s (gc S0 rc) (gs S0 rc) A) (F0 m pc ls st) := by
  have hAA : ∀ a, gA (cq q x y) n0 a → A a := fun a ha => ha.elim (fun h' => cA_in h.2.1 a h') (hG.2.2.1 a)
  refine vx_callv (gx_runS (As := As) (rest := rest) (g := F0 m pc ls st) ⟨B.1, B.2.1, B.2.2.1, B.2.2.2.1, B.2.2.2.2.1⟩ hM cw ⟨gPre_blind, fun U hU hW => ⟨rfl, by rw [hU]; exact h.1, va_K.moved hW.alike hK, h.2.1.weaken (fun _ _ _ ha => hG.2.1 _ ha), by rw [hU]; exact hG.1.go hG.2.1 h.2.2 hW, by rw [hU]; exact Nat.le_trans hG.2.2.2.1 h.2.2.1, hG.2.2.2.2.1⟩⟩ rfl hna hsz hst (lv_room hroom) hd (by rw [hR.1, hR.2]; omega)) h.2.2 (fun a _ ha => hAA a ha) (fun a ha => hAA a ha) (fun a _ ha => hAA a ha) ?_ ?_
  · intro E9 ce q9 u t H1 locs1 ht _ hp hB _ _ hS h7 h8 h9
    obtain ⟨S1, x1, y1⟩ := u
    obtain ⟨rfl, hP, hD⟩ := hB
    have hr : r = (1, 0, S1) := hp
    have hrc := kx (by rw [hr]; show ¬ (1 : Int) = 0; decide)
    subst hr
    refine g_out B hG (x := x1) (y := y1) (S := S1) ⟨by rw [← ht]; exact hP, hD.weaken (fun _ _ _ ha => hAA _ ha), hS⟩ h7 h8 h9 hrc ?_ ?_
    · subst hrc
      simp only [gc] at hg2 ⊢
      omega
    · subst hrc
      simp only [gs] at hg2 ⊢
      omega
  · intro u t H1 locs1 ht _ hp hB _ _ hS
    obtain ⟨S1, x1, y1⟩ := u
    obtain ⟨hP, hD⟩ := hB
    have hr : r = (0, 0, S1) := hp
    subst hr
    refine W.widen ?_ ?_ (kk x1 y1 H1 locs1 rfl ⟨by rw [← ht]; exact hP, hD.weaken (fun _ _ _ ha => hAA _ ha), hS⟩)
    · simp only [gc] at hg2 ⊢
      omega
    · simp only [gs] at hg2 ⊢
      omega
end GS
