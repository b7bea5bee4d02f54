/-! CONSTRUCTORS: the rest P of the world stays; the object stands behind it, what it makes behind the object. -/
theorem kapp {P R : va_W} {j : Nat} : (P ++ R)[P.length + j]? = R[j]? := by
  rw [List.getElem?_append_right (by omega), Nat.add_sub_cancel_left]
theorem kset {P R : va_W} {j : Nat} {y : Nat × va_E} : (P ++ R).set (P.length + j) y = P ++ R.set j y := by
  rw [List.set_append_right _ _ (by omega), Nat.add_sub_cancel_left]
theorem zTY_long {D : va_G} {cl : List vw_C} {cy : Nat → ClassId} {cA : ClassId} {s : State} (h : va_K D cl (zTY cy ++ [(cA, .long)]) s) : cy 2 = cA := by
  have h1 := (h.2 2 (cy 2, .long) rfl).2
  have h2 := (h.2 3 (cA, .long) rfl).2
  exact Option.some.inj (Eq.trans (Eq.symm h1) h2)
theorem z_acl (cA : ClassId) (n : Nat) : vp_cell cA (n, .inr (.inl (fun _ => 0))) = arrV cA n (fun _ => defaultValue .long) := by
  rw [vp_cell_l]
  rfl
theorem zI_zu (F : Nat → Int) (k : Nat) (x : Int) : upd (fun j => zI (F j)) k (zI x) = fun j => zI (zu F k x j) := by
  funext j
  unfold upd zu
  split <;> rfl
theorem gdIC (c : Cond) {y : MethodName} {bytes : ByteArray} {mxL : Nat} {rt : Option FieldType} (h4 : Cond.code y bytes mxL rt ∈ TBC) : GoodIn (c :: TBC) (.code y bytes mxL rt :: TBC) := by
  intro w hw
  have : w ∈ TBC := by
    rcases List.mem_cons.mp hw with rfl | h
    · exact h4
    · exact h
  exact ⟨List.mem_cons_of_mem _ this, good_of_word (TBC_ok this)⟩
section NL
variable {p : Program} {l : Launch} {e : Env} {R : Room} {s : State} {m : MethodId} {args : Array Value} {below : List Frame} {meth : Method} {c : Code} {H : Heap} {locs : List Loc} {cells slots : Nat} {Q : State → Prop} {cc : ByteArray} {pc : Nat} {ls : Array Slot} {rest : List Value} {D : va_G} {cl : List vw_C} {cy : Nat → ClassId} {A : Nat → Prop} {H0 : Heap} {ws : va_W} {C : String} {maxL : Nat} {ret : Option FieldType} {wl : List Cond}
theorem z_newl (B : zAt p s m args meth c C cc maxL ret wl) (harr : Cond.arrayClass .long ∈ wl) (hK : va_K D cl (zTY cy) s) (hP : va_P D cl ws H) (hD : va_D A ws) (hS : va_S A H0 H locs) (hA : ∀ q, H0.size ≤ q → A q) (n : Nat) (hn : n ≤ 100000) (hcells : cells + 1 ≤ R.cells) (hslots : slots + n ≤ R.slots) (hdg : decode cc pc = .ok (.newarray .long, 2))
    (kk : ∀ (q : Nat) (H1 : Heap), va_P D cl (ws ++ [(q, .inl (cy 2, n, .inr (.inl (fun _ => 0))))]) H1 → va_D A (ws ++ [(q, .inl (cy 2, n, .inr (.inl (fun _ => 0))))]) → va_S A H0 H1 locs → W p l e R s m args below meth c H1 locs (cells + 1) (slots + n) Q (F0 m (pc + 2) ls (.ref q :: rest))) : W p l e R s m args below meth c H locs cells slots Q (F0 m pc ls (.int (zI n) :: rest)) := by
  have hz : zr (n : Int) := ⟨by omega, by omega⟩
  refine va_newa (D := D) (atype := .long) (ty := .long) (a0 := (n, .inr (.inl (fun _ => 0)))) (N' := n) B.1 B.2.1 (B.2.2.2.2.1 _ harr) rfl hK hP hD hS hA (fun cA => z_acl cA n) (fun h => ?_) (by rw [zI_clamp hz]; omega) ?_ hcells hslots hdg (fun q cA H1 hK1 hP1 hD1 hS1 => ?_)
  · rw [← zI_0, zI_lt hz zr0] at h
    omega
  · have : componentBytes .long ≤ 8 := by decide
    have := Nat.mul_le_mul (show n ≤ 100000 from hn) this
    omega
  · have e := zTY_long hK1
    subst e
    exact kk q H1 hP1 hD1 hS1
end NL

/-- private constructors of nest mates -/
def nsW (U : State) : Prop := va_Nw (.methodLinkNest RX3 11 yX5_init "PatternRunner") U ∧ va_Nw (.methodLinkNest RX0 11 yX1_init "PatternRunner") U
theorem nsW.warm {s U : State} (hW : s.WarmedH U.vm) (h : nsW s) : nsW U := ⟨va_Nw.warmM hW h.1, va_Nw.warmM hW h.2⟩
theorem nsW.same {u U : State} (e : u.vm = U.vm) (h : nsW u) : nsW U := ⟨va_Nw.same rfl e h.1, va_Nw.same rfl e h.2⟩

set_option maxHeartbeats 2000000 in
set_option maxRecDepth 100000 in
theorem cX5_init_ok (l : Launch) (D : va_G) (cy : Nat → ClassId) (P : va_W) (o sz : Nat) : Met l yX5_init (.code yX5_init cX5_init 1 none :: TBC) { frames := 1, cells := 0, slots := 0, locals := 20 } (va_Pc [.ref o] (fun U => U.heap.size = sz ∧ va_P D vwCl (P ++ [(o, .inr (5, [.long 0, .long 0]))]) U.heap ∧ va_K D vwCl (zTY cy) U ∧ va_D (fun _ => True) (P ++ [(o, .inr (5, [.long 0, .long 0]))]))) (va_Qv (S := Nat → Nat) (fun _ => True) (fun q t => va_P D vwCl (P ++ [(o, .inr (5, [.long 0, .long 0]))]) t.heap ∧ va_D (va_A (P ++ [(o, .inr (5, [.long 0, .long 0]))]) sz) (P ++ [(o, .inr (5, [.long 0, .long 0]))])) (va_A (P ++ [(o, .inr (5, [.long 0, .long 0]))]) sz)) 0 (0) (va_A (P ++ [(o, .inr (5, [.long 0, .long 0]))]) sz) := by
  refine Met.ofW (cc := cX5_init) (maxL := 1) (ret := none) (by decide) rfl ?_
  intro p e s m args below meth c s₁ B0 hml hv
  obtain ⟨rfl, hsz, hP, hK, hD0⟩ := hv
  have hlocks := B0.notSynchronized
  have hin : meth.name = "<init>" := (name_of_methodNamed B0.named B0.method).1
  have B : zAt p s m ([.ref o] : List Value).toArray meth c RX5 cX5_init 1 none (.code yX5_init cX5_init 1 none :: TBC) := ⟨B0.exec, B0.bytes, hml, findClass_of_methodNamed B0.named, atoms_spec (ws := (.code yX5_init cX5_init 1 none :: TBC)) B0.pre, B0.returns, B0.notSynchronized⟩
  subst hsz
  have hD := hD0.self (sz := s.heap.size)
  generalize hAe : va_A (P ++ [(o, .inr (5, [.long 0, .long 0]))]) s.heap.size = A at hD ⊢
  have hA : ∀ q : Nat, s.heap.size ≤ q → A q := fun q h => by rw [← hAe]; exact Or.inr h
  have hS : va_S A s.heap s.heap [] := va_S.rf
  have hl := lv_entry ([.ref o]) (n := 1) (Nat.le_of_ble_eq_true rfl)
  rw [lg_entry_eq]
  generalize (lg_sl ([.ref o]) ++ List.replicate (1 - (lg_sl ([.ref o])).length) Slot.unset).toArray = ls at hl ⊢
  have hl : lv_has ls 1 [(0, .ref o)] := hl
  refine lv_aload_n B.1 B.2.1 dX5_init_0 rfl (lv_at hl 0 rfl) ?_
  refine W.objInit B.1 B.2.1 B.2.2.2.1 (B.2.2.2.2.1 _ (List.mem_cons_of_mem _ wC_mRX5_3)) (B.2.2.2.2.1 _ (List.mem_cons_of_mem _ wC_im_objectInit)) (B.2.2.2.2.1 _ (List.mem_cons_of_mem _ wC_cd_objectInit)) rfl (by rw [hml]; exact hl.1) rfl dX5_init_1 (Nat.le_of_ble_eq_true rfl) (Nat.le_of_ble_eq_true rfl) ?_
  refine W.eq (g2 := F0 m 4 ls []) rfl ?_
  refine W.widen (k := 0) (n := 0) (Nat.le_of_ble_eq_true rfl) (Nat.le_of_ble_eq_true rfl) ?_
  obtain ⟨q, hq⟩ : ∃ q : Nat → Nat, q = (fun _ => 0) := ⟨_, rfl⟩
  have eW : P ++ [(o, .inr (5, [.long 0, .long 0]))] = P ++ [(o, .inr (5, [.long 0, .long 0]))] := by rfl
  rw [eW] at hP hD
  exact W.vret B.1 B.2.1 B.2.2.2.2.2.1 (fun t ht _ => ⟨⟨q, rfl, trivial, by rw [ht]; exact hP, hD⟩, hS.F ht⟩) hS.2.2 dX5_init_4 hlocks

set_option maxHeartbeats 2000000 in
set_option maxRecDepth 100000 in
theorem cX1_init_ok (l : Launch) (D : va_G) (cy : Nat → ClassId) (P : va_W) (o sz : Nat) : Met l yX1_init (.code yX1_init cX1_init 1 none :: TBC) { frames := 1, cells := 3, slots := 794, locals := 20 } (va_Pc [.ref o] (fun U => U.heap.size = sz ∧ va_P D vwCl (P ++ [(o, .inr (1, [.null, .null, .null, .int 0, .int 0, .int 0]))]) U.heap ∧ va_K D vwCl (zTY cy) U ∧ va_D (fun _ => True) (P ++ [(o, .inr (1, [.null, .null, .null, .int 0, .int 0, .int 0]))]))) (va_Qv (S := Nat → Nat) (fun _ => True) (fun q t => va_P D vwCl (P ++ [(o, .inr (1, [.ref (q 0), .ref (q 1), .ref (q 2), .int 0, .int 0, .int 0])), ((q 0), .inl (cy 1, 90, .inl (fun _ => 0))), ((q 1), .inl (cy 1, 192, .inl (fun _ => 0))), ((q 2), .inl (cy 1, 512, .inl (fun _ => 0)))]) t.heap ∧ va_D (va_A (P ++ [(o, .inr (1, [.null, .null, .null, .int 0, .int 0, .int 0]))]) sz) (P ++ [(o, .inr (1, [.ref (q 0), .ref (q 1), .ref (q 2), .int 0, .int 0, .int 0])), ((q 0), .inl (cy 1, 90, .inl (fun _ => 0))), ((q 1), .inl (cy 1, 192, .inl (fun _ => 0))), ((q 2), .inl (cy 1, 512, .inl (fun _ => 0)))])) (va_A (P ++ [(o, .inr (1, [.null, .null, .null, .int 0, .int 0, .int 0]))]) sz)) 3 (794) (va_A (P ++ [(o, .inr (1, [.null, .null, .null, .int 0, .int 0, .int 0]))]) sz) := by
  refine Met.ofW (cc := cX1_init) (maxL := 1) (ret := none) (by decide) rfl ?_
  intro p e s m args below meth c s₁ B0 hml hv
  obtain ⟨rfl, hsz, hP, hK, hD0⟩ := hv
  have hlocks := B0.notSynchronized
  have hin : meth.name = "<init>" := (name_of_methodNamed B0.named B0.method).1
  have B : zAt p s m ([.ref o] : List Value).toArray meth c RX1 cX1_init 1 none (.code yX1_init cX1_init 1 none :: TBC) := ⟨B0.exec, B0.bytes, hml, findClass_of_methodNamed B0.named, atoms_spec (ws := (.code yX1_init cX1_init 1 none :: TBC)) B0.pre, B0.returns, B0.notSynchronized⟩
  subst hsz
  have hD := hD0.self (sz := s.heap.size)
  generalize hAe : va_A (P ++ [(o, .inr (1, [.null, .null, .null, .int 0, .int 0, .int 0]))]) s.heap.size = A at hD ⊢
  have hA : ∀ q : Nat, s.heap.size ≤ q → A q := fun q h => by rw [← hAe]; exact Or.inr h
  have hS : va_S A s.heap s.heap [] := va_S.rf
  have hl := lv_entry ([.ref o]) (n := 1) (Nat.le_of_ble_eq_true rfl)
  rw [lg_entry_eq]
  generalize (lg_sl ([.ref o]) ++ List.replicate (1 - (lg_sl ([.ref o])).length) Slot.unset).toArray = ls at hl ⊢
  have hl : lv_has ls 1 [(0, .ref o)] := hl
  refine lv_aload_n B.1 B.2.1 dX1_init_0 rfl (lv_at hl 0 rfl) ?_
  refine W.objInit B.1 B.2.1 B.2.2.2.1 (B.2.2.2.2.1 _ (List.mem_cons_of_mem _ wC_mRX1_3)) (B.2.2.2.2.1 _ (List.mem_cons_of_mem _ wC_im_objectInit)) (B.2.2.2.2.1 _ (List.mem_cons_of_mem _ wC_cd_objectInit)) rfl (by rw [hml]; exact hl.1) rfl dX1_init_1 (Nat.le_of_ble_eq_true rfl) (Nat.le_of_ble_eq_true rfl) ?_
  refine W.eq (g2 := F0 m 4 ls []) rfl ?_
  refine lv_aload_n B.1 B.2.1 dX1_init_4 rfl (lv_at hl 0 rfl) ?_
  refine z_bipush B.1 B.2.1 (by decide) dX1_init_5 ?_
  refine z_newi B (List.mem_cons_of_mem _ wC_ac__int) hK hP hD hS hA 90 (by decide) (Nat.le_of_ble_eq_true rfl) (Nat.le_of_ble_eq_true rfl) dX1_init_7 (fun a7 H hP hD hS => ?_)
  rw [List.append_assoc] at hP hD
  have hP : va_P D vwCl (P ++ [(o, .inr (1, [.null, .null, .null, .int 0, .int 0, .int 0])), (a7, .inl (cy 1, 90, .inl (fun _ => 0)))]) H := hP
  have hD : va_D A (P ++ [(o, .inr (1, [.null, .null, .null, .int 0, .int 0, .int 0])), (a7, .inl (cy 1, 90, .inl (fun _ => 0)))]) := hD
  refine va_putF (D := D) (ci := 1) (v := .ref a7) (ty := (.array .int)) (C := RX1) (T := TX1) (N := 6) B.1 B.2.1 B.2.2.2.2.1 (iC1 _) tyX1 tyX1_ok nmX1 B.2.2.2.1 hK hP hD hS (P.length + 0) (by rw [kapp]; rfl) rfl 0 (by decide) (B.2.2.2.2.1 _ (List.mem_cons_of_mem _ wC_fRX1_9)) (fun _ h9 => h9) rfl hin rfl (by decide +kernel) rfl rfl (Nat.le_of_ble_eq_true rfl) dX1_init_9 (fun H locs hP hD hS => ?_)
  rw [kset] at hP hD
  have hP : va_P D vwCl (P ++ [(o, .inr (1, [.ref a7, .null, .null, .int 0, .int 0, .int 0])), (a7, .inl (cy 1, 90, .inl (fun _ => 0)))]) H := hP
  have hD : va_D A (P ++ [(o, .inr (1, [.ref a7, .null, .null, .int 0, .int 0, .int 0])), (a7, .inl (cy 1, 90, .inl (fun _ => 0)))]) := hD
  refine lv_aload_n B.1 B.2.1 dX1_init_12 rfl (lv_at hl 0 rfl) ?_
  refine z_sipush B.1 B.2.1 (by decide) dX1_init_13 ?_
  refine z_newi B (List.mem_cons_of_mem _ wC_ac__int) hK hP hD hS hA 192 (by decide) (Nat.le_of_ble_eq_true rfl) (Nat.le_of_ble_eq_true rfl) dX1_init_16 (fun a16 H hP hD hS => ?_)
  rw [List.append_assoc] at hP hD
  have hP : va_P D vwCl (P ++ [(o, .inr (1, [.ref a7, .null, .null, .int 0, .int 0, .int 0])), (a7, .inl (cy 1, 90, .inl (fun _ => 0))), (a16, .inl (cy 1, 192, .inl (fun _ => 0)))]) H := hP
  have hD : va_D A (P ++ [(o, .inr (1, [.ref a7, .null, .null, .int 0, .int 0, .int 0])), (a7, .inl (cy 1, 90, .inl (fun _ => 0))), (a16, .inl (cy 1, 192, .inl (fun _ => 0)))]) := hD
  refine va_put (D := D) (ci := 1) (v := .ref a16) (ty := (.array .int)) (C := RX1) (T := TX1) (N := 6) B.1 B.2.1 B.2.2.2.2.1 (iC1 _) tyX1 tyX1_ok nmX1 B.2.2.2.1 hK hP hD hS (P.length + 0) (by rw [kapp]; rfl) rfl 1 (by decide) (B.2.2.2.2.1 _ (List.mem_cons_of_mem _ wC_fRX1_15)) (fun _ h9 => h9) rfl (by decide +kernel) rfl rfl (Nat.le_of_ble_eq_true rfl) dX1_init_18 (fun H locs hP hD hS => ?_)
  rw [kset] at hP hD
  have hP : va_P D vwCl (P ++ [(o, .inr (1, [.ref a7, .ref a16, .null, .int 0, .int 0, .int 0])), (a7, .inl (cy 1, 90, .inl (fun _ => 0))), (a16, .inl (cy 1, 192, .inl (fun _ => 0)))]) H := hP
  have hD : va_D A (P ++ [(o, .inr (1, [.ref a7, .ref a16, .null, .int 0, .int 0, .int 0])), (a7, .inl (cy 1, 90, .inl (fun _ => 0))), (a16, .inl (cy 1, 192, .inl (fun _ => 0)))]) := hD
  refine lv_aload_n B.1 B.2.1 dX1_init_21 rfl (lv_at hl 0 rfl) ?_
  refine z_sipush B.1 B.2.1 (by decide) dX1_init_22 ?_
  refine z_newi B (List.mem_cons_of_mem _ wC_ac__int) hK hP hD hS hA 512 (by decide) (Nat.le_of_ble_eq_true rfl) (Nat.le_of_ble_eq_true rfl) dX1_init_25 (fun a25 H hP hD hS => ?_)
  rw [List.append_assoc] at hP hD
  have hP : va_P D vwCl (P ++ [(o, .inr (1, [.ref a7, .ref a16, .null, .int 0, .int 0, .int 0])), (a7, .inl (cy 1, 90, .inl (fun _ => 0))), (a16, .inl (cy 1, 192, .inl (fun _ => 0))), (a25, .inl (cy 1, 512, .inl (fun _ => 0)))]) H := hP
  have hD : va_D A (P ++ [(o, .inr (1, [.ref a7, .ref a16, .null, .int 0, .int 0, .int 0])), (a7, .inl (cy 1, 90, .inl (fun _ => 0))), (a16, .inl (cy 1, 192, .inl (fun _ => 0))), (a25, .inl (cy 1, 512, .inl (fun _ => 0)))]) := hD
  refine va_put (D := D) (ci := 1) (v := .ref a25) (ty := (.array .int)) (C := RX1) (T := TX1) (N := 6) B.1 B.2.1 B.2.2.2.2.1 (iC1 _) tyX1 tyX1_ok nmX1 B.2.2.2.1 hK hP hD hS (P.length + 0) (by rw [kapp]; rfl) rfl 2 (by decide) (B.2.2.2.2.1 _ (List.mem_cons_of_mem _ wC_fRX1_18)) (fun _ h9 => h9) rfl (by decide +kernel) rfl rfl (Nat.le_of_ble_eq_true rfl) dX1_init_27 (fun H locs hP hD hS => ?_)
  rw [kset] at hP hD
  have hP : va_P D vwCl (P ++ [(o, .inr (1, [.ref a7, .ref a16, .ref a25, .int 0, .int 0, .int 0])), (a7, .inl (cy 1, 90, .inl (fun _ => 0))), (a16, .inl (cy 1, 192, .inl (fun _ => 0))), (a25, .inl (cy 1, 512, .inl (fun _ => 0)))]) H := hP
  have hD : va_D A (P ++ [(o, .inr (1, [.ref a7, .ref a16, .ref a25, .int 0, .int 0, .int 0])), (a7, .inl (cy 1, 90, .inl (fun _ => 0))), (a16, .inl (cy 1, 192, .inl (fun _ => 0))), (a25, .inl (cy 1, 512, .inl (fun _ => 0)))]) := hD
  refine W.widen (k := 3) (n := 794) (Nat.le_of_ble_eq_true rfl) (Nat.le_of_ble_eq_true rfl) ?_
  obtain ⟨q, hq⟩ : ∃ q : Nat → Nat, q = (fun k => if k = 0 then a7 else if k = 1 then a16 else if k = 2 then a25 else 0) := ⟨_, rfl⟩
  have eW : P ++ [(o, .inr (1, [.ref a7, .ref a16, .ref a25, .int 0, .int 0, .int 0])), (a7, .inl (cy 1, 90, .inl (fun _ => 0))), (a16, .inl (cy 1, 192, .inl (fun _ => 0))), (a25, .inl (cy 1, 512, .inl (fun _ => 0)))] = P ++ [(o, .inr (1, [.ref (q 0), .ref (q 1), .ref (q 2), .int 0, .int 0, .int 0])), ((q 0), .inl (cy 1, 90, .inl (fun _ => 0))), ((q 1), .inl (cy 1, 192, .inl (fun _ => 0))), ((q 2), .inl (cy 1, 512, .inl (fun _ => 0)))] := by rw [hq]; rfl
  rw [eW] at hP hD
  exact W.vret B.1 B.2.1 B.2.2.2.2.2.1 (fun t ht _ => ⟨⟨q, rfl, trivial, by rw [ht]; exact hP, hD⟩, hS.F ht⟩) hS.2.2 dX1_init_30 hlocks

set_option maxHeartbeats 2000000 in
set_option maxRecDepth 100000 in
theorem cX2_init_ok (l : Launch) (D : va_G) (cy : Nat → ClassId) (P : va_W) (o sz : Nat) : Met l yX2_init (.code yX2_init cX2_init 1 none :: TBC) { frames := 1, cells := 9, slots := 560, locals := 20 } (va_Pc [.ref o] (fun U => U.heap.size = sz ∧ va_P D vwCl (P ++ [(o, .inr (2, [.null, .null, .null, .null, .null, .int 0, .null, .null, .null, .null, .int 0, .int 0, .int 0, .int 0]))]) U.heap ∧ va_K D vwCl (zTY cy) U ∧ va_D (fun _ => True) (P ++ [(o, .inr (2, [.null, .null, .null, .null, .null, .int 0, .null, .null, .null, .null, .int 0, .int 0, .int 0, .int 0]))]))) (va_Qv (S := Nat → Nat) (fun _ => True) (fun q t => va_P D vwCl (P ++ [(o, .inr (2, [.ref (q 0), .ref (q 1), .ref (q 2), .ref (q 3), .ref (q 4), .int (zI 2), .ref (q 5), .ref (q 6), .ref (q 7), .ref (q 8), .int 0, .int 0, .int 0, .int 0])), ((q 0), .inl (cy 1, 96, .inl (fun j => zI ((zu (zu (fun _ => (0 : Int)) 0 5) 1 0) j)))), ((q 1), .inl (cy 1, 96, .inl (fun j => zI ((zu (fun _ => (0 : Int)) 0 (-1)) j)))), ((q 2), .inl (cy 1, 96, .inl (fun _ => 0))), ((q 3), .inl (cy 2, 96, .inr (.inl (fun _ => 0)))), ((q 4), .inl (cy 2, 96, .inr (.inl (fun _ => 0)))), ((q 5), .inl (cy 1, 20, .inl (fun _ => 0))), ((q 6), .inl (cy 1, 20, .inl (fun _ => 0))), ((q 7), .inl (cy 1, 20, .inl (fun _ => 0))), ((q 8), .inl (cy 1, 20, .inl (fun _ => 0)))]) t.heap ∧ va_D (va_A (P ++ [(o, .inr (2, [.null, .null, .null, .null, .null, .int 0, .null, .null, .null, .null, .int 0, .int 0, .int 0, .int 0]))]) sz) (P ++ [(o, .inr (2, [.ref (q 0), .ref (q 1), .ref (q 2), .ref (q 3), .ref (q 4), .int (zI 2), .ref (q 5), .ref (q 6), .ref (q 7), .ref (q 8), .int 0, .int 0, .int 0, .int 0])), ((q 0), .inl (cy 1, 96, .inl (fun j => zI ((zu (zu (fun _ => (0 : Int)) 0 5) 1 0) j)))), ((q 1), .inl (cy 1, 96, .inl (fun j => zI ((zu (fun _ => (0 : Int)) 0 (-1)) j)))), ((q 2), .inl (cy 1, 96, .inl (fun _ => 0))), ((q 3), .inl (cy 2, 96, .inr (.inl (fun _ => 0)))), ((q 4), .inl (cy 2, 96, .inr (.inl (fun _ => 0)))), ((q 5), .inl (cy 1, 20, .inl (fun _ => 0))), ((q 6), .inl (cy 1, 20, .inl (fun _ => 0))), ((q 7), .inl (cy 1, 20, .inl (fun _ => 0))), ((q 8), .inl (cy 1, 20, .inl (fun _ => 0)))])) (va_A (P ++ [(o, .inr (2, [.null, .null, .null, .null, .null, .int 0, .null, .null, .null, .null, .int 0, .int 0, .int 0, .int 0]))]) sz)) 9 (560) (va_A (P ++ [(o, .inr (2, [.null, .null, .null, .null, .null, .int 0, .null, .null, .null, .null, .int 0, .int 0, .int 0, .int 0]))]) sz) := by
  refine Met.ofW (cc := cX2_init) (maxL := 1) (ret := none) (by decide) rfl ?_
  intro p e s m args below meth c s₁ B0 hml hv
  obtain ⟨rfl, hsz, hP, hK, hD0⟩ := hv
  have hlocks := B0.notSynchronized
  have hin : meth.name = "<init>" := (name_of_methodNamed B0.named B0.method).1
  have B : zAt p s m ([.ref o] : List Value).toArray meth c RX2 cX2_init 1 none (.code yX2_init cX2_init 1 none :: TBC) := ⟨B0.exec, B0.bytes, hml, findClass_of_methodNamed B0.named, atoms_spec (ws := (.code yX2_init cX2_init 1 none :: TBC)) B0.pre, B0.returns, B0.notSynchronized⟩
  subst hsz
  have hD := hD0.self (sz := s.heap.size)
  generalize hAe : va_A (P ++ [(o, .inr (2, [.null, .null, .null, .null, .null, .int 0, .null, .null, .null, .null, .int 0, .int 0, .int 0, .int 0]))]) s.heap.size = A at hD ⊢
  have hA : ∀ q : Nat, s.heap.size ≤ q → A q := fun q h => by rw [← hAe]; exact Or.inr h
  have hS : va_S A s.heap s.heap [] := va_S.rf
  have hl := lv_entry ([.ref o]) (n := 1) (Nat.le_of_ble_eq_true rfl)
  rw [lg_entry_eq]
  generalize (lg_sl ([.ref o]) ++ List.replicate (1 - (lg_sl ([.ref o])).length) Slot.unset).toArray = ls at hl ⊢
  have hl : lv_has ls 1 [(0, .ref o)] := hl
  refine lv_aload_n B.1 B.2.1 dX2_init_0 rfl (lv_at hl 0 rfl) ?_
  refine W.objInit B.1 B.2.1 B.2.2.2.1 (B.2.2.2.2.1 _ (List.mem_cons_of_mem _ wC_mRX2_3)) (B.2.2.2.2.1 _ (List.mem_cons_of_mem _ wC_im_objectInit)) (B.2.2.2.2.1 _ (List.mem_cons_of_mem _ wC_cd_objectInit)) rfl (by rw [hml]; exact hl.1) rfl dX2_init_1 (Nat.le_of_ble_eq_true rfl) (Nat.le_of_ble_eq_true rfl) ?_
  refine W.eq (g2 := F0 m 4 ls []) rfl ?_
  refine lv_aload_n B.1 B.2.1 dX2_init_4 rfl (lv_at hl 0 rfl) ?_
  refine z_bipush B.1 B.2.1 (by decide) dX2_init_5 ?_
  refine z_newi B (List.mem_cons_of_mem _ wC_ac__int) hK hP hD hS hA 96 (by decide) (Nat.le_of_ble_eq_true rfl) (Nat.le_of_ble_eq_true rfl) dX2_init_7 (fun a7 H hP hD hS => ?_)
  rw [List.append_assoc] at hP hD
  have hP : va_P D vwCl (P ++ [(o, .inr (2, [.null, .null, .null, .null, .null, .int 0, .null, .null, .null, .null, .int 0, .int 0, .int 0, .int 0])), (a7, .inl (cy 1, 96, .inl (fun _ => 0)))]) H := hP
  have hD : va_D A (P ++ [(o, .inr (2, [.null, .null, .null, .null, .null, .int 0, .null, .null, .null, .null, .int 0, .int 0, .int 0, .int 0])), (a7, .inl (cy 1, 96, .inl (fun _ => 0)))]) := hD
  refine va_putF (D := D) (ci := 2) (v := .ref a7) (ty := (.array .int)) (C := RX2) (T := TX2) (N := 14) B.1 B.2.1 B.2.2.2.2.1 (iC2 _) tyX2 tyX2_ok nmX2 B.2.2.2.1 hK hP hD hS (P.length + 0) (by rw [kapp]; rfl) rfl 0 (by decide) (B.2.2.2.2.1 _ (List.mem_cons_of_mem _ wC_fRX2_9)) (fun _ h9 => h9) rfl hin rfl (by decide +kernel) rfl rfl (Nat.le_of_ble_eq_true rfl) dX2_init_9 (fun H locs hP hD hS => ?_)
  rw [kset] at hP hD
  have hP : va_P D vwCl (P ++ [(o, .inr (2, [.ref a7, .null, .null, .null, .null, .int 0, .null, .null, .null, .null, .int 0, .int 0, .int 0, .int 0])), (a7, .inl (cy 1, 96, .inl (fun _ => 0)))]) H := hP
  have hD : va_D A (P ++ [(o, .inr (2, [.ref a7, .null, .null, .null, .null, .int 0, .null, .null, .null, .null, .int 0, .int 0, .int 0, .int 0])), (a7, .inl (cy 1, 96, .inl (fun _ => 0)))]) := hD
  refine lv_aload_n B.1 B.2.1 dX2_init_12 rfl (lv_at hl 0 rfl) ?_
  refine z_bipush B.1 B.2.1 (by decide) dX2_init_13 ?_
  refine z_newi B (List.mem_cons_of_mem _ wC_ac__int) hK hP hD hS hA 96 (by decide) (Nat.le_of_ble_eq_true rfl) (Nat.le_of_ble_eq_true rfl) dX2_init_15 (fun a15 H hP hD hS => ?_)
  rw [List.append_assoc] at hP hD
  have hP : va_P D vwCl (P ++ [(o, .inr (2, [.ref a7, .null, .null, .null, .null, .int 0, .null, .null, .null, .null, .int 0, .int 0, .int 0, .int 0])), (a7, .inl (cy 1, 96, .inl (fun _ => 0))), (a15, .inl (cy 1, 96, .inl (fun _ => 0)))]) H := hP
  have hD : va_D A (P ++ [(o, .inr (2, [.ref a7, .null, .null, .null, .null, .int 0, .null, .null, .null, .null, .int 0, .int 0, .int 0, .int 0])), (a7, .inl (cy 1, 96, .inl (fun _ => 0))), (a15, .inl (cy 1, 96, .inl (fun _ => 0)))]) := hD
  refine va_putF (D := D) (ci := 2) (v := .ref a15) (ty := (.array .int)) (C := RX2) (T := TX2) (N := 14) B.1 B.2.1 B.2.2.2.2.1 (iC2 _) tyX2 tyX2_ok nmX2 B.2.2.2.1 hK hP hD hS (P.length + 0) (by rw [kapp]; rfl) rfl 1 (by decide) (B.2.2.2.2.1 _ (List.mem_cons_of_mem _ wC_fRX2_15)) (fun _ h9 => h9) rfl hin rfl (by decide +kernel) rfl rfl (Nat.le_of_ble_eq_true rfl) dX2_init_17 (fun H locs hP hD hS => ?_)
  rw [kset] at hP hD
  have hP : va_P D vwCl (P ++ [(o, .inr (2, [.ref a7, .ref a15, .null, .null, .null, .int 0, .null, .null, .null, .null, .int 0, .int 0, .int 0, .int 0])), (a7, .inl (cy 1, 96, .inl (fun _ => 0))), (a15, .inl (cy 1, 96, .inl (fun _ => 0)))]) H := hP
  have hD : va_D A (P ++ [(o, .inr (2, [.ref a7, .ref a15, .null, .null, .null, .int 0, .null, .null, .null, .null, .int 0, .int 0, .int 0, .int 0])), (a7, .inl (cy 1, 96, .inl (fun _ => 0))), (a15, .inl (cy 1, 96, .inl (fun _ => 0)))]) := hD
  refine lv_aload_n B.1 B.2.1 dX2_init_20 rfl (lv_at hl 0 rfl) ?_
  refine z_bipush B.1 B.2.1 (by decide) dX2_init_21 ?_
  refine z_newi B (List.mem_cons_of_mem _ wC_ac__int) hK hP hD hS hA 96 (by decide) (Nat.le_of_ble_eq_true rfl) (Nat.le_of_ble_eq_true rfl) dX2_init_23 (fun a23 H hP hD hS => ?_)
  rw [List.append_assoc] at hP hD
  have hP : va_P D vwCl (P ++ [(o, .inr (2, [.ref a7, .ref a15, .null, .null, .null, .int 0, .null, .null, .null, .null, .int 0, .int 0, .int 0, .int 0])), (a7, .inl (cy 1, 96, .inl (fun _ => 0))), (a15, .inl (cy 1, 96, .inl (fun _ => 0))), (a23, .inl (cy 1, 96, .inl (fun _ => 0)))]) H := hP
  have hD : va_D A (P ++ [(o, .inr (2, [.ref a7, .ref a15, .null, .null, .null, .int 0, .null, .null, .null, .null, .int 0, .int 0, .int 0, .int 0])), (a7, .inl (cy 1, 96, .inl (fun _ => 0))), (a15, .inl (cy 1, 96, .inl (fun _ => 0))), (a23, .inl (cy 1, 96, .inl (fun _ => 0)))]) := hD
  refine va_putF (D := D) (ci := 2) (v := .ref a23) (ty := (.array .int)) (C := RX2) (T := TX2) (N := 14) B.1 B.2.1 B.2.2.2.2.1 (iC2 _) tyX2 tyX2_ok nmX2 B.2.2.2.1 hK hP hD hS (P.length + 0) (by rw [kapp]; rfl) rfl 2 (by decide) (B.2.2.2.2.1 _ (List.mem_cons_of_mem _ wC_fRX2_18)) (fun _ h9 => h9) rfl hin rfl (by decide +kernel) rfl rfl (Nat.le_of_ble_eq_true rfl) dX2_init_25 (fun H locs hP hD hS => ?_)
  rw [kset] at hP hD
  have hP : va_P D vwCl (P ++ [(o, .inr (2, [.ref a7, .ref a15, .ref a23, .null, .null, .int 0, .null, .null, .null, .null, .int 0, .int 0, .int 0, .int 0])), (a7, .inl (cy 1, 96, .inl (fun _ => 0))), (a15, .inl (cy 1, 96, .inl (fun _ => 0))), (a23, .inl (cy 1, 96, .inl (fun _ => 0)))]) H := hP
  have hD : va_D A (P ++ [(o, .inr (2, [.ref a7, .ref a15, .ref a23, .null, .null, .int 0, .null, .null, .null, .null, .int 0, .int 0, .int 0, .int 0])), (a7, .inl (cy 1, 96, .inl (fun _ => 0))), (a15, .inl (cy 1, 96, .inl (fun _ => 0))), (a23, .inl (cy 1, 96, .inl (fun _ => 0)))]) := hD
  refine lv_aload_n B.1 B.2.1 dX2_init_28 rfl (lv_at hl 0 rfl) ?_
  refine z_bipush B.1 B.2.1 (by decide) dX2_init_29 ?_
  refine z_newl B (List.mem_cons_of_mem _ wC_ac__long) hK hP hD hS hA 96 (by decide) (Nat.le_of_ble_eq_true rfl) (Nat.le_of_ble_eq_true rfl) dX2_init_31 (fun a31 H hP hD hS => ?_)
  rw [List.append_assoc] at hP hD
  have hP : va_P D vwCl (P ++ [(o, .inr (2, [.ref a7, .ref a15, .ref a23, .null, .null, .int 0, .null, .null, .null, .null, .int 0, .int 0, .int 0, .int 0])), (a7, .inl (cy 1, 96, .inl (fun _ => 0))), (a15, .inl (cy 1, 96, .inl (fun _ => 0))), (a23, .inl (cy 1, 96, .inl (fun _ => 0))), (a31, .inl (cy 2, 96, .inr (.inl (fun _ => 0))))]) H := hP
  have hD : va_D A (P ++ [(o, .inr (2, [.ref a7, .ref a15, .ref a23, .null, .null, .int 0, .null, .null, .null, .null, .int 0, .int 0, .int 0, .int 0])), (a7, .inl (cy 1, 96, .inl (fun _ => 0))), (a15, .inl (cy 1, 96, .inl (fun _ => 0))), (a23, .inl (cy 1, 96, .inl (fun _ => 0))), (a31, .inl (cy 2, 96, .inr (.inl (fun _ => 0))))]) := hD
  refine va_putF (D := D) (ci := 2) (v := .ref a31) (ty := (.array .long)) (C := RX2) (T := TX2) (N := 14) B.1 B.2.1 B.2.2.2.2.1 (iC2 _) tyX2 tyX2_ok nmX2 B.2.2.2.1 hK hP hD hS (P.length + 0) (by rw [kapp]; rfl) rfl 3 (by decide) (B.2.2.2.2.1 _ (List.mem_cons_of_mem _ wC_fRX2_21)) (fun _ h9 => h9) rfl hin rfl (by decide +kernel) rfl rfl (Nat.le_of_ble_eq_true rfl) dX2_init_33 (fun H locs hP hD hS => ?_)
  rw [kset] at hP hD
  have hP : va_P D vwCl (P ++ [(o, .inr (2, [.ref a7, .ref a15, .ref a23, .ref a31, .null, .int 0, .null, .null, .null, .null, .int 0, .int 0, .int 0, .int 0])), (a7, .inl (cy 1, 96, .inl (fun _ => 0))), (a15, .inl (cy 1, 96, .inl (fun _ => 0))), (a23, .inl (cy 1, 96, .inl (fun _ => 0))), (a31, .inl (cy 2, 96, .inr (.inl (fun _ => 0))))]) H := hP
  have hD : va_D A (P ++ [(o, .inr (2, [.ref a7, .ref a15, .ref a23, .ref a31, .null, .int 0, .null, .null, .null, .null, .int 0, .int 0, .int 0, .int 0])), (a7, .inl (cy 1, 96, .inl (fun _ => 0))), (a15, .inl (cy 1, 96, .inl (fun _ => 0))), (a23, .inl (cy 1, 96, .inl (fun _ => 0))), (a31, .inl (cy 2, 96, .inr (.inl (fun _ => 0))))]) := hD
  refine lv_aload_n B.1 B.2.1 dX2_init_36 rfl (lv_at hl 0 rfl) ?_
  refine z_bipush B.1 B.2.1 (by decide) dX2_init_37 ?_
  refine z_newl B (List.mem_cons_of_mem _ wC_ac__long) hK hP hD hS hA 96 (by decide) (Nat.le_of_ble_eq_true rfl) (Nat.le_of_ble_eq_true rfl) dX2_init_39 (fun a39 H hP hD hS => ?_)
  rw [List.append_assoc] at hP hD
  have hP : va_P D vwCl (P ++ [(o, .inr (2, [.ref a7, .ref a15, .ref a23, .ref a31, .null, .int 0, .null, .null, .null, .null, .int 0, .int 0, .int 0, .int 0])), (a7, .inl (cy 1, 96, .inl (fun _ => 0))), (a15, .inl (cy 1, 96, .inl (fun _ => 0))), (a23, .inl (cy 1, 96, .inl (fun _ => 0))), (a31, .inl (cy 2, 96, .inr (.inl (fun _ => 0)))), (a39, .inl (cy 2, 96, .inr (.inl (fun _ => 0))))]) H := hP
  have hD : va_D A (P ++ [(o, .inr (2, [.ref a7, .ref a15, .ref a23, .ref a31, .null, .int 0, .null, .null, .null, .null, .int 0, .int 0, .int 0, .int 0])), (a7, .inl (cy 1, 96, .inl (fun _ => 0))), (a15, .inl (cy 1, 96, .inl (fun _ => 0))), (a23, .inl (cy 1, 96, .inl (fun _ => 0))), (a31, .inl (cy 2, 96, .inr (.inl (fun _ => 0)))), (a39, .inl (cy 2, 96, .inr (.inl (fun _ => 0))))]) := hD
  refine va_putF (D := D) (ci := 2) (v := .ref a39) (ty := (.array .long)) (C := RX2) (T := TX2) (N := 14) B.1 B.2.1 B.2.2.2.2.1 (iC2 _) tyX2 tyX2_ok nmX2 B.2.2.2.1 hK hP hD hS (P.length + 0) (by rw [kapp]; rfl) rfl 4 (by decide) (B.2.2.2.2.1 _ (List.mem_cons_of_mem _ wC_fRX2_25)) (fun _ h9 => h9) rfl hin rfl (by decide +kernel) rfl rfl (Nat.le_of_ble_eq_true rfl) dX2_init_41 (fun H locs hP hD hS => ?_)
  rw [kset] at hP hD
  have hP : va_P D vwCl (P ++ [(o, .inr (2, [.ref a7, .ref a15, .ref a23, .ref a31, .ref a39, .int 0, .null, .null, .null, .null, .int 0, .int 0, .int 0, .int 0])), (a7, .inl (cy 1, 96, .inl (fun _ => 0))), (a15, .inl (cy 1, 96, .inl (fun _ => 0))), (a23, .inl (cy 1, 96, .inl (fun _ => 0))), (a31, .inl (cy 2, 96, .inr (.inl (fun _ => 0)))), (a39, .inl (cy 2, 96, .inr (.inl (fun _ => 0))))]) H := hP
  have hD : va_D A (P ++ [(o, .inr (2, [.ref a7, .ref a15, .ref a23, .ref a31, .ref a39, .int 0, .null, .null, .null, .null, .int 0, .int 0, .int 0, .int 0])), (a7, .inl (cy 1, 96, .inl (fun _ => 0))), (a15, .inl (cy 1, 96, .inl (fun _ => 0))), (a23, .inl (cy 1, 96, .inl (fun _ => 0))), (a31, .inl (cy 2, 96, .inr (.inl (fun _ => 0)))), (a39, .inl (cy 2, 96, .inr (.inl (fun _ => 0))))]) := hD
  refine lv_aload_n B.1 B.2.1 dX2_init_44 rfl (lv_at hl 0 rfl) ?_
  refine z_bipush B.1 B.2.1 (by decide) dX2_init_45 ?_
  refine z_newi B (List.mem_cons_of_mem _ wC_ac__int) hK hP hD hS hA 20 (by decide) (Nat.le_of_ble_eq_true rfl) (Nat.le_of_ble_eq_true rfl) dX2_init_47 (fun a47 H hP hD hS => ?_)
  rw [List.append_assoc] at hP hD
  have hP : va_P D vwCl (P ++ [(o, .inr (2, [.ref a7, .ref a15, .ref a23, .ref a31, .ref a39, .int 0, .null, .null, .null, .null, .int 0, .int 0, .int 0, .int 0])), (a7, .inl (cy 1, 96, .inl (fun _ => 0))), (a15, .inl (cy 1, 96, .inl (fun _ => 0))), (a23, .inl (cy 1, 96, .inl (fun _ => 0))), (a31, .inl (cy 2, 96, .inr (.inl (fun _ => 0)))), (a39, .inl (cy 2, 96, .inr (.inl (fun _ => 0)))), (a47, .inl (cy 1, 20, .inl (fun _ => 0)))]) H := hP
  have hD : va_D A (P ++ [(o, .inr (2, [.ref a7, .ref a15, .ref a23, .ref a31, .ref a39, .int 0, .null, .null, .null, .null, .int 0, .int 0, .int 0, .int 0])), (a7, .inl (cy 1, 96, .inl (fun _ => 0))), (a15, .inl (cy 1, 96, .inl (fun _ => 0))), (a23, .inl (cy 1, 96, .inl (fun _ => 0))), (a31, .inl (cy 2, 96, .inr (.inl (fun _ => 0)))), (a39, .inl (cy 2, 96, .inr (.inl (fun _ => 0)))), (a47, .inl (cy 1, 20, .inl (fun _ => 0)))]) := hD
  refine va_putF (D := D) (ci := 2) (v := .ref a47) (ty := (.array .int)) (C := RX2) (T := TX2) (N := 14) B.1 B.2.1 B.2.2.2.2.1 (iC2 _) tyX2 tyX2_ok nmX2 B.2.2.2.1 hK hP hD hS (P.length + 0) (by rw [kapp]; rfl) rfl 6 (by decide) (B.2.2.2.2.1 _ (List.mem_cons_of_mem _ wC_fRX2_28)) (fun _ h9 => h9) rfl hin rfl (by decide +kernel) rfl rfl (Nat.le_of_ble_eq_true rfl) dX2_init_49 (fun H locs hP hD hS => ?_)
  rw [kset] at hP hD
  have hP : va_P D vwCl (P ++ [(o, .inr (2, [.ref a7, .ref a15, .ref a23, .ref a31, .ref a39, .int 0, .ref a47, .null, .null, .null, .int 0, .int 0, .int 0, .int 0])), (a7, .inl (cy 1, 96, .inl (fun _ => 0))), (a15, .inl (cy 1, 96, .inl (fun _ => 0))), (a23, .inl (cy 1, 96, .inl (fun _ => 0))), (a31, .inl (cy 2, 96, .inr (.inl (fun _ => 0)))), (a39, .inl (cy 2, 96, .inr (.inl (fun _ => 0)))), (a47, .inl (cy 1, 20, .inl (fun _ => 0)))]) H := hP
  have hD : va_D A (P ++ [(o, .inr (2, [.ref a7, .ref a15, .ref a23, .ref a31, .ref a39, .int 0, .ref a47, .null, .null, .null, .int 0, .int 0, .int 0, .int 0])), (a7, .inl (cy 1, 96, .inl (fun _ => 0))), (a15, .inl (cy 1, 96, .inl (fun _ => 0))), (a23, .inl (cy 1, 96, .inl (fun _ => 0))), (a31, .inl (cy 2, 96, .inr (.inl (fun _ => 0)))), (a39, .inl (cy 2, 96, .inr (.inl (fun _ => 0)))), (a47, .inl (cy 1, 20, .inl (fun _ => 0)))]) := hD
  refine lv_aload_n B.1 B.2.1 dX2_init_52 rfl (lv_at hl 0 rfl) ?_
  refine z_bipush B.1 B.2.1 (by decide) dX2_init_53 ?_
  refine z_newi B (List.mem_cons_of_mem _ wC_ac__int) hK hP hD hS hA 20 (by decide) (Nat.le_of_ble_eq_true rfl) (Nat.le_of_ble_eq_true rfl) dX2_init_55 (fun a55 H hP hD hS => ?_)
  rw [List.append_assoc] at hP hD
  have hP : va_P D vwCl (P ++ [(o, .inr (2, [.ref a7, .ref a15, .ref a23, .ref a31, .ref a39, .int 0, .ref a47, .null, .null, .null, .int 0, .int 0, .int 0, .int 0])), (a7, .inl (cy 1, 96, .inl (fun _ => 0))), (a15, .inl (cy 1, 96, .inl (fun _ => 0))), (a23, .inl (cy 1, 96, .inl (fun _ => 0))), (a31, .inl (cy 2, 96, .inr (.inl (fun _ => 0)))), (a39, .inl (cy 2, 96, .inr (.inl (fun _ => 0)))), (a47, .inl (cy 1, 20, .inl (fun _ => 0))), (a55, .inl (cy 1, 20, .inl (fun _ => 0)))]) H := hP
  have hD : va_D A (P ++ [(o, .inr (2, [.ref a7, .ref a15, .ref a23, .ref a31, .ref a39, .int 0, .ref a47, .null, .null, .null, .int 0, .int 0, .int 0, .int 0])), (a7, .inl (cy 1, 96, .inl (fun _ => 0))), (a15, .inl (cy 1, 96, .inl (fun _ => 0))), (a23, .inl (cy 1, 96, .inl (fun _ => 0))), (a31, .inl (cy 2, 96, .inr (.inl (fun _ => 0)))), (a39, .inl (cy 2, 96, .inr (.inl (fun _ => 0)))), (a47, .inl (cy 1, 20, .inl (fun _ => 0))), (a55, .inl (cy 1, 20, .inl (fun _ => 0)))]) := hD
  refine va_putF (D := D) (ci := 2) (v := .ref a55) (ty := (.array .int)) (C := RX2) (T := TX2) (N := 14) B.1 B.2.1 B.2.2.2.2.1 (iC2 _) tyX2 tyX2_ok nmX2 B.2.2.2.1 hK hP hD hS (P.length + 0) (by rw [kapp]; rfl) rfl 7 (by decide) (B.2.2.2.2.1 _ (List.mem_cons_of_mem _ wC_fRX2_31)) (fun _ h9 => h9) rfl hin rfl (by decide +kernel) rfl rfl (Nat.le_of_ble_eq_true rfl) dX2_init_57 (fun H locs hP hD hS => ?_)
  rw [kset] at hP hD
  have hP : va_P D vwCl (P ++ [(o, .inr (2, [.ref a7, .ref a15, .ref a23, .ref a31, .ref a39, .int 0, .ref a47, .ref a55, .null, .null, .int 0, .int 0, .int 0, .int 0])), (a7, .inl (cy 1, 96, .inl (fun _ => 0))), (a15, .inl (cy 1, 96, .inl (fun _ => 0))), (a23, .inl (cy 1, 96, .inl (fun _ => 0))), (a31, .inl (cy 2, 96, .inr (.inl (fun _ => 0)))), (a39, .inl (cy 2, 96, .inr (.inl (fun _ => 0)))), (a47, .inl (cy 1, 20, .inl (fun _ => 0))), (a55, .inl (cy 1, 20, .inl (fun _ => 0)))]) H := hP
  have hD : va_D A (P ++ [(o, .inr (2, [.ref a7, .ref a15, .ref a23, .ref a31, .ref a39, .int 0, .ref a47, .ref a55, .null, .null, .int 0, .int 0, .int 0, .int 0])), (a7, .inl (cy 1, 96, .inl (fun _ => 0))), (a15, .inl (cy 1, 96, .inl (fun _ => 0))), (a23, .inl (cy 1, 96, .inl (fun _ => 0))), (a31, .inl (cy 2, 96, .inr (.inl (fun _ => 0)))), (a39, .inl (cy 2, 96, .inr (.inl (fun _ => 0)))), (a47, .inl (cy 1, 20, .inl (fun _ => 0))), (a55, .inl (cy 1, 20, .inl (fun _ => 0)))]) := hD
  refine lv_aload_n B.1 B.2.1 dX2_init_60 rfl (lv_at hl 0 rfl) ?_
  refine z_bipush B.1 B.2.1 (by decide) dX2_init_61 ?_
  refine z_newi B (List.mem_cons_of_mem _ wC_ac__int) hK hP hD hS hA 20 (by decide) (Nat.le_of_ble_eq_true rfl) (Nat.le_of_ble_eq_true rfl) dX2_init_63 (fun a63 H hP hD hS => ?_)
  rw [List.append_assoc] at hP hD
  have hP : va_P D vwCl (P ++ [(o, .inr (2, [.ref a7, .ref a15, .ref a23, .ref a31, .ref a39, .int 0, .ref a47, .ref a55, .null, .null, .int 0, .int 0, .int 0, .int 0])), (a7, .inl (cy 1, 96, .inl (fun _ => 0))), (a15, .inl (cy 1, 96, .inl (fun _ => 0))), (a23, .inl (cy 1, 96, .inl (fun _ => 0))), (a31, .inl (cy 2, 96, .inr (.inl (fun _ => 0)))), (a39, .inl (cy 2, 96, .inr (.inl (fun _ => 0)))), (a47, .inl (cy 1, 20, .inl (fun _ => 0))), (a55, .inl (cy 1, 20, .inl (fun _ => 0))), (a63, .inl (cy 1, 20, .inl (fun _ => 0)))]) H := hP
  have hD : va_D A (P ++ [(o, .inr (2, [.ref a7, .ref a15, .ref a23, .ref a31, .ref a39, .int 0, .ref a47, .ref a55, .null, .null, .int 0, .int 0, .int 0, .int 0])), (a7, .inl (cy 1, 96, .inl (fun _ => 0))), (a15, .inl (cy 1, 96, .inl (fun _ => 0))), (a23, .inl (cy 1, 96, .inl (fun _ => 0))), (a31, .inl (cy 2, 96, .inr (.inl (fun _ => 0)))), (a39, .inl (cy 2, 96, .inr (.inl (fun _ => 0)))), (a47, .inl (cy 1, 20, .inl (fun _ => 0))), (a55, .inl (cy 1, 20, .inl (fun _ => 0))), (a63, .inl (cy 1, 20, .inl (fun _ => 0)))]) := hD
  refine va_putF (D := D) (ci := 2) (v := .ref a63) (ty := (.array .int)) (C := RX2) (T := TX2) (N := 14) B.1 B.2.1 B.2.2.2.2.1 (iC2 _) tyX2 tyX2_ok nmX2 B.2.2.2.1 hK hP hD hS (P.length + 0) (by rw [kapp]; rfl) rfl 8 (by decide) (B.2.2.2.2.1 _ (List.mem_cons_of_mem _ wC_fRX2_34)) (fun _ h9 => h9) rfl hin rfl (by decide +kernel) rfl rfl (Nat.le_of_ble_eq_true rfl) dX2_init_65 (fun H locs hP hD hS => ?_)
  rw [kset] at hP hD
  have hP : va_P D vwCl (P ++ [(o, .inr (2, [.ref a7, .ref a15, .ref a23, .ref a31, .ref a39, .int 0, .ref a47, .ref a55, .ref a63, .null, .int 0, .int 0, .int 0, .int 0])), (a7, .inl (cy 1, 96, .inl (fun _ => 0))), (a15, .inl (cy 1, 96, .inl (fun _ => 0))), (a23, .inl (cy 1, 96, .inl (fun _ => 0))), (a31, .inl (cy 2, 96, .inr (.inl (fun _ => 0)))), (a39, .inl (cy 2, 96, .inr (.inl (fun _ => 0)))), (a47, .inl (cy 1, 20, .inl (fun _ => 0))), (a55, .inl (cy 1, 20, .inl (fun _ => 0))), (a63, .inl (cy 1, 20, .inl (fun _ => 0)))]) H := hP
  have hD : va_D A (P ++ [(o, .inr (2, [.ref a7, .ref a15, .ref a23, .ref a31, .ref a39, .int 0, .ref a47, .ref a55, .ref a63, .null, .int 0, .int 0, .int 0, .int 0])), (a7, .inl (cy 1, 96, .inl (fun _ => 0))), (a15, .inl (cy 1, 96, .inl (fun _ => 0))), (a23, .inl (cy 1, 96, .inl (fun _ => 0))), (a31, .inl (cy 2, 96, .inr (.inl (fun _ => 0)))), (a39, .inl (cy 2, 96, .inr (.inl (fun _ => 0)))), (a47, .inl (cy 1, 20, .inl (fun _ => 0))), (a55, .inl (cy 1, 20, .inl (fun _ => 0))), (a63, .inl (cy 1, 20, .inl (fun _ => 0)))]) := hD
  refine lv_aload_n B.1 B.2.1 dX2_init_68 rfl (lv_at hl 0 rfl) ?_
  refine z_bipush B.1 B.2.1 (by decide) dX2_init_69 ?_
  refine z_newi B (List.mem_cons_of_mem _ wC_ac__int) hK hP hD hS hA 20 (by decide) (Nat.le_of_ble_eq_true rfl) (Nat.le_of_ble_eq_true rfl) dX2_init_71 (fun a71 H hP hD hS => ?_)
  rw [List.append_assoc] at hP hD
  have hP : va_P D vwCl (P ++ [(o, .inr (2, [.ref a7, .ref a15, .ref a23, .ref a31, .ref a39, .int 0, .ref a47, .ref a55, .ref a63, .null, .int 0, .int 0, .int 0, .int 0])), (a7, .inl (cy 1, 96, .inl (fun _ => 0))), (a15, .inl (cy 1, 96, .inl (fun _ => 0))), (a23, .inl (cy 1, 96, .inl (fun _ => 0))), (a31, .inl (cy 2, 96, .inr (.inl (fun _ => 0)))), (a39, .inl (cy 2, 96, .inr (.inl (fun _ => 0)))), (a47, .inl (cy 1, 20, .inl (fun _ => 0))), (a55, .inl (cy 1, 20, .inl (fun _ => 0))), (a63, .inl (cy 1, 20, .inl (fun _ => 0))), (a71, .inl (cy 1, 20, .inl (fun _ => 0)))]) H := hP
  have hD : va_D A (P ++ [(o, .inr (2, [.ref a7, .ref a15, .ref a23, .ref a31, .ref a39, .int 0, .ref a47, .ref a55, .ref a63, .null, .int 0, .int 0, .int 0, .int 0])), (a7, .inl (cy 1, 96, .inl (fun _ => 0))), (a15, .inl (cy 1, 96, .inl (fun _ => 0))), (a23, .inl (cy 1, 96, .inl (fun _ => 0))), (a31, .inl (cy 2, 96, .inr (.inl (fun _ => 0)))), (a39, .inl (cy 2, 96, .inr (.inl (fun _ => 0)))), (a47, .inl (cy 1, 20, .inl (fun _ => 0))), (a55, .inl (cy 1, 20, .inl (fun _ => 0))), (a63, .inl (cy 1, 20, .inl (fun _ => 0))), (a71, .inl (cy 1, 20, .inl (fun _ => 0)))]) := hD
  refine va_putF (D := D) (ci := 2) (v := .ref a71) (ty := (.array .int)) (C := RX2) (T := TX2) (N := 14) B.1 B.2.1 B.2.2.2.2.1 (iC2 _) tyX2 tyX2_ok nmX2 B.2.2.2.1 hK hP hD hS (P.length + 0) (by rw [kapp]; rfl) rfl 9 (by decide) (B.2.2.2.2.1 _ (List.mem_cons_of_mem _ wC_fRX2_37)) (fun _ h9 => h9) rfl hin rfl (by decide +kernel) rfl rfl (Nat.le_of_ble_eq_true rfl) dX2_init_73 (fun H locs hP hD hS => ?_)
  rw [kset] at hP hD
  have hP : va_P D vwCl (P ++ [(o, .inr (2, [.ref a7, .ref a15, .ref a23, .ref a31, .ref a39, .int 0, .ref a47, .ref a55, .ref a63, .ref a71, .int 0, .int 0, .int 0, .int 0])), (a7, .inl (cy 1, 96, .inl (fun _ => 0))), (a15, .inl (cy 1, 96, .inl (fun _ => 0))), (a23, .inl (cy 1, 96, .inl (fun _ => 0))), (a31, .inl (cy 2, 96, .inr (.inl (fun _ => 0)))), (a39, .inl (cy 2, 96, .inr (.inl (fun _ => 0)))), (a47, .inl (cy 1, 20, .inl (fun _ => 0))), (a55, .inl (cy 1, 20, .inl (fun _ => 0))), (a63, .inl (cy 1, 20, .inl (fun _ => 0))), (a71, .inl (cy 1, 20, .inl (fun _ => 0)))]) H := hP
  have hD : va_D A (P ++ [(o, .inr (2, [.ref a7, .ref a15, .ref a23, .ref a31, .ref a39, .int 0, .ref a47, .ref a55, .ref a63, .ref a71, .int 0, .int 0, .int 0, .int 0])), (a7, .inl (cy 1, 96, .inl (fun _ => 0))), (a15, .inl (cy 1, 96, .inl (fun _ => 0))), (a23, .inl (cy 1, 96, .inl (fun _ => 0))), (a31, .inl (cy 2, 96, .inr (.inl (fun _ => 0)))), (a39, .inl (cy 2, 96, .inr (.inl (fun _ => 0)))), (a47, .inl (cy 1, 20, .inl (fun _ => 0))), (a55, .inl (cy 1, 20, .inl (fun _ => 0))), (a63, .inl (cy 1, 20, .inl (fun _ => 0))), (a71, .inl (cy 1, 20, .inl (fun _ => 0)))]) := hD
  refine lv_aload_n B.1 B.2.1 dX2_init_76 rfl (lv_at hl 0 rfl) ?_
  refine va_get (D := D) (ci := 2) (C := RX2) (T := TX2) (N := 14) B.1 B.2.1 B.2.2.2.2.1 (iC2 _) B.2.2.2.1 hK hP (P.length + 0) (by rw [kapp]; rfl) rfl 0 (by decide) (B.2.2.2.2.1 _ (List.mem_cons_of_mem _ wC_fRX2_9)) (fun _ h9 => h9) (v := .ref a7) rfl dX2_init_77 ?_
  refine z_iconst B.1 B.2.1 dX2_init_80 ?_
  refine z_iconst B.1 B.2.1 dX2_init_81 ?_
  refine va_iast (D := D) (cA := cy 1) (n := 96) (f := fun j => zI ((fun _ => (0 : Int)) j)) B.1 B.2.1 hK hP hD hS (P.length + 1) 1 (by rw [kapp]; rfl) rfl (zI_in (zr_of (by decide) (by decide)) (by decide) (by decide)) dX2_init_82 (fun H locs hP hD hS => ?_)
  rw [kset, show (zI 0).toNatClampNeg = 0 from rfl, zI_zu] at hP hD
  have hP : va_P D vwCl (P ++ [(o, .inr (2, [.ref a7, .ref a15, .ref a23, .ref a31, .ref a39, .int 0, .ref a47, .ref a55, .ref a63, .ref a71, .int 0, .int 0, .int 0, .int 0])), (a7, .inl (cy 1, 96, .inl (fun j => zI ((zu (fun _ => (0 : Int)) 0 5) j)))), (a15, .inl (cy 1, 96, .inl (fun _ => 0))), (a23, .inl (cy 1, 96, .inl (fun _ => 0))), (a31, .inl (cy 2, 96, .inr (.inl (fun _ => 0)))), (a39, .inl (cy 2, 96, .inr (.inl (fun _ => 0)))), (a47, .inl (cy 1, 20, .inl (fun _ => 0))), (a55, .inl (cy 1, 20, .inl (fun _ => 0))), (a63, .inl (cy 1, 20, .inl (fun _ => 0))), (a71, .inl (cy 1, 20, .inl (fun _ => 0)))]) H := hP
  have hD : va_D A (P ++ [(o, .inr (2, [.ref a7, .ref a15, .ref a23, .ref a31, .ref a39, .int 0, .ref a47, .ref a55, .ref a63, .ref a71, .int 0, .int 0, .int 0, .int 0])), (a7, .inl (cy 1, 96, .inl (fun j => zI ((zu (fun _ => (0 : Int)) 0 5) j)))), (a15, .inl (cy 1, 96, .inl (fun _ => 0))), (a23, .inl (cy 1, 96, .inl (fun _ => 0))), (a31, .inl (cy 2, 96, .inr (.inl (fun _ => 0)))), (a39, .inl (cy 2, 96, .inr (.inl (fun _ => 0)))), (a47, .inl (cy 1, 20, .inl (fun _ => 0))), (a55, .inl (cy 1, 20, .inl (fun _ => 0))), (a63, .inl (cy 1, 20, .inl (fun _ => 0))), (a71, .inl (cy 1, 20, .inl (fun _ => 0)))]) := hD
  refine lv_aload_n B.1 B.2.1 dX2_init_83 rfl (lv_at hl 0 rfl) ?_
  refine va_get (D := D) (ci := 2) (C := RX2) (T := TX2) (N := 14) B.1 B.2.1 B.2.2.2.2.1 (iC2 _) B.2.2.2.1 hK hP (P.length + 0) (by rw [kapp]; rfl) rfl 1 (by decide) (B.2.2.2.2.1 _ (List.mem_cons_of_mem _ wC_fRX2_15)) (fun _ h9 => h9) (v := .ref a15) rfl dX2_init_84 ?_
  refine z_iconst B.1 B.2.1 dX2_init_87 ?_
  refine z_iconst B.1 B.2.1 dX2_init_88 ?_
  refine va_iast (D := D) (cA := cy 1) (n := 96) (f := fun j => zI ((fun _ => (0 : Int)) j)) B.1 B.2.1 hK hP hD hS (P.length + 2) 1 (by rw [kapp]; rfl) rfl (zI_in (zr_of (by decide) (by decide)) (by decide) (by decide)) dX2_init_89 (fun H locs hP hD hS => ?_)
  rw [kset, show (zI 0).toNatClampNeg = 0 from rfl, zI_zu] at hP hD
  have hP : va_P D vwCl (P ++ [(o, .inr (2, [.ref a7, .ref a15, .ref a23, .ref a31, .ref a39, .int 0, .ref a47, .ref a55, .ref a63, .ref a71, .int 0, .int 0, .int 0, .int 0])), (a7, .inl (cy 1, 96, .inl (fun j => zI ((zu (fun _ => (0 : Int)) 0 5) j)))), (a15, .inl (cy 1, 96, .inl (fun j => zI ((zu (fun _ => (0 : Int)) 0 (-1)) j)))), (a23, .inl (cy 1, 96, .inl (fun _ => 0))), (a31, .inl (cy 2, 96, .inr (.inl (fun _ => 0)))), (a39, .inl (cy 2, 96, .inr (.inl (fun _ => 0)))), (a47, .inl (cy 1, 20, .inl (fun _ => 0))), (a55, .inl (cy 1, 20, .inl (fun _ => 0))), (a63, .inl (cy 1, 20, .inl (fun _ => 0))), (a71, .inl (cy 1, 20, .inl (fun _ => 0)))]) H := hP
  have hD : va_D A (P ++ [(o, .inr (2, [.ref a7, .ref a15, .ref a23, .ref a31, .ref a39, .int 0, .ref a47, .ref a55, .ref a63, .ref a71, .int 0, .int 0, .int 0, .int 0])), (a7, .inl (cy 1, 96, .inl (fun j => zI ((zu (fun _ => (0 : Int)) 0 5) j)))), (a15, .inl (cy 1, 96, .inl (fun j => zI ((zu (fun _ => (0 : Int)) 0 (-1)) j)))), (a23, .inl (cy 1, 96, .inl (fun _ => 0))), (a31, .inl (cy 2, 96, .inr (.inl (fun _ => 0)))), (a39, .inl (cy 2, 96, .inr (.inl (fun _ => 0)))), (a47, .inl (cy 1, 20, .inl (fun _ => 0))), (a55, .inl (cy 1, 20, .inl (fun _ => 0))), (a63, .inl (cy 1, 20, .inl (fun _ => 0))), (a71, .inl (cy 1, 20, .inl (fun _ => 0)))]) := hD
  refine lv_aload_n B.1 B.2.1 dX2_init_90 rfl (lv_at hl 0 rfl) ?_
  refine va_get (D := D) (ci := 2) (C := RX2) (T := TX2) (N := 14) B.1 B.2.1 B.2.2.2.2.1 (iC2 _) B.2.2.2.1 hK hP (P.length + 0) (by rw [kapp]; rfl) rfl 0 (by decide) (B.2.2.2.2.1 _ (List.mem_cons_of_mem _ wC_fRX2_9)) (fun _ h9 => h9) (v := .ref a7) rfl dX2_init_91 ?_
  refine z_iconst B.1 B.2.1 dX2_init_94 ?_
  refine z_iconst B.1 B.2.1 dX2_init_95 ?_
  refine va_iast (D := D) (cA := cy 1) (n := 96) (f := fun j => zI ((zu (fun _ => (0 : Int)) 0 5) j)) B.1 B.2.1 hK hP hD hS (P.length + 1) 1 (by rw [kapp]; rfl) rfl (zI_in (zr_of (by decide) (by decide)) (by decide) (by decide)) dX2_init_96 (fun H locs hP hD hS => ?_)
  rw [kset, show (zI 1).toNatClampNeg = 1 from rfl, zI_zu] at hP hD
  have hP : va_P D vwCl (P ++ [(o, .inr (2, [.ref a7, .ref a15, .ref a23, .ref a31, .ref a39, .int 0, .ref a47, .ref a55, .ref a63, .ref a71, .int 0, .int 0, .int 0, .int 0])), (a7, .inl (cy 1, 96, .inl (fun j => zI ((zu (zu (fun _ => (0 : Int)) 0 5) 1 0) j)))), (a15, .inl (cy 1, 96, .inl (fun j => zI ((zu (fun _ => (0 : Int)) 0 (-1)) j)))), (a23, .inl (cy 1, 96, .inl (fun _ => 0))), (a31, .inl (cy 2, 96, .inr (.inl (fun _ => 0)))), (a39, .inl (cy 2, 96, .inr (.inl (fun _ => 0)))), (a47, .inl (cy 1, 20, .inl (fun _ => 0))), (a55, .inl (cy 1, 20, .inl (fun _ => 0))), (a63, .inl (cy 1, 20, .inl (fun _ => 0))), (a71, .inl (cy 1, 20, .inl (fun _ => 0)))]) H := hP
  have hD : va_D A (P ++ [(o, .inr (2, [.ref a7, .ref a15, .ref a23, .ref a31, .ref a39, .int 0, .ref a47, .ref a55, .ref a63, .ref a71, .int 0, .int 0, .int 0, .int 0])), (a7, .inl (cy 1, 96, .inl (fun j => zI ((zu (zu (fun _ => (0 : Int)) 0 5) 1 0) j)))), (a15, .inl (cy 1, 96, .inl (fun j => zI ((zu (fun _ => (0 : Int)) 0 (-1)) j)))), (a23, .inl (cy 1, 96, .inl (fun _ => 0))), (a31, .inl (cy 2, 96, .inr (.inl (fun _ => 0)))), (a39, .inl (cy 2, 96, .inr (.inl (fun _ => 0)))), (a47, .inl (cy 1, 20, .inl (fun _ => 0))), (a55, .inl (cy 1, 20, .inl (fun _ => 0))), (a63, .inl (cy 1, 20, .inl (fun _ => 0))), (a71, .inl (cy 1, 20, .inl (fun _ => 0)))]) := hD
  refine lv_aload_n B.1 B.2.1 dX2_init_97 rfl (lv_at hl 0 rfl) ?_
  refine z_iconst B.1 B.2.1 dX2_init_98 ?_
  refine va_put (D := D) (ci := 2) (v := .int (zI 2)) (ty := .int) (C := RX2) (T := TX2) (N := 14) B.1 B.2.1 B.2.2.2.2.1 (iC2 _) tyX2 tyX2_ok nmX2 B.2.2.2.1 hK hP hD hS (P.length + 0) (by rw [kapp]; rfl) rfl 5 (by decide) (B.2.2.2.2.1 _ (List.mem_cons_of_mem _ wC_fRX2_40)) (fun _ h9 => h9) rfl (by decide +kernel) rfl rfl (Nat.le_of_ble_eq_true rfl) dX2_init_99 (fun H locs hP hD hS => ?_)
  rw [kset] at hP hD
  have hP : va_P D vwCl (P ++ [(o, .inr (2, [.ref a7, .ref a15, .ref a23, .ref a31, .ref a39, .int (zI 2), .ref a47, .ref a55, .ref a63, .ref a71, .int 0, .int 0, .int 0, .int 0])), (a7, .inl (cy 1, 96, .inl (fun j => zI ((zu (zu (fun _ => (0 : Int)) 0 5) 1 0) j)))), (a15, .inl (cy 1, 96, .inl (fun j => zI ((zu (fun _ => (0 : Int)) 0 (-1)) j)))), (a23, .inl (cy 1, 96, .inl (fun _ => 0))), (a31, .inl (cy 2, 96, .inr (.inl (fun _ => 0)))), (a39, .inl (cy 2, 96, .inr (.inl (fun _ => 0)))), (a47, .inl (cy 1, 20, .inl (fun _ => 0))), (a55, .inl (cy 1, 20, .inl (fun _ => 0))), (a63, .inl (cy 1, 20, .inl (fun _ => 0))), (a71, .inl (cy 1, 20, .inl (fun _ => 0)))]) H := hP
  have hD : va_D A (P ++ [(o, .inr (2, [.ref a7, .ref a15, .ref a23, .ref a31, .ref a39, .int (zI 2), .ref a47, .ref a55, .ref a63, .ref a71, .int 0, .int 0, .int 0, .int 0])), (a7, .inl (cy 1, 96, .inl (fun j => zI ((zu (zu (fun _ => (0 : Int)) 0 5) 1 0) j)))), (a15, .inl (cy 1, 96, .inl (fun j => zI ((zu (fun _ => (0 : Int)) 0 (-1)) j)))), (a23, .inl (cy 1, 96, .inl (fun _ => 0))), (a31, .inl (cy 2, 96, .inr (.inl (fun _ => 0)))), (a39, .inl (cy 2, 96, .inr (.inl (fun _ => 0)))), (a47, .inl (cy 1, 20, .inl (fun _ => 0))), (a55, .inl (cy 1, 20, .inl (fun _ => 0))), (a63, .inl (cy 1, 20, .inl (fun _ => 0))), (a71, .inl (cy 1, 20, .inl (fun _ => 0)))]) := hD
  refine W.widen (k := 9) (n := 560) (Nat.le_of_ble_eq_true rfl) (Nat.le_of_ble_eq_true rfl) ?_
  obtain ⟨q, hq⟩ : ∃ q : Nat → Nat, q = (fun k => if k = 0 then a7 else if k = 1 then a15 else if k = 2 then a23 else if k = 3 then a31 else if k = 4 then a39 else if k = 5 then a47 else if k = 6 then a55 else if k = 7 then a63 else if k = 8 then a71 else 0) := ⟨_, rfl⟩
  have eW : P ++ [(o, .inr (2, [.ref a7, .ref a15, .ref a23, .ref a31, .ref a39, .int (zI 2), .ref a47, .ref a55, .ref a63, .ref a71, .int 0, .int 0, .int 0, .int 0])), (a7, .inl (cy 1, 96, .inl (fun j => zI ((zu (zu (fun _ => (0 : Int)) 0 5) 1 0) j)))), (a15, .inl (cy 1, 96, .inl (fun j => zI ((zu (fun _ => (0 : Int)) 0 (-1)) j)))), (a23, .inl (cy 1, 96, .inl (fun _ => 0))), (a31, .inl (cy 2, 96, .inr (.inl (fun _ => 0)))), (a39, .inl (cy 2, 96, .inr (.inl (fun _ => 0)))), (a47, .inl (cy 1, 20, .inl (fun _ => 0))), (a55, .inl (cy 1, 20, .inl (fun _ => 0))), (a63, .inl (cy 1, 20, .inl (fun _ => 0))), (a71, .inl (cy 1, 20, .inl (fun _ => 0)))] = P ++ [(o, .inr (2, [.ref (q 0), .ref (q 1), .ref (q 2), .ref (q 3), .ref (q 4), .int (zI 2), .ref (q 5), .ref (q 6), .ref (q 7), .ref (q 8), .int 0, .int 0, .int 0, .int 0])), ((q 0), .inl (cy 1, 96, .inl (fun j => zI ((zu (zu (fun _ => (0 : Int)) 0 5) 1 0) j)))), ((q 1), .inl (cy 1, 96, .inl (fun j => zI ((zu (fun _ => (0 : Int)) 0 (-1)) j)))), ((q 2), .inl (cy 1, 96, .inl (fun _ => 0))), ((q 3), .inl (cy 2, 96, .inr (.inl (fun _ => 0)))), ((q 4), .inl (cy 2, 96, .inr (.inl (fun _ => 0)))), ((q 5), .inl (cy 1, 20, .inl (fun _ => 0))), ((q 6), .inl (cy 1, 20, .inl (fun _ => 0))), ((q 7), .inl (cy 1, 20, .inl (fun _ => 0))), ((q 8), .inl (cy 1, 20, .inl (fun _ => 0)))] := by rw [hq]; rfl
  rw [eW] at hP hD
  exact W.vret B.1 B.2.1 B.2.2.2.2.2.1 (fun t ht _ => ⟨⟨q, rfl, trivial, by rw [ht]; exact hP, hD⟩, hS.F ht⟩) hS.2.2 dX2_init_102 hlocks

set_option maxHeartbeats 2000000 in
set_option maxRecDepth 100000 in
theorem cX4_init_ok (l : Launch) (D : va_G) (cy : Nat → ClassId) (P : va_W) (o sz : Nat) (n9 : Nat) (hn9 : n9 ≤ 1000) : Met l yX4_init (.code yX4_init cX4_init 2 none :: TBC) { frames := 1, cells := 1, slots := n9, locals := 30 } (va_Pc [.ref o, .int (zI ((n9 : Nat) : Int))] (fun U => U.heap.size = sz ∧ va_P D vwCl (P ++ [(o, .inr (4, [.null, .int 0]))]) U.heap ∧ va_K D vwCl (zTY cy) U ∧ va_D (fun _ => True) (P ++ [(o, .inr (4, [.null, .int 0]))]))) (va_Qv (S := Nat → Nat) (fun _ => True) (fun q t => va_P D vwCl (P ++ [(o, .inr (4, [.ref (q 0), .int (zI 0)])), ((q 0), .inl (cy 0, n9, .inl (fun _ => 0)))]) t.heap ∧ va_D (va_A (P ++ [(o, .inr (4, [.null, .int 0]))]) sz) (P ++ [(o, .inr (4, [.ref (q 0), .int (zI 0)])), ((q 0), .inl (cy 0, n9, .inl (fun _ => 0)))])) (va_A (P ++ [(o, .inr (4, [.null, .int 0]))]) sz)) 1 (n9) (va_A (P ++ [(o, .inr (4, [.null, .int 0]))]) sz) := by
  refine Met.ofW (cc := cX4_init) (maxL := 2) (ret := none) (by decide) rfl ?_
  intro p e s m args below meth c s₁ B0 hml hv
  obtain ⟨rfl, hsz, hP, hK, hD0⟩ := hv
  have hlocks := B0.notSynchronized
  have hin : meth.name = "<init>" := (name_of_methodNamed B0.named B0.method).1
  have B : zAt p s m ([.ref o, .int (zI ((n9 : Nat) : Int))] : List Value).toArray meth c RX4 cX4_init 2 none (.code yX4_init cX4_init 2 none :: TBC) := ⟨B0.exec, B0.bytes, hml, findClass_of_methodNamed B0.named, atoms_spec (ws := (.code yX4_init cX4_init 2 none :: TBC)) B0.pre, B0.returns, B0.notSynchronized⟩
  subst hsz
  have hD := hD0.self (sz := s.heap.size)
  generalize hAe : va_A (P ++ [(o, .inr (4, [.null, .int 0]))]) s.heap.size = A at hD ⊢
  have hA : ∀ q : Nat, s.heap.size ≤ q → A q := fun q h => by rw [← hAe]; exact Or.inr h
  have hS : va_S A s.heap s.heap [] := va_S.rf
  have hl := lv_entry ([.ref o, .int (zI ((n9 : Nat) : Int))]) (n := 2) (Nat.le_of_ble_eq_true rfl)
  rw [lg_entry_eq]
  generalize (lg_sl ([.ref o, .int (zI ((n9 : Nat) : Int))]) ++ List.replicate (2 - (lg_sl ([.ref o, .int (zI ((n9 : Nat) : Int))])).length) Slot.unset).toArray = ls at hl ⊢
  have hl : lv_has ls 2 [(0, .ref o), (1, .int (zI ((n9 : Nat) : Int)))] := hl
  refine lv_aload_n B.1 B.2.1 dX4_init_0 rfl (lv_at hl 0 rfl) ?_
  refine W.objInit B.1 B.2.1 B.2.2.2.1 (B.2.2.2.2.1 _ (List.mem_cons_of_mem _ wC_mRX4_3)) (B.2.2.2.2.1 _ (List.mem_cons_of_mem _ wC_im_objectInit)) (B.2.2.2.2.1 _ (List.mem_cons_of_mem _ wC_cd_objectInit)) rfl (by rw [hml]; exact hl.1) rfl dX4_init_1 (Nat.le_of_ble_eq_true rfl) (Nat.le_of_ble_eq_true rfl) ?_
  refine W.eq (g2 := F0 m 4 ls []) rfl ?_
  refine lv_aload_n B.1 B.2.1 dX4_init_4 rfl (lv_at hl 0 rfl) ?_
  refine lv_iload_n B.1 B.2.1 dX4_init_5 rfl (lv_at hl 1 rfl) ?_
  refine z_iconst B.1 B.2.1 dX4_init_6 ?_
  refine z_mmax (x := n9) (y := 0) B (List.mem_cons_of_mem _ wC_mRX4_9) (List.mem_cons_of_mem _ wC_st_Lib_Math_max_name) (List.mem_cons_of_mem _ wC_in__java_lang_Math_) (List.mem_cons_of_mem _ wC_cd_Lib_Math_max_name) hl.1 (zr_of (by omega) (by omega)) (zr_of (by decide) (by decide)) (Nat.le_of_ble_eq_true rfl) (Nat.le_of_ble_eq_true rfl) ⟨Nat.zero_le _, Nat.zero_le _⟩ dX4_init_7 ?_
  rw [if_neg (show ¬ (n9 : Int) < 0 by omega)]
  rw [show n9 = ((n9 : Nat) : Int) from rfl]
  refine z_newc B (List.mem_cons_of_mem _ wC_ac__char) hK hP hD hS hA n9 (by omega) (Nat.le_of_ble_eq_true rfl) (by show _ ≤ n9; omega) dX4_init_10 (fun a10 H hP hD hS => ?_)
  rw [List.append_assoc] at hP hD
  have hP : va_P D vwCl (P ++ [(o, .inr (4, [.null, .int 0])), (a10, .inl (cy 0, n9, .inl (fun _ => 0)))]) H := hP
  have hD : va_D A (P ++ [(o, .inr (4, [.null, .int 0])), (a10, .inl (cy 0, n9, .inl (fun _ => 0)))]) := hD
  refine va_putF (D := D) (ci := 4) (v := .ref a10) (ty := (.array .char)) (C := RX4) (T := TX4) (N := 2) B.1 B.2.1 B.2.2.2.2.1 (iC4 _) tyX4 tyX4_ok nmX4 B.2.2.2.1 hK hP hD hS (P.length + 0) (by rw [kapp]; rfl) rfl 0 (by decide) (B.2.2.2.2.1 _ (List.mem_cons_of_mem _ wC_fRX4_15)) (fun _ h9 => h9) rfl hin rfl (by decide +kernel) rfl rfl (Nat.le_of_ble_eq_true rfl) dX4_init_12 (fun H locs hP hD hS => ?_)
  rw [kset] at hP hD
  have hP : va_P D vwCl (P ++ [(o, .inr (4, [.ref a10, .int 0])), (a10, .inl (cy 0, n9, .inl (fun _ => 0)))]) H := hP
  have hD : va_D A (P ++ [(o, .inr (4, [.ref a10, .int 0])), (a10, .inl (cy 0, n9, .inl (fun _ => 0)))]) := hD
  refine lv_aload_n B.1 B.2.1 dX4_init_15 rfl (lv_at hl 0 rfl) ?_
  refine z_iconst B.1 B.2.1 dX4_init_16 ?_
  refine va_put (D := D) (ci := 4) (v := .int (zI 0)) (ty := .int) (C := RX4) (T := TX4) (N := 2) B.1 B.2.1 B.2.2.2.2.1 (iC4 _) tyX4 tyX4_ok nmX4 B.2.2.2.1 hK hP hD hS (P.length + 0) (by rw [kapp]; rfl) rfl 1 (by decide) (B.2.2.2.2.1 _ (List.mem_cons_of_mem _ wC_fRX4_21)) (fun _ h9 => h9) rfl (by decide +kernel) rfl rfl (Nat.le_of_ble_eq_true rfl) dX4_init_17 (fun H locs hP hD hS => ?_)
  rw [kset] at hP hD
  have hP : va_P D vwCl (P ++ [(o, .inr (4, [.ref a10, .int (zI 0)])), (a10, .inl (cy 0, n9, .inl (fun _ => 0)))]) H := hP
  have hD : va_D A (P ++ [(o, .inr (4, [.ref a10, .int (zI 0)])), (a10, .inl (cy 0, n9, .inl (fun _ => 0)))]) := hD
  refine W.widen (k := 1) (n := n9) (Nat.le_of_ble_eq_true rfl) (by omega) ?_
  obtain ⟨q, hq⟩ : ∃ q : Nat → Nat, q = (fun k => if k = 0 then a10 else 0) := ⟨_, rfl⟩
  have eW : P ++ [(o, .inr (4, [.ref a10, .int (zI 0)])), (a10, .inl (cy 0, n9, .inl (fun _ => 0)))] = P ++ [(o, .inr (4, [.ref (q 0), .int (zI 0)])), ((q 0), .inl (cy 0, n9, .inl (fun _ => 0)))] := by rw [hq]; rfl
  rw [eW] at hP hD
  exact W.vret B.1 B.2.1 B.2.2.2.2.2.1 (fun t ht _ => ⟨⟨q, rfl, trivial, by rw [ht]; exact hP, hD⟩, hS.F ht⟩) hS.2.2 dX4_init_20 hlocks

set_option maxHeartbeats 2000000 in
set_option maxRecDepth 100000 in
theorem cX3_init_ok (l : Launch) (D : va_G) (cy : Nat → ClassId) (P : va_W) (o sz : Nat) (u9 w9 : Nat) : Met l yX3_init (.code yX3_init cX3_init 3 none :: TBC) { frames := 2, cells := 1, slots := 2, locals := 40 } (va_Pc [.ref o, .ref u9, .ref w9] (fun U => U.heap.size = sz ∧ va_P D vwCl (P ++ [(o, .inr (3, [.null, .null, .null, .int 0, .int 0, .int 0, .int 0, .int 0]))]) U.heap ∧ va_K D vwCl (zTY cy) U ∧ va_D (fun _ => True) (P ++ [(o, .inr (3, [.null, .null, .null, .int 0, .int 0, .int 0, .int 0, .int 0]))]) ∧ nsW U)) (va_Qv (S := Nat → Nat) (fun _ => True) (fun q t => va_P D vwCl (P ++ [(o, .inr (3, [.ref u9, .ref (q 0), .ref w9, .int 0, .int 0, .int 0, .int 0, .int 0])), ((q 0), .inr (5, [.long 0, .long 0]))]) t.heap ∧ va_D (va_A (P ++ [(o, .inr (3, [.null, .null, .null, .int 0, .int 0, .int 0, .int 0, .int 0]))]) sz) (P ++ [(o, .inr (3, [.ref u9, .ref (q 0), .ref w9, .int 0, .int 0, .int 0, .int 0, .int 0])), ((q 0), .inr (5, [.long 0, .long 0]))])) (va_A (P ++ [(o, .inr (3, [.null, .null, .null, .int 0, .int 0, .int 0, .int 0, .int 0]))]) sz)) 1 (2) (va_A (P ++ [(o, .inr (3, [.null, .null, .null, .int 0, .int 0, .int 0, .int 0, .int 0]))]) sz) := by
  refine Met.ofW (cc := cX3_init) (maxL := 3) (ret := none) (by decide) rfl ?_
  intro p e s m args below meth c s₁ B0 hml hv
  obtain ⟨rfl, hsz, hP, hK, hD0, hN⟩ := hv
  have hlocks := B0.notSynchronized
  have hin : meth.name = "<init>" := (name_of_methodNamed B0.named B0.method).1
  have B : zAt p s m ([.ref o, .ref u9, .ref w9] : List Value).toArray meth c RX3 cX3_init 3 none (.code yX3_init cX3_init 3 none :: TBC) := ⟨B0.exec, B0.bytes, hml, findClass_of_methodNamed B0.named, atoms_spec (ws := (.code yX3_init cX3_init 3 none :: TBC)) B0.pre, B0.returns, B0.notSynchronized⟩
  subst hsz
  have hD := hD0.self (sz := s.heap.size)
  generalize hAe : va_A (P ++ [(o, .inr (3, [.null, .null, .null, .int 0, .int 0, .int 0, .int 0, .int 0]))]) s.heap.size = A at hD ⊢
  have hA : ∀ q : Nat, s.heap.size ≤ q → A q := fun q h => by rw [← hAe]; exact Or.inr h
  have hS : va_S A s.heap s.heap [] := va_S.rf
  have hl := lv_entry ([.ref o, .ref u9, .ref w9]) (n := 3) (Nat.le_of_ble_eq_true rfl)
  rw [lg_entry_eq]
  generalize (lg_sl ([.ref o, .ref u9, .ref w9]) ++ List.replicate (3 - (lg_sl ([.ref o, .ref u9, .ref w9])).length) Slot.unset).toArray = ls at hl ⊢
  have hl : lv_has ls 3 [(0, .ref o), (1, .ref u9), (2, .ref w9)] := hl
  refine lv_aload_n B.1 B.2.1 dX3_init_0 rfl (lv_at hl 0 rfl) ?_
  refine W.objInit B.1 B.2.1 B.2.2.2.1 (B.2.2.2.2.1 _ (List.mem_cons_of_mem _ wC_mRX3_3)) (B.2.2.2.2.1 _ (List.mem_cons_of_mem _ wC_im_objectInit)) (B.2.2.2.2.1 _ (List.mem_cons_of_mem _ wC_cd_objectInit)) rfl (by rw [hml]; exact hl.1) rfl dX3_init_1 (Nat.le_of_ble_eq_true rfl) (Nat.le_of_ble_eq_true rfl) ?_
  refine W.eq (g2 := F0 m 4 ls []) rfl ?_
  refine lv_aload_n B.1 B.2.1 dX3_init_4 rfl (lv_at hl 0 rfl) ?_
  refine va_new (D := D) (ci := 5) (fs := [.long 0, .long 0]) (C := RX5) (T := TX5) (N := 2) B.1 B.2.1 B.2.2.2.2.1 (iC5 _) tyX5 tyX5_ok B.2.2.2.1 (B.2.2.2.2.1 _ (List.mem_cons_of_mem _ wC_cRX3_9)) (B.2.2.2.2.1 _ (List.mem_cons_of_mem _ wC_it_RX5)) (B.2.2.2.2.1 _ (List.mem_cons_of_mem _ wC_in_RX5)) hK hP hD hS hA rfl (fun j hj => by rcases (show j = 0 ∨ j = 1 by omega) with rfl | rfl <;> rfl) (Nat.le_of_ble_eq_true rfl) (Nat.le_of_ble_eq_true rfl) dX3_init_5 (fun b5 H hP hD hS => ?_)
  rw [List.append_assoc] at hP hD
  have hP : va_P D vwCl (P ++ [(o, .inr (3, [.null, .null, .null, .int 0, .int 0, .int 0, .int 0, .int 0])), (b5, .inr (5, [.long 0, .long 0]))]) H := hP
  have hD : va_D A (P ++ [(o, .inr (3, [.null, .null, .null, .int 0, .int 0, .int 0, .int 0, .int 0])), (b5, .inr (5, [.long 0, .long 0]))]) := hD
  refine lv_dup B.1 B.2.1 dX3_init_8 rfl ?_
  rw [show P ++ [(o, .inr (3, [.null, .null, .null, .int 0, .int 0, .int 0, .int 0, .int 0])), (b5, .inr (5, [.long 0, .long 0]))] = (P ++ [(o, .inr (3, [.null, .null, .null, .int 0, .int 0, .int 0, .int 0, .int 0]))]) ++ [(b5, .inr (5, [.long 0, .long 0]))] from by rw [List.append_assoc]; rfl] at hP hD
  have hFc : ∀ z, va_A ((P ++ [(o, .inr (3, [.null, .null, .null, .int 0, .int 0, .int 0, .int 0, .int 0]))]) ++ [(b5, .inr (5, [.long 0, .long 0]))]) H.size z → A z := fun z hz => hz.elim (fun ⟨k9, e9, h9⟩ => hD.2 k9 _ h9) (fun h9 => hA z (Nat.le_trans hS.1 h9))
  refine va_callv (va_runIN (As := []) (rest := [.ref b5, .ref o]) (b := b5) (g := F0 m 9 ls _) ⟨B.1, B.2.1, B.2.2.1, B.2.2.2.1, B.2.2.2.2.1⟩ (cX5_init_ok l D cy (P ++ [(o, .inr (3, [.null, .null, .null, .int 0, .int 0, .int 0, .int 0, .int 0]))]) b5 H.size ) ⟨va_cnB 0 B.2.2.2.2.1 (gdIC _ wC_cd_yX5_init) rfl rfl rfl hN.1 (B.2.2.2.2.1 _ (List.mem_cons_of_mem _ wC_in_RX5)) (by decide +kernel) ⟨Nat.le_of_ble_eq_true rfl, Nat.le_of_ble_eq_true rfl⟩, rfl, B.2.2.2.2.1 _ (List.mem_cons_of_mem _ wC_im_yX5_init)⟩ ⟨fun a9 U g mk h9 => by obtain ⟨q0, q1, qP, qK, qD⟩ := h9; exact ⟨q0, q1, qP, va_K.moved (u := U) (U := U.calling g mk a9) (Vm.Alike.refl U.vm) qK, qD⟩, fun U hU hW => ⟨rfl, by rw [hU], by rw [hU]; exact hP, va_K.moved hW.alike hK, hD.weaken (fun _ _ _ _ => trivial)⟩⟩ rfl rfl hl.1 rfl (lv_room (Nat.le_of_ble_eq_true rfl)) dX3_init_9 ⟨(Nat.le_of_ble_eq_true rfl), (Nat.le_of_ble_eq_true rfl)⟩) hS (fun z _ h => hFc z h) hFc (fun q9 t H locs ht hvm hw hB hz1 hk1 hS => ?_)
  obtain ⟨hP, hD2⟩ := hB
  rw [ht] at hP
  have hD := va_D.weaken hD2 (fun _ _ _ h9 => hFc _ h9)
  rw [List.append_assoc] at hP hD
  have hP : va_P D vwCl (P ++ [(o, .inr (3, [.null, .null, .null, .int 0, .int 0, .int 0, .int 0, .int 0])), (b5, .inr (5, [.long 0, .long 0]))]) H := hP
  have hD : va_D A (P ++ [(o, .inr (3, [.null, .null, .null, .int 0, .int 0, .int 0, .int 0, .int 0])), (b5, .inr (5, [.long 0, .long 0]))]) := hD
  refine va_putF (D := D) (ci := 3) (v := .ref b5) (ty := (.object "PatternRunner$SignSet")) (C := RX3) (T := TX3) (N := 8) B.1 B.2.1 B.2.2.2.2.1 (iC3 _) tyX3 tyX3_ok nmX3 B.2.2.2.1 hK hP hD hS (P.length + 0) (by rw [kapp]; rfl) rfl 1 (by decide) (B.2.2.2.2.1 _ (List.mem_cons_of_mem _ wC_fRX3_12)) (fun _ h9 => h9) rfl hin rfl (by decide +kernel) rfl rfl (Nat.le_of_ble_eq_true rfl) dX3_init_12 (fun H locs hP hD hS => ?_)
  rw [kset] at hP hD
  have hP : va_P D vwCl (P ++ [(o, .inr (3, [.null, .ref b5, .null, .int 0, .int 0, .int 0, .int 0, .int 0])), (b5, .inr (5, [.long 0, .long 0]))]) H := hP
  have hD : va_D A (P ++ [(o, .inr (3, [.null, .ref b5, .null, .int 0, .int 0, .int 0, .int 0, .int 0])), (b5, .inr (5, [.long 0, .long 0]))]) := hD
  refine lv_aload_n B.1 B.2.1 dX3_init_15 rfl (lv_at hl 0 rfl) ?_
  refine lv_aload_n B.1 B.2.1 dX3_init_16 rfl (lv_at hl 1 rfl) ?_
  refine va_putF (D := D) (ci := 3) (v := .ref u9) (ty := (.object "PatternRunner$SignRow")) (C := RX3) (T := TX3) (N := 8) B.1 B.2.1 B.2.2.2.2.1 (iC3 _) tyX3 tyX3_ok nmX3 B.2.2.2.1 hK hP hD hS (P.length + 0) (by rw [kapp]; rfl) rfl 0 (by decide) (B.2.2.2.2.1 _ (List.mem_cons_of_mem _ wC_fRX3_18)) (fun _ h9 => h9) rfl hin rfl (by decide +kernel) rfl rfl (Nat.le_of_ble_eq_true rfl) dX3_init_17 (fun H locs hP hD hS => ?_)
  rw [kset] at hP hD
  have hP : va_P D vwCl (P ++ [(o, .inr (3, [.ref u9, .ref b5, .null, .int 0, .int 0, .int 0, .int 0, .int 0])), (b5, .inr (5, [.long 0, .long 0]))]) H := hP
  have hD : va_D A (P ++ [(o, .inr (3, [.ref u9, .ref b5, .null, .int 0, .int 0, .int 0, .int 0, .int 0])), (b5, .inr (5, [.long 0, .long 0]))]) := hD
  refine lv_aload_n B.1 B.2.1 dX3_init_20 rfl (lv_at hl 0 rfl) ?_
  refine lv_aload_n B.1 B.2.1 dX3_init_21 rfl (lv_at hl 2 rfl) ?_
  refine va_put (D := D) (ci := 3) (v := .ref w9) (ty := (.object "PatternRunner$Program")) (C := RX3) (T := TX3) (N := 8) B.1 B.2.1 B.2.2.2.2.1 (iC3 _) tyX3 tyX3_ok nmX3 B.2.2.2.1 hK hP hD hS (P.length + 0) (by rw [kapp]; rfl) rfl 2 (by decide) (B.2.2.2.2.1 _ (List.mem_cons_of_mem _ wC_fRX3_22)) (fun _ h9 => h9) rfl (by decide +kernel) rfl rfl (Nat.le_of_ble_eq_true rfl) dX3_init_22 (fun H locs hP hD hS => ?_)
  rw [kset] at hP hD
  have hP : va_P D vwCl (P ++ [(o, .inr (3, [.ref u9, .ref b5, .ref w9, .int 0, .int 0, .int 0, .int 0, .int 0])), (b5, .inr (5, [.long 0, .long 0]))]) H := hP
  have hD : va_D A (P ++ [(o, .inr (3, [.ref u9, .ref b5, .ref w9, .int 0, .int 0, .int 0, .int 0, .int 0])), (b5, .inr (5, [.long 0, .long 0]))]) := hD
  refine W.widen (k := 1) (n := 2) (Nat.le_of_ble_eq_true rfl) (Nat.le_of_ble_eq_true rfl) ?_
  obtain ⟨q, hq⟩ : ∃ q : Nat → Nat, q = (fun k => if k = 0 then b5 else 0) := ⟨_, rfl⟩
  have eW : P ++ [(o, .inr (3, [.ref u9, .ref b5, .ref w9, .int 0, .int 0, .int 0, .int 0, .int 0])), (b5, .inr (5, [.long 0, .long 0]))] = P ++ [(o, .inr (3, [.ref u9, .ref (q 0), .ref w9, .int 0, .int 0, .int 0, .int 0, .int 0])), ((q 0), .inr (5, [.long 0, .long 0]))] := by rw [hq]; rfl
  rw [eW] at hP hD
  exact W.vret B.1 B.2.1 B.2.2.2.2.2.1 (fun t ht _ => ⟨⟨q, rfl, trivial, by rw [ht]; exact hP, hD⟩, hS.F ht⟩) hS.2.2 dX3_init_25 hlocks

set_option maxHeartbeats 2000000 in
set_option maxRecDepth 100000 in
theorem cX0_init_ok (l : Launch) (D : va_G) (cy : Nat → ClassId) (P : va_W) (o sz : Nat) (u9 w9 : Nat) : Met l yX0_init (.code yX0_init cX0_init 3 none :: TBC) { frames := 2, cells := 4, slots := 800, locals := 40 } (va_Pc [.ref o, .ref u9, .ref w9] (fun U => U.heap.size = sz ∧ va_P D vwCl (P ++ [(o, .inr (0, [.null, .null, .null, .int 0, .int 0]))]) U.heap ∧ va_K D vwCl (zTY cy) U ∧ va_D (fun _ => True) (P ++ [(o, .inr (0, [.null, .null, .null, .int 0, .int 0]))]) ∧ nsW U)) (va_Qv (S := Nat → Nat) (fun _ => True) (fun q t => va_P D vwCl (P ++ [(o, .inr (0, [.ref u9, .ref (q 0), .ref w9, .int 0, .int 0])), ((q 0), .inr (1, [.ref (q 1), .ref (q 2), .ref (q 3), .int 0, .int 0, .int 0])), ((q 1), .inl (cy 1, 90, .inl (fun _ => 0))), ((q 2), .inl (cy 1, 192, .inl (fun _ => 0))), ((q 3), .inl (cy 1, 512, .inl (fun _ => 0)))]) t.heap ∧ va_D (va_A (P ++ [(o, .inr (0, [.null, .null, .null, .int 0, .int 0]))]) sz) (P ++ [(o, .inr (0, [.ref u9, .ref (q 0), .ref w9, .int 0, .int 0])), ((q 0), .inr (1, [.ref (q 1), .ref (q 2), .ref (q 3), .int 0, .int 0, .int 0])), ((q 1), .inl (cy 1, 90, .inl (fun _ => 0))), ((q 2), .inl (cy 1, 192, .inl (fun _ => 0))), ((q 3), .inl (cy 1, 512, .inl (fun _ => 0)))])) (va_A (P ++ [(o, .inr (0, [.null, .null, .null, .int 0, .int 0]))]) sz)) 4 (800) (va_A (P ++ [(o, .inr (0, [.null, .null, .null, .int 0, .int 0]))]) sz) := by
  refine Met.ofW (cc := cX0_init) (maxL := 3) (ret := none) (by decide) rfl ?_
  intro p e s m args below meth c s₁ B0 hml hv
  obtain ⟨rfl, hsz, hP, hK, hD0, hN⟩ := hv
  have hlocks := B0.notSynchronized
  have hin : meth.name = "<init>" := (name_of_methodNamed B0.named B0.method).1
  have B : zAt p s m ([.ref o, .ref u9, .ref w9] : List Value).toArray meth c RX0 cX0_init 3 none (.code yX0_init cX0_init 3 none :: TBC) := ⟨B0.exec, B0.bytes, hml, findClass_of_methodNamed B0.named, atoms_spec (ws := (.code yX0_init cX0_init 3 none :: TBC)) B0.pre, B0.returns, B0.notSynchronized⟩
  subst hsz
  have hD := hD0.self (sz := s.heap.size)
  generalize hAe : va_A (P ++ [(o, .inr (0, [.null, .null, .null, .int 0, .int 0]))]) s.heap.size = A at hD ⊢
  have hA : ∀ q : Nat, s.heap.size ≤ q → A q := fun q h => by rw [← hAe]; exact Or.inr h
  have hS : va_S A s.heap s.heap [] := va_S.rf
  have hl := lv_entry ([.ref o, .ref u9, .ref w9]) (n := 3) (Nat.le_of_ble_eq_true rfl)
  rw [lg_entry_eq]
  generalize (lg_sl ([.ref o, .ref u9, .ref w9]) ++ List.replicate (3 - (lg_sl ([.ref o, .ref u9, .ref w9])).length) Slot.unset).toArray = ls at hl ⊢
  have hl : lv_has ls 3 [(0, .ref o), (1, .ref u9), (2, .ref w9)] := hl
  refine lv_aload_n B.1 B.2.1 dX0_init_0 rfl (lv_at hl 0 rfl) ?_
  refine W.objInit B.1 B.2.1 B.2.2.2.1 (B.2.2.2.2.1 _ (List.mem_cons_of_mem _ wC_mRX0_3)) (B.2.2.2.2.1 _ (List.mem_cons_of_mem _ wC_im_objectInit)) (B.2.2.2.2.1 _ (List.mem_cons_of_mem _ wC_cd_objectInit)) rfl (by rw [hml]; exact hl.1) rfl dX0_init_1 (Nat.le_of_ble_eq_true rfl) (Nat.le_of_ble_eq_true rfl) ?_
  refine W.eq (g2 := F0 m 4 ls []) rfl ?_
  refine lv_aload_n B.1 B.2.1 dX0_init_4 rfl (lv_at hl 0 rfl) ?_
  refine va_new (D := D) (ci := 1) (fs := [.null, .null, .null, .int 0, .int 0, .int 0]) (C := RX1) (T := TX1) (N := 6) B.1 B.2.1 B.2.2.2.2.1 (iC1 _) tyX1 tyX1_ok B.2.2.2.1 (B.2.2.2.2.1 _ (List.mem_cons_of_mem _ wC_cRX0_9)) (B.2.2.2.2.1 _ (List.mem_cons_of_mem _ wC_it_RX1)) (B.2.2.2.2.1 _ (List.mem_cons_of_mem _ wC_in_RX1)) hK hP hD hS hA rfl (fun j hj => by rcases (show j = 0 ∨ j = 1 ∨ j = 2 ∨ j = 3 ∨ j = 4 ∨ j = 5 by omega) with rfl | rfl | rfl | rfl | rfl | rfl <;> rfl) (Nat.le_of_ble_eq_true rfl) (Nat.le_of_ble_eq_true rfl) dX0_init_5 (fun b5 H hP hD hS => ?_)
  rw [List.append_assoc] at hP hD
  have hP : va_P D vwCl (P ++ [(o, .inr (0, [.null, .null, .null, .int 0, .int 0])), (b5, .inr (1, [.null, .null, .null, .int 0, .int 0, .int 0]))]) H := hP
  have hD : va_D A (P ++ [(o, .inr (0, [.null, .null, .null, .int 0, .int 0])), (b5, .inr (1, [.null, .null, .null, .int 0, .int 0, .int 0]))]) := hD
  refine lv_dup B.1 B.2.1 dX0_init_8 rfl ?_
  rw [show P ++ [(o, .inr (0, [.null, .null, .null, .int 0, .int 0])), (b5, .inr (1, [.null, .null, .null, .int 0, .int 0, .int 0]))] = (P ++ [(o, .inr (0, [.null, .null, .null, .int 0, .int 0]))]) ++ [(b5, .inr (1, [.null, .null, .null, .int 0, .int 0, .int 0]))] from by rw [List.append_assoc]; rfl] at hP hD
  have hFc : ∀ z, va_A ((P ++ [(o, .inr (0, [.null, .null, .null, .int 0, .int 0]))]) ++ [(b5, .inr (1, [.null, .null, .null, .int 0, .int 0, .int 0]))]) H.size z → A z := fun z hz => hz.elim (fun ⟨k9, e9, h9⟩ => hD.2 k9 _ h9) (fun h9 => hA z (Nat.le_trans hS.1 h9))
  refine va_callv (va_runIN (As := []) (rest := [.ref b5, .ref o]) (b := b5) (g := F0 m 9 ls _) ⟨B.1, B.2.1, B.2.2.1, B.2.2.2.1, B.2.2.2.2.1⟩ (cX1_init_ok l D cy (P ++ [(o, .inr (0, [.null, .null, .null, .int 0, .int 0]))]) b5 H.size ) ⟨va_cnB 0 B.2.2.2.2.1 (gdIC _ wC_cd_yX1_init) rfl rfl rfl hN.2 (B.2.2.2.2.1 _ (List.mem_cons_of_mem _ wC_in_RX1)) (by decide +kernel) ⟨Nat.le_of_ble_eq_true rfl, Nat.le_of_ble_eq_true rfl⟩, rfl, B.2.2.2.2.1 _ (List.mem_cons_of_mem _ wC_im_yX1_init)⟩ ⟨fun a9 U g mk h9 => by obtain ⟨q0, q1, qP, qK, qD⟩ := h9; exact ⟨q0, q1, qP, va_K.moved (u := U) (U := U.calling g mk a9) (Vm.Alike.refl U.vm) qK, qD⟩, fun U hU hW => ⟨rfl, by rw [hU], by rw [hU]; exact hP, va_K.moved hW.alike hK, hD.weaken (fun _ _ _ _ => trivial)⟩⟩ rfl rfl hl.1 rfl (lv_room (Nat.le_of_ble_eq_true rfl)) dX0_init_9 ⟨(Nat.le_of_ble_eq_true rfl), (Nat.le_of_ble_eq_true rfl)⟩) hS (fun z _ h => hFc z h) hFc (fun q9 t H locs ht hvm hw hB hz1 hk1 hS => ?_)
  obtain ⟨hP, hD2⟩ := hB
  rw [ht] at hP
  have hD := va_D.weaken hD2 (fun _ _ _ h9 => hFc _ h9)
  rw [List.append_assoc] at hP hD
  have hP : va_P D vwCl (P ++ [(o, .inr (0, [.null, .null, .null, .int 0, .int 0])), (b5, .inr (1, [.ref (q9 0), .ref (q9 1), .ref (q9 2), .int 0, .int 0, .int 0])), ((q9 0), .inl (cy 1, 90, .inl (fun _ => 0))), ((q9 1), .inl (cy 1, 192, .inl (fun _ => 0))), ((q9 2), .inl (cy 1, 512, .inl (fun _ => 0)))]) H := hP
  have hD : va_D A (P ++ [(o, .inr (0, [.null, .null, .null, .int 0, .int 0])), (b5, .inr (1, [.ref (q9 0), .ref (q9 1), .ref (q9 2), .int 0, .int 0, .int 0])), ((q9 0), .inl (cy 1, 90, .inl (fun _ => 0))), ((q9 1), .inl (cy 1, 192, .inl (fun _ => 0))), ((q9 2), .inl (cy 1, 512, .inl (fun _ => 0)))]) := hD
  refine va_putF (D := D) (ci := 0) (v := .ref b5) (ty := (.object "PatternRunner$Past")) (C := RX0) (T := TX0) (N := 5) B.1 B.2.1 B.2.2.2.2.1 (iC0 _) tyX0 tyX0_ok nmX0 B.2.2.2.1 hK hP hD hS (P.length + 0) (by rw [kapp]; rfl) rfl 1 (by decide) (B.2.2.2.2.1 _ (List.mem_cons_of_mem _ wC_fRX0_12)) (fun _ h9 => h9) rfl hin rfl (by decide +kernel) rfl rfl (Nat.le_of_ble_eq_true rfl) dX0_init_12 (fun H locs hP hD hS => ?_)
  rw [kset] at hP hD
  have hP : va_P D vwCl (P ++ [(o, .inr (0, [.null, .ref b5, .null, .int 0, .int 0])), (b5, .inr (1, [.ref (q9 0), .ref (q9 1), .ref (q9 2), .int 0, .int 0, .int 0])), ((q9 0), .inl (cy 1, 90, .inl (fun _ => 0))), ((q9 1), .inl (cy 1, 192, .inl (fun _ => 0))), ((q9 2), .inl (cy 1, 512, .inl (fun _ => 0)))]) H := hP
  have hD : va_D A (P ++ [(o, .inr (0, [.null, .ref b5, .null, .int 0, .int 0])), (b5, .inr (1, [.ref (q9 0), .ref (q9 1), .ref (q9 2), .int 0, .int 0, .int 0])), ((q9 0), .inl (cy 1, 90, .inl (fun _ => 0))), ((q9 1), .inl (cy 1, 192, .inl (fun _ => 0))), ((q9 2), .inl (cy 1, 512, .inl (fun _ => 0)))]) := hD
  refine lv_aload_n B.1 B.2.1 dX0_init_15 rfl (lv_at hl 0 rfl) ?_
  refine lv_aload_n B.1 B.2.1 dX0_init_16 rfl (lv_at hl 1 rfl) ?_
  refine va_putF (D := D) (ci := 0) (v := .ref u9) (ty := (.object "PatternRunner$SignRow")) (C := RX0) (T := TX0) (N := 5) B.1 B.2.1 B.2.2.2.2.1 (iC0 _) tyX0 tyX0_ok nmX0 B.2.2.2.1 hK hP hD hS (P.length + 0) (by rw [kapp]; rfl) rfl 0 (by decide) (B.2.2.2.2.1 _ (List.mem_cons_of_mem _ wC_fRX0_18)) (fun _ h9 => h9) rfl hin rfl (by decide +kernel) rfl rfl (Nat.le_of_ble_eq_true rfl) dX0_init_17 (fun H locs hP hD hS => ?_)
  rw [kset] at hP hD
  have hP : va_P D vwCl (P ++ [(o, .inr (0, [.ref u9, .ref b5, .null, .int 0, .int 0])), (b5, .inr (1, [.ref (q9 0), .ref (q9 1), .ref (q9 2), .int 0, .int 0, .int 0])), ((q9 0), .inl (cy 1, 90, .inl (fun _ => 0))), ((q9 1), .inl (cy 1, 192, .inl (fun _ => 0))), ((q9 2), .inl (cy 1, 512, .inl (fun _ => 0)))]) H := hP
  have hD : va_D A (P ++ [(o, .inr (0, [.ref u9, .ref b5, .null, .int 0, .int 0])), (b5, .inr (1, [.ref (q9 0), .ref (q9 1), .ref (q9 2), .int 0, .int 0, .int 0])), ((q9 0), .inl (cy 1, 90, .inl (fun _ => 0))), ((q9 1), .inl (cy 1, 192, .inl (fun _ => 0))), ((q9 2), .inl (cy 1, 512, .inl (fun _ => 0)))]) := hD
  refine lv_aload_n B.1 B.2.1 dX0_init_20 rfl (lv_at hl 0 rfl) ?_
  refine lv_aload_n B.1 B.2.1 dX0_init_21 rfl (lv_at hl 2 rfl) ?_
  refine va_put (D := D) (ci := 0) (v := .ref w9) (ty := (.object "PatternRunner$Program")) (C := RX0) (T := TX0) (N := 5) B.1 B.2.1 B.2.2.2.2.1 (iC0 _) tyX0 tyX0_ok nmX0 B.2.2.2.1 hK hP hD hS (P.length + 0) (by rw [kapp]; rfl) rfl 2 (by decide) (B.2.2.2.2.1 _ (List.mem_cons_of_mem _ wC_fRX0_22)) (fun _ h9 => h9) rfl (by decide +kernel) rfl rfl (Nat.le_of_ble_eq_true rfl) dX0_init_22 (fun H locs hP hD hS => ?_)
  rw [kset] at hP hD
  have hP : va_P D vwCl (P ++ [(o, .inr (0, [.ref u9, .ref b5, .ref w9, .int 0, .int 0])), (b5, .inr (1, [.ref (q9 0), .ref (q9 1), .ref (q9 2), .int 0, .int 0, .int 0])), ((q9 0), .inl (cy 1, 90, .inl (fun _ => 0))), ((q9 1), .inl (cy 1, 192, .inl (fun _ => 0))), ((q9 2), .inl (cy 1, 512, .inl (fun _ => 0)))]) H := hP
  have hD : va_D A (P ++ [(o, .inr (0, [.ref u9, .ref b5, .ref w9, .int 0, .int 0])), (b5, .inr (1, [.ref (q9 0), .ref (q9 1), .ref (q9 2), .int 0, .int 0, .int 0])), ((q9 0), .inl (cy 1, 90, .inl (fun _ => 0))), ((q9 1), .inl (cy 1, 192, .inl (fun _ => 0))), ((q9 2), .inl (cy 1, 512, .inl (fun _ => 0)))]) := hD
  refine W.widen (k := 4) (n := 800) (Nat.le_of_ble_eq_true rfl) (Nat.le_of_ble_eq_true rfl) ?_
  obtain ⟨q, hq⟩ : ∃ q : Nat → Nat, q = (fun k => if k = 0 then b5 else if k = 1 then (q9 0) else if k = 2 then (q9 1) else if k = 3 then (q9 2) else 0) := ⟨_, rfl⟩
  have eW : P ++ [(o, .inr (0, [.ref u9, .ref b5, .ref w9, .int 0, .int 0])), (b5, .inr (1, [.ref (q9 0), .ref (q9 1), .ref (q9 2), .int 0, .int 0, .int 0])), ((q9 0), .inl (cy 1, 90, .inl (fun _ => 0))), ((q9 1), .inl (cy 1, 192, .inl (fun _ => 0))), ((q9 2), .inl (cy 1, 512, .inl (fun _ => 0)))] = P ++ [(o, .inr (0, [.ref u9, .ref (q 0), .ref w9, .int 0, .int 0])), ((q 0), .inr (1, [.ref (q 1), .ref (q 2), .ref (q 3), .int 0, .int 0, .int 0])), ((q 1), .inl (cy 1, 90, .inl (fun _ => 0))), ((q 2), .inl (cy 1, 192, .inl (fun _ => 0))), ((q 3), .inl (cy 1, 512, .inl (fun _ => 0)))] := by rw [hq]; rfl
  rw [eW] at hP hD
  exact W.vret B.1 B.2.1 B.2.2.2.2.2.1 (fun t ht _ => ⟨⟨q, rfl, trivial, by rw [ht]; exact hP, hD⟩, hS.F ht⟩) hS.2.2 dX0_init_25 hlocks
