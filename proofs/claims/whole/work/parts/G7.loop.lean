/-! THE LAW'S LOOP -/
section LT
variable {p : Program} {l : Launch} {e : Env} {R : Room} {s : State} {m : MethodId} {args : Array Value} {below : List Frame} {meth : Method} {c : Code} {H : Heap} {locs : List Loc} {cells slots : Nat} {Q : State → Prop} {cc : ByteArray} {pc : Nat} {ls : Array Slot}
variable {D : va_G} {cy : Nat → ClassId} {q : Nat → Nat} {x y o : Nat} {q2 : Nat → Nat} {ao : Nat} {S : CSt} {M : MSt} {f : Nat → Int64}
/-- behind both calls: did both throw, and if not, did both answer the same -/
theorem l_tail {b : Nat} {v1 v4 : Value} {k mv rv : Int} (hx : p.tables.exec = Jvm.exec) (hb : c.code = cc) (hml : c.maxLocals = 7) (hown : s.vm.findClass RL = some m.cls) (hts : ∀ w ∈ lw_tbl, w.before args s = true) (hK : va_K D vwCl (zTY cy) s) (h : jF D cy q x y o q2 ao s.heap.size S M f s.heap H locs)
    (hk : (k = 1 ∧ M.1 0 = 1) ∨ (k = 0 ∧ M.1 0 = 0 ∧ rv = mv)) (hf0 : k = 0 → f 0 = (zI rv).toInt64) (hl : lv_has ls 7 [(6, .int (zI mv)), (5, .int (zI k)), (0, .ref b), (1, v1), (2, .ref o), (3, .ref ao), (4, v4)]) (hf : cells ≤ R.cells ∧ slots ≤ R.slots) (hR : 1 ≤ R.frames ∧ 20 ≤ R.locals)
    (d0 : decode cc pc = .ok (.aload_n 2, 1)) (d1 : decode cc (pc + 1) = .ok (.invokevirtual 54, 3)) (d4 : decode cc (pc + 1 + 3) = .ok (.iload 5, 2)) (d6 : decode cc (pc + 1 + 3 + 2) = .ok (.if_icmp .eq 5, 3)) (d11 : decode cc (pc + 11) = .ok (.iload 5, 2)) (d13 : decode cc (pc + 11 + 2) = .ok (.ifCond .ne 15, 3)) (d16 : decode cc (pc + 11 + 2 + 3) = .ok (.aload_n 3, 1)) (d17 : decode cc (pc + 11 + 2 + 3 + 1) = .ok (.iconst 0, 1)) (d18 : decode cc (pc + 11 + 2 + 3 + 1 + 1) = .ok (.laload, 1)) (d19 : decode cc (pc + 11 + 2 + 3 + 1 + 1 + 1) = .ok (.iload 6, 2)) (d21 : decode cc (pc + 11 + 2 + 3 + 1 + 1 + 1 + 2) = .ok (.i2l, 1)) (d22 : decode cc (pc + 11 + 2 + 3 + 1 + 1 + 1 + 2 + 1) = .ok (.lcmp, 1)) (d23 : decode cc (pc + 11 + 2 + 3 + 1 + 1 + 1 + 2 + 1 + 1) = .ok (.ifCond .eq 5, 3)) {off : Int} {tgt : Nat} (d28 : decode cc (pc + 28) = .ok (.goto off, 3)) (ht : ((pc + 28 : Nat) : Int) + off = (tgt : Int))
    (kk : ∀ (H1 : Heap) (locs1 : List Loc), jF D cy q x y o q2 ao s.heap.size S M f s.heap H1 locs1 → W p l e R s m args below meth c H1 locs1 cells slots Q (F0 m tgt ls [])) : W p l e R s m args below meth c H locs cells slots Q (F0 m pc ls []) := by
  refine lv_aload_n hx hb d0 rfl (lv_at hl 4 rfl) ?_
  refine l_mcall (As := []) (rest := []) hx hb hml hown hts hK h (cX7_thrown_ok l D cy o q2 M) (cwM 0 hts tL_M_thrown tL_I_thrown tL_S_thrown w7_cd_yX7_thrown rfl rfl (by decide +kernel) ⟨hR.1, hR.2⟩) rfl hl.1 rfl (Nat.le_of_ble_eq_true rfl) d1 hf (fun tv M1 H1 locs1 hp h1 => ?_)
  obtain ⟨e1, e2⟩ := hp
  have e1 : tv = M.1 0 := e1
  have e2 : M1 = M := e2
  rw [e1]
  rw [e2] at h1
  have zk : zr k := by rcases hk with ⟨rfl, -⟩ | ⟨rfl, -⟩ <;> exact ⟨by decide, by decide⟩
  have zt : zr (M.1 0) := by rcases hk with ⟨-, e⟩ | ⟨-, e, -⟩ <;> rw [e] <;> exact ⟨by decide, by decide⟩
  refine lv_iload hx hb d4 (lv_at hl 1 rfl) ?_
  refine z_icmp_eq (tgt := pc + 11) hx hb zt zk d6 (by omega) (fun _ => ?_) (fun hne => ?_)
  · refine lv_iload hx hb d11 (lv_at hl 1 rfl) ?_
    have last : W p l e R s m args below meth c H1 locs1 cells slots Q (F0 m (pc + 28) ls []) := lv_goto (tgt := tgt) hx hb d28 ht (kk H1 locs1 h1)
    refine z_if_ne (tgt := pc + 28) hx hb zk d13 (by omega) (fun _ => last) (fun e0 => ?_)
    refine lv_aload_n hx hb d16 rfl (lv_at hl 5 rfl) ?_
    refine z_iconst hx hb d17 ?_
    refine va_lald (cl := vwCl) (tys := zTY cy) (ws := oW cy ao f) (f := f) (i := zI 0) hx hb hK h1.2.2.1.1 0 2 rfl rfl (zI_in zr0 (by decide) (by decide)) d18 ?_
    refine lv_iload hx hb d19 (lv_at hl 0 rfl) ?_
    refine lv_i2l hx hb d21 rfl ?_
    refine z_lc hx hb d22 ?_
    have ez : f (zI 0).toNatClampNeg = (zI mv).toInt64 := by
      rcases hk with ⟨e1, -⟩ | ⟨-, -, e2⟩
      · rw [e0] at e1; exact absurd e1 (by decide)
      · rw [← e2]; exact hf0 e0
    have zz := (zlc_bd (f (zI 0).toNatClampNeg) (zI mv).toInt64).2.2.mpr ez
    rw [zz]
    refine z_if_eq (tgt := pc + 28) hx hb zr0 d23 (by omega) (fun _ => last) (fun hne => absurd rfl hne)
  · exfalso
    rcases hk with ⟨e1, e2⟩ | ⟨e1, e2, -⟩ <;> exact hne (by rw [e1, e2])
end LT
theorem cOK_of {a b : Nat} {r : CR} {S' : CSt} {mm : Int × MSt} (h : COK a b r S' mm) : ((r.1 = 1 ∧ mm.2.1 0 = 1) ∨ (r.1 = 0 ∧ mm.2.1 0 = 0 ∧ r.2.1 = mm.1)) ∧ INV a b S' mm.2 := by
  rcases h with ⟨h1, h2, h3⟩ | ⟨h1, h2, h3, h4⟩
  · exact ⟨Or.inl ⟨h1, h2⟩, h3⟩
  · exact ⟨Or.inr ⟨h1, h2, h3⟩, h4⟩
set_option maxHeartbeats 4000000 in
set_option maxRecDepth 100000 in
theorem l_type {p : Program} {l : Launch} {e : Env} {s : State} {m : MethodId} {below : List Frame} {meth : Method} {c : Code} (hl0 : l.stackTraces = false) {b L : Nat} {xs : Nat → Int32} (hL : L ≤ 2048) (C0 : lw_At p s m meth c b L xs) {D : va_G} {cy : Nat → ClassId} {V : Nat × (Nat → Nat)} {o : Nat} {q2 : Nat → Nat} {ao : Nat} (hK : va_K D vwCl (zTY cy) s) (hE : cEnv V s s.heap) (hV : V.1 = s.heap.size) (i : Nat) (hi : i + 4 ≤ L)
    (fin : ∀ (a9 b9 : Nat) (S : CSt) (M : MSt) (f : Nat → Int64) (q : Nat → Nat) (x y : Nat) (H : Heap) (locs : List Loc) (cells slots : Nat) (ls : Array Slot), INV a9 b9 S M → jF D cy q x y o q2 ao s.heap.size S M f s.heap H locs → (cells ≤ 100 + gl S + (i + 4) ∧ slots ≤ 20000 + 2 * gl S + 6 * (i + 4)) → lv_has ls 7 [(0, .ref b), (1, .ref (q 0)), (2, .ref o), (3, .ref ao), (4, .int (zI (i : Int)))] → W p l e room_1 s m #[Value.ref b] below meth c H locs cells slots (lw_Z below #[Value.ref b] s) (F0 m 555 ls [])) :
    ∀ (a9 b9 : Nat) (S : CSt) (M : MSt) (f : Nat → Int64) (q : Nat → Nat) (x y : Nat) (H : Heap) (locs : List Loc) (cells slots : Nat) (ls : Array Slot), INV a9 b9 S M → jF D cy q x y o q2 ao s.heap.size S M f s.heap H locs → (cells ≤ 100 + gl S + i ∧ slots ≤ 20000 + 2 * gl S + 6 * i) → lv_has ls 7 [(0, .ref b), (1, .ref (q 0)), (2, .ref o), (3, .ref ao), (4, .int (zI (i : Int)))] → W p l e room_1 s m #[Value.ref b] below meth c H locs cells slots (lw_Z below #[Value.ref b] s) (F0 m 92 ls []) := by
  obtain ⟨hx, hb, hr, hml, hown, hts, hX, hbl, hlocks, hgv⟩ := id C0
  have hbA : ¬ (fun a : Nat => s.heap.size ≤ a) b := Nat.not_le.mpr hbl
  intro a9 b9 S M f q x y H locs cells slots ls hI hJ hcs hl
  have hF : cFx a9 b9 S := hI.2.2.1
  have hgk : gl S ≤ 50000 := cFx_gl hF
  have hR1 : cells + ((gK - gl S) + 1) ≤ room_1.cells ∧ slots + (2 * (gK - gl S) + 6) ≤ room_1.slots := by
    show cells + ((50000 - gl S) + 1) ≤ 601024 ∧ slots + (2 * (50000 - gl S) + 6) ≤ 7293034
    omega
  have t0 : 0 ≤ S.1 1 1 := by have h1 := hI.2.2.2.1.1; have h2 := hI.2.2.2.1.2.1; omega
  have t1 : S.1 1 1 ≤ 40 := by have h1 := hI.2.2.2.1.1; have h2 := hI.2.2.2.1.2.2.1; omega
  have hBD : I_bd S := hI.2.2.2.2.2.2.2.2.2.1
  have x0 : 0 ≤ S.1 3 1 := by have h1 := hI.2.2.2.2.2.1.1; have h2 := hI.2.2.2.2.2.1.2.1; omega
  have x1 : S.1 3 1 ≤ 24 := by have h1 := hI.2.2.2.2.2.1.1; have h2 := hI.2.2.2.2.2.1.2.2.1; omega
  have f0 : 0 ≤ S.1 0 11 := by have h1 := hI.2.2.2.2.2.2.2.2.2.2.1.1; have h2 := hI.2.2.2.2.2.2.2.2.2.2.1.2.1; omega
  have f1 : S.1 0 11 ≤ 1000 := by have h1 := hI.2.2.2.2.2.2.2.2.2.2.1.1; have h2 := hI.2.2.2.2.2.2.2.2.2.2.1.2.2; omega
  have r0 : 0 ≤ S.1 4 1 := by have h1 := hI.2.2.2.2.2.2.1.1; have h2 := hI.2.2.2.2.2.2.1.2.1; omega
  have r1 : S.1 4 1 ≤ 200 := by have h1 := hI.2.2.2.2.2.2.1.1; have h2 := hI.2.2.2.2.2.2.1.2.2.1; omega
  refine lv_aload_n hx hb dL_law_92 rfl (lv_at hl 1 rfl) ?_
  refine lv_aload_n hx hb dL_law_93 rfl (lv_at hl 0 rfl) ?_
  refine lv_iload hx hb dL_law_94 (lv_at hl 4 rfl) ?_
  refine z_iconst hx hb dL_law_96 ?_
  refine z_iadd (x := (i : Int) + 1) hx hb rfl dL_law_97 ?_
  refine l_sld hx hb hX hbl hbA hJ.2.2.2.2 (i + 1) (by omega) hL (by omega) dL_law_98 ?_
  refine lv_i2l hx hb dL_law_99 rfl ?_
  refine z_bipush hx hb (by decide) dL_law_100 ?_
  refine lv_lshl hx hb dL_law_102 rfl ?_
  refine lv_aload_n hx hb dL_law_103 rfl (lv_at hl 0 rfl) ?_
  refine lv_iload hx hb dL_law_104 (lv_at hl 4 rfl) ?_
  refine z_iconst hx hb dL_law_106 ?_
  refine z_iadd (x := (i : Int) + 2) hx hb rfl dL_law_107 ?_
  refine l_sld hx hb hX hbl hbA hJ.2.2.2.2 (i + 2) (by omega) hL (by omega) dL_law_108 ?_
  refine lv_i2l hx hb dL_law_109 rfl ?_
  refine lv_ldc2 hx hb hown (hts _ tL_k46) dL_law_110 ?_
  refine lv_land hx hb dL_law_113 ?_
  refine lv_lor hx hb dL_law_114 ?_
  refine lv_aload_n hx hb dL_law_115 rfl (lv_at hl 0 rfl) ?_
  refine lv_iload hx hb dL_law_116 (lv_at hl 4 rfl) ?_
  refine z_iconst hx hb dL_law_118 ?_
  refine z_iadd (x := (i : Int) + 3) hx hb rfl dL_law_119 ?_
  refine l_sld hx hb hX hbl hbA hJ.2.2.2.2 (i + 3) (by omega) hL (by omega) dL_law_120 ?_
  refine lv_aload_n hx hb dL_law_121 rfl (lv_at hl 3 rfl) ?_
  have hgm : gl S ≤ gl (K6_type ((zI (xs (i + 1)).toInt).toInt64 <<< ((zI 32).toInt64 &&& 63) ||| (zI (xs (i + 2)).toInt).toInt64 &&& 4294967295) (xs (i + 3)).toInt S).2.2 := Nat.le_of_eq gl_type.symm
  obtain ⟨hcc, hI2⟩ := cOK_of (C_type hI)
  refine l_scall (As := [.ref (q 0), .long ((zI (xs (i + 1)).toInt).toInt64 <<< ((zI 32).toInt64 &&& 63) ||| (zI (xs (i + 2)).toInt).toInt64 &&& 4294967295), .int (zI (xs (i + 3)).toInt), .ref ao]) (rest := []) (r := K6_type ((zI (xs (i + 1)).toInt).toInt64 <<< ((zI 32).toInt64 &&& 63) ||| (zI (xs (i + 2)).toInt).toInt64 &&& 4294967295) (xs (i + 3)).toInt S) hx hb hml hown hts hK hE hV hJ (cL_type_ok l D cy q V H.size x y ao S f ((zI (xs (i + 1)).toInt).toInt64 <<< ((zI 32).toInt64 &&& 63) ||| (zI (xs (i + 2)).toInt).toInt64 &&& 4294967295) (xs (i + 3)).toInt (K6_type ((zI (xs (i + 1)).toInt).toInt64 <<< ((zI 32).toInt64 &&& 63) ||| (zI (xs (i + 2)).toInt).toInt64 &&& 4294967295) (xs (i + 3)).toInt S) (cX6_type_ok l hl0 D cy q V H.size x y a9 b9 S hF ((zI (xs (i + 1)).toInt).toInt64 <<< ((zI 32).toInt64 &&& 63) ||| (zI (xs (i + 2)).toInt).toInt64 &&& 4294967295) (xs (i + 3)).toInt (zI_zr _).1 (zI_zr _).2 t0 t1)) (csL 4 hts tL_m_type tL_t_type tL_c_type rfl rfl rfl (by decide +kernel) ⟨Nat.le_of_ble_eq_true rfl, Nat.le_of_ble_eq_true rfl⟩) rfl hl.1 rfl (Nat.le_of_ble_eq_true rfl) dL_law_122 hR1 (fun x2 y2 f2 H locs hf2 hJ => ?_)
  have hr9 : (K6_type ((zI (xs (i + 1)).toInt).toInt64 <<< ((zI 32).toInt64 &&& 63) ||| (zI (xs (i + 2)).toInt).toInt64 &&& 4294967295) (xs (i + 3)).toInt S).1.toNat ≤ 1 := by rcases hcc with ⟨h, -⟩ | ⟨h, -⟩ <;> rw [h] <;> decide
  have hcs2 : cells + gc S (K6_type ((zI (xs (i + 1)).toInt).toInt64 <<< ((zI 32).toInt64 &&& 63) ||| (zI (xs (i + 2)).toInt).toInt64 &&& 4294967295) (xs (i + 3)).toInt S) ≤ 100 + gl (K6_type ((zI (xs (i + 1)).toInt).toInt64 <<< ((zI 32).toInt64 &&& 63) ||| (zI (xs (i + 2)).toInt).toInt64 &&& 4294967295) (xs (i + 3)).toInt S).2.2 + (i + 4) ∧ slots + gs S (K6_type ((zI (xs (i + 1)).toInt).toInt64 <<< ((zI 32).toInt64 &&& 63) ||| (zI (xs (i + 2)).toInt).toInt64 &&& 4294967295) (xs (i + 3)).toInt S) ≤ 20000 + 2 * gl (K6_type ((zI (xs (i + 1)).toInt).toInt64 <<< ((zI 32).toInt64 &&& 63) ||| (zI (xs (i + 2)).toInt).toInt64 &&& 4294967295) (xs (i + 3)).toInt S).2.2 + 6 * (i + 4) := by
    simp only [gc, gs]
    omega
  have hgl2 : gl (K6_type ((zI (xs (i + 1)).toInt).toInt64 <<< ((zI 32).toInt64 &&& 63) ||| (zI (xs (i + 2)).toInt).toInt64 &&& 4294967295) (xs (i + 3)).toInt S).2.2 ≤ 50000 := cFx_gl hI2.2.2.1
  generalize hrr : K6_type ((zI (xs (i + 1)).toInt).toInt64 <<< ((zI 32).toInt64 &&& 63) ||| (zI (xs (i + 2)).toInt).toInt64 &&& 4294967295) (xs (i + 3)).toInt S = rr at *
  generalize cells + gc S rr = cells at *
  generalize slots + gs S rr = slots at *
  have hR2 : cells ≤ room_1.cells ∧ slots ≤ room_1.slots := by
    show cells ≤ 601024 ∧ slots ≤ 7293034
    have := hgl2
    omega
  refine lv_istore (lv' := [(5, .int (zI rr.1)), (0, .ref b), (1, .ref (q 0)), (2, .ref o), (3, .ref ao), (4, .int (zI (i : Int)))]) hx hb dL_law_125 hl (by decide) rfl (fun ls hl => ?_)
  refine lv_aload_n hx hb dL_law_127 rfl (lv_at hl 3 rfl) ?_
  refine lv_aload_n hx hb dL_law_128 rfl (lv_at hl 1 rfl) ?_
  refine lv_iload hx hb dL_law_129 (lv_at hl 5 rfl) ?_
  refine z_iconst hx hb dL_law_131 ?_
  refine z_iadd (x := (i : Int) + 1) hx hb rfl dL_law_132 ?_
  refine l_sld hx hb hX hbl hbA hJ.2.2.2.2 (i + 1) (by omega) hL (by omega) dL_law_133 ?_
  refine lv_i2l hx hb dL_law_134 rfl ?_
  refine z_bipush hx hb (by decide) dL_law_135 ?_
  refine lv_lshl hx hb dL_law_137 rfl ?_
  refine lv_aload_n hx hb dL_law_138 rfl (lv_at hl 1 rfl) ?_
  refine lv_iload hx hb dL_law_139 (lv_at hl 5 rfl) ?_
  refine z_iconst hx hb dL_law_141 ?_
  refine z_iadd (x := (i : Int) + 2) hx hb rfl dL_law_142 ?_
  refine l_sld hx hb hX hbl hbA hJ.2.2.2.2 (i + 2) (by omega) hL (by omega) dL_law_143 ?_
  refine lv_i2l hx hb dL_law_144 rfl ?_
  refine lv_ldc2 hx hb hown (hts _ tL_k46) dL_law_145 ?_
  refine lv_land hx hb dL_law_148 ?_
  refine lv_lor hx hb dL_law_149 ?_
  refine lv_aload_n hx hb dL_law_150 rfl (lv_at hl 1 rfl) ?_
  refine lv_iload hx hb dL_law_151 (lv_at hl 5 rfl) ?_
  refine z_iconst hx hb dL_law_153 ?_
  refine z_iadd (x := (i : Int) + 3) hx hb rfl dL_law_154 ?_
  refine l_sld hx hb hX hbl hbA hJ.2.2.2.2 (i + 3) (by omega) hL (by omega) dL_law_155 ?_
  refine l_mcall (As := [.long ((zI (xs (i + 1)).toInt).toInt64 <<< ((zI 32).toInt64 &&& 63) ||| (zI (xs (i + 2)).toInt).toInt64 &&& 4294967295), .int (zI (xs (i + 3)).toInt)]) (rest := []) hx hb hml hown hts hK hJ (cX7_type_ok l D cy o q2 M ((zI (xs (i + 1)).toInt).toInt64 <<< ((zI 32).toInt64 &&& 63) ||| (zI (xs (i + 2)).toInt).toInt64 &&& 4294967295) (xs (i + 3)).toInt (zI_zr _).1 (zI_zr _).2 hI.2.2.2.1.2.1 hI.2.2.2.1.2.2.1) (cwM 2 hts tL_M_type tL_I_type tL_S_type w7_cd_yX7_type rfl rfl (by decide +kernel) ⟨Nat.le_of_ble_eq_true rfl, Nat.le_of_ble_eq_true rfl⟩) rfl hl.1 rfl (Nat.le_of_ble_eq_true rfl) dL_law_156 hR2 (fun tv M1 H locs hp hJ => ?_)
  obtain ⟨rfl, rfl⟩ := hp
  refine lv_istore (lv' := [(6, .int (zI (M_type ((zI (xs (i + 1)).toInt).toInt64 <<< ((zI 32).toInt64 &&& 63) ||| (zI (xs (i + 2)).toInt).toInt64 &&& 4294967295) (xs (i + 3)).toInt M).1)), (5, .int (zI rr.1)), (0, .ref b), (1, .ref (q 0)), (2, .ref o), (3, .ref ao), (4, .int (zI (i : Int)))]) hx hb dL_law_159 hl (by decide) rfl (fun ls hl => ?_)
  refine l_tail (tgt := 555) hx hb hml hown hts hK hJ hcc hf2 hl hR2 ⟨Nat.le_of_ble_eq_true rfl, Nat.le_of_ble_eq_true rfl⟩ dL_law_161 dL_law_162 dL_law_165 dL_law_167 dL_law_172 dL_law_174 dL_law_177 dL_law_178 dL_law_179 dL_law_180 dL_law_182 dL_law_183 dL_law_184 dL_law_189 (by decide) (fun H locs hJ => ?_)
  exact fin _ _ _ _ _ _ _ _ _ _ _ _ _ hI2 hJ hcs2 (lv_sub hl [2, 3, 4, 5, 6] rfl)
set_option maxHeartbeats 4000000 in
set_option maxRecDepth 100000 in
theorem l_pattern {p : Program} {l : Launch} {e : Env} {s : State} {m : MethodId} {below : List Frame} {meth : Method} {c : Code} (hl0 : l.stackTraces = false) {b L : Nat} {xs : Nat → Int32} (hL : L ≤ 2048) (C0 : lw_At p s m meth c b L xs) {D : va_G} {cy : Nat → ClassId} {V : Nat × (Nat → Nat)} {o : Nat} {q2 : Nat → Nat} {ao : Nat} (hK : va_K D vwCl (zTY cy) s) (hE : cEnv V s s.heap) (hV : V.1 = s.heap.size) (i : Nat) (hi : i + 4 ≤ L)
    (fin : ∀ (a9 b9 : Nat) (S : CSt) (M : MSt) (f : Nat → Int64) (q : Nat → Nat) (x y : Nat) (H : Heap) (locs : List Loc) (cells slots : Nat) (ls : Array Slot), INV a9 b9 S M → jF D cy q x y o q2 ao s.heap.size S M f s.heap H locs → (cells ≤ 100 + gl S + (i + 4) ∧ slots ≤ 20000 + 2 * gl S + 6 * (i + 4)) → lv_has ls 7 [(0, .ref b), (1, .ref (q 0)), (2, .ref o), (3, .ref ao), (4, .int (zI (i : Int)))] → W p l e room_1 s m #[Value.ref b] below meth c H locs cells slots (lw_Z below #[Value.ref b] s) (F0 m 555 ls [])) :
    ∀ (a9 b9 : Nat) (S : CSt) (M : MSt) (f : Nat → Int64) (q : Nat → Nat) (x y : Nat) (H : Heap) (locs : List Loc) (cells slots : Nat) (ls : Array Slot), INV a9 b9 S M → jF D cy q x y o q2 ao s.heap.size S M f s.heap H locs → (cells ≤ 100 + gl S + i ∧ slots ≤ 20000 + 2 * gl S + 6 * i) → lv_has ls 7 [(0, .ref b), (1, .ref (q 0)), (2, .ref o), (3, .ref ao), (4, .int (zI (i : Int)))] → W p l e room_1 s m #[Value.ref b] below meth c H locs cells slots (lw_Z below #[Value.ref b] s) (F0 m 192 ls []) := by
  obtain ⟨hx, hb, hr, hml, hown, hts, hX, hbl, hlocks, hgv⟩ := id C0
  have hbA : ¬ (fun a : Nat => s.heap.size ≤ a) b := Nat.not_le.mpr hbl
  intro a9 b9 S M f q x y H locs cells slots ls hI hJ hcs hl
  have hF : cFx a9 b9 S := hI.2.2.1
  have hgk : gl S ≤ 50000 := cFx_gl hF
  have hR1 : cells + ((gK - gl S) + 1) ≤ room_1.cells ∧ slots + (2 * (gK - gl S) + 6) ≤ room_1.slots := by
    show cells + ((50000 - gl S) + 1) ≤ 601024 ∧ slots + (2 * (50000 - gl S) + 6) ≤ 7293034
    omega
  have t0 : 0 ≤ S.1 1 1 := by have h1 := hI.2.2.2.1.1; have h2 := hI.2.2.2.1.2.1; omega
  have t1 : S.1 1 1 ≤ 40 := by have h1 := hI.2.2.2.1.1; have h2 := hI.2.2.2.1.2.2.1; omega
  have hBD : I_bd S := hI.2.2.2.2.2.2.2.2.2.1
  have x0 : 0 ≤ S.1 3 1 := by have h1 := hI.2.2.2.2.2.1.1; have h2 := hI.2.2.2.2.2.1.2.1; omega
  have x1 : S.1 3 1 ≤ 24 := by have h1 := hI.2.2.2.2.2.1.1; have h2 := hI.2.2.2.2.2.1.2.2.1; omega
  have f0 : 0 ≤ S.1 0 11 := by have h1 := hI.2.2.2.2.2.2.2.2.2.2.1.1; have h2 := hI.2.2.2.2.2.2.2.2.2.2.1.2.1; omega
  have f1 : S.1 0 11 ≤ 1000 := by have h1 := hI.2.2.2.2.2.2.2.2.2.2.1.1; have h2 := hI.2.2.2.2.2.2.2.2.2.2.1.2.2; omega
  have r0 : 0 ≤ S.1 4 1 := by have h1 := hI.2.2.2.2.2.2.1.1; have h2 := hI.2.2.2.2.2.2.1.2.1; omega
  have r1 : S.1 4 1 ≤ 200 := by have h1 := hI.2.2.2.2.2.2.1.1; have h2 := hI.2.2.2.2.2.2.1.2.2.1; omega
  refine lv_aload_n hx hb dL_law_192 rfl (lv_at hl 1 rfl) ?_
  refine lv_aload_n hx hb dL_law_193 rfl (lv_at hl 0 rfl) ?_
  refine lv_iload hx hb dL_law_194 (lv_at hl 4 rfl) ?_
  refine z_iconst hx hb dL_law_196 ?_
  refine z_iadd (x := (i : Int) + 1) hx hb rfl dL_law_197 ?_
  refine l_sld hx hb hX hbl hbA hJ.2.2.2.2 (i + 1) (by omega) hL (by omega) dL_law_198 ?_
  refine lv_aload_n hx hb dL_law_199 rfl (lv_at hl 3 rfl) ?_
  have hgm : gl S ≤ gl (K6_pattern b9 (xs (i + 1)).toInt S).2.2 := Nat.le_of_eq (gl_pattern hI).symm
  refine l_scall (As := [.ref (q 0), .int (zI (xs (i + 1)).toInt), .ref ao]) (rest := []) (r := K6_pattern b9 (xs (i + 1)).toInt S) hx hb hml hown hts hK hE hV hJ (cL_pattern_ok l D cy q V H.size x y ao S f (xs (i + 1)).toInt (K6_pattern b9 (xs (i + 1)).toInt S) (cX6_pattern_ok l hl0 D cy q V H.size x y a9 b9 S hF (xs (i + 1)).toInt (zI_zr _).1 (zI_zr _).2 hBD.2.1 t0 t1 hI.2.2.2.2.1.1 hI.2.2.2.2.1.2.2.1 hBD.2.2.2.2.1.1.1.1 hBD.2.2.2.2.1.1.1.2 hBD.2.2.2.2.1.1.2.1.1 hBD.2.2.2.2.1.1.2.1.2 hBD.2.2.2.2.1.1.2.2)) (csL 3 hts tL_m_pattern tL_t_pattern tL_c_pattern rfl rfl rfl (by decide +kernel) ⟨Nat.le_of_ble_eq_true rfl, Nat.le_of_ble_eq_true rfl⟩) rfl hl.1 rfl (Nat.le_of_ble_eq_true rfl) dL_law_200 hR1 (fun x2 y2 f2 H locs hf2 hJ => ?_)
  obtain ⟨hcc, -⟩ := C_pattern (fl := (xs (i + 1)).toInt) hI (zI_zr _).1 (zI_zr _).2
  have hr9 : (K6_pattern b9 (xs (i + 1)).toInt S).1.toNat ≤ 1 := by rcases hcc with ⟨h, -⟩ | ⟨h, -⟩ <;> rw [h] <;> decide
  have hcs2 : cells + gc S (K6_pattern b9 (xs (i + 1)).toInt S) ≤ 100 + gl (K6_pattern b9 (xs (i + 1)).toInt S).2.2 + (i + 4) ∧ slots + gs S (K6_pattern b9 (xs (i + 1)).toInt S) ≤ 20000 + 2 * gl (K6_pattern b9 (xs (i + 1)).toInt S).2.2 + 6 * (i + 4) := by
    simp only [gc, gs]
    omega
  have hgl2 : gl (K6_pattern b9 (xs (i + 1)).toInt S).2.2 ≤ 50000 := by
    rcases hcc with ⟨-, -, a2, hI2⟩ | ⟨-, -, -, X, eX, hI2⟩
    · exact cFx_gl hI2.2.2.1
    · rw [eX, gl_sw]; exact cFx_gl hI2.2.2.1
  generalize hrr : K6_pattern b9 (xs (i + 1)).toInt S = rr at *
  generalize cells + gc S rr = cells at *
  generalize slots + gs S rr = slots at *
  have hR2 : cells ≤ room_1.cells ∧ slots ≤ room_1.slots := by
    show cells ≤ 601024 ∧ slots ≤ 7293034
    have := hgl2
    omega
  refine lv_istore (lv' := [(5, .int (zI rr.1)), (0, .ref b), (1, .ref (q 0)), (2, .ref o), (3, .ref ao), (4, .int (zI (i : Int)))]) hx hb dL_law_203 hl (by decide) rfl (fun ls hl => ?_)
  refine lv_aload_n hx hb dL_law_205 rfl (lv_at hl 3 rfl) ?_
  refine lv_aload_n hx hb dL_law_206 rfl (lv_at hl 1 rfl) ?_
  refine lv_iload hx hb dL_law_207 (lv_at hl 5 rfl) ?_
  refine z_iconst hx hb dL_law_209 ?_
  refine z_iadd (x := (i : Int) + 1) hx hb rfl dL_law_210 ?_
  refine l_sld hx hb hX hbl hbA hJ.2.2.2.2 (i + 1) (by omega) hL (by omega) dL_law_211 ?_
  refine l_mcall (As := [.int (zI (xs (i + 1)).toInt)]) (rest := []) hx hb hml hown hts hK hJ (cX7_pattern_ok l D cy o q2 M (xs (i + 1)).toInt (C_pattern (fl := (xs (i + 1)).toInt) hI (zI_zr _).1 (zI_zr _).2).2) (cwM 1 hts tL_M_pattern tL_I_pattern tL_S_pattern w7_cd_yX7_pattern rfl rfl (by decide +kernel) ⟨Nat.le_of_ble_eq_true rfl, Nat.le_of_ble_eq_true rfl⟩) rfl hl.1 rfl (Nat.le_of_ble_eq_true rfl) dL_law_212 hR2 (fun tv M1 H locs hp hJ => ?_)
  obtain ⟨rfl, rfl⟩ := hp
  refine lv_istore (lv' := [(6, .int (zI (M_pattern (xs (i + 1)).toInt M).1)), (5, .int (zI rr.1)), (0, .ref b), (1, .ref (q 0)), (2, .ref o), (3, .ref ao), (4, .int (zI (i : Int)))]) hx hb dL_law_215 hl (by decide) rfl (fun ls hl => ?_)
  have hk : (rr.1 = 1 ∧ (M_pattern (xs (i + 1)).toInt M).2.1 0 = 1) ∨ (rr.1 = 0 ∧ (M_pattern (xs (i + 1)).toInt M).2.1 0 = 0 ∧ rr.2.1 = (M_pattern (xs (i + 1)).toInt M).1) := by
    rcases hcc with ⟨h1, h2, -⟩ | ⟨h1, h2, h3, -⟩
    · exact Or.inl ⟨h1, h2⟩
    · exact Or.inr ⟨h1, h2, h3⟩
  refine l_tail (tgt := 555) hx hb hml hown hts hK hJ hk hf2 hl hR2 ⟨Nat.le_of_ble_eq_true rfl, Nat.le_of_ble_eq_true rfl⟩ dL_law_217 dL_law_218 dL_law_221 dL_law_223 dL_law_228 dL_law_230 dL_law_233 dL_law_234 dL_law_235 dL_law_236 dL_law_238 dL_law_239 dL_law_240 dL_law_245 (by decide) (fun H locs hJ => ?_)
  rcases hcc with ⟨-, -, a2, hI2⟩ | ⟨-, -, -, X, eX, hI2⟩
  · exact fin _ _ _ _ _ _ _ _ _ _ _ _ _ hI2 hJ hcs2 (lv_sub hl [2, 3, 4, 5, 6] rfl)
  · rw [eX] at hJ hcs2
    rw [gl_sw] at hcs2
    exact fin _ _ _ _ _ _ _ _ _ _ _ _ _ hI2 (jF_sw hJ) hcs2 (lv_sub hl [2, 3, 4, 5, 6] rfl)
set_option maxHeartbeats 4000000 in
set_option maxRecDepth 100000 in
theorem l_text {p : Program} {l : Launch} {e : Env} {s : State} {m : MethodId} {below : List Frame} {meth : Method} {c : Code} (hl0 : l.stackTraces = false) {b L : Nat} {xs : Nat → Int32} (hL : L ≤ 2048) (C0 : lw_At p s m meth c b L xs) {D : va_G} {cy : Nat → ClassId} {V : Nat × (Nat → Nat)} {o : Nat} {q2 : Nat → Nat} {ao : Nat} (hK : va_K D vwCl (zTY cy) s) (hE : cEnv V s s.heap) (hV : V.1 = s.heap.size) (i : Nat) (hi : i + 4 ≤ L)
    (fin : ∀ (a9 b9 : Nat) (S : CSt) (M : MSt) (f : Nat → Int64) (q : Nat → Nat) (x y : Nat) (H : Heap) (locs : List Loc) (cells slots : Nat) (ls : Array Slot), INV a9 b9 S M → jF D cy q x y o q2 ao s.heap.size S M f s.heap H locs → (cells ≤ 100 + gl S + (i + 4) ∧ slots ≤ 20000 + 2 * gl S + 6 * (i + 4)) → lv_has ls 7 [(0, .ref b), (1, .ref (q 0)), (2, .ref o), (3, .ref ao), (4, .int (zI (i : Int)))] → W p l e room_1 s m #[Value.ref b] below meth c H locs cells slots (lw_Z below #[Value.ref b] s) (F0 m 555 ls [])) :
    ∀ (a9 b9 : Nat) (S : CSt) (M : MSt) (f : Nat → Int64) (q : Nat → Nat) (x y : Nat) (H : Heap) (locs : List Loc) (cells slots : Nat) (ls : Array Slot), INV a9 b9 S M → jF D cy q x y o q2 ao s.heap.size S M f s.heap H locs → (cells ≤ 100 + gl S + i ∧ slots ≤ 20000 + 2 * gl S + 6 * i) → lv_has ls 7 [(0, .ref b), (1, .ref (q 0)), (2, .ref o), (3, .ref ao), (4, .int (zI (i : Int)))] → W p l e room_1 s m #[Value.ref b] below meth c H locs cells slots (lw_Z below #[Value.ref b] s) (F0 m 248 ls []) := by
  obtain ⟨hx, hb, hr, hml, hown, hts, hX, hbl, hlocks, hgv⟩ := id C0
  have hbA : ¬ (fun a : Nat => s.heap.size ≤ a) b := Nat.not_le.mpr hbl
  intro a9 b9 S M f q x y H locs cells slots ls hI hJ hcs hl
  have hF : cFx a9 b9 S := hI.2.2.1
  have hgk : gl S ≤ 50000 := cFx_gl hF
  have hR1 : cells + ((gK - gl S) + 1) ≤ room_1.cells ∧ slots + (2 * (gK - gl S) + 6) ≤ room_1.slots := by
    show cells + ((50000 - gl S) + 1) ≤ 601024 ∧ slots + (2 * (50000 - gl S) + 6) ≤ 7293034
    omega
  have t0 : 0 ≤ S.1 1 1 := by have h1 := hI.2.2.2.1.1; have h2 := hI.2.2.2.1.2.1; omega
  have t1 : S.1 1 1 ≤ 40 := by have h1 := hI.2.2.2.1.1; have h2 := hI.2.2.2.1.2.2.1; omega
  have hBD : I_bd S := hI.2.2.2.2.2.2.2.2.2.1
  have x0 : 0 ≤ S.1 3 1 := by have h1 := hI.2.2.2.2.2.1.1; have h2 := hI.2.2.2.2.2.1.2.1; omega
  have x1 : S.1 3 1 ≤ 24 := by have h1 := hI.2.2.2.2.2.1.1; have h2 := hI.2.2.2.2.2.1.2.2.1; omega
  have f0 : 0 ≤ S.1 0 11 := by have h1 := hI.2.2.2.2.2.2.2.2.2.2.1.1; have h2 := hI.2.2.2.2.2.2.2.2.2.2.1.2.1; omega
  have f1 : S.1 0 11 ≤ 1000 := by have h1 := hI.2.2.2.2.2.2.2.2.2.2.1.1; have h2 := hI.2.2.2.2.2.2.2.2.2.2.1.2.2; omega
  have r0 : 0 ≤ S.1 4 1 := by have h1 := hI.2.2.2.2.2.2.1.1; have h2 := hI.2.2.2.2.2.2.1.2.1; omega
  have r1 : S.1 4 1 ≤ 200 := by have h1 := hI.2.2.2.2.2.2.1.1; have h2 := hI.2.2.2.2.2.2.1.2.2.1; omega
  refine lv_aload_n hx hb dL_law_248 rfl (lv_at hl 1 rfl) ?_
  refine lv_aload_n hx hb dL_law_249 rfl (lv_at hl 3 rfl) ?_
  have hgm : gl S ≤ gl (K6_text S).2.2 := Nat.le_of_eq gl_text.symm
  obtain ⟨hcc, hI2⟩ := cOK_of (C_text hI)
  refine l_scall (As := [.ref (q 0), .ref ao]) (rest := []) (r := K6_text S) hx hb hml hown hts hK hE hV hJ (cL_text_ok l D cy q V H.size x y ao S f (K6_text S) (cX6_text_ok l hl0 D cy q V H.size x y a9 b9 S hF t0 t1 (fun j => ⟨(hI.2.2.2.2.1.1 j).1, by have := (hI.2.2.2.2.1.1 j).2; omega⟩))) (csL 2 hts tL_m_text tL_t_text tL_c_text rfl rfl rfl (by decide +kernel) ⟨Nat.le_of_ble_eq_true rfl, Nat.le_of_ble_eq_true rfl⟩) rfl hl.1 rfl (Nat.le_of_ble_eq_true rfl) dL_law_250 hR1 (fun x2 y2 f2 H locs hf2 hJ => ?_)
  have hr9 : (K6_text S).1.toNat ≤ 1 := by rcases hcc with ⟨h, -⟩ | ⟨h, -⟩ <;> rw [h] <;> decide
  have hcs2 : cells + gc S (K6_text S) ≤ 100 + gl (K6_text S).2.2 + (i + 4) ∧ slots + gs S (K6_text S) ≤ 20000 + 2 * gl (K6_text S).2.2 + 6 * (i + 4) := by
    simp only [gc, gs]
    omega
  have hgl2 : gl (K6_text S).2.2 ≤ 50000 := cFx_gl hI2.2.2.1
  generalize hrr : K6_text S = rr at *
  generalize cells + gc S rr = cells at *
  generalize slots + gs S rr = slots at *
  have hR2 : cells ≤ room_1.cells ∧ slots ≤ room_1.slots := by
    show cells ≤ 601024 ∧ slots ≤ 7293034
    have := hgl2
    omega
  refine lv_istore (lv' := [(5, .int (zI rr.1)), (0, .ref b), (1, .ref (q 0)), (2, .ref o), (3, .ref ao), (4, .int (zI (i : Int)))]) hx hb dL_law_253 hl (by decide) rfl (fun ls hl => ?_)
  refine lv_aload_n hx hb dL_law_255 rfl (lv_at hl 3 rfl) ?_
  refine l_mcall (As := []) (rest := []) hx hb hml hown hts hK hJ (cX7_text_ok l D cy o q2 M hI.2.2.2.1.2.1 hI.2.2.2.1.2.2.1 hI.2.2.2.2.1.2.1) (cwM 0 hts tL_M_text tL_I_text tL_S_text w7_cd_yX7_text rfl rfl (by decide +kernel) ⟨Nat.le_of_ble_eq_true rfl, Nat.le_of_ble_eq_true rfl⟩) rfl hl.1 rfl (Nat.le_of_ble_eq_true rfl) dL_law_256 hR2 (fun tv M1 H locs hp hJ => ?_)
  obtain ⟨rfl, rfl⟩ := hp
  refine lv_istore (lv' := [(6, .int (zI (M_text M).1)), (5, .int (zI rr.1)), (0, .ref b), (1, .ref (q 0)), (2, .ref o), (3, .ref ao), (4, .int (zI (i : Int)))]) hx hb dL_law_259 hl (by decide) rfl (fun ls hl => ?_)
  refine l_tail (tgt := 555) hx hb hml hown hts hK hJ hcc hf2 hl hR2 ⟨Nat.le_of_ble_eq_true rfl, Nat.le_of_ble_eq_true rfl⟩ dL_law_261 dL_law_262 dL_law_265 dL_law_267 dL_law_272 dL_law_274 dL_law_277 dL_law_278 dL_law_279 dL_law_280 dL_law_282 dL_law_283 dL_law_284 dL_law_289 (by decide) (fun H locs hJ => ?_)
  exact fin _ _ _ _ _ _ _ _ _ _ _ _ _ hI2 hJ hcs2 (lv_sub hl [2, 3, 4, 5, 6] rfl)
set_option maxHeartbeats 4000000 in
set_option maxRecDepth 100000 in
theorem l_start {p : Program} {l : Launch} {e : Env} {s : State} {m : MethodId} {below : List Frame} {meth : Method} {c : Code} (hl0 : l.stackTraces = false) {b L : Nat} {xs : Nat → Int32} (hL : L ≤ 2048) (C0 : lw_At p s m meth c b L xs) {D : va_G} {cy : Nat → ClassId} {V : Nat × (Nat → Nat)} {o : Nat} {q2 : Nat → Nat} {ao : Nat} (hK : va_K D vwCl (zTY cy) s) (hE : cEnv V s s.heap) (hV : V.1 = s.heap.size) (i : Nat) (hi : i + 4 ≤ L)
    (fin : ∀ (a9 b9 : Nat) (S : CSt) (M : MSt) (f : Nat → Int64) (q : Nat → Nat) (x y : Nat) (H : Heap) (locs : List Loc) (cells slots : Nat) (ls : Array Slot), INV a9 b9 S M → jF D cy q x y o q2 ao s.heap.size S M f s.heap H locs → (cells ≤ 100 + gl S + (i + 4) ∧ slots ≤ 20000 + 2 * gl S + 6 * (i + 4)) → lv_has ls 7 [(0, .ref b), (1, .ref (q 0)), (2, .ref o), (3, .ref ao), (4, .int (zI (i : Int)))] → W p l e room_1 s m #[Value.ref b] below meth c H locs cells slots (lw_Z below #[Value.ref b] s) (F0 m 555 ls [])) :
    ∀ (a9 b9 : Nat) (S : CSt) (M : MSt) (f : Nat → Int64) (q : Nat → Nat) (x y : Nat) (H : Heap) (locs : List Loc) (cells slots : Nat) (ls : Array Slot), INV a9 b9 S M → jF D cy q x y o q2 ao s.heap.size S M f s.heap H locs → (cells ≤ 100 + gl S + i ∧ slots ≤ 20000 + 2 * gl S + 6 * i) → lv_has ls 7 [(0, .ref b), (1, .ref (q 0)), (2, .ref o), (3, .ref ao), (4, .int (zI (i : Int)))] → W p l e room_1 s m #[Value.ref b] below meth c H locs cells slots (lw_Z below #[Value.ref b] s) (F0 m 292 ls []) := by
  obtain ⟨hx, hb, hr, hml, hown, hts, hX, hbl, hlocks, hgv⟩ := id C0
  have hbA : ¬ (fun a : Nat => s.heap.size ≤ a) b := Nat.not_le.mpr hbl
  intro a9 b9 S M f q x y H locs cells slots ls hI hJ hcs hl
  have hF : cFx a9 b9 S := hI.2.2.1
  have hgk : gl S ≤ 50000 := cFx_gl hF
  have hR1 : cells + ((gK - gl S) + 1) ≤ room_1.cells ∧ slots + (2 * (gK - gl S) + 6) ≤ room_1.slots := by
    show cells + ((50000 - gl S) + 1) ≤ 601024 ∧ slots + (2 * (50000 - gl S) + 6) ≤ 7293034
    omega
  have t0 : 0 ≤ S.1 1 1 := by have h1 := hI.2.2.2.1.1; have h2 := hI.2.2.2.1.2.1; omega
  have t1 : S.1 1 1 ≤ 40 := by have h1 := hI.2.2.2.1.1; have h2 := hI.2.2.2.1.2.2.1; omega
  have hBD : I_bd S := hI.2.2.2.2.2.2.2.2.2.1
  have x0 : 0 ≤ S.1 3 1 := by have h1 := hI.2.2.2.2.2.1.1; have h2 := hI.2.2.2.2.2.1.2.1; omega
  have x1 : S.1 3 1 ≤ 24 := by have h1 := hI.2.2.2.2.2.1.1; have h2 := hI.2.2.2.2.2.1.2.2.1; omega
  have f0 : 0 ≤ S.1 0 11 := by have h1 := hI.2.2.2.2.2.2.2.2.2.2.1.1; have h2 := hI.2.2.2.2.2.2.2.2.2.2.1.2.1; omega
  have f1 : S.1 0 11 ≤ 1000 := by have h1 := hI.2.2.2.2.2.2.2.2.2.2.1.1; have h2 := hI.2.2.2.2.2.2.2.2.2.2.1.2.2; omega
  have r0 : 0 ≤ S.1 4 1 := by have h1 := hI.2.2.2.2.2.2.1.1; have h2 := hI.2.2.2.2.2.2.1.2.1; omega
  have r1 : S.1 4 1 ≤ 200 := by have h1 := hI.2.2.2.2.2.2.1.1; have h2 := hI.2.2.2.2.2.2.1.2.2.1; omega
  refine lv_aload_n hx hb dL_law_292 rfl (lv_at hl 1 rfl) ?_
  refine lv_aload_n hx hb dL_law_293 rfl (lv_at hl 0 rfl) ?_
  refine lv_iload hx hb dL_law_294 (lv_at hl 4 rfl) ?_
  refine z_iconst hx hb dL_law_296 ?_
  refine z_iadd (x := (i : Int) + 1) hx hb rfl dL_law_297 ?_
  refine l_sld hx hb hX hbl hbA hJ.2.2.2.2 (i + 1) (by omega) hL (by omega) dL_law_298 ?_
  refine lv_aload_n hx hb dL_law_299 rfl (lv_at hl 3 rfl) ?_
  have hgm : gl S ≤ gl (K6_start (xs (i + 1)).toInt S).2.2 := Nat.le_of_eq gl_start.symm
  obtain ⟨hcc, hI2⟩ := cOK_of (C_start hI)
  refine l_scall (As := [.ref (q 0), .int (zI (xs (i + 1)).toInt), .ref ao]) (rest := []) (r := K6_start (xs (i + 1)).toInt S) hx hb hml hown hts hK hE hV hJ (cL_start_ok l D cy q V H.size x y ao S f (xs (i + 1)).toInt (K6_start (xs (i + 1)).toInt S) (cX6_start_ok l hl0 D cy q V H.size x y a9 b9 S hF (xs (i + 1)).toInt (zI_zr _).1 (zI_zr _).2)) (csL 3 hts tL_m_start tL_t_start tL_c_start rfl rfl rfl (by decide +kernel) ⟨Nat.le_of_ble_eq_true rfl, Nat.le_of_ble_eq_true rfl⟩) rfl hl.1 rfl (Nat.le_of_ble_eq_true rfl) dL_law_300 hR1 (fun x2 y2 f2 H locs hf2 hJ => ?_)
  have hr9 : (K6_start (xs (i + 1)).toInt S).1.toNat ≤ 1 := by rcases hcc with ⟨h, -⟩ | ⟨h, -⟩ <;> rw [h] <;> decide
  have hcs2 : cells + gc S (K6_start (xs (i + 1)).toInt S) ≤ 100 + gl (K6_start (xs (i + 1)).toInt S).2.2 + (i + 4) ∧ slots + gs S (K6_start (xs (i + 1)).toInt S) ≤ 20000 + 2 * gl (K6_start (xs (i + 1)).toInt S).2.2 + 6 * (i + 4) := by
    simp only [gc, gs]
    omega
  have hgl2 : gl (K6_start (xs (i + 1)).toInt S).2.2 ≤ 50000 := cFx_gl hI2.2.2.1
  generalize hrr : K6_start (xs (i + 1)).toInt S = rr at *
  generalize cells + gc S rr = cells at *
  generalize slots + gs S rr = slots at *
  have hR2 : cells ≤ room_1.cells ∧ slots ≤ room_1.slots := by
    show cells ≤ 601024 ∧ slots ≤ 7293034
    have := hgl2
    omega
  refine lv_istore (lv' := [(5, .int (zI rr.1)), (0, .ref b), (1, .ref (q 0)), (2, .ref o), (3, .ref ao), (4, .int (zI (i : Int)))]) hx hb dL_law_303 hl (by decide) rfl (fun ls hl => ?_)
  refine lv_aload_n hx hb dL_law_305 rfl (lv_at hl 3 rfl) ?_
  refine lv_aload_n hx hb dL_law_306 rfl (lv_at hl 1 rfl) ?_
  refine lv_iload hx hb dL_law_307 (lv_at hl 5 rfl) ?_
  refine z_iconst hx hb dL_law_309 ?_
  refine z_iadd (x := (i : Int) + 1) hx hb rfl dL_law_310 ?_
  refine l_sld hx hb hX hbl hbA hJ.2.2.2.2 (i + 1) (by omega) hL (by omega) dL_law_311 ?_
  refine l_mcall (As := [.int (zI (xs (i + 1)).toInt)]) (rest := []) hx hb hml hown hts hK hJ (cX7_start_ok l D cy o q2 M (xs (i + 1)).toInt (zI_zr _).1 (zI_zr _).2) (cwM 1 hts tL_M_start tL_I_start tL_S_start w7_cd_yX7_start rfl rfl (by decide +kernel) ⟨Nat.le_of_ble_eq_true rfl, Nat.le_of_ble_eq_true rfl⟩) rfl hl.1 rfl (Nat.le_of_ble_eq_true rfl) dL_law_312 hR2 (fun tv M1 H locs hp hJ => ?_)
  obtain ⟨rfl, rfl⟩ := hp
  refine lv_istore (lv' := [(6, .int (zI (M_start (xs (i + 1)).toInt M).1)), (5, .int (zI rr.1)), (0, .ref b), (1, .ref (q 0)), (2, .ref o), (3, .ref ao), (4, .int (zI (i : Int)))]) hx hb dL_law_315 hl (by decide) rfl (fun ls hl => ?_)
  refine l_tail (tgt := 555) hx hb hml hown hts hK hJ hcc hf2 hl hR2 ⟨Nat.le_of_ble_eq_true rfl, Nat.le_of_ble_eq_true rfl⟩ dL_law_317 dL_law_318 dL_law_321 dL_law_323 dL_law_328 dL_law_330 dL_law_333 dL_law_334 dL_law_335 dL_law_336 dL_law_338 dL_law_339 dL_law_340 dL_law_345 (by decide) (fun H locs hJ => ?_)
  exact fin _ _ _ _ _ _ _ _ _ _ _ _ _ hI2 hJ hcs2 (lv_sub hl [2, 3, 4, 5, 6] rfl)
set_option maxHeartbeats 4000000 in
set_option maxRecDepth 100000 in
theorem l_find {p : Program} {l : Launch} {e : Env} {s : State} {m : MethodId} {below : List Frame} {meth : Method} {c : Code} (hl0 : l.stackTraces = false) {b L : Nat} {xs : Nat → Int32} (hL : L ≤ 2048) (C0 : lw_At p s m meth c b L xs) {D : va_G} {cy : Nat → ClassId} {V : Nat × (Nat → Nat)} {o : Nat} {q2 : Nat → Nat} {ao : Nat} (hK : va_K D vwCl (zTY cy) s) (hE : cEnv V s s.heap) (hV : V.1 = s.heap.size) (i : Nat) (hi : i + 4 ≤ L)
    (fin : ∀ (a9 b9 : Nat) (S : CSt) (M : MSt) (f : Nat → Int64) (q : Nat → Nat) (x y : Nat) (H : Heap) (locs : List Loc) (cells slots : Nat) (ls : Array Slot), INV a9 b9 S M → jF D cy q x y o q2 ao s.heap.size S M f s.heap H locs → (cells ≤ 100 + gl S + (i + 4) ∧ slots ≤ 20000 + 2 * gl S + 6 * (i + 4)) → lv_has ls 7 [(0, .ref b), (1, .ref (q 0)), (2, .ref o), (3, .ref ao), (4, .int (zI (i : Int)))] → W p l e room_1 s m #[Value.ref b] below meth c H locs cells slots (lw_Z below #[Value.ref b] s) (F0 m 555 ls [])) :
    ∀ (a9 b9 : Nat) (S : CSt) (M : MSt) (f : Nat → Int64) (q : Nat → Nat) (x y : Nat) (H : Heap) (locs : List Loc) (cells slots : Nat) (ls : Array Slot), INV a9 b9 S M → jF D cy q x y o q2 ao s.heap.size S M f s.heap H locs → (cells ≤ 100 + gl S + i ∧ slots ≤ 20000 + 2 * gl S + 6 * i) → lv_has ls 7 [(0, .ref b), (1, .ref (q 0)), (2, .ref o), (3, .ref ao), (4, .int (zI (i : Int)))] → W p l e room_1 s m #[Value.ref b] below meth c H locs cells slots (lw_Z below #[Value.ref b] s) (F0 m 348 ls []) := by
  obtain ⟨hx, hb, hr, hml, hown, hts, hX, hbl, hlocks, hgv⟩ := id C0
  have hbA : ¬ (fun a : Nat => s.heap.size ≤ a) b := Nat.not_le.mpr hbl
  intro a9 b9 S M f q x y H locs cells slots ls hI hJ hcs hl
  have hF : cFx a9 b9 S := hI.2.2.1
  have hgk : gl S ≤ 50000 := cFx_gl hF
  have hR1 : cells + ((gK - gl S) + 1) ≤ room_1.cells ∧ slots + (2 * (gK - gl S) + 6) ≤ room_1.slots := by
    show cells + ((50000 - gl S) + 1) ≤ 601024 ∧ slots + (2 * (50000 - gl S) + 6) ≤ 7293034
    omega
  have t0 : 0 ≤ S.1 1 1 := by have h1 := hI.2.2.2.1.1; have h2 := hI.2.2.2.1.2.1; omega
  have t1 : S.1 1 1 ≤ 40 := by have h1 := hI.2.2.2.1.1; have h2 := hI.2.2.2.1.2.2.1; omega
  have hBD : I_bd S := hI.2.2.2.2.2.2.2.2.2.1
  have x0 : 0 ≤ S.1 3 1 := by have h1 := hI.2.2.2.2.2.1.1; have h2 := hI.2.2.2.2.2.1.2.1; omega
  have x1 : S.1 3 1 ≤ 24 := by have h1 := hI.2.2.2.2.2.1.1; have h2 := hI.2.2.2.2.2.1.2.2.1; omega
  have f0 : 0 ≤ S.1 0 11 := by have h1 := hI.2.2.2.2.2.2.2.2.2.2.1.1; have h2 := hI.2.2.2.2.2.2.2.2.2.2.1.2.1; omega
  have f1 : S.1 0 11 ≤ 1000 := by have h1 := hI.2.2.2.2.2.2.2.2.2.2.1.1; have h2 := hI.2.2.2.2.2.2.2.2.2.2.1.2.2; omega
  have r0 : 0 ≤ S.1 4 1 := by have h1 := hI.2.2.2.2.2.2.1.1; have h2 := hI.2.2.2.2.2.2.1.2.1; omega
  have r1 : S.1 4 1 ≤ 200 := by have h1 := hI.2.2.2.2.2.2.1.1; have h2 := hI.2.2.2.2.2.2.1.2.2.1; omega
  refine lv_aload_n hx hb dL_law_348 rfl (lv_at hl 1 rfl) ?_
  refine lv_aload_n hx hb dL_law_349 rfl (lv_at hl 3 rfl) ?_
  have hgm : gl S ≤ gl (K6_find S).2.2 := gl_find hI
  obtain ⟨hcc, hI2⟩ := cOK_of ((C_find hI).1)
  refine l_scall (As := [.ref (q 0), .ref ao]) (rest := []) (r := K6_find S) hx hb hml hown hts hK hE hV hJ (cL_find_ok l D cy q V H.size x y ao S f (K6_find S) (cX6_find_ok l hl0 D cy q V H.size x y a9 b9 S hF (by rcases hI.1 with h | h <;> omega) hBD.2.2.1 hBD.1 x0 x1 f0 f1 (C_find hI).2.2)) (csL 2 hts tL_m_find tL_t_find tL_c_find rfl rfl rfl (by decide +kernel) ⟨Nat.le_of_ble_eq_true rfl, Nat.le_of_ble_eq_true rfl⟩) rfl hl.1 rfl (Nat.le_of_ble_eq_true rfl) dL_law_350 hR1 (fun x2 y2 f2 H locs hf2 hJ => ?_)
  have hr9 : (K6_find S).1.toNat ≤ 1 := by rcases hcc with ⟨h, -⟩ | ⟨h, -⟩ <;> rw [h] <;> decide
  have hcs2 : cells + gc S (K6_find S) ≤ 100 + gl (K6_find S).2.2 + (i + 4) ∧ slots + gs S (K6_find S) ≤ 20000 + 2 * gl (K6_find S).2.2 + 6 * (i + 4) := by
    simp only [gc, gs]
    omega
  have hgl2 : gl (K6_find S).2.2 ≤ 50000 := cFx_gl hI2.2.2.1
  generalize hrr : K6_find S = rr at *
  generalize cells + gc S rr = cells at *
  generalize slots + gs S rr = slots at *
  have hR2 : cells ≤ room_1.cells ∧ slots ≤ room_1.slots := by
    show cells ≤ 601024 ∧ slots ≤ 7293034
    have := hgl2
    omega
  refine lv_istore (lv' := [(5, .int (zI rr.1)), (0, .ref b), (1, .ref (q 0)), (2, .ref o), (3, .ref ao), (4, .int (zI (i : Int)))]) hx hb dL_law_353 hl (by decide) rfl (fun ls hl => ?_)
  refine lv_aload_n hx hb dL_law_355 rfl (lv_at hl 3 rfl) ?_
  refine l_mcall (As := []) (rest := []) hx hb hml hown hts hK hJ (cX7_find_ok l D cy o q2 M (C_find hI).2.1) (cwM 0 hts tL_M_find tL_I_find tL_S_find w7_cd_yX7_find rfl rfl (by decide +kernel) ⟨Nat.le_of_ble_eq_true rfl, Nat.le_of_ble_eq_true rfl⟩) rfl hl.1 rfl (Nat.le_of_ble_eq_true rfl) dL_law_356 hR2 (fun tv M1 H locs hp hJ => ?_)
  obtain ⟨rfl, rfl⟩ := hp
  refine lv_istore (lv' := [(6, .int (zI (M_find M).1)), (5, .int (zI rr.1)), (0, .ref b), (1, .ref (q 0)), (2, .ref o), (3, .ref ao), (4, .int (zI (i : Int)))]) hx hb dL_law_359 hl (by decide) rfl (fun ls hl => ?_)
  refine l_tail (tgt := 555) hx hb hml hown hts hK hJ hcc hf2 hl hR2 ⟨Nat.le_of_ble_eq_true rfl, Nat.le_of_ble_eq_true rfl⟩ dL_law_361 dL_law_362 dL_law_365 dL_law_367 dL_law_372 dL_law_374 dL_law_377 dL_law_378 dL_law_379 dL_law_380 dL_law_382 dL_law_383 dL_law_384 dL_law_389 (by decide) (fun H locs hJ => ?_)
  exact fin _ _ _ _ _ _ _ _ _ _ _ _ _ hI2 hJ hcs2 (lv_sub hl [2, 3, 4, 5, 6] rfl)
set_option maxHeartbeats 4000000 in
set_option maxRecDepth 100000 in
theorem l_replace {p : Program} {l : Launch} {e : Env} {s : State} {m : MethodId} {below : List Frame} {meth : Method} {c : Code} (hl0 : l.stackTraces = false) {b L : Nat} {xs : Nat → Int32} (hL : L ≤ 2048) (C0 : lw_At p s m meth c b L xs) {D : va_G} {cy : Nat → ClassId} {V : Nat × (Nat → Nat)} {o : Nat} {q2 : Nat → Nat} {ao : Nat} (hK : va_K D vwCl (zTY cy) s) (hE : cEnv V s s.heap) (hV : V.1 = s.heap.size) (i : Nat) (hi : i + 4 ≤ L)
    (fin : ∀ (a9 b9 : Nat) (S : CSt) (M : MSt) (f : Nat → Int64) (q : Nat → Nat) (x y : Nat) (H : Heap) (locs : List Loc) (cells slots : Nat) (ls : Array Slot), INV a9 b9 S M → jF D cy q x y o q2 ao s.heap.size S M f s.heap H locs → (cells ≤ 100 + gl S + (i + 4) ∧ slots ≤ 20000 + 2 * gl S + 6 * (i + 4)) → lv_has ls 7 [(0, .ref b), (1, .ref (q 0)), (2, .ref o), (3, .ref ao), (4, .int (zI (i : Int)))] → W p l e room_1 s m #[Value.ref b] below meth c H locs cells slots (lw_Z below #[Value.ref b] s) (F0 m 555 ls [])) :
    ∀ (a9 b9 : Nat) (S : CSt) (M : MSt) (f : Nat → Int64) (q : Nat → Nat) (x y : Nat) (H : Heap) (locs : List Loc) (cells slots : Nat) (ls : Array Slot), INV a9 b9 S M → jF D cy q x y o q2 ao s.heap.size S M f s.heap H locs → (cells ≤ 100 + gl S + i ∧ slots ≤ 20000 + 2 * gl S + 6 * i) → lv_has ls 7 [(0, .ref b), (1, .ref (q 0)), (2, .ref o), (3, .ref ao), (4, .int (zI (i : Int)))] → W p l e room_1 s m #[Value.ref b] below meth c H locs cells slots (lw_Z below #[Value.ref b] s) (F0 m 455 ls []) := by
  obtain ⟨hx, hb, hr, hml, hown, hts, hX, hbl, hlocks, hgv⟩ := id C0
  have hbA : ¬ (fun a : Nat => s.heap.size ≤ a) b := Nat.not_le.mpr hbl
  intro a9 b9 S M f q x y H locs cells slots ls hI hJ hcs hl
  have hF : cFx a9 b9 S := hI.2.2.1
  have hgk : gl S ≤ 50000 := cFx_gl hF
  have hR1 : cells + ((gK - gl S) + 1) ≤ room_1.cells ∧ slots + (2 * (gK - gl S) + 6) ≤ room_1.slots := by
    show cells + ((50000 - gl S) + 1) ≤ 601024 ∧ slots + (2 * (50000 - gl S) + 6) ≤ 7293034
    omega
  have t0 : 0 ≤ S.1 1 1 := by have h1 := hI.2.2.2.1.1; have h2 := hI.2.2.2.1.2.1; omega
  have t1 : S.1 1 1 ≤ 40 := by have h1 := hI.2.2.2.1.1; have h2 := hI.2.2.2.1.2.2.1; omega
  have hBD : I_bd S := hI.2.2.2.2.2.2.2.2.2.1
  have x0 : 0 ≤ S.1 3 1 := by have h1 := hI.2.2.2.2.2.1.1; have h2 := hI.2.2.2.2.2.1.2.1; omega
  have x1 : S.1 3 1 ≤ 24 := by have h1 := hI.2.2.2.2.2.1.1; have h2 := hI.2.2.2.2.2.1.2.2.1; omega
  have f0 : 0 ≤ S.1 0 11 := by have h1 := hI.2.2.2.2.2.2.2.2.2.2.1.1; have h2 := hI.2.2.2.2.2.2.2.2.2.2.1.2.1; omega
  have f1 : S.1 0 11 ≤ 1000 := by have h1 := hI.2.2.2.2.2.2.2.2.2.2.1.1; have h2 := hI.2.2.2.2.2.2.2.2.2.2.1.2.2; omega
  have r0 : 0 ≤ S.1 4 1 := by have h1 := hI.2.2.2.2.2.2.1.1; have h2 := hI.2.2.2.2.2.2.1.2.1; omega
  have r1 : S.1 4 1 ≤ 200 := by have h1 := hI.2.2.2.2.2.2.1.1; have h2 := hI.2.2.2.2.2.2.1.2.2.1; omega
  refine lv_aload_n hx hb dL_law_455 rfl (lv_at hl 1 rfl) ?_
  refine lv_aload_n hx hb dL_law_456 rfl (lv_at hl 3 rfl) ?_
  have hgm : gl S ≤ gl (K6_replace S).2.2 := gl_replace hI
  refine l_scall (As := [.ref (q 0), .ref ao]) (rest := []) (r := K6_replace S) hx hb hml hown hts hK hE hV hJ (cL_replace_ok l D cy q V H.size x y ao S f (K6_replace S) (cX6_replace_ok l hl0 D cy q V H.size x y a9 b9 S hF hI.1 hI.2.1 (C_replace hI).2.2)) (csL 2 hts tL_m_replace tL_t_replace tL_c_replace rfl rfl rfl (by decide +kernel) ⟨Nat.le_of_ble_eq_true rfl, Nat.le_of_ble_eq_true rfl⟩) rfl hl.1 rfl (Nat.le_of_ble_eq_true rfl) dL_law_457 hR1 (fun x2 y2 f2 H locs hf2 hJ => ?_)
  obtain ⟨hcc, -⟩ := C_replace hI
  have hr9 : (K6_replace S).1.toNat ≤ 1 := by rcases hcc with ⟨h, -⟩ | ⟨h, -⟩ <;> rw [h] <;> decide
  have hcs2 : cells + gc S (K6_replace S) ≤ 100 + gl (K6_replace S).2.2 + (i + 4) ∧ slots + gs S (K6_replace S) ≤ 20000 + 2 * gl (K6_replace S).2.2 + 6 * (i + 4) := by
    simp only [gc, gs]
    omega
  have hgl2 : gl (K6_replace S).2.2 ≤ 50000 := by
    rcases hcc with ⟨-, -, b2, hI2⟩ | ⟨-, -, -, X, b2, eX, hI2⟩
    · exact cFx_gl hI2.2.2.1
    · rw [eX, gl_sw]; exact cFx_gl hI2.2.2.1
  generalize hrr : K6_replace S = rr at *
  generalize cells + gc S rr = cells at *
  generalize slots + gs S rr = slots at *
  have hR2 : cells ≤ room_1.cells ∧ slots ≤ room_1.slots := by
    show cells ≤ 601024 ∧ slots ≤ 7293034
    have := hgl2
    omega
  refine lv_istore (lv' := [(5, .int (zI rr.1)), (0, .ref b), (1, .ref (q 0)), (2, .ref o), (3, .ref ao), (4, .int (zI (i : Int)))]) hx hb dL_law_460 hl (by decide) rfl (fun ls hl => ?_)
  refine lv_aload_n hx hb dL_law_462 rfl (lv_at hl 3 rfl) ?_
  refine l_mcall (As := []) (rest := []) hx hb hml hown hts hK hJ (cX7_replace_ok l D cy o q2 M (C_replace hI).2.1) (cwM 0 hts tL_M_replace tL_I_replace tL_S_replace w7_cd_yX7_replace rfl rfl (by decide +kernel) ⟨Nat.le_of_ble_eq_true rfl, Nat.le_of_ble_eq_true rfl⟩) rfl hl.1 rfl (Nat.le_of_ble_eq_true rfl) dL_law_463 hR2 (fun tv M1 H locs hp hJ => ?_)
  obtain ⟨rfl, rfl⟩ := hp
  refine lv_istore (lv' := [(6, .int (zI (M_replace M).1)), (5, .int (zI rr.1)), (0, .ref b), (1, .ref (q 0)), (2, .ref o), (3, .ref ao), (4, .int (zI (i : Int)))]) hx hb dL_law_466 hl (by decide) rfl (fun ls hl => ?_)
  have hk : (rr.1 = 1 ∧ (M_replace M).2.1 0 = 1) ∨ (rr.1 = 0 ∧ (M_replace M).2.1 0 = 0 ∧ rr.2.1 = (M_replace M).1) := by
    rcases hcc with ⟨h1, h2, -⟩ | ⟨h1, h2, h3, -⟩
    · exact Or.inl ⟨h1, h2⟩
    · exact Or.inr ⟨h1, h2, h3⟩
  refine l_tail (tgt := 555) hx hb hml hown hts hK hJ hk hf2 hl hR2 ⟨Nat.le_of_ble_eq_true rfl, Nat.le_of_ble_eq_true rfl⟩ dL_law_468 dL_law_469 dL_law_472 dL_law_474 dL_law_479 dL_law_481 dL_law_484 dL_law_485 dL_law_486 dL_law_487 dL_law_489 dL_law_490 dL_law_491 dL_law_496 (by decide) (fun H locs hJ => ?_)
  rcases hcc with ⟨-, -, b2, hI2⟩ | ⟨-, -, -, X, b2, eX, hI2⟩
  · exact fin _ _ _ _ _ _ _ _ _ _ _ _ _ hI2 hJ hcs2 (lv_sub hl [2, 3, 4, 5, 6] rfl)
  · rw [eX] at hJ hcs2
    rw [gl_sw] at hcs2
    exact fin _ _ _ _ _ _ _ _ _ _ _ _ _ hI2 (jF_sw hJ) hcs2 (lv_sub hl [2, 3, 4, 5, 6] rfl)
set_option maxHeartbeats 4000000 in
set_option maxRecDepth 100000 in
theorem l_result {p : Program} {l : Launch} {e : Env} {s : State} {m : MethodId} {below : List Frame} {meth : Method} {c : Code} (hl0 : l.stackTraces = false) {b L : Nat} {xs : Nat → Int32} (hL : L ≤ 2048) (C0 : lw_At p s m meth c b L xs) {D : va_G} {cy : Nat → ClassId} {V : Nat × (Nat → Nat)} {o : Nat} {q2 : Nat → Nat} {ao : Nat} (hK : va_K D vwCl (zTY cy) s) (hE : cEnv V s s.heap) (hV : V.1 = s.heap.size) (i : Nat) (hi : i + 4 ≤ L)
    (fin : ∀ (a9 b9 : Nat) (S : CSt) (M : MSt) (f : Nat → Int64) (q : Nat → Nat) (x y : Nat) (H : Heap) (locs : List Loc) (cells slots : Nat) (ls : Array Slot), INV a9 b9 S M → jF D cy q x y o q2 ao s.heap.size S M f s.heap H locs → (cells ≤ 100 + gl S + (i + 4) ∧ slots ≤ 20000 + 2 * gl S + 6 * (i + 4)) → lv_has ls 7 [(0, .ref b), (1, .ref (q 0)), (2, .ref o), (3, .ref ao), (4, .int (zI (i : Int)))] → W p l e room_1 s m #[Value.ref b] below meth c H locs cells slots (lw_Z below #[Value.ref b] s) (F0 m 555 ls [])) :
    ∀ (a9 b9 : Nat) (S : CSt) (M : MSt) (f : Nat → Int64) (q : Nat → Nat) (x y : Nat) (H : Heap) (locs : List Loc) (cells slots : Nat) (ls : Array Slot), INV a9 b9 S M → jF D cy q x y o q2 ao s.heap.size S M f s.heap H locs → (cells ≤ 100 + gl S + i ∧ slots ≤ 20000 + 2 * gl S + 6 * i) → lv_has ls 7 [(0, .ref b), (1, .ref (q 0)), (2, .ref o), (3, .ref ao), (4, .int (zI (i : Int)))] → W p l e room_1 s m #[Value.ref b] below meth c H locs cells slots (lw_Z below #[Value.ref b] s) (F0 m 499 ls []) := by
  obtain ⟨hx, hb, hr, hml, hown, hts, hX, hbl, hlocks, hgv⟩ := id C0
  have hbA : ¬ (fun a : Nat => s.heap.size ≤ a) b := Nat.not_le.mpr hbl
  intro a9 b9 S M f q x y H locs cells slots ls hI hJ hcs hl
  have hF : cFx a9 b9 S := hI.2.2.1
  have hgk : gl S ≤ 50000 := cFx_gl hF
  have hR1 : cells + ((gK - gl S) + 1) ≤ room_1.cells ∧ slots + (2 * (gK - gl S) + 6) ≤ room_1.slots := by
    show cells + ((50000 - gl S) + 1) ≤ 601024 ∧ slots + (2 * (50000 - gl S) + 6) ≤ 7293034
    omega
  have t0 : 0 ≤ S.1 1 1 := by have h1 := hI.2.2.2.1.1; have h2 := hI.2.2.2.1.2.1; omega
  have t1 : S.1 1 1 ≤ 40 := by have h1 := hI.2.2.2.1.1; have h2 := hI.2.2.2.1.2.2.1; omega
  have hBD : I_bd S := hI.2.2.2.2.2.2.2.2.2.1
  have x0 : 0 ≤ S.1 3 1 := by have h1 := hI.2.2.2.2.2.1.1; have h2 := hI.2.2.2.2.2.1.2.1; omega
  have x1 : S.1 3 1 ≤ 24 := by have h1 := hI.2.2.2.2.2.1.1; have h2 := hI.2.2.2.2.2.1.2.2.1; omega
  have f0 : 0 ≤ S.1 0 11 := by have h1 := hI.2.2.2.2.2.2.2.2.2.2.1.1; have h2 := hI.2.2.2.2.2.2.2.2.2.2.1.2.1; omega
  have f1 : S.1 0 11 ≤ 1000 := by have h1 := hI.2.2.2.2.2.2.2.2.2.2.1.1; have h2 := hI.2.2.2.2.2.2.2.2.2.2.1.2.2; omega
  have r0 : 0 ≤ S.1 4 1 := by have h1 := hI.2.2.2.2.2.2.1.1; have h2 := hI.2.2.2.2.2.2.1.2.1; omega
  have r1 : S.1 4 1 ≤ 200 := by have h1 := hI.2.2.2.2.2.2.1.1; have h2 := hI.2.2.2.2.2.2.1.2.2.1; omega
  refine lv_aload_n hx hb dL_law_499 rfl (lv_at hl 1 rfl) ?_
  refine lv_aload_n hx hb dL_law_500 rfl (lv_at hl 0 rfl) ?_
  refine lv_iload hx hb dL_law_501 (lv_at hl 4 rfl) ?_
  refine z_iconst hx hb dL_law_503 ?_
  refine z_iadd (x := (i : Int) + 1) hx hb rfl dL_law_504 ?_
  refine l_sld hx hb hX hbl hbA hJ.2.2.2.2 (i + 1) (by omega) hL (by omega) dL_law_505 ?_
  refine lv_aload_n hx hb dL_law_506 rfl (lv_at hl 3 rfl) ?_
  have hgm : gl S ≤ gl (K6_result (xs (i + 1)).toInt S).2.2 := Nat.le_of_eq gl_result.symm
  obtain ⟨hcc, hI2⟩ := cOK_of (C_result hI)
  refine l_scall (As := [.ref (q 0), .int (zI (xs (i + 1)).toInt), .ref ao]) (rest := []) (r := K6_result (xs (i + 1)).toInt S) hx hb hml hown hts hK hE hV hJ (cL_result_ok l D cy q V H.size x y ao S f (xs (i + 1)).toInt (K6_result (xs (i + 1)).toInt S) (cX6_result_ok l hl0 D cy q V H.size x y a9 b9 S hF (xs (i + 1)).toInt (zI_zr _).1 (zI_zr _).2 r0 r1 hI.2.2.2.2.2.2.1.2.2.2.2.1)) (csL 3 hts tL_m_result tL_t_result tL_c_result rfl rfl rfl (by decide +kernel) ⟨Nat.le_of_ble_eq_true rfl, Nat.le_of_ble_eq_true rfl⟩) rfl hl.1 rfl (Nat.le_of_ble_eq_true rfl) dL_law_507 hR1 (fun x2 y2 f2 H locs hf2 hJ => ?_)
  have hr9 : (K6_result (xs (i + 1)).toInt S).1.toNat ≤ 1 := by rcases hcc with ⟨h, -⟩ | ⟨h, -⟩ <;> rw [h] <;> decide
  have hcs2 : cells + gc S (K6_result (xs (i + 1)).toInt S) ≤ 100 + gl (K6_result (xs (i + 1)).toInt S).2.2 + (i + 4) ∧ slots + gs S (K6_result (xs (i + 1)).toInt S) ≤ 20000 + 2 * gl (K6_result (xs (i + 1)).toInt S).2.2 + 6 * (i + 4) := by
    simp only [gc, gs]
    omega
  have hgl2 : gl (K6_result (xs (i + 1)).toInt S).2.2 ≤ 50000 := cFx_gl hI2.2.2.1
  generalize hrr : K6_result (xs (i + 1)).toInt S = rr at *
  generalize cells + gc S rr = cells at *
  generalize slots + gs S rr = slots at *
  have hR2 : cells ≤ room_1.cells ∧ slots ≤ room_1.slots := by
    show cells ≤ 601024 ∧ slots ≤ 7293034
    have := hgl2
    omega
  refine lv_istore (lv' := [(5, .int (zI rr.1)), (0, .ref b), (1, .ref (q 0)), (2, .ref o), (3, .ref ao), (4, .int (zI (i : Int)))]) hx hb dL_law_510 hl (by decide) rfl (fun ls hl => ?_)
  refine lv_aload_n hx hb dL_law_512 rfl (lv_at hl 3 rfl) ?_
  refine lv_aload_n hx hb dL_law_513 rfl (lv_at hl 1 rfl) ?_
  refine lv_iload hx hb dL_law_514 (lv_at hl 5 rfl) ?_
  refine z_iconst hx hb dL_law_516 ?_
  refine z_iadd (x := (i : Int) + 1) hx hb rfl dL_law_517 ?_
  refine l_sld hx hb hX hbl hbA hJ.2.2.2.2 (i + 1) (by omega) hL (by omega) dL_law_518 ?_
  refine l_mcall (As := [.int (zI (xs (i + 1)).toInt)]) (rest := []) hx hb hml hown hts hK hJ (cX7_result_ok l D cy o q2 M (xs (i + 1)).toInt (zI_zr _).1 (zI_zr _).2 hI.2.2.2.2.2.2.1.2.1 hI.2.2.2.2.2.2.1.2.2.1 hI.2.2.2.2.2.2.1.2.2.2.2.2.2.1) (cwM 1 hts tL_M_result tL_I_result tL_S_result w7_cd_yX7_result rfl rfl (by decide +kernel) ⟨Nat.le_of_ble_eq_true rfl, Nat.le_of_ble_eq_true rfl⟩) rfl hl.1 rfl (Nat.le_of_ble_eq_true rfl) dL_law_519 hR2 (fun tv M1 H locs hp hJ => ?_)
  obtain ⟨rfl, rfl⟩ := hp
  refine lv_istore (lv' := [(6, .int (zI (M_result (xs (i + 1)).toInt M).1)), (5, .int (zI rr.1)), (0, .ref b), (1, .ref (q 0)), (2, .ref o), (3, .ref ao), (4, .int (zI (i : Int)))]) hx hb dL_law_522 hl (by decide) rfl (fun ls hl => ?_)
  refine l_tail (tgt := 555) hx hb hml hown hts hK hJ hcc hf2 hl hR2 ⟨Nat.le_of_ble_eq_true rfl, Nat.le_of_ble_eq_true rfl⟩ dL_law_524 dL_law_525 dL_law_528 dL_law_530 dL_law_535 dL_law_537 dL_law_540 dL_law_541 dL_law_542 dL_law_543 dL_law_545 dL_law_546 dL_law_547 dL_law_552 (by decide) (fun H locs hJ => ?_)
  exact fin _ _ _ _ _ _ _ _ _ _ _ _ _ hI2 hJ hcs2 (lv_sub hl [2, 3, 4, 5, 6] rfl)
set_option maxHeartbeats 4000000 in
set_option maxRecDepth 100000 in
theorem l_from {p : Program} {l : Launch} {e : Env} {s : State} {m : MethodId} {below : List Frame} {meth : Method} {c : Code} (hl0 : l.stackTraces = false) {b L : Nat} {xs : Nat → Int32} (hL : L ≤ 2048) (C0 : lw_At p s m meth c b L xs) {D : va_G} {cy : Nat → ClassId} {V : Nat × (Nat → Nat)} {o : Nat} {q2 : Nat → Nat} {ao : Nat} (hK : va_K D vwCl (zTY cy) s) (hE : cEnv V s s.heap) (hV : V.1 = s.heap.size) (i : Nat) (hi : i + 4 ≤ L)
    (fin : ∀ (a9 b9 : Nat) (S : CSt) (M : MSt) (f : Nat → Int64) (q : Nat → Nat) (x y : Nat) (H : Heap) (locs : List Loc) (cells slots : Nat) (ls : Array Slot), INV a9 b9 S M → jF D cy q x y o q2 ao s.heap.size S M f s.heap H locs → (cells ≤ 100 + gl S + (i + 4) ∧ slots ≤ 20000 + 2 * gl S + 6 * (i + 4)) → lv_has ls 7 [(0, .ref b), (1, .ref (q 0)), (2, .ref o), (3, .ref ao), (4, .int (zI (i : Int)))] → W p l e room_1 s m #[Value.ref b] below meth c H locs cells slots (lw_Z below #[Value.ref b] s) (F0 m 555 ls [])) :
    ∀ (a9 b9 : Nat) (S : CSt) (M : MSt) (f : Nat → Int64) (q : Nat → Nat) (x y : Nat) (H : Heap) (locs : List Loc) (cells slots : Nat) (ls : Array Slot), INV a9 b9 S M → jF D cy q x y o q2 ao s.heap.size S M f s.heap H locs → (cells ≤ 100 + gl S + i ∧ slots ≤ 20000 + 2 * gl S + 6 * i) → lv_has ls 7 [(0, .ref b), (1, .ref (q 0)), (2, .ref o), (3, .ref ao), (4, .int (zI (i : Int)))] → W p l e room_1 s m #[Value.ref b] below meth c H locs cells slots (lw_Z below #[Value.ref b] s) (F0 m 392 ls []) := by
  obtain ⟨hx, hb, hr, hml, hown, hts, hX, hbl, hlocks, hgv⟩ := id C0
  have hbA : ¬ (fun a : Nat => s.heap.size ≤ a) b := Nat.not_le.mpr hbl
  intro a9 b9 S M f q x y H locs cells slots ls hI hJ hcs hl
  have hF : cFx a9 b9 S := hI.2.2.1
  have hgk : gl S ≤ 50000 := cFx_gl hF
  have hR1 : cells + ((gK - gl S) + 1) ≤ room_1.cells ∧ slots + (2 * (gK - gl S) + 6) ≤ room_1.slots := by
    show cells + ((50000 - gl S) + 1) ≤ 601024 ∧ slots + (2 * (50000 - gl S) + 6) ≤ 7293034
    omega
  have hR2 : cells ≤ room_1.cells ∧ slots ≤ room_1.slots := by
    show cells ≤ 601024 ∧ slots ≤ 7293034
    omega
  obtain ⟨he, hI2⟩ := C_from (k := (xs (i + 1)).toInt) hI
  refine lv_aload_n hx hb dL_law_392 rfl (lv_at hl 1 rfl) ?_
  refine lv_aload_n hx hb dL_law_393 rfl (lv_at hl 0 rfl) ?_
  refine lv_iload hx hb dL_law_394 (lv_at hl 4 rfl) ?_
  refine z_iconst hx hb dL_law_396 ?_
  refine z_iadd (x := (i : Int) + 1) hx hb rfl dL_law_397 ?_
  refine l_sld hx hb hX hbl hbA hJ.2.2.2.2 (i + 1) (by omega) hL (by omega) dL_law_398 ?_
  refine l_ccall (As := [.int (zI (xs (i + 1)).toInt)]) (rest := []) hx hb hml hown hts hK hJ (cX6_from_ok l D cy (cq q x y) a9 b9 S hF (xs (i + 1)).toInt (zI_zr _).1 (zI_zr _).2) (cwK 1 hts tL_K_from tL_J_from tL_T_from wC_cd_yX6_from rfl rfl (by decide +kernel) ⟨Nat.le_of_ble_eq_true rfl, Nat.le_of_ble_eq_true rfl⟩) rfl hl.1 rfl (Nat.le_of_ble_eq_true rfl) dL_law_399 hR2 (fun H locs hJ => ?_)
  refine lv_aload_n hx hb dL_law_402 rfl (lv_at hl 2 rfl) ?_
  refine lv_aload_n hx hb dL_law_403 rfl (lv_at hl 0 rfl) ?_
  refine lv_iload hx hb dL_law_404 (lv_at hl 4 rfl) ?_
  refine z_iconst hx hb dL_law_406 ?_
  refine z_iadd (x := (i : Int) + 1) hx hb rfl dL_law_407 ?_
  refine l_sld hx hb hX hbl hbA hJ.2.2.2.2 (i + 1) (by omega) hL (by omega) dL_law_408 ?_
  have z0 : 0 ≤ M.1 42 := by rcases hI.2.2.2.2.2.2.2.2.2.2.2.2.1 with h | h <;> omega
  have z1 : M.1 42 ≤ 1 := by rcases hI.2.2.2.2.2.2.2.2.2.2.2.2.1 with h | h <;> omega
  refine l_mcall (As := [.int (zI (xs (i + 1)).toInt)]) (rest := [.int (zI (K6_from (xs (i + 1)).toInt S))]) hx hb hml hown hts hK hJ (cX7_from_ok l D cy o q2 M (xs (i + 1)).toInt (zI_zr _).1 (zI_zr _).2 z0 z1 (INV_12 hI).1 (INV_12 hI).2) (cwM 1 hts tL_M_from tL_I_from tL_S_from w7_cd_yX7_from rfl rfl (by decide +kernel) ⟨Nat.le_of_ble_eq_true rfl, Nat.le_of_ble_eq_true rfl⟩) rfl hl.1 rfl (Nat.le_of_ble_eq_true rfl) dL_law_409 hR2 (fun tv M1 H locs hp hJ => ?_)
  obtain ⟨rfl, rfl⟩ := hp
  refine lv_icmp_eq (tgt := 555) hx hb dL_law_412 (by decide) (fun _ => ?_) (fun hne => absurd (by rw [he]) hne)
  exact fin _ _ _ _ _ _ _ _ _ _ _ _ _ hI2 hJ ⟨by omega, by omega⟩ hl
set_option maxHeartbeats 4000000 in
set_option maxRecDepth 100000 in
theorem l_to {p : Program} {l : Launch} {e : Env} {s : State} {m : MethodId} {below : List Frame} {meth : Method} {c : Code} (hl0 : l.stackTraces = false) {b L : Nat} {xs : Nat → Int32} (hL : L ≤ 2048) (C0 : lw_At p s m meth c b L xs) {D : va_G} {cy : Nat → ClassId} {V : Nat × (Nat → Nat)} {o : Nat} {q2 : Nat → Nat} {ao : Nat} (hK : va_K D vwCl (zTY cy) s) (hE : cEnv V s s.heap) (hV : V.1 = s.heap.size) (i : Nat) (hi : i + 4 ≤ L)
    (fin : ∀ (a9 b9 : Nat) (S : CSt) (M : MSt) (f : Nat → Int64) (q : Nat → Nat) (x y : Nat) (H : Heap) (locs : List Loc) (cells slots : Nat) (ls : Array Slot), INV a9 b9 S M → jF D cy q x y o q2 ao s.heap.size S M f s.heap H locs → (cells ≤ 100 + gl S + (i + 4) ∧ slots ≤ 20000 + 2 * gl S + 6 * (i + 4)) → lv_has ls 7 [(0, .ref b), (1, .ref (q 0)), (2, .ref o), (3, .ref ao), (4, .int (zI (i : Int)))] → W p l e room_1 s m #[Value.ref b] below meth c H locs cells slots (lw_Z below #[Value.ref b] s) (F0 m 555 ls [])) :
    ∀ (a9 b9 : Nat) (S : CSt) (M : MSt) (f : Nat → Int64) (q : Nat → Nat) (x y : Nat) (H : Heap) (locs : List Loc) (cells slots : Nat) (ls : Array Slot), INV a9 b9 S M → jF D cy q x y o q2 ao s.heap.size S M f s.heap H locs → (cells ≤ 100 + gl S + i ∧ slots ≤ 20000 + 2 * gl S + 6 * i) → lv_has ls 7 [(0, .ref b), (1, .ref (q 0)), (2, .ref o), (3, .ref ao), (4, .int (zI (i : Int)))] → W p l e room_1 s m #[Value.ref b] below meth c H locs cells slots (lw_Z below #[Value.ref b] s) (F0 m 417 ls []) := by
  obtain ⟨hx, hb, hr, hml, hown, hts, hX, hbl, hlocks, hgv⟩ := id C0
  have hbA : ¬ (fun a : Nat => s.heap.size ≤ a) b := Nat.not_le.mpr hbl
  intro a9 b9 S M f q x y H locs cells slots ls hI hJ hcs hl
  have hF : cFx a9 b9 S := hI.2.2.1
  have hgk : gl S ≤ 50000 := cFx_gl hF
  have hR1 : cells + ((gK - gl S) + 1) ≤ room_1.cells ∧ slots + (2 * (gK - gl S) + 6) ≤ room_1.slots := by
    show cells + ((50000 - gl S) + 1) ≤ 601024 ∧ slots + (2 * (50000 - gl S) + 6) ≤ 7293034
    omega
  have hR2 : cells ≤ room_1.cells ∧ slots ≤ room_1.slots := by
    show cells ≤ 601024 ∧ slots ≤ 7293034
    omega
  obtain ⟨he, hI2⟩ := C_to (k := (xs (i + 1)).toInt) hI
  refine lv_aload_n hx hb dL_law_417 rfl (lv_at hl 1 rfl) ?_
  refine lv_aload_n hx hb dL_law_418 rfl (lv_at hl 0 rfl) ?_
  refine lv_iload hx hb dL_law_419 (lv_at hl 4 rfl) ?_
  refine z_iconst hx hb dL_law_421 ?_
  refine z_iadd (x := (i : Int) + 1) hx hb rfl dL_law_422 ?_
  refine l_sld hx hb hX hbl hbA hJ.2.2.2.2 (i + 1) (by omega) hL (by omega) dL_law_423 ?_
  refine l_ccall (As := [.int (zI (xs (i + 1)).toInt)]) (rest := []) hx hb hml hown hts hK hJ (cX6_to_ok l D cy (cq q x y) a9 b9 S hF (xs (i + 1)).toInt (zI_zr _).1 (zI_zr _).2) (cwK 1 hts tL_K_to tL_J_to tL_T_to wC_cd_yX6_to rfl rfl (by decide +kernel) ⟨Nat.le_of_ble_eq_true rfl, Nat.le_of_ble_eq_true rfl⟩) rfl hl.1 rfl (Nat.le_of_ble_eq_true rfl) dL_law_424 hR2 (fun H locs hJ => ?_)
  refine lv_aload_n hx hb dL_law_427 rfl (lv_at hl 2 rfl) ?_
  refine lv_aload_n hx hb dL_law_428 rfl (lv_at hl 0 rfl) ?_
  refine lv_iload hx hb dL_law_429 (lv_at hl 4 rfl) ?_
  refine z_iconst hx hb dL_law_431 ?_
  refine z_iadd (x := (i : Int) + 1) hx hb rfl dL_law_432 ?_
  refine l_sld hx hb hX hbl hbA hJ.2.2.2.2 (i + 1) (by omega) hL (by omega) dL_law_433 ?_
  have z0 : 0 ≤ M.1 42 := by rcases hI.2.2.2.2.2.2.2.2.2.2.2.2.1 with h | h <;> omega
  have z1 : M.1 42 ≤ 1 := by rcases hI.2.2.2.2.2.2.2.2.2.2.2.2.1 with h | h <;> omega
  refine l_mcall (As := [.int (zI (xs (i + 1)).toInt)]) (rest := [.int (zI (K6_to (xs (i + 1)).toInt S))]) hx hb hml hown hts hK hJ (cX7_to_ok l D cy o q2 M (xs (i + 1)).toInt (zI_zr _).1 (zI_zr _).2 z0 z1 (INV_12 hI).1 (INV_12 hI).2) (cwM 1 hts tL_M_to tL_I_to tL_S_to w7_cd_yX7_to rfl rfl (by decide +kernel) ⟨Nat.le_of_ble_eq_true rfl, Nat.le_of_ble_eq_true rfl⟩) rfl hl.1 rfl (Nat.le_of_ble_eq_true rfl) dL_law_434 hR2 (fun tv M1 H locs hp hJ => ?_)
  obtain ⟨rfl, rfl⟩ := hp
  refine lv_icmp_eq (tgt := 555) hx hb dL_law_437 (by decide) (fun _ => ?_) (fun hne => absurd (by rw [he]) hne)
  exact fin _ _ _ _ _ _ _ _ _ _ _ _ _ hI2 hJ ⟨by omega, by omega⟩ hl
set_option maxHeartbeats 4000000 in
set_option maxRecDepth 100000 in
theorem l_steps {p : Program} {l : Launch} {e : Env} {s : State} {m : MethodId} {below : List Frame} {meth : Method} {c : Code} (hl0 : l.stackTraces = false) {b L : Nat} {xs : Nat → Int32} (hL : L ≤ 2048) (C0 : lw_At p s m meth c b L xs) {D : va_G} {cy : Nat → ClassId} {V : Nat × (Nat → Nat)} {o : Nat} {q2 : Nat → Nat} {ao : Nat} (hK : va_K D vwCl (zTY cy) s) (hE : cEnv V s s.heap) (hV : V.1 = s.heap.size) (i : Nat) (hi : i + 4 ≤ L)
    (fin : ∀ (a9 b9 : Nat) (S : CSt) (M : MSt) (f : Nat → Int64) (q : Nat → Nat) (x y : Nat) (H : Heap) (locs : List Loc) (cells slots : Nat) (ls : Array Slot), INV a9 b9 S M → jF D cy q x y o q2 ao s.heap.size S M f s.heap H locs → (cells ≤ 100 + gl S + (i + 4) ∧ slots ≤ 20000 + 2 * gl S + 6 * (i + 4)) → lv_has ls 7 [(0, .ref b), (1, .ref (q 0)), (2, .ref o), (3, .ref ao), (4, .int (zI (i : Int)))] → W p l e room_1 s m #[Value.ref b] below meth c H locs cells slots (lw_Z below #[Value.ref b] s) (F0 m 555 ls [])) :
    ∀ (a9 b9 : Nat) (S : CSt) (M : MSt) (f : Nat → Int64) (q : Nat → Nat) (x y : Nat) (H : Heap) (locs : List Loc) (cells slots : Nat) (ls : Array Slot), INV a9 b9 S M → jF D cy q x y o q2 ao s.heap.size S M f s.heap H locs → (cells ≤ 100 + gl S + i ∧ slots ≤ 20000 + 2 * gl S + 6 * i) → lv_has ls 7 [(0, .ref b), (1, .ref (q 0)), (2, .ref o), (3, .ref ao), (4, .int (zI (i : Int)))] → W p l e room_1 s m #[Value.ref b] below meth c H locs cells slots (lw_Z below #[Value.ref b] s) (F0 m 442 ls []) := by
  obtain ⟨hx, hb, hr, hml, hown, hts, hX, hbl, hlocks, hgv⟩ := id C0
  have hbA : ¬ (fun a : Nat => s.heap.size ≤ a) b := Nat.not_le.mpr hbl
  intro a9 b9 S M f q x y H locs cells slots ls hI hJ hcs hl
  have hF : cFx a9 b9 S := hI.2.2.1
  have hgk : gl S ≤ 50000 := cFx_gl hF
  have hR1 : cells + ((gK - gl S) + 1) ≤ room_1.cells ∧ slots + (2 * (gK - gl S) + 6) ≤ room_1.slots := by
    show cells + ((50000 - gl S) + 1) ≤ 601024 ∧ slots + (2 * (50000 - gl S) + 6) ≤ 7293034
    omega
  have hR2 : cells ≤ room_1.cells ∧ slots ≤ room_1.slots := by
    show cells ≤ 601024 ∧ slots ≤ 7293034
    omega
  obtain ⟨he, hI2⟩ := C_steps hI
  refine lv_aload_n hx hb dL_law_442 rfl (lv_at hl 1 rfl) ?_
  refine l_ccall (As := []) (rest := []) hx hb hml hown hts hK hJ (cX6_steps_ok l D cy (cq q x y) a9 b9 S hF) (cwK 0 hts tL_K_steps tL_J_steps tL_T_steps wC_cd_yX6_steps rfl rfl (by decide +kernel) ⟨Nat.le_of_ble_eq_true rfl, Nat.le_of_ble_eq_true rfl⟩) rfl hl.1 rfl (Nat.le_of_ble_eq_true rfl) dL_law_443 hR2 (fun H locs hJ => ?_)
  refine lv_aload_n hx hb dL_law_446 rfl (lv_at hl 2 rfl) ?_
  refine l_mcall (As := []) (rest := [.int (zI (K6_steps S))]) hx hb hml hown hts hK hJ (cX7_steps_ok l D cy o q2 M) (cwM 0 hts tL_M_steps tL_I_steps tL_S_steps w7_cd_yX7_steps rfl rfl (by decide +kernel) ⟨Nat.le_of_ble_eq_true rfl, Nat.le_of_ble_eq_true rfl⟩) rfl hl.1 rfl (Nat.le_of_ble_eq_true rfl) dL_law_447 hR2 (fun tv M1 H locs hp hJ => ?_)
  obtain ⟨rfl, rfl⟩ := hp
  refine lv_icmp_eq (tgt := 555) hx hb dL_law_450 (by decide) (fun _ => ?_) (fun hne => absurd (by rw [he]) hne)
  exact fin _ _ _ _ _ _ _ _ _ _ _ _ _ hI2 hJ ⟨by omega, by omega⟩ hl
set_option maxHeartbeats 4000000 in
set_option maxRecDepth 100000 in
theorem l_loop {p : Program} {l : Launch} {e : Env} {s : State} {m : MethodId} {below : List Frame} {meth : Method} {c : Code} (hl0 : l.stackTraces = false) {b L : Nat} {xs : Nat → Int32} (hL : L ≤ 2048) (C0 : lw_At p s m meth c b L xs) {D : va_G} {cy : Nat → ClassId} {V : Nat × (Nat → Nat)} {o : Nat} {q2 : Nat → Nat} {ao : Nat} (hK : va_K D vwCl (zTY cy) s) (hE : cEnv V s s.heap) (hV : V.1 = s.heap.size) :
    ∀ (n i : Nat), L + 1 ≤ i + n → i ≤ L → ∀ (a9 b9 : Nat) (S : CSt) (M : MSt) (f : Nat → Int64) (q : Nat → Nat) (x y : Nat) (H : Heap) (locs : List Loc) (cells slots : Nat) (ls : Array Slot), INV a9 b9 S M → jF D cy q x y o q2 ao s.heap.size S M f s.heap H locs → (cells ≤ 100 + gl S + i ∧ slots ≤ 20000 + 2 * gl S + 6 * i) → lv_has ls 7 [(0, .ref b), (1, .ref (q 0)), (2, .ref o), (3, .ref ao), (4, .int (zI (i : Int)))] → W p l e room_1 s m #[Value.ref b] below meth c H locs cells slots (lw_Z below #[Value.ref b] s) (F0 m 23 ls []) := by
  obtain ⟨hx, hb, hr, hml, hown, hts, hX, hbl, hlocks, hgv⟩ := id C0
  have hbA : ¬ (fun a : Nat => s.heap.size ≤ a) b := Nat.not_le.mpr hbl
  intro n
  induction n with
  | zero =>
    intro i h1 h2
    exact absurd h1 (by omega)
  | succ n ih =>
    intro i hin hiL a9 b9 S M f q x y H locs cells slots ls hI hJ hcs hl
    have hgk : gl S ≤ 50000 := cFx_gl hI.2.2.1
    refine lv_iload hx hb dL_law_23 (lv_at hl 4 rfl) ?_
    refine lv_aload_n hx hb dL_law_25 rfl (lv_at hl 0 rfl) ?_
    refine va_slen hx hb hX hbl hbA hJ.2.2.2.2 dL_law_26 ?_
    rw [show Int32.ofNat L = zI (L : Int) from Int32.ofInt_eq_ofNat.symm]
    refine z_iconst hx hb dL_law_27 ?_
    refine z_isub (x := (L : Int) - 4) hx hb rfl dL_law_28 ?_
    refine z_icmp_gt (tgt := 561) hx hb ⟨by omega, by omega⟩ ⟨by omega, by omega⟩ dL_law_29 (by decide) (fun _ => ?_) (fun hlt => ?_)
    · refine lv_iconst (v := 1) hx hb dL_law_561 (by decide) ?_
      refine va_forget (fun a ha => hJ.2.2.2.2.2.2 a ha) ?_
      refine W.widen (k := 601024) (n := 7293034) (by omega) (by omega) ?_
      exact lw_ret hx hb hr hlocks dL_law_562
    · have hi4 : i + 4 ≤ L := by omega
      have fin : ∀ (a9 b9 : Nat) (S : CSt) (M : MSt) (f : Nat → Int64) (q : Nat → Nat) (x y : Nat) (H : Heap) (locs : List Loc) (cells slots : Nat) (ls : Array Slot), INV a9 b9 S M → jF D cy q x y o q2 ao s.heap.size S M f s.heap H locs → (cells ≤ 100 + gl S + (i + 4) ∧ slots ≤ 20000 + 2 * gl S + 6 * (i + 4)) → lv_has ls 7 [(0, .ref b), (1, .ref (q 0)), (2, .ref o), (3, .ref ao), (4, .int (zI (i : Int)))] → W p l e room_1 s m #[Value.ref b] below meth c H locs cells slots (lw_Z below #[Value.ref b] s) (F0 m 555 ls []) := by
        intro a9 b9 S M f q x y H locs cells slots ls hI hJ hcs hl
        refine z_iinc (x := (i : Int)) (v := ((i + 4 : Nat) : Int)) (lv' := [(4, .int (zI ((i + 4 : Nat) : Int))), (0, .ref b), (1, .ref (q 0)), (2, .ref o), (3, .ref ao)]) hx hb dL_law_555 hl (k := 4) rfl (by omega) (by decide) rfl (fun ls hl => ?_)
        refine lv_goto (tgt := 23) hx hb dL_law_558 (by decide) ?_
        exact ih (i + 4) (by omega) hi4 a9 b9 S M f q x y H locs cells slots ls hI hJ hcs (lv_sub hl [1, 2, 3, 4, 0] rfl)
      refine lv_aload_n hx hb dL_law_32 rfl (lv_at hl 0 rfl) ?_
      refine lv_iload hx hb dL_law_33 (lv_at hl 4 rfl) ?_
      refine l_sld hx hb hX hbl hbA hJ.2.2.2.2 i (by omega) hL rfl dL_law_35 ?_
      refine z_bipush hx hb (by decide) dL_law_36 ?_
      refine lv_iand hx hb dL_law_38 ?_
      obtain ⟨v, hv, ev⟩ : ∃ v : Int, zr v ∧ (zI (xs i).toInt &&& zI 15) = zI v := ⟨_, zI_zr _, (zI_of _).symm⟩
      rw [ev]
      rcases (show v = 0 ∨ v = 1 ∨ v = 2 ∨ v = 3 ∨ v = 4 ∨ v = 5 ∨ v = 6 ∨ v = 7 ∨ v = 8 ∨ v = 9 ∨ (v < 0 ∨ 9 < v) by omega) with rfl | rfl | rfl | rfl | rfl | rfl | rfl | rfl | rfl | rfl | hv9
      · refine z_tableIn (off := 53) (tgt := 92) hx hb hv dL_law_39 (by decide) (by decide) rfl (by decide) ?_
        exact l_type hl0 hL C0 hK hE hV i hi4 fin a9 b9 S M f q x y H locs cells slots ls hI hJ hcs hl
      · refine z_tableIn (off := 153) (tgt := 192) hx hb hv dL_law_39 (by decide) (by decide) rfl (by decide) ?_
        exact l_pattern hl0 hL C0 hK hE hV i hi4 fin a9 b9 S M f q x y H locs cells slots ls hI hJ hcs hl
      · refine z_tableIn (off := 209) (tgt := 248) hx hb hv dL_law_39 (by decide) (by decide) rfl (by decide) ?_
        exact l_text hl0 hL C0 hK hE hV i hi4 fin a9 b9 S M f q x y H locs cells slots ls hI hJ hcs hl
      · refine z_tableIn (off := 253) (tgt := 292) hx hb hv dL_law_39 (by decide) (by decide) rfl (by decide) ?_
        exact l_start hl0 hL C0 hK hE hV i hi4 fin a9 b9 S M f q x y H locs cells slots ls hI hJ hcs hl
      · refine z_tableIn (off := 309) (tgt := 348) hx hb hv dL_law_39 (by decide) (by decide) rfl (by decide) ?_
        exact l_find hl0 hL C0 hK hE hV i hi4 fin a9 b9 S M f q x y H locs cells slots ls hI hJ hcs hl
      · refine z_tableIn (off := 353) (tgt := 392) hx hb hv dL_law_39 (by decide) (by decide) rfl (by decide) ?_
        exact l_from hl0 hL C0 hK hE hV i hi4 fin a9 b9 S M f q x y H locs cells slots ls hI hJ hcs hl
      · refine z_tableIn (off := 378) (tgt := 417) hx hb hv dL_law_39 (by decide) (by decide) rfl (by decide) ?_
        exact l_to hl0 hL C0 hK hE hV i hi4 fin a9 b9 S M f q x y H locs cells slots ls hI hJ hcs hl
      · refine z_tableIn (off := 403) (tgt := 442) hx hb hv dL_law_39 (by decide) (by decide) rfl (by decide) ?_
        exact l_steps hl0 hL C0 hK hE hV i hi4 fin a9 b9 S M f q x y H locs cells slots ls hI hJ hcs hl
      · refine z_tableIn (off := 416) (tgt := 455) hx hb hv dL_law_39 (by decide) (by decide) rfl (by decide) ?_
        exact l_replace hl0 hL C0 hK hE hV i hi4 fin a9 b9 S M f q x y H locs cells slots ls hI hJ hcs hl
      · refine z_tableIn (off := 460) (tgt := 499) hx hb hv dL_law_39 (by decide) (by decide) rfl (by decide) ?_
        exact l_result hl0 hL C0 hK hE hV i hi4 fin a9 b9 S M f q x y H locs cells slots ls hI hJ hcs hl
      · refine z_tableOut (tgt := 555) hx hb hv dL_law_39 hv9 (by decide) ?_
        exact fin a9 b9 S M f q x y H locs cells slots ls hI hJ ⟨by omega, by omega⟩ hl
