/-! Arrays.copyOf(row, 2 * its length), and how Past's rows grow. -/
set_option maxHeartbeats 4000000 in
set_option maxRecDepth 100000 in
theorem cJ7_copyOf_59c91_ok (l : Launch) (D : va_G) (cy : Nat → ClassId) (a len sz : Nat) (f : Nat → Int32) (h0 : 1 ≤ len) (h1 : len ≤ 12288) : Met l yJ7_copyOf_59c91 (.code yJ7_copyOf_59c91 cJ7_copyOf_59c91 3 (some (.array .int)) :: TBC) { frames := 1, cells := 1, slots := 2 * len, locals := 60 } (va_Pc [.ref a, .int (zI (2 * len))] (fun U => U.heap.size = sz ∧ va_P D vwCl [(a, .inl (cy 1, len, .inl f))] U.heap ∧ va_K D vwCl (zTY cy) U ∧ va_D (fun _ => True) [(a, .inl (cy 1, len, .inl f))])) (va_Qr (S := Unit) (fun _ => True) (fun _ ra t => va_P D vwCl [(a, .inl (cy 1, len, .inl f)), (ra, .inl (cy 1, 2 * len, .inl (va_cpy f (fun _ => 0) 0 0 len)))] t.heap ∧ va_D (va_A [(a, .inl (cy 1, len, .inl f))] sz) [(a, .inl (cy 1, len, .inl f)), (ra, .inl (cy 1, 2 * len, .inl (va_cpy f (fun _ => 0) 0 0 len)))]) (va_A [(a, .inl (cy 1, len, .inl f))] sz)) 1 (2 * len) (va_A [(a, .inl (cy 1, len, .inl f))] sz) := by
  refine Met.ofW (cc := cJ7_copyOf_59c91) (maxL := 3) (ret := some (.array .int)) (by decide) rfl ?_
  intro p e s m args below meth c s₁ B0 hml hv
  obtain ⟨rfl, hsz, hP, hK, hD0⟩ := hv
  have hlocks := B0.notSynchronized
  have B : zAt p s m ([.ref a, .int (zI (2 * len))] : List Value).toArray meth c RJ7 cJ7_copyOf_59c91 3 (some (.array .int)) (.code yJ7_copyOf_59c91 cJ7_copyOf_59c91 3 (some (.array .int)) :: TBC) := ⟨B0.exec, B0.bytes, hml, findClass_of_methodNamed B0.named, atoms_spec (ws := (.code yJ7_copyOf_59c91 cJ7_copyOf_59c91 3 (some (.array .int)) :: TBC)) B0.pre, B0.returns, B0.notSynchronized⟩
  subst hsz
  have hD := hD0.self (sz := s.heap.size)
  generalize hAe : va_A [(a, .inl (cy 1, len, .inl f))] s.heap.size = A at hD ⊢
  have hA : ∀ q : Nat, s.heap.size ≤ q → A q := fun q h => by rw [← hAe]; exact Or.inr h
  have hS : va_S A s.heap s.heap [] := va_S.rf
  have hl := lv_entry ([.ref a, .int (zI (2 * len))]) (n := 3) (Nat.le_of_ble_eq_true rfl)
  rw [lg_entry_eq]
  generalize (lg_sl ([.ref a, .int (zI (2 * len))]) ++ List.replicate (3 - (lg_sl ([.ref a, .int (zI (2 * len))])).length) Slot.unset).toArray = ls at hl ⊢
  have hl : lv_has ls 3 [(0, .ref a), (1, .int (zI (2 * len)))] := hl
  have e9 : ∀ j : Nat, Int32.ofNat j = zI j := fun j => Int32.ofInt_eq_ofNat.symm
  refine lv_iload_n B.1 B.2.1 dJ7_copyOf_59c91_0 rfl (lv_at hl 1 rfl) ?_
  refine lv_aload_n B.1 B.2.1 dJ7_copyOf_59c91_1 rfl (lv_at hl 0 rfl) ?_
  refine va_alen (D := D) (cA := cy 1) (x := (len, .inl f)) (ty := .int) B.1 B.2.1 hK hP 0 1 rfl rfl (e9 _) dJ7_copyOf_59c91_2 ?_
  refine z_icmp_ne (tgt := 14) B.1 B.2.1 (zr_of (by omega) (by omega)) (zr_of (by omega) (by omega)) dJ7_copyOf_59c91_3 (by decide) (fun c_1 => ?_) (fun c_1 => ?_)
  rotate_left
  · exact absurd c_1 (by omega)
  refine lv_iload_n B.1 B.2.1 dJ7_copyOf_59c91_14 rfl (lv_at hl 1 rfl) ?_
  rw [show (2 * (len : Int)) = ((2 * len : Nat) : Int) by omega] at hl ⊢
  refine z_newi B (List.mem_cons_of_mem _ wC_ac__int) hK hP hD hS hA (2 * len) (by omega) (Nat.le_of_ble_eq_true rfl) (by show 0 + 2 * len ≤ 2 * len; omega) dJ7_copyOf_59c91_15 (fun ra H hP hD hS => ?_)
  refine lv_astore_n (lv' := [(2, .ref ra), (0, .ref a), (1, .int (zI ((2 * len : Nat) : Int)))]) B.1 B.2.1 dJ7_copyOf_59c91_17 rfl hl (by decide) rfl (fun ls hl => ?_)
  refine lv_aload_n B.1 B.2.1 dJ7_copyOf_59c91_18 rfl (lv_at hl 1 rfl) ?_
  refine z_iconst B.1 B.2.1 dJ7_copyOf_59c91_19 ?_
  refine lv_aload_n B.1 B.2.1 dJ7_copyOf_59c91_20 rfl (lv_at hl 0 rfl) ?_
  refine z_iconst B.1 B.2.1 dJ7_copyOf_59c91_21 ?_
  refine lv_aload_n B.1 B.2.1 dJ7_copyOf_59c91_22 rfl (lv_at hl 1 rfl) ?_
  refine va_alen (D := D) (cA := cy 1) (x := (len, .inl f)) (ty := .int) B.1 B.2.1 hK hP 0 1 rfl rfl (e9 _) dJ7_copyOf_59c91_23 ?_
  refine lv_iload_n B.1 B.2.1 dJ7_copyOf_59c91_24 rfl (lv_at hl 2 rfl) ?_
  have zn : zr ((len : Nat) : Int) := ⟨by omega, by omega⟩
  have zm : zr ((2 * len : Nat) : Int) := ⟨by omega, by omega⟩
  refine va_mmin B.1 B.2.1 (by rw [B.2.2.1]; exact hl.1.symm) B.2.2.2.1 (B.2.2.2.2.1 _ (List.mem_cons_of_mem _ wC_mRJ7_304)) (B.2.2.2.2.1 _ (List.mem_cons_of_mem _ wC_st_Lib_Math_min_name)) (B.2.2.2.2.1 _ (List.mem_cons_of_mem _ wC_in__java_lang_Math_)) (B.2.2.2.2.1 _ (List.mem_cons_of_mem _ wC_cd_Lib_Math_min_name)) (Nat.le_of_ble_eq_true rfl) (Nat.le_of_ble_eq_true rfl) (Nat.le_of_ble_eq_true rfl) (by show 0 + 2 * len ≤ 2 * len; omega) dJ7_copyOf_59c91_25 ?_
  rw [if_neg (show ¬ zI ((2 * len : Nat) : Int) < zI ((len : Nat) : Int) by rw [zI_lt zm zn]; omega)]
  refine va_copyi (D := D) (ty := .int) (f := f) (g := fun _ => 0) (n0 := len) (n1 := 2 * len) B.1 B.2.1 (by rw [B.2.2.1]; exact hl.1.symm) B.2.2.2.1 (B.2.2.2.2.1 _ (List.mem_cons_of_mem _ wC_mRJ7_150)) (B.2.2.2.2.1 _ (List.mem_cons_of_mem _ wC_nt_arraycopyName)) (B.2.2.2.2.1 _ (List.mem_cons_of_mem _ wC_st_arraycopyName)) (B.2.2.2.2.1 _ (List.mem_cons_of_mem _ wC_in__java_lang_System_)) hK hP hD hS 0 1 1 1 rfl rfl rfl rfl rfl (by decide) (by decide) (by rw [← zI_0, zI_lt zn zr0]; omega) (by rw [zI_clamp zn, show (zI 0).toNatClampNeg = 0 from rfl]; omega) (by rw [zI_clamp zn, show (zI 0).toNatClampNeg = 0 from rfl]; omega) (fun _ _ => rfl) (Nat.le_of_ble_eq_true rfl) (Nat.le_of_ble_eq_true rfl) dJ7_copyOf_59c91_28 (fun H locs hP hD hS => ?_)
  rw [show (zI 0).toNatClampNeg = 0 from rfl, zI_clamp zn, show ((len : Nat) : Int).toNat = len by omega] at hP hD
  refine lv_aload_n B.1 B.2.1 dJ7_copyOf_59c91_31 rfl (lv_at hl 0 rfl) ?_
  have hP : va_P D vwCl [(a, .inl (cy 1, len, .inl f)), (ra, .inl (cy 1, 2 * len, .inl (va_cpy f (fun _ => 0) 0 0 len)))] H := hP
  have hD : va_D A [(a, .inl (cy 1, len, .inl f)), (ra, .inl (cy 1, 2 * len, .inl (va_cpy f (fun _ => 0) 0 0 len)))] := hD
  refine W.widen (k := 1) (n := 2 * len) (Nat.le_of_ble_eq_true rfl) (by omega) ?_
  exact W.aret B.1 B.2.1 B.2.2.2.2.2.1 (Or.inr ⟨_, rfl⟩) (Or.inr ⟨_, rfl⟩) (fun t ht _ => ⟨⟨(), ra, rfl, trivial, by rw [ht]; exact hP, hD⟩, hS.F ht⟩) hS.2.2 dJ7_copyOf_59c91_32 hlocks
