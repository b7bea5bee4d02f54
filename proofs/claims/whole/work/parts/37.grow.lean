/-! Arrays.copyOf(row, 2 * its length), and how Past's rows grow. -/
set_option maxHeartbeats 4000000 in
set_option maxRecDepth 100000 in
theorem cJ7_copyOf_59c91_ok (l : Launch) (D : va_G) (cy : Nat → ClassId) (a len sz : Nat) (f : Nat → Int32) (h0 : 1 ≤ len) (h1 : len ≤ 12288) : Met l yJ7_copyOf_59c91 (.code yJ7_copyOf_59c91 cJ7_copyOf_59c91 3 (some (.array .int)) :: TBC) { frames := 1, cells := 1, slots := 2 * len, locals := 60 } (va_Pc [.ref a, .int (zI (2 * len))] (fun U => U.heap.size = sz ∧ va_P D vwCl [(a, .inl (cy 1, len, .inl f))] U.heap ∧ va_K D vwCl (zTY cy) U ∧ va_D (fun _ => True) [(a, .inl (cy 1, len, .inl f))])) (va_Qr (S := Unit) (fun _ => True) (fun _ ra t => va_P D vwCl [(a, .inl (cy 1, len, .inl f)), (ra, .inl (cy 1, 2 * len, .inl (va_cpy f (fun _ => 0) 0 0 len)))] t.heap ∧ va_D (va_A [(a, .inl (cy 1, len, .inl f))] sz) [(a, .inl (cy 1, len, .inl f)), (ra, .inl (cy 1, 2 * len, .inl (va_cpy f (fun _ => 0) 0 0 len)))]) (va_A [(a, .inl (cy 1, len, .inl f))] sz)) 1 (2 * len) (va_A [(a, .inl (cy 1, len, .inl f))] sz) := by
  refine Met.ofW (cc := cJ7_copyOf_59c91) (maxL := 3) (ret := some (.array .int)) (by decide) rfl ?_
  intro p e s m args below meth c s₁ B0 hml hv
  obtain ⟨rfl, hsz, hP, hK, hD0⟩ := hv
  have hlocks := B0.notSynchronized
  have B : zAt p s m ([.ref a, .int (zI (2 * len))] : List Value).toArray meth c RJ7 cJ7_copyOf_59c91 3 (some (.array .int)) (.code yJ7_copyOf_59c91 cJ7_copyOf_59c91 3 (some (.array .int)) :: TBC) := ⟨B0.exec, B0.bytes, hml, findClass_of_methodNamed B0.named, atoms_spec (ws := (.code yJ7_copyOf_59c91 cJ7_copyOf_59c91 3 (some (.array .int)) :: TBC)) B0.pre, B0.returns, B0.notSynchronized⟩
  subst hsz
  have hD := hD0.self (sz := s.heap.size)
  generalize hAe : va_A [(a, .inl (cy 1, len, .inl f))] s.heap.size = A at hD ⊢
  have hA : ∀ q : Nat, s.heap.size ≤ q → A q := fun q h => by rw [← hAe]; exact Or.inr h
  have hS : va_S A s.heap s.heap [] := va_S.rf
  have hl := lv_entry ([.ref a, .int (zI (2 * len))]) (n := 3) (Nat.le_of_ble_eq_true rfl)
  rw [lg_entry_eq]
  generalize (lg_sl ([.ref a, .int (zI (2 * len))]) ++ List.replicate (3 - (lg_sl ([.ref a, .int (zI (2 * len))])).length) Slot.unset).toArray = ls at hl ⊢
  have hl : lv_has ls 3 [(0, .ref a), (1, .int (zI (2 * len)))] := hl
  have e9 : ∀ j : Nat, Int32.ofNat j = zI j := fun j => Int32.ofInt_eq_ofNat.symm
  refine lv_iload_n B.1 B.2.1 dJ7_copyOf_59c91_0 rfl (lv_at hl 1 rfl) ?_
  refine lv_aload_n B.1 B.2.1 dJ7_copyOf_59c91_1 rfl (lv_at hl 0 rfl) ?_
  refine va_alen (D := D) (cA := cy 1) (x := (len, .inl f)) (ty := .int) B.1 B.2.1 hK hP 0 1 rfl rfl (e9 _) dJ7_copyOf_59c91_2 ?_
  refine z_icmp_ne (tgt := 14) B.1 B.2.1 (zr_of (by omega) (by omega)) (zr_of (by omega) (by omega)) dJ7_copyOf_59c91_3 (by decide) (fun c_1 => ?_) (fun c_1 => ?_)
  rotate_left
  · exact absurd c_1 (by omega)
  refine lv_iload_n B.1 B.2.1 dJ7_copyOf_59c91_14 rfl (lv_at hl 1 rfl) ?_
  rw [show (2 * (len : Int)) = ((2 * len : Nat) : Int) by omega] at hl ⊢
  refine z_newi B (List.mem_cons_of_mem _ wC_ac__int) hK hP hD hS hA (2 * len) (by omega) (Nat.le_of_ble_eq_true rfl) (by show 0 + 2 * len ≤ 2 * len; omega) dJ7_copyOf_59c91_15 (fun ra H hP hD hS => ?_)
  refine lv_astore_n (lv' := [(2, .ref ra), (0, .ref a), (1, .int (zI ((2 * len : Nat) : Int)))]) B.1 B.2.1 dJ7_copyOf_59c91_17 rfl hl (by decide) rfl (fun ls hl => ?_)
  refine lv_aload_n B.1 B.2.1 dJ7_copyOf_59c91_18 rfl (lv_at hl 1 rfl) ?_
  refine z_iconst B.1 B.2.1 dJ7_copyOf_59c91_19 ?_
  refine lv_aload_n B.1 B.2.1 dJ7_copyOf_59c91_20 rfl (lv_at hl 0 rfl) ?_
  refine z_iconst B.1 B.2.1 dJ7_copyOf_59c91_21 ?_
  refine lv_aload_n B.1 B.2.1 dJ7_copyOf_59c91_22 rfl (lv_at hl 1 rfl) ?_
  refine va_alen (D := D) (cA := cy 1) (x := (len, .inl f)) (ty := .int) B.1 B.2.1 hK hP 0 1 rfl rfl (e9 _) dJ7_copyOf_59c91_23 ?_
  refine lv_iload_n B.1 B.2.1 dJ7_copyOf_59c91_24 rfl (lv_at hl 2 rfl) ?_
  have zn : zr ((len : Nat) : Int) := ⟨by omega, by omega⟩
  have zm : zr ((2 * len : Nat) : Int) := ⟨by omega, by omega⟩
  refine va_mmin B.1 B.2.1 (by rw [B.2.2.1]; exact hl.1.symm) B.2.2.2.1 (B.2.2.2.2.1 _ (List.mem_cons_of_mem _ wC_mRJ7_304)) (B.2.2.2.2.1 _ (List.mem_cons_of_mem _ wC_st_Lib_Math_min_name)) (B.2.2.2.2.1 _ (List.mem_cons_of_mem _ wC_in__java_lang_Math_)) (B.2.2.2.2.1 _ (List.mem_cons_of_mem _ wC_cd_Lib_Math_min_name)) (Nat.le_of_ble_eq_true rfl) (Nat.le_of_ble_eq_true rfl) (Nat.le_of_ble_eq_true rfl) (by show 0 + 2 * len ≤ 2 * len; omega) dJ7_copyOf_59c91_25 ?_
  rw [if_neg (show ¬ zI ((2 * len : Nat) : Int) < zI ((len : Nat) : Int) by rw [zI_lt zm zn]; omega)]
  refine va_copyi (D := D) (ty := .int) (f := f) (g := fun _ => 0) (n0 := len) (n1 := 2 * len) B.1 B.2.1 (by rw [B.2.2.1]; exact hl.1.symm) B.2.2.2.1 (B.2.2.2.2.1 _ (List.mem_cons_of_mem _ wC_mRJ7_150)) (B.2.2.2.2.1 _ (List.mem_cons_of_mem _ wC_nt_arraycopyName)) (B.2.2.2.2.1 _ (List.mem_cons_of_mem _ wC_st_arraycopyName)) (B.2.2.2.2.1 _ (List.mem_cons_of_mem _ wC_in__java_lang_System_)) hK hP hD hS 0 1 1 1 rfl rfl rfl rfl rfl (by decide) (by decide) (by rw [← zI_0, zI_lt zn zr0]; omega) (by rw [zI_clamp zn, show (zI 0).toNatClampNeg = 0 from rfl]; omega) (by rw [zI_clamp zn, show (zI 0).toNatClampNeg = 0 from rfl]; omega) (fun _ _ => rfl) (Nat.le_of_ble_eq_true rfl) (Nat.le_of_ble_eq_true rfl) dJ7_copyOf_59c91_28 (fun H locs hP hD hS => ?_)
  rw [show (zI 0).toNatClampNeg = 0 from rfl, zI_clamp zn, show ((len : Nat) : Int).toNat = len by omega] at hP hD
  refine lv_aload_n B.1 B.2.1 dJ7_copyOf_59c91_31 rfl (lv_at hl 0 rfl) ?_
  have hP : va_P D vwCl [(a, .inl (cy 1, len, .inl f)), (ra, .inl (cy 1, 2 * len, .inl (va_cpy f (fun _ => 0) 0 0 len)))] H := hP
  have hD : va_D A [(a, .inl (cy 1, len, .inl f)), (ra, .inl (cy 1, 2 * len, .inl (va_cpy f (fun _ => 0) 0 0 len)))] := hD
  refine W.widen (k := 1) (n := 2 * len) (Nat.le_of_ble_eq_true rfl) (by omega) ?_
  exact W.aret B.1 B.2.1 B.2.2.2.2.2.1 (Or.inr ⟨_, rfl⟩) (Or.inr ⟨_, rfl⟩) (fun t ht _ => ⟨⟨(), ra, rfl, trivial, by rw [ht]; exact hP, hD⟩, hS.F ht⟩) hS.2.2 dJ7_copyOf_59c91_32 hlocks

def cG (n : Nat) (S : CSt) : CSt := (fun a => if a = n then (fun j => if j < S.2.2.2 n then S.1 n j else 0) else S.1 a, S.2.1, S.2.2.1, fun a => if a = n then 2 * S.2.2.2 n else S.2.2.2 a)
theorem cG_1 {n m : Nat} {S : CSt} (h : m ≠ n) : (cG n S).1 m = S.1 m := if_neg h
theorem cG_in {n j : Nat} {S : CSt} (h : j < S.2.2.2 n) : (cG n S).1 n j = S.1 n j := by
  show (if n = n then (fun j => if j < S.2.2.2 n then S.1 n j else 0) else S.1 n) j = _
  rw [if_pos rfl]
  exact if_pos h
theorem cG_out {n j : Nat} {S : CSt} (h : ¬ j < S.2.2.2 n) : (cG n S).1 n j = 0 := by
  show (if n = n then (fun j => if j < S.2.2.2 n then S.1 n j else 0) else S.1 n) j = _
  rw [if_pos rfl]
  exact if_neg h
theorem cG_l {n : Nat} {S : CSt} : (cG n S).2.2.2 n = 2 * S.2.2.2 n := if_pos rfl
theorem cG_lm {n m : Nat} {S : CSt} (h : m ≠ n) : (cG n S).2.2.2 m = S.2.2.2 m := if_neg h
theorem cG_F {a b : Nat} {S : CSt} (hF : cFx a b S) : (S.2.2.2 36 ≤ 9216 → cFx a b (cG 36 S)) ∧ (S.2.2.2 37 ≤ 12288 → cFx a b (cG 37 S)) := by
  obtain ⟨h1, h2, h3, h4, h5, h6⟩ := hF
  constructor
  · intro h
    refine ⟨h1, fun n n1 n2 => (cG_lm n1).trans (h2 n n1 n2), ?_, ?_, ?_, ?_⟩
    · rw [cG_l]; omega
    · rw [cG_l]; omega
    · rw [cG_lm (by decide)]; omega
    · rw [cG_lm (by decide)]; omega
  · intro h
    refine ⟨h1, fun n n1 n2 => (cG_lm n2).trans (h2 n n1 n2), ?_, ?_, ?_, ?_⟩
    · rw [cG_lm (by decide)]; omega
    · rw [cG_lm (by decide)]; omega
    · rw [cG_l]; omega
    · rw [cG_l]; omega
theorem cG_gl {n : Nat} {S : CSt} (hn : n = 36 ∨ n = 37) : gl (cG n S) = gl S + S.2.2.2 n := by
  unfold gl
  rcases hn with rfl | rfl
  · rw [cG_l, cG_lm (by decide)]; omega
  · rw [cG_l, cG_lm (by decide)]; omega

theorem cW_grow36 {cy : Nat → ClassId} {q : Nat → Nat} {x y a b ra : Nat} {S : CSt} (hF : cFx a b S) (ha : a < 36) (hb : b < 36) (i : Nat) (e : Nat × va_E) (h : (cW cy (cq q ra y) (cG 36 S))[i]? = some e) : ((cW cy (cq q x y) S ++ ([(ra, .inl (cy 1, 2 * S.2.2.2 36, .inl (va_cpy (fun j => zI (S.1 36 j)) (fun _ => 0) 0 0 (S.2.2.2 36))))] : va_W)).set 11 (cq q x y 11, .inr (1, (cF (cq q x y) S 11).set 1 (.ref ra))))[if i = 36 then 40 else i]? = some e := by
  obtain ⟨S1, S2, S3, S4⟩ := S
  obtain ⟨h1, -⟩ := hF
  have h1 : S3 = cRef a b := h1
  subst h1
  by_cases hi : i < 40
  · rw [cW_get hi] at h
    have h := Option.some.inj h
    subst h
    have hlen : (cW cy (cq q x y) (S1, S2, cRef a b, S4)).length = 40 := cW_len
    by_cases hn : i = 36
    · subst hn
      rw [if_pos rfl, List.getElem?_set_ne (by decide), List.getElem?_append_right (by rw [hlen]; exact Nat.le_refl _), hlen]
      show some _ = some _
      have e1 : (fun j => zI ((cG 36 (S1, S2, cRef a b, S4)).1 36 j)) = va_cpy (fun j => zI (S1 36 j)) (fun _ => 0) 0 0 (S4 36) := by
        funext j
        unfold va_cpy
        by_cases hj : j < S4 36
        · rw [cG_in (show j < (S1, S2, cRef a b, S4).2.2.2 36 from hj), if_pos (by omega)]
          show zI (S1 36 j) = zI (S1 36 (0 + (j - 0)))
          rw [Nat.zero_add, Nat.sub_zero]
        · rw [cG_out (show ¬ j < (S1, S2, cRef a b, S4).2.2.2 36 from hj), if_neg (by omega)]
          rfl
      rw [cE_i (show cK 36 = 8 from rfl), e1]
      rfl
    · rw [if_neg hn]
      by_cases h11 : i = 11
      · subst h11
        rw [List.getElem?_set_self (by rw [List.length_append, hlen]; show 11 < 40 + 1; decide)]
        rfl
      · rw [List.getElem?_set_ne (fun h => h11 h.symm), List.getElem?_append_left (by rw [hlen]; exact hi), cW_get hi]
        have q1 : cq q ra y i = cq q x y i := by
          unfold cq
          rw [if_neg hn, if_neg hn]
        rw [q1]
        refine congrArg (fun z => some (cq q x y i, z)) ?_
        have qa : (cq q ra y) a = cq q x y a := by rw [cq_ne (Or.inl ha), cq_ne (Or.inl ha)]
        have qb : (cq q ra y) b = cq q x y b := by rw [cq_ne (Or.inl hb), cq_ne (Or.inl hb)]
        rcases (show i = 0 ∨ i = 1 ∨ i = 2 ∨ i = 3 ∨ i = 4 ∨ i = 5 ∨ i = 6 ∨ i = 7 ∨ i = 8 ∨ i = 9 ∨ i = 10 ∨ i = 12 ∨ i = 13 ∨ i = 14 ∨ i = 15 ∨ i = 16 ∨ i = 17 ∨ i = 18 ∨ i = 19 ∨ i = 20 ∨ i = 21 ∨ i = 22 ∨ i = 23 ∨ i = 24 ∨ i = 25 ∨ i = 26 ∨ i = 27 ∨ i = 28 ∨ i = 29 ∨ i = 30 ∨ i = 31 ∨ i = 32 ∨ i = 33 ∨ i = 34 ∨ i = 35 ∨ i = 37 ∨ i = 38 ∨ i = 39 by omega) with h | h | h | h | h | h | h | h | h | h | h | h | h | h | h | h | h | h | h | h | h | h | h | h | h | h | h | h | h | h | h | h | h | h | h | h | h | h
        all_goals subst h
        all_goals first
          | rfl
          | (rw [cE_obj (by decide), cE_obj (by decide)]
             refine congrArg Sum.inr (congrArg (Prod.mk _) ?_)
             show [_, _, Value.ref (cq q x y a), _, _, _, _, _] = [_, _, Value.ref ((cq q ra y) a), _, _, _, _, _]
             rw [qa]
             rfl)
          | (rw [cE_obj (by decide), cE_obj (by decide)]
             refine congrArg Sum.inr (congrArg (Prod.mk _) ?_)
             show [_, _, Value.ref (cq q x y b), _, _] = [_, _, Value.ref ((cq q ra y) b), _, _]
             rw [qb]
             rfl)
  · rw [cW_none hi] at h
    cases h

theorem cW_grow37 {cy : Nat → ClassId} {q : Nat → Nat} {x y a b ra : Nat} {S : CSt} (hF : cFx a b S) (ha : a < 36) (hb : b < 36) (i : Nat) (e : Nat × va_E) (h : (cW cy (cq q x ra) (cG 37 S))[i]? = some e) : ((cW cy (cq q x y) S ++ ([(ra, .inl (cy 1, 2 * S.2.2.2 37, .inl (va_cpy (fun j => zI (S.1 37 j)) (fun _ => 0) 0 0 (S.2.2.2 37))))] : va_W)).set 11 (cq q x y 11, .inr (1, (cF (cq q x y) S 11).set 2 (.ref ra))))[if i = 37 then 40 else i]? = some e := by
  obtain ⟨S1, S2, S3, S4⟩ := S
  obtain ⟨h1, -⟩ := hF
  have h1 : S3 = cRef a b := h1
  subst h1
  by_cases hi : i < 40
  · rw [cW_get hi] at h
    have h := Option.some.inj h
    subst h
    have hlen : (cW cy (cq q x y) (S1, S2, cRef a b, S4)).length = 40 := cW_len
    by_cases hn : i = 37
    · subst hn
      rw [if_pos rfl, List.getElem?_set_ne (by decide), List.getElem?_append_right (by rw [hlen]; exact Nat.le_refl _), hlen]
      show some _ = some _
      have e1 : (fun j => zI ((cG 37 (S1, S2, cRef a b, S4)).1 37 j)) = va_cpy (fun j => zI (S1 37 j)) (fun _ => 0) 0 0 (S4 37) := by
        funext j
        unfold va_cpy
        by_cases hj : j < S4 37
        · rw [cG_in (show j < (S1, S2, cRef a b, S4).2.2.2 37 from hj), if_pos (by omega)]
          show zI (S1 37 j) = zI (S1 37 (0 + (j - 0)))
          rw [Nat.zero_add, Nat.sub_zero]
        · rw [cG_out (show ¬ j < (S1, S2, cRef a b, S4).2.2.2 37 from hj), if_neg (by omega)]
          rfl
      rw [cE_i (show cK 37 = 8 from rfl), e1]
      rfl
    · rw [if_neg hn]
      by_cases h11 : i = 11
      · subst h11
        rw [List.getElem?_set_self (by rw [List.length_append, hlen]; show 11 < 40 + 1; decide)]
        rfl
      · rw [List.getElem?_set_ne (fun h => h11 h.symm), List.getElem?_append_left (by rw [hlen]; exact hi), cW_get hi]
        have q1 : cq q x ra i = cq q x y i := by
          unfold cq
          rw [if_neg hn, if_neg hn]
        rw [q1]
        refine congrArg (fun z => some (cq q x y i, z)) ?_
        have qa : (cq q x ra) a = cq q x y a := by rw [cq_ne (Or.inl ha), cq_ne (Or.inl ha)]
        have qb : (cq q x ra) b = cq q x y b := by rw [cq_ne (Or.inl hb), cq_ne (Or.inl hb)]
        rcases (show i = 0 ∨ i = 1 ∨ i = 2 ∨ i = 3 ∨ i = 4 ∨ i = 5 ∨ i = 6 ∨ i = 7 ∨ i = 8 ∨ i = 9 ∨ i = 10 ∨ i = 12 ∨ i = 13 ∨ i = 14 ∨ i = 15 ∨ i = 16 ∨ i = 17 ∨ i = 18 ∨ i = 19 ∨ i = 20 ∨ i = 21 ∨ i = 22 ∨ i = 23 ∨ i = 24 ∨ i = 25 ∨ i = 26 ∨ i = 27 ∨ i = 28 ∨ i = 29 ∨ i = 30 ∨ i = 31 ∨ i = 32 ∨ i = 33 ∨ i = 34 ∨ i = 35 ∨ i = 36 ∨ i = 38 ∨ i = 39 by omega) with h | h | h | h | h | h | h | h | h | h | h | h | h | h | h | h | h | h | h | h | h | h | h | h | h | h | h | h | h | h | h | h | h | h | h | h | h | h
        all_goals subst h
        all_goals first
          | rfl
          | (rw [cE_obj (by decide), cE_obj (by decide)]
             refine congrArg Sum.inr (congrArg (Prod.mk _) ?_)
             show [_, _, Value.ref (cq q x y a), _, _, _, _, _] = [_, _, Value.ref ((cq q x ra) a), _, _, _, _, _]
             rw [qa]
             rfl)
          | (rw [cE_obj (by decide), cE_obj (by decide)]
             refine congrArg Sum.inr (congrArg (Prod.mk _) ?_)
             show [_, _, Value.ref (cq q x y b), _, _] = [_, _, Value.ref ((cq q x ra) b), _, _]
             rw [qb]
             rfl)
  · rw [cW_none hi] at h
    cases h

section GRW
variable {p : Program} {l : Launch} {e : Env} {R : Room} {s : State} {m : MethodId} {args : Array Value} {below : List Frame} {meth : Method} {c : Code} {H : Heap} {locs : List Loc} {Q : State → Prop} {cc : ByteArray} {pc : Nat} {ls : Array Slot} {rest : List Value}
variable {D : va_G} {cy : Nat → ClassId} {q : Nat → Nat} {V : Nat × (Nat → Nat)} {n0 x y a b : Nat} {A : Nat → Prop} {S S0 : CSt} {maxL : Nat} {ret : Option FieldType} {index : Nat} {w0 : Cond}

theorem g_grow36 (B : zAt p s m args meth c RX1 cc maxL ret (w0 :: TBC)) (hK : va_K D vwCl (zTY cy) s) (hG : gEn V n0 A s c) (h : cH D cy (cq q x y) A s.heap S H locs) (hF : cFx a b S) (ha : a < 36) (hb : b < 36) (hlen : S.2.2.2 36 ≤ 9216) (hR : R.cells = (gK - gl S0) + 1 ∧ R.slots = 2 * (gK - gl S0) + 6) (hRf : 2 ≤ R.frames) (hRl : 82 ≤ R.locals) (hg0 : gl S0 ≤ gl S) (hsz : ls.size = maxL) (hroom : (rest.map fun v => v.category).sum ≤ 7) (hd : decode cc pc = .ok (.invokestatic 34, 3)) (hd2 : decode cc (pc + 3) = .ok (.putfield 15, 3))
    (kk : ∀ (ra : Nat) (H1 : Heap) (locs1 : List Loc), cH D cy (cq q ra y) A s.heap (cG 36 S) H1 locs1 → W p l e R s m args below meth c H1 locs1 (gl (cG 36 S) - gl S0) (2 * (gl (cG 36 S) - gl S0)) Q (F0 m (pc + 6) ls rest)) : W p l e R s m args below meth c H locs (gl S - gl S0) (2 * (gl S - gl S0)) Q (F0 m pc ls (.int (zI (2 * (S.2.2.2 36 : Nat))) :: .ref (cq q x y 36) :: .ref (cq q x y 11) :: rest)) := by
  have hl1 : 1 ≤ S.2.2.2 36 := by
    obtain ⟨-, -, h3, h4, h5, h6⟩ := hF
    omega
  have hl2 : S.2.2.2 36 ≤ 12288 := by omega
  have hgl := cFx_gl hF
  have hgG := cG_gl (n := 36) (S := S) (by omega)
  have hgG2 : gl (cG 36 S) ≤ gK := cFx_gl ((cG_F hF).1 hlen)
  have hin : (cW cy (cq q x y) S)[36]? = some (cq q x y 36, .inl (cy 1, S.2.2.2 36, .inl (fun j => zI (S.1 36 j)))) := by rw [cW_get (by decide), cE_i (show cK 36 = 8 from rfl)]
  have hAn : A (cq q x y 36) := h.2.1.2 36 _ hin
  have hAsub : ∀ z, va_A [(cq q x y 36, .inl (cy 1, S.2.2.2 36, .inl (fun j => zI (S.1 36 j))))] H.size z → A z := by
    intro z hz
    rcases hz with ⟨k9, e9, h9⟩ | h9
    · have : k9 = 0 := by
        rcases k9 with _ | k9
        · rfl
        · cases h9
      subst this
      cases h9
      exact hAn
    · exact hG.2.2.1 z (Nat.le_trans hG.2.2.2.1 (Nat.le_trans h.2.2.1 h9))
  refine va_callr (A1 := va_A [(cq q x y 36, .inl (cy 1, S.2.2.2 36, .inl (fun j => zI (S.1 36 j))))] H.size) (va_runS (As := [.ref (cq q x y 36), .int (zI (2 * (S.2.2.2 36 : Nat)))]) (rest := .ref (cq q x y 11) :: rest) (g := F0 m pc ls _) ⟨B.1, B.2.1, B.2.2.1, B.2.2.2.1, B.2.2.2.2.1⟩ (cJ7_copyOf_59c91_ok l D cy (cq q x y 36) (S.2.2.2 36) H.size (fun j => zI (S.1 36 j)) hl1 hl2) (csC 2 B wC_mRX1_34 wC_st_yJ7_copyOf_59c91 wC_in_RJ7 wC_cd_yJ7_copyOf_59c91 rfl rfl (by decide +kernel) ⟨hRf, by show 8 + (3 + 11) + 60 ≤ R.locals; omega⟩) ⟨?_, fun U hU hW => ⟨rfl, by rw [hU], ?_, va_K.moved hW.alike hK, ?_⟩⟩ rfl rfl hsz rfl (by show 2 * 0 + (1 + (rest.map fun v => v.category).sum) ≤ 8; omega) hd (by rw [hR.1, hR.2]; omega)) h.2.2 (fun z _ hz => hAsub z hz) (fun z hz => hAsub z hz) ?_
  · intro a1 U g mk h9
    obtain ⟨h0, hs, hP, hK, hD⟩ := h9
    exact ⟨h0, hs, hP, va_K.moved (u := U) (U := U.calling g mk a1) (Vm.Alike.refl U.vm) hK, hD⟩
  · rw [hU]
    intro k9 e9 h9
    rcases k9 with _ | k9
    · cases h9
      exact h.1 36 _ hin
    · cases h9
  · refine ⟨fun i j e1 e2 h1 h2 _ => ?_, fun _ _ _ => trivial⟩
    rcases i with _ | i
    · rcases j with _ | j
      · rfl
      · cases h2
    · cases h1
  · intro u ra t H1 locs1 ht _ _ hB hz1 hk1 hS
    obtain ⟨hP2, hD2⟩ := hB
    have hra : H.size ≤ ra := by
      rcases hD2.2 1 _ rfl with ⟨k9, e9, h9⟩ | h9
      · rcases k9 with _ | k9
        · have e1 : cq q x y 36 = ra := (Prod.mk.inj (Option.some.inj h9)).1
          exact absurd (hD2.1 0 1 _ _ rfl rfl e1) (by decide)
        · cases h9
      · exact h9
    have hsm : ∀ (k9 : Nat) (e9 : Nat × va_E), (cW cy (cq q x y) S)[k9]? = some e9 → e9.1 < H.size := by
      intro k9 e9 h9
      have hat := h.1 k9 e9 h9
      obtain ⟨a9, x9⟩ := e9
      cases x9 with
      | inl z =>
        have hat : H[a9]? = some _ := hat
        exact (Array.getElem?_eq_some_iff.mp hat).1
      | inr z =>
        obtain ⟨r9, -, cell, hc, -⟩ := hat
        exact (Array.getElem?_eq_some_iff.mp hc).1
    have hP0 : va_P D vwCl (cW cy (cq q x y) S) H1 := by
      intro k9 e9 h9
      by_cases hk : k9 = 36
      · subst hk
        rw [hin] at h9
        cases h9
        have := hP2 0 _ rfl
        rw [ht] at this
        exact this
      · refine (h.1 k9 e9 h9).kept (hk1 e9.1 (hsm k9 e9 h9) ?_)
        rintro (⟨j, e2, h2⟩ | h2)
        · rcases j with _ | j
          · have e1 : cq q x y 36 = e9.1 := (Prod.mk.inj (Option.some.inj h2)).1
            exact hk (h.2.1.1 k9 36 _ _ h9 hin e1.symm)
          · cases h2
        · exact absurd (hsm k9 e9 h9) (by omega)
    have hPn : va_P D vwCl [(ra, .inl (cy 1, 2 * S.2.2.2 36, .inl (va_cpy (fun j => zI (S.1 36 j)) (fun _ => 0) 0 0 (S.2.2.2 36))))] H1 := by
      intro k9 e9 h9
      rcases k9 with _ | k9
      · cases h9
        have := hP2 1 _ rfl
        rw [ht] at this
        exact this
      · cases h9
    have hP3 := hP0.app hPn
    have hD3 : va_D A (cW cy (cq q x y) S ++ [(ra, .inl (cy 1, 2 * S.2.2.2 36, .inl (va_cpy (fun j => zI (S.1 36 j)) (fun _ => 0) 0 0 (S.2.2.2 36))))]) := by
      refine va_D.app h.2.1 ⟨fun i j e1 e2 h1 h2 _ => ?_, fun i e1 h1 => ?_⟩ (fun i j e1 e2 h1 h2 => ?_)
      · rcases i with _ | i
        · rcases j with _ | j
          · rfl
          · cases h2
        · cases h1
      · rcases i with _ | i
        · cases h1
          exact hAsub _ (Or.inr hra)
        · cases h1
      · rcases j with _ | j
        · cases h2
          have := hsm i e1 h1
          show e1.1 ≠ ra
          omega
        · cases h2
    refine va_put (D := D) (ci := 1) (v := .ref ra) (ty := .array .int) (C := RX1) (T := TX1) (N := 6) B.1 B.2.1 B.2.2.2.2.1 (iC1 _) tyX1 tyX1_ok nmX1 B.2.2.2.1 hK hP3 hD3 hS 11 (fs := cF (cq q x y) S 11) (by rw [List.getElem?_append_left (by rw [cW_len]; decide), cW_get (by decide), cE_obj (by decide)]; rfl) rfl 1 (by decide) (B.2.2.2.2.1 _ (List.mem_cons_of_mem _ wC_fRX1_15)) (fun _ h9 => h9) rfl (by decide +kernel) rfl rfl (by rw [cF_len]; decide) hd2 (fun H2 locs2 hP4 hD4 hS4 => ?_)
    refine W.widen (k := gl (cG 36 S) - gl S0) (n := 2 * (gl (cG 36 S) - gl S0)) (by omega) (by omega) (kk ra H2 locs2 ⟨?_, ?_, hS4⟩)
    · exact hP4.by (fun i => if i = 36 then 40 else i) (cW_grow36 hF ha hb)
    · refine hD4.by (fun i => if i = 36 then 40 else i) (cW_grow36 hF ha hb) (fun i j h1 h2 h3 => ?_)
      rw [cW_len] at h1 h2
      have h3 : (if i = 36 then 40 else i) = (if j = 36 then 40 else j) := h3
      split at h3 <;> split at h3 <;> omega

theorem g_grow37 (B : zAt p s m args meth c RX1 cc maxL ret (w0 :: TBC)) (hK : va_K D vwCl (zTY cy) s) (hG : gEn V n0 A s c) (h : cH D cy (cq q x y) A s.heap S H locs) (hF : cFx a b S) (ha : a < 36) (hb : b < 36) (hlen : S.2.2.2 37 ≤ 12288) (hR : R.cells = (gK - gl S0) + 1 ∧ R.slots = 2 * (gK - gl S0) + 6) (hRf : 2 ≤ R.frames) (hRl : 82 ≤ R.locals) (hg0 : gl S0 ≤ gl S) (hsz : ls.size = maxL) (hroom : (rest.map fun v => v.category).sum ≤ 7) (hd : decode cc pc = .ok (.invokestatic 34, 3)) (hd2 : decode cc (pc + 3) = .ok (.putfield 18, 3))
    (kk : ∀ (ra : Nat) (H1 : Heap) (locs1 : List Loc), cH D cy (cq q x ra) A s.heap (cG 37 S) H1 locs1 → W p l e R s m args below meth c H1 locs1 (gl (cG 37 S) - gl S0) (2 * (gl (cG 37 S) - gl S0)) Q (F0 m (pc + 6) ls rest)) : W p l e R s m args below meth c H locs (gl S - gl S0) (2 * (gl S - gl S0)) Q (F0 m pc ls (.int (zI (2 * (S.2.2.2 37 : Nat))) :: .ref (cq q x y 37) :: .ref (cq q x y 11) :: rest)) := by
  have hl1 : 1 ≤ S.2.2.2 37 := by
    obtain ⟨-, -, h3, h4, h5, h6⟩ := hF
    omega
  have hl2 : S.2.2.2 37 ≤ 12288 := by omega
  have hgl := cFx_gl hF
  have hgG := cG_gl (n := 37) (S := S) (by omega)
  have hgG2 : gl (cG 37 S) ≤ gK := cFx_gl ((cG_F hF).2 hlen)
  have hin : (cW cy (cq q x y) S)[37]? = some (cq q x y 37, .inl (cy 1, S.2.2.2 37, .inl (fun j => zI (S.1 37 j)))) := by rw [cW_get (by decide), cE_i (show cK 37 = 8 from rfl)]
  have hAn : A (cq q x y 37) := h.2.1.2 37 _ hin
  have hAsub : ∀ z, va_A [(cq q x y 37, .inl (cy 1, S.2.2.2 37, .inl (fun j => zI (S.1 37 j))))] H.size z → A z := by
    intro z hz
    rcases hz with ⟨k9, e9, h9⟩ | h9
    · have : k9 = 0 := by
        rcases k9 with _ | k9
        · rfl
        · cases h9
      subst this
      cases h9
      exact hAn
    · exact hG.2.2.1 z (Nat.le_trans hG.2.2.2.1 (Nat.le_trans h.2.2.1 h9))
  refine va_callr (A1 := va_A [(cq q x y 37, .inl (cy 1, S.2.2.2 37, .inl (fun j => zI (S.1 37 j))))] H.size) (va_runS (As := [.ref (cq q x y 37), .int (zI (2 * (S.2.2.2 37 : Nat)))]) (rest := .ref (cq q x y 11) :: rest) (g := F0 m pc ls _) ⟨B.1, B.2.1, B.2.2.1, B.2.2.2.1, B.2.2.2.2.1⟩ (cJ7_copyOf_59c91_ok l D cy (cq q x y 37) (S.2.2.2 37) H.size (fun j => zI (S.1 37 j)) hl1 hl2) (csC 2 B wC_mRX1_34 wC_st_yJ7_copyOf_59c91 wC_in_RJ7 wC_cd_yJ7_copyOf_59c91 rfl rfl (by decide +kernel) ⟨hRf, by show 8 + (3 + 11) + 60 ≤ R.locals; omega⟩) ⟨?_, fun U hU hW => ⟨rfl, by rw [hU], ?_, va_K.moved hW.alike hK, ?_⟩⟩ rfl rfl hsz rfl (by show 2 * 0 + (1 + (rest.map fun v => v.category).sum) ≤ 8; omega) hd (by rw [hR.1, hR.2]; omega)) h.2.2 (fun z _ hz => hAsub z hz) (fun z hz => hAsub z hz) ?_
  · intro a1 U g mk h9
    obtain ⟨h0, hs, hP, hK, hD⟩ := h9
    exact ⟨h0, hs, hP, va_K.moved (u := U) (U := U.calling g mk a1) (Vm.Alike.refl U.vm) hK, hD⟩
  · rw [hU]
    intro k9 e9 h9
    rcases k9 with _ | k9
    · cases h9
      exact h.1 37 _ hin
    · cases h9
  · refine ⟨fun i j e1 e2 h1 h2 _ => ?_, fun _ _ _ => trivial⟩
    rcases i with _ | i
    · rcases j with _ | j
      · rfl
      · cases h2
    · cases h1
  · intro u ra t H1 locs1 ht _ _ hB hz1 hk1 hS
    obtain ⟨hP2, hD2⟩ := hB
    have hra : H.size ≤ ra := by
      rcases hD2.2 1 _ rfl with ⟨k9, e9, h9⟩ | h9
      · rcases k9 with _ | k9
        · have e1 : cq q x y 37 = ra := (Prod.mk.inj (Option.some.inj h9)).1
          exact absurd (hD2.1 0 1 _ _ rfl rfl e1) (by decide)
        · cases h9
      · exact h9
    have hsm : ∀ (k9 : Nat) (e9 : Nat × va_E), (cW cy (cq q x y) S)[k9]? = some e9 → e9.1 < H.size := by
      intro k9 e9 h9
      have hat := h.1 k9 e9 h9
      obtain ⟨a9, x9⟩ := e9
      cases x9 with
      | inl z =>
        have hat : H[a9]? = some _ := hat
        exact (Array.getElem?_eq_some_iff.mp hat).1
      | inr z =>
        obtain ⟨r9, -, cell, hc, -⟩ := hat
        exact (Array.getElem?_eq_some_iff.mp hc).1
    have hP0 : va_P D vwCl (cW cy (cq q x y) S) H1 := by
      intro k9 e9 h9
      by_cases hk : k9 = 37
      · subst hk
        rw [hin] at h9
        cases h9
        have := hP2 0 _ rfl
        rw [ht] at this
        exact this
      · refine (h.1 k9 e9 h9).kept (hk1 e9.1 (hsm k9 e9 h9) ?_)
        rintro (⟨j, e2, h2⟩ | h2)
        · rcases j with _ | j
          · have e1 : cq q x y 37 = e9.1 := (Prod.mk.inj (Option.some.inj h2)).1
            exact hk (h.2.1.1 k9 37 _ _ h9 hin e1.symm)
          · cases h2
        · exact absurd (hsm k9 e9 h9) (by omega)
    have hPn : va_P D vwCl [(ra, .inl (cy 1, 2 * S.2.2.2 37, .inl (va_cpy (fun j => zI (S.1 37 j)) (fun _ => 0) 0 0 (S.2.2.2 37))))] H1 := by
      intro k9 e9 h9
      rcases k9 with _ | k9
      · cases h9
        have := hP2 1 _ rfl
        rw [ht] at this
        exact this
      · cases h9
    have hP3 := hP0.app hPn
    have hD3 : va_D A (cW cy (cq q x y) S ++ [(ra, .inl (cy 1, 2 * S.2.2.2 37, .inl (va_cpy (fun j => zI (S.1 37 j)) (fun _ => 0) 0 0 (S.2.2.2 37))))]) := by
      refine va_D.app h.2.1 ⟨fun i j e1 e2 h1 h2 _ => ?_, fun i e1 h1 => ?_⟩ (fun i j e1 e2 h1 h2 => ?_)
      · rcases i with _ | i
        · rcases j with _ | j
          · rfl
          · cases h2
        · cases h1
      · rcases i with _ | i
        · cases h1
          exact hAsub _ (Or.inr hra)
        · cases h1
      · rcases j with _ | j
        · cases h2
          have := hsm i e1 h1
          show e1.1 ≠ ra
          omega
        · cases h2
    refine va_put (D := D) (ci := 1) (v := .ref ra) (ty := .array .int) (C := RX1) (T := TX1) (N := 6) B.1 B.2.1 B.2.2.2.2.1 (iC1 _) tyX1 tyX1_ok nmX1 B.2.2.2.1 hK hP3 hD3 hS 11 (fs := cF (cq q x y) S 11) (by rw [List.getElem?_append_left (by rw [cW_len]; decide), cW_get (by decide), cE_obj (by decide)]; rfl) rfl 2 (by decide) (B.2.2.2.2.1 _ (List.mem_cons_of_mem _ wC_fRX1_18)) (fun _ h9 => h9) rfl (by decide +kernel) rfl rfl (by rw [cF_len]; decide) hd2 (fun H2 locs2 hP4 hD4 hS4 => ?_)
    refine W.widen (k := gl (cG 37 S) - gl S0) (n := 2 * (gl (cG 37 S) - gl S0)) (by omega) (by omega) (kk ra H2 locs2 ⟨?_, ?_, hS4⟩)
    · exact hP4.by (fun i => if i = 37 then 40 else i) (cW_grow37 hF ha hb)
    · refine hD4.by (fun i => if i = 37 then 40 else i) (cW_grow37 hF ha hb) (fun i j h1 h2 h3 => ?_)
      rw [cW_len] at h1 h2
      have h3 : (if i = 37 then 40 else i) = (if j = 37 then 40 else j) := h3
      split at h3 <;> split at h3 <;> omega

end GRW
