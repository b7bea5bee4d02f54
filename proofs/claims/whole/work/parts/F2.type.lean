theorem byte_nat (x : Int64) (n : Nat) (hn : n + 8 ≤ 64) : (x.toBitVec.sshiftRight n &&& 255#64).toNat = ((x.toBitVec >>> n).setWidth 32 &&& 255#32).toNat := by
  apply Nat.eq_of_testBit_eq
  intro j
  rw [BitVec.testBit_toNat, BitVec.testBit_toNat, BitVec.getLsbD_and, BitVec.getLsbD_and, BitVec.getLsbD_setWidth, BitVec.getLsbD_ushiftRight, BitVec.getLsbD_sshiftRight]
  by_cases c : j < 8
  · have e1 : n + j < 64 := by omega
    have e2 : (255#64).getLsbD j = (255#32).getLsbD j := by
      rcases (show j = 0 ∨ j = 1 ∨ j = 2 ∨ j = 3 ∨ j = 4 ∨ j = 5 ∨ j = 6 ∨ j = 7 by omega) with y | y | y | y | y | y | y | y <;> subst y <;> decide
    rw [e2]
    simp [e1, show ¬ (64 ≤ j) by omega, show j < 32 by omega]
  · have e2 : (255#64).getLsbD j = false := by
      rw [BitVec.getLsbD_ofNat]
      have : Nat.testBit 255 j = false := Nat.testBit_lt_two_pow (by
        have : 2 ^ 8 ≤ 2 ^ j := Nat.pow_le_pow_right (by omega) (by omega)
        omega)
      rw [this]; simp
    have e3 : (255#32).getLsbD j = false := by
      rw [BitVec.getLsbD_ofNat]
      have : Nat.testBit 255 j = false := Nat.testBit_lt_two_pow (by
        have : 2 ^ 8 ≤ 2 ^ j := Nat.pow_le_pow_right (by omega) (by omega)
        omega)
      rw [this]; simp
    rw [e2, e3]; simp
theorem byte_gen (s : Int64) (i : Int) (n : Nat) (hn : n + 8 ≤ 64) (h1 : (((zI (8 * i)).toInt64 &&& 63).toBitVec.smod 64#64).toNat = n) (h2 : (((zI (8 * i)).toInt64.toUInt64 &&& Int64.toUInt64 63).toBitVec % 64#64).toNat = n) : K6_byteOf s i = lby s i := by
  have a1 : lby s i = ((s.toBitVec.sshiftRight n &&& 255#64).toNat : Int) := by
    unfold lby
    have h : ((s >>> ((zI (8 * i)).toInt64 &&& 63)) &&& 255).toBitVec.toNat ≤ 255 := by
      rw [Int64.toBitVec_and, BitVec.toNat_and]
      exact Nat.and_le_right
    have e : ((s >>> ((zI (8 * i)).toInt64 &&& 63)) &&& 255).toInt = (((s >>> ((zI (8 * i)).toInt64 &&& 63)) &&& 255).toBitVec.toNat : Int) := BitVec.toInt_eq_toNat_of_lt (by omega)
    rw [e, Int64.toBitVec_and, Int64.toBitVec_shiftRight]
    show (((s.toBitVec.sshiftRight (((zI (8 * i)).toInt64 &&& 63).toBitVec.smod 64#64).toNat) &&& 255#64).toNat : Int) = _
    rw [h1]
  have a2 : K6_byteOf s i = (((s.toBitVec >>> n).setWidth 32 &&& 255#32).toNat : Int) := by
    unfold K6_byteOf zl255
    have h : ((zushr s (8 * i)).toInt32 &&& 255).toBitVec.toNat ≤ 255 := by
      rw [Int32.toBitVec_and, BitVec.toNat_and]
      exact Nat.and_le_right
    have e : ((zushr s (8 * i)).toInt32 &&& 255).toInt = (((zushr s (8 * i)).toInt32 &&& 255).toBitVec.toNat : Int) := BitVec.toInt_eq_toNat_of_lt (by omega)
    rw [e, Int32.toBitVec_and, Int64.toBitVec_toInt32]
    unfold zushr
    rw [UInt64.toBitVec_toInt64, UInt64.toBitVec_shiftRight]
    show ((((s.toBitVec >>> (((zI (8 * i)).toInt64.toUInt64 &&& Int64.toUInt64 63).toBitVec % 64#64)).signExtend 32) &&& 255#32).toNat : Int) = _
    rw [BitVec.signExtend_eq_setWidth_of_le _ (by decide)]
    show ((((s.toBitVec >>> (((zI (8 * i)).toInt64.toUInt64 &&& Int64.toUInt64 63).toBitVec % 64#64).toNat).setWidth 32) &&& 255#32).toNat : Int) = _
    rw [h2]
  rw [a1, a2, byte_nat s n hn]
theorem bytE_eq (s : Int64) {i : Int} (h0 : 0 ≤ i) (h1 : i < 8) : K6_byteOf s i = lby s i := by
  rcases (show i = 0 ∨ i = 1 ∨ i = 2 ∨ i = 3 ∨ i = 4 ∨ i = 5 ∨ i = 6 ∨ i = 7 by omega) with y | y | y | y | y | y | y | y <;> subst y
  · exact byte_gen s 0 0 (by decide) (by decide) (by decide)
  · exact byte_gen s 1 8 (by decide) (by decide) (by decide)
  · exact byte_gen s 2 16 (by decide) (by decide) (by decide)
  · exact byte_gen s 3 24 (by decide) (by decide) (by decide)
  · exact byte_gen s 4 32 (by decide) (by decide) (by decide)
  · exact byte_gen s 5 40 (by decide) (by decide) (by decide)
  · exact byte_gen s 6 48 (by decide) (by decide) (by decide)
  · exact byte_gen s 7 56 (by decide) (by decide) (by decide)
/-- what is typed in both -/
def TYP (S : CSt) (M : MSt) : Prop := I_ty S M ∧ (∀ j, 0 ≤ S.1 12 j ∧ S.1 12 j ≤ 126) ∧ (∀ j, 0 ≤ M.2 1 j ∧ M.2 1 j ≤ 126)
theorem TYP_add {S : CSt} {M : MSt} {v : Int} (h : TYP S M) (hl : M.1 2 < 40) (v0 : 32 ≤ v) (v1 : v ≤ 126) : TYP (K4_add 1 v S).2 (mi (ma M 1 (M.1 2).toNat v) 2 (M.1 2 + 1)) ∧ (∀ m, m ≠ 1 → m ≠ 12 → (K4_add 1 v S).2.1 m = S.1 m) ∧ (K4_add 1 v S).2.2 = S.2 := by
  obtain ⟨⟨t1, t2, t3, t4⟩, c1, c2⟩ := h
  have l : ((cLen (11 + 1) : Nat) : Int) = 40 := rfl
  have e : K4_add 1 v S = (1, (ci (ci S (11 + 1) (S.1 1 1).toNat v) 1 1 ((S.1 1 1) + 1))) := by
    unfold K4_add
    rw [if_neg (by omega), l, if_pos (by omega)]
  rw [e]
  have e11 : (ci (ci S (11 + 1) (S.1 1 1).toNat v) 1 1 ((S.1 1 1) + 1)).1 1 1 = S.1 1 1 + 1 := rfl
  have e12 : (ci (ci S (11 + 1) (S.1 1 1).toNat v) 1 1 ((S.1 1 1) + 1)).1 12 = zu (S.1 12) (S.1 1 1).toNat v := rfl
  have m2 : (mi (ma M 1 (M.1 2).toNat v) 2 (M.1 2 + 1)).1 2 = M.1 2 + 1 := rfl
  have m1 : (mi (ma M 1 (M.1 2).toNat v) 2 (M.1 2 + 1)).2 1 = zu (M.2 1) (M.1 2).toNat v := rfl
  have rg : ∀ (f : Nat → Int) (k j : Nat), (∀ j, 0 ≤ f j ∧ f j ≤ 126) → 0 ≤ zu f k v j ∧ zu f k v j ≤ 126 := fun f k j hf => by
    by_cases c : j = k
    · rw [c, zu_eq]; omega
    · rw [zu_ne c]; exact hf j
  refine ⟨⟨⟨?_, ?_, ?_, fun j hj => ?_⟩, fun j => ?_, fun j => ?_⟩, fun m a b => ?_, rfl⟩
  · rw [e11, m2]; omega
  · rw [m2]; omega
  · rw [m2]; omega
  · rw [m2] at hj
    rw [e12, m1, show (S.1 1 1).toNat = (M.1 2).toNat by omega]
    by_cases c : j = (M.1 2).toNat
    · rw [c, zu_eq, zu_eq]; exact ⟨rfl, v0⟩
    · rw [zu_ne c, zu_ne c]; exact t4 j (by omega)
  · rw [e12]; exact rg _ _ j c1
  · rw [m1]; exact rg _ _ j c2
  · show (if m = 1 then _ else if m = 11 + 1 then _ else S.1 m) = S.1 m
    rw [if_neg a, if_neg (by omega)]
theorem ty2 {row : Int64} {n9 : Int} (h9 : n9 ≤ 8) (hg : ∀ k, 0 ≤ k → k < n9 → 32 ≤ lby row k ∧ lby row k ≤ 126) : ∀ (n : Nat) (i : Int) (S : CSt) (M : MSt), TYP S M → M.1 2 + n ≤ 40 → 0 ≤ i → i + n = n9 → ∃ S', K6_tyL2 row n9 n i S = (0, S'.1 1 1, S') ∧ TYP S' (M_typeC row n9 n i M) ∧ (∀ m, m ≠ 1 → m ≠ 12 → S'.1 m = S.1 m) ∧ S'.2 = S.2 ∧ (∀ m, m ≠ 2 → (M_typeC row n9 n i M).1 m = M.1 m)
  | 0, i, S, M, h, hl, hi, hn => by
    rw [K6_tyL2, M_typeC]
    exact ⟨S, rfl, h, fun _ _ _ => rfl, rfl, fun _ _ => rfl⟩
  | n + 1, i, S, M, h, hl, hi, hn => by
    rw [K6_tyL2, M_typeC, if_neg (by omega), bytE_eq row hi (by omega)]
    obtain ⟨g0, g1⟩ := hg i hi (by omega)
    obtain ⟨q1, q2, q3⟩ := TYP_add h (by omega) g0 g1
    obtain ⟨S', r1, r2, r3, r4, r5⟩ := ty2 h9 hg n (i + 1) (K4_add 1 (lby row i) S).2 (mi (ma M 1 (M.1 2).toNat (lby row i)) 2 (M.1 2 + 1)) q1 (by show M.1 2 + 1 + n ≤ 40; omega) (by omega) (by omega)
    refine ⟨S', r1, r2, fun m a b => (r3 m a b).trans (q2 m a b), r4.trans q3, fun m hm => (r5 m hm).trans (if_neg hm)⟩
theorem INV_TY {a b : Nat} {S S' : CSt} {M M' : MSt} (h : INV a b S M) (ht : TYP S' M') (hs : ∀ m, m ≠ 1 → m ≠ 12 → S'.1 m = S.1 m) (hs2 : S'.2 = S.2) (hm : ∀ m, m ≠ 0 → m ≠ 2 → M'.1 m = M.1 m) (hm2 : ∀ m, m ≠ 1 → M'.2 m = M.2 m) : INV a b S' M' := by
  obtain ⟨h1, h2, h3, -, ⟨-, -, c3, c4⟩, h6, h7, ⟨h8, h8'⟩, ⟨p, h9⟩, h10, h11⟩ := h
  refine ⟨h1, h2, cFx_of (by rw [hs2]) h3, ht.1, ⟨ht.2.1, ht.2.2, by rw [hs 13 (by decide) (by decide)]; exact c3, by rw [hm2 13 (by decide)]; exact c4⟩, ?_, ?_, ⟨PRG_cg h8 ⟨hm 6 (by decide) (by decide), hm 12 (by decide) (by decide), fun k a b => hm2 k (by omega)⟩ (pgE_o (fun n hn => hs n (by omega) (by omega)) (by rw [hs2])), ?_⟩, ⟨p, ?_⟩, I_bd_o (fun n hn => hs n (by omega) (by omega)) (by rw [hs2]) h10, ?_⟩
  · unfold I_tx
    rw [hs 3 (by decide) (by decide), hs 14 (by decide) (by decide), hm 4 (by decide) (by decide), hm2 3 (by decide)]; exact h6
  · unfold I_re
    rw [hs 4 (by decide) (by decide), hs 15 (by decide) (by decide), hs 16 (by decide) (by decide), hm 47 (by decide) (by decide), hm2 46 (by decide), hm2 48 (by decide)]; exact h7
  · rw [hs 6 (by decide) (by decide), hm 6 (by decide) (by decide), hm 12 (by decide) (by decide)]; exact h8'
  · unfold CfT
    rw [hm2 8 (by decide), hm2 9 (by decide), hm2 10 (by decide), hm2 11 (by decide), hm2 3 (by decide), hm2 7 (by decide), hm2 34 (by decide), hm2 33 (by decide), hm 4 (by decide) (by decide), hm 6 (by decide) (by decide), hm 35 (by decide) (by decide), hm 37 (by decide) (by decide), hm 40 (by decide) (by decide), hm 41 (by decide) (by decide)]
    exact h9
  · unfold I_fd
    rw [hs 0 (by decide) (by decide), hs 38 (by decide) (by decide), hs 39 (by decide) (by decide), hm 5 (by decide) (by decide), hm 45 (by decide) (by decide), hm 42 (by decide) (by decide), hm 12 (by decide) (by decide), hm2 43 (by decide), hm2 44 (by decide)]
    exact h11
theorem ty1 {a b : Nat} {row : Int64} {n9 : Int} {S : CSt} {M : MSt} (h : INV a b S M) (h1 : 1 ≤ n9) (h9 : n9 ≤ 8) (hl : M.1 2 + n9 ≤ 40) : ∀ (n : Nat) (i : Int), 0 ≤ i → n9 - i ≤ n → (∀ k, 0 ≤ k → k < i → 32 ≤ lby row k ∧ lby row k ≤ 126) → COK a b (K6_tyL1 row n9 n i S) (K6_tyL1 row n9 n i S).2.2 (M_typeL row n9 (mi M 0 0) n i) := by
  have fin : (∀ k, 0 ≤ k → k < n9 → 32 ≤ lby row k ∧ lby row k ≤ 126) → COK a b (K6_tyL2 row n9 n9.toNat 0 S) (K6_tyL2 row n9 n9.toNat 0 S).2.2 ((M_typeC row n9 (n9).toNat 0 (mi M 0 0)).1 2, (M_typeC row n9 (n9).toNat 0 (mi M 0 0))) := fun hg => by
    obtain ⟨S', r1, r2, r3, r4, r5⟩ := ty2 h9 hg n9.toNat 0 S (mi M 0 0) ⟨h.2.2.2.1, h.2.2.2.2.1.1, h.2.2.2.2.1.2.1⟩ (by show M.1 2 + (n9.toNat : Nat) ≤ 40; omega) (Int.le_refl _) (by omega)
    rw [r1]
    refine Or.inr ⟨rfl, ?_, r2.1.1, INV_TY h r2 r3 r4 (fun m a b => (r5 m b).trans (if_neg a)) (fun m hm => M_typeC_2 row n9 hm _ _ _)⟩
    show (M_typeC row n9 (n9).toNat 0 (mi M 0 0)).1 0 = 0
    rw [r5 0 (by decide)]; rfl
  intro n
  induction n with
  | zero =>
    intro i hi hn hg
    rw [K6_tyL1, M_typeL]
    exact fin (fun k a b => hg k a (by omega))
  | succ n ih =>
    intro i hi hn hg
    rw [K6_tyL1, M_typeL]
    by_cases c : n9 ≤ i
    · rw [if_pos c, if_pos c]
      exact fin (fun k a b => hg k a (by omega))
    rw [if_neg c, if_neg c, bytE_eq row hi (by omega)]
    obtain ⟨-, -, z1, -⟩ := zcmp_bd (lby row i) 32
    obtain ⟨-, -, -, z2⟩ := zcmp_bd (lby row i) 126
    by_cases c2 : lby row i < 32
    · rw [if_pos c2, if_pos (z1.mpr c2)]
      exact Or.inl ⟨rfl, rfl, INV_0 (INV_0 h)⟩
    rw [if_neg c2, if_neg (fun y => c2 (z1.mp y))]
    by_cases c3 : lby row i ≤ 126
    · rw [if_pos c3, if_pos (z2.mpr c3)]
      exact ih (i + 1) (by omega) (by omega) (fun k x y => by
        by_cases e : k = i
        · rw [e]; omega
        · exact hg k x (by omega))
    · rw [if_neg c3, if_neg (fun y => c3 (z2.mp y))]
      exact Or.inl ⟨rfl, rfl, INV_0 (INV_0 h)⟩
theorem C_type {a b : Nat} {row : Int64} {n9 : Int} {S : CSt} {M : MSt} (h : INV a b S M) : COK a b (K6_type row n9 S) (K6_type row n9 S).2.2 (M_type row n9 M) := by
  have t1 := h.2.2.2.1.1
  unfold K6_type M_type
  by_cases c1 : n9 < 1
  · rw [if_pos c1, if_pos c1]; exact Or.inl ⟨rfl, rfl, INV_0 (INV_0 h)⟩
  rw [if_neg c1, if_neg c1]
  by_cases c2 : n9 ≤ 8
  · rw [if_pos c2, if_neg (show ¬ 8 < n9 by omega)]
    by_cases c3 : M.1 2 + n9 ≤ 40
    · rw [if_pos (show S.1 1 1 + n9 ≤ 40 by omega), if_pos c3]
      exact ty1 h (by omega) c2 c3 n9.toNat 0 (Int.le_refl _) (by omega) (fun k x y => by omega)
    · rw [if_neg (show ¬ S.1 1 1 + n9 ≤ 40 by omega), if_neg c3]; exact Or.inl ⟨rfl, rfl, INV_0 (INV_0 h)⟩
  · rw [if_neg c2, if_pos (show 8 < n9 by omega)]; exact Or.inl ⟨rfl, rfl, INV_0 (INV_0 h)⟩
