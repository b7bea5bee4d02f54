theorem zand63 : ∀ n : Nat, n < 128 → zand (n : Int) 63 = ((if 64 ≤ n then n - 64 else n : Nat) : Int) := by decide +kernel
/-- what is stored for a leaf, asked for a sign -/
theorem K2_fits_v {t : Nat} {i x : Int} {S : CSt} (h0 : 0 ≤ i) (h1 : i < S.1 t 5) (h2 : i < 96) (x0 : 0 ≤ x) (x1 : x ≤ 127) : K2_fits t i x S = (if (if 64 ≤ x then bw (S.2.1 (pA t 4) i.toNat) (x - 64).toNat else bw (S.2.1 (pA t 3) i.toNat) x.toNat) = true then 1 else 0) := by
  have hi : ¬ K2_isInstruction t i S = 0 := by
    unfold K2_isInstruction
    rw [if_neg (by omega), if_neg (by omega), if_neg (by omega)]
    exact z1n0
  obtain ⟨n, rfl⟩ : ∃ n : Nat, x = n := ⟨x.toNat, by omega⟩
  unfold K2_fits
  rw [if_neg hi, zand63 n (by omega)]
  by_cases hx : 64 ≤ n
  · rw [if_pos (show (64 : Int) ≤ n by omega), if_pos (show (64 : Int) ≤ n by omega), if_pos hx, show ((n : Int) - 64).toNat = n - 64 by omega]
    cases hb : bw (S.2.1 (pA t 4) i.toNat) (n - 64)
    · rw [if_pos ((zbit (by omega)).mpr hb)]
      rfl
    · rw [if_neg (fun h => by rw [(zbit (by omega)).mp h] at hb; cases hb)]
      rfl
  · rw [if_neg (show ¬ (64 : Int) ≤ n by omega), if_neg (show ¬ (64 : Int) ≤ n by omega), if_neg hx, show (n : Int).toNat = n by omega]
    cases hb : bw (S.2.1 (pA t 3) i.toNat) n
    · rw [if_pos ((zbit (by omega)).mpr hb)]
      rfl
    · rw [if_neg (fun h => by rw [(zbit (by omega)).mp h] at hb; cases hb)]
      rfl
theorem bit255 (i : Nat) : Nat.testBit 255 i = decide (i < 8) := Nat.testBit_two_pow_sub_one 8 i
/-- a byte of a long: the class's way and the reference's -/
theorem byte_eq (row : Int64) : ∀ n : Nat, n < 8 → K6_byteOf row (n : Int) = lby row (n : Int) := by
  intro n hn
  have h8 : 8 * n < 64 := by omega
  have eS : (zI (8 * (n : Int))).toInt64 &&& 63 = Int64.ofNat (8 * n) := by
    have := zsh_nat2 (8 * n) h8
    rw [show ((8 * n : Nat) : Int) = 8 * (n : Int) by omega] at this
    exact this
  have eA : ∀ i, (((row >>> ((zI (8 * (n : Int))).toInt64 &&& 63)) &&& 255).toBitVec.toNat).testBit i = (decide (i < 8) && row.toBitVec.getLsbD (8 * n + i)) := by
    intro i
    rw [eS, BitVec.testBit_toNat, Int64.toBitVec_and, BitVec.getLsbD_and, Int64.toBitVec_shiftRight]
    have e255 : (255 : Int64).toBitVec.getLsbD i = decide (i < 8) := by
      show (BitVec.ofNat 64 255).getLsbD i = _
      rw [BitVec.getLsbD_ofNat, bit255]
      by_cases h : i < 8
      · simp [h]; omega
      · simp [h]
    rw [e255, Bool.and_comm]
    by_cases h : i < 8
    · rw [decide_eq_true h, Bool.true_and, Bool.true_and]
      have es : ((Int64.ofNat (8 * n)).toBitVec.smod 64).toNat = 8 * n := by
        have : ∀ k : Nat, k < 64 → ((Int64.ofNat k).toBitVec.smod 64).toNat = k := by decide +kernel
        exact this (8 * n) h8
      show (row.toBitVec.sshiftRight ((Int64.ofNat (8 * n)).toBitVec.smod 64).toNat).getLsbD i = _
      rw [es, BitVec.getLsbD_sshiftRight, decide_eq_false (show ¬ 64 ≤ i by omega), if_pos (show 8 * n + i < 64 by omega)]
      rfl
    · rw [decide_eq_false h, Bool.false_and, Bool.false_and]
  have eB : ∀ i, (((zushr row (8 * (n : Int))).toInt32 &&& 255).toBitVec.toNat).testBit i = (decide (i < 8) && row.toBitVec.getLsbD (8 * n + i)) := by
    intro i
    rw [BitVec.testBit_toNat, Int32.toBitVec_and, BitVec.getLsbD_and]
    have e255 : (255 : Int32).toBitVec.getLsbD i = decide (i < 8) := by
      show (BitVec.ofNat 32 255).getLsbD i = _
      rw [BitVec.getLsbD_ofNat, bit255]
      by_cases h : i < 8
      · simp [h]; omega
      · simp [h]
    rw [e255, Bool.and_comm]
    by_cases h : i < 8
    · rw [decide_eq_true h, Bool.true_and, Bool.true_and]
      have e32 : (zushr row (8 * (n : Int))).toInt32.toBitVec = (zushr row (8 * (n : Int))).toBitVec.signExtend 32 := Int64.toBitVec_toInt32 _
      have eu : (zushr row (8 * (n : Int))).toBitVec = row.toBitVec >>> (8 * n) := by
        have := zushr_bv (x := row) h8
        rw [show ((8 * n : Nat) : Int) = 8 * (n : Int) by omega] at this
        exact this
      rw [e32, BitVec.signExtend_eq_setWidth_of_le _ (by decide), eu, BitVec.getLsbD_setWidth, decide_eq_true (show i < 32 by omega), Bool.true_and, BitVec.getLsbD_ushiftRight]
    · rw [decide_eq_false h, Bool.false_and, Bool.false_and]
  have eN : ((zushr row (8 * (n : Int))).toInt32 &&& 255).toBitVec.toNat = ((row >>> ((zI (8 * (n : Int))).toInt64 &&& 63)) &&& 255).toBitVec.toNat := Nat.eq_of_testBit_eq (fun i => by rw [eA, eB])
  have hA : ((row >>> ((zI (8 * (n : Int))).toInt64 &&& 63)) &&& 255).toBitVec.toNat ≤ 255 := by
    rw [Int64.toBitVec_and, BitVec.toNat_and]
    exact Nat.and_le_right
  show zl255 (zushr row (8 * (n : Int))) = lby row n
  unfold zl255 lby
  have t1 : ((zushr row (8 * (n : Int))).toInt32 &&& 255).toInt = (((zushr row (8 * (n : Int))).toInt32 &&& 255).toBitVec.toNat : Int) := BitVec.toInt_eq_toNat_of_lt (by omega)
  have t2 : ((row >>> ((zI (8 * (n : Int))).toInt64 &&& 63)) &&& 255).toInt = ((((row >>> ((zI (8 * (n : Int))).toInt64 &&& 63)) &&& 255).toBitVec.toNat : Nat) : Int) := BitVec.toInt_eq_toNat_of_lt (by omega)
  rw [t1, t2, eN]
