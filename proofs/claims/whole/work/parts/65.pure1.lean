/-! PURE: signs, bits -/
theorem K_ix1_nat : ∀ n : Nat, n < 127 → (0 ≤ K_ix1 (n : Int) ↔ M_isSpecial (n : Int)) := by decide +kernel
theorem K_ix2_nat : ∀ n : Nat, n < 127 → (0 ≤ K_ix2 (n : Int) ↔ M_isClass (n : Int)) := by decide +kernel
theorem K_ix1_iff {x : Int} (h0 : 0 ≤ x) (h1 : x ≤ 126) : (K_ix1 x < 0 ↔ ¬ M_isSpecial x) := by
  obtain ⟨n, rfl⟩ : ∃ n : Nat, x = n := ⟨x.toNat, by omega⟩
  rw [← K_ix1_nat n (by omega)]
  omega
theorem K_ix2_iff {x : Int} (h0 : 0 ≤ x) (h1 : x ≤ 126) : (K_ix2 x < 0 ↔ ¬ M_isClass x) := by
  obtain ⟨n, rfl⟩ : ∃ n : Nat, x = n := ⟨x.toNat, by omega⟩
  rw [← K_ix2_nat n (by omega)]
  omega
/-- bit n of a long -/
def bw (w : Int64) (n : Nat) : Bool := w.toBitVec.getLsbD n
theorem zsh_nat : ∀ n : Nat, n < 64 → ((zI (n : Int)).toInt64.toUInt64 &&& Int64.toUInt64 63) = UInt64.ofNat n := by decide +kernel
theorem zsh_nat2 : ∀ n : Nat, n < 64 → ((zI (n : Int)).toInt64 &&& 63) = Int64.ofNat n := by decide +kernel
theorem zushr_bv {x : Int64} {n : Nat} (h : n < 64) : (zushr x (n : Int)).toBitVec = x.toBitVec >>> n := by
  unfold zushr
  rw [zsh_nat n h]
  have e : ((x.toUInt64 >>> UInt64.ofNat n).toInt64).toBitVec = (x.toUInt64 >>> UInt64.ofNat n).toBitVec := rfl
  rw [e, UInt64.toBitVec_shiftRight]
  have e2 : x.toUInt64.toBitVec = x.toBitVec := rfl
  rw [e2]
  show x.toBitVec >>> ((UInt64.ofNat n).toBitVec % 64).toNat = _
  have e3 : ((UInt64.ofNat n).toBitVec % 64).toNat = n := by
    rw [BitVec.toNat_umod]
    show (BitVec.ofNat 64 n).toNat % 64 = n
    rw [BitVec.toNat_ofNat]
    omega
  rw [e3]
theorem one_bit : ∀ i : Nat, i < 64 → ¬ i = 0 → (1 : Int64).toBitVec.getLsbD i = false := by decide +kernel
theorem zbit {w : Int64} {n : Nat} (h : n < 64) : (zlc (zushr w (n : Int) &&& 1) 0 = 0) ↔ bw w n = false := by
  rw [(zlc_bd _ _).2.2]
  unfold bw
  rw [← Int64.toBitVec_inj, Int64.toBitVec_and, zushr_bv h]
  constructor
  · intro e
    have e1 := congrArg (fun v => v.getLsbD 0) e
    simpa [BitVec.getLsbD_and, BitVec.getLsbD_ushiftRight] using e1
  · intro e
    apply BitVec.eq_of_getLsbD_eq
    intro i hi
    by_cases h0 : i = 0
    · subst h0
      simpa [BitVec.getLsbD_and, BitVec.getLsbD_ushiftRight] using e
    · have : (1 : Int64).toBitVec.getLsbD i = false := one_bit i hi h0
      rw [BitVec.getLsbD_and, this, Bool.and_false]
      show false = (BitVec.ofNat 64 0).getLsbD i
      simp
theorem bw_or {a b : Int64} {n : Nat} : bw (a ||| b) n = (bw a n || bw b n) := by
  unfold bw
  rw [Int64.toBitVec_or, BitVec.getLsbD_or]
theorem bw_and {a b : Int64} {n : Nat} : bw (a &&& b) n = (bw a n && bw b n) := by
  unfold bw
  rw [Int64.toBitVec_and, BitVec.getLsbD_and]
theorem bw_shr {a : Int64} {n k : Nat} (h : k < 64) : bw (zushr a (k : Int)) n = bw a (k + n) := by
  unfold bw
  rw [zushr_bv h, BitVec.getLsbD_ushiftRight]
theorem bw_one : ∀ n : Nat, n < 64 → ∀ m : Nat, m < 64 → bw (zshl 1 (n : Int)) m = decide (m = n) := by decide +kernel
theorem bw_xor {a b : Int64} {n : Nat} : bw (a ^^^ b) n = (bw a n ^^ bw b n) := by
  unfold bw
  rw [Int64.toBitVec_xor, BitVec.getLsbD_xor]
theorem bw_m1 : ∀ m : Nat, m < 64 → bw (-1) m = true := by decide +kernel
theorem bw_0 (m : Nat) : bw 0 m = false := by
  unfold bw
  show (BitVec.ofNat 64 0).getLsbD m = false
  simp
theorem bw_shl32 {a : Int64} {n : Nat} (h : n < 64) : bw (zshl a 32) n = (decide (32 ≤ n) && bw a (n - 32)) := by
  have e : zshl a 32 = a <<< (32 : Int64) := rfl
  unfold bw
  rw [e, Int64.toBitVec_shiftLeft]
  show (a.toBitVec <<< ((BitVec.ofNat 64 32).smod 64).toNat).getLsbD n = _
  rw [show ((BitVec.ofNat 64 32).smod 64).toNat = 32 by decide, BitVec.getLsbD_shiftLeft]
  by_cases h2 : n < 32
  · simp [h2, h]
    omega
  · simp [h2, h]
    omega
/-- is the sign x in the set at hand? -/
def sm (S : CSt) (x : Int) : Bool := if 64 ≤ x then bw (S.2.1 9 1) (x - 64).toNat else bw (S.2.1 9 0) x.toNat
theorem sm_clear {S : CSt} {x : Int} : sm (cj (cj S 9 0 0) 9 1 0) x = false := by
  unfold sm
  split
  · rw [cj_eq, pk_uLs, bw_0]
  · rw [cj_eq, pk_uLn (by decide), cj_eq, pk_uLs, bw_0]
theorem sm_add {S : CSt} {s x : Int} (h0 : 0 ≤ s) (h1 : s ≤ 127) (x0 : 0 ≤ x) (x1 : x ≤ 127) : sm (K5_add s S) x = (sm S x || decide (x = s)) := by
  unfold K5_add
  by_cases hs : 64 ≤ s
  · rw [if_pos hs]
    unfold sm
    by_cases hx : 64 ≤ x
    · rw [if_pos hx, if_pos hx, cj_eq, pk_uLs, bw_or]
      obtain ⟨n, hn⟩ : ∃ n : Nat, s - 64 = n := ⟨(s - 64).toNat, by omega⟩
      rw [hn, bw_one n (by omega) _ (by omega)]
      congr 1
      apply decide_eq_decide.mpr
      omega
    · rw [if_neg hx, if_neg hx, cj_eq, pk_uLn (by decide), decide_eq_false (show ¬ x = s by omega), Bool.or_false]
  · rw [if_neg hs]
    unfold sm
    by_cases hx : 64 ≤ x
    · rw [if_pos hx, if_pos hx, cj_eq, pk_uLn (by decide), decide_eq_false (show ¬ x = s by omega), Bool.or_false]
    · rw [if_neg hx, if_neg hx, cj_eq, pk_uLs, bw_or]
      obtain ⟨n, hn⟩ : ∃ n : Nat, s = n := ⟨s.toNat, by omega⟩
      subst hn
      rw [bw_one n (by omega) _ (by omega)]
      congr 1
      apply decide_eq_decide.mpr
      omega
theorem sm_range {last : Int} (h1 : last ≤ 127) {x : Int} (x0 : 0 ≤ x) (x1 : x ≤ 127) : ∀ (n : Nat) (i : Int) (S : CSt), 0 ≤ i → last + 1 - i = n → sm (K5_addRangeL last n i S) x = (sm S x || decide (i ≤ x ∧ x ≤ last))
  | 0, i, S, h0, hn => by
    rw [K5_addRangeL, decide_eq_false (show ¬ (i ≤ x ∧ x ≤ last) by omega), Bool.or_false]
  | n + 1, i, S, h0, hn => by
    rw [K5_addRangeL, if_neg (by omega), sm_range h1 x0 x1 n (i + 1) _ (by omega) (by omega), sm_add h0 (by omega) x0 x1, Bool.or_assoc]
    congr 1
    rw [← Bool.decide_or]
    apply decide_eq_decide.mpr
    omega
theorem sm_addRange {first last : Int} {S : CSt} {x : Int} (h0 : 0 ≤ first) (h1 : last ≤ 127) (h2 : first ≤ last + 1) (x0 : 0 ≤ x) (x1 : x ≤ 127) : sm (K5_addRange first last S) x = (sm S x || decide (first ≤ x ∧ x ≤ last)) := sm_range h1 x0 x1 _ _ _ h0 (by omega)
