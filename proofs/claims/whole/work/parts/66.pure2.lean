theorem kc_68 : ∀ n : Nat, n < 128 → (if 64 ≤ n then bw (-1) (n - 64) else bw (-287948901175001089) n) = decide (¬ M_inClass 68 (n : Int) = 0) := by decide +kernel
theorem kc_83 : ∀ n : Nat, n < 128 → (if 64 ≤ n then bw (-1) (n - 64) else bw (-4294967297) n) = decide (¬ M_inClass 83 (n : Int) = 0) := by decide +kernel
theorem kc_87 : ∀ n : Nat, n < 128 → (if 64 ≤ n then bw (-576460745995190271) (n - 64) else bw (-287948901175001089) n) = decide (¬ M_inClass 87 (n : Int) = 0) := by decide +kernel
theorem kc_100 : ∀ n : Nat, n < 128 → (if 64 ≤ n then bw 0 (n - 64) else bw 287948901175001088 n) = decide (¬ M_inClass 100 (n : Int) = 0) := by decide +kernel
theorem kc_115 : ∀ n : Nat, n < 128 → (if 64 ≤ n then bw 0 (n - 64) else bw 4294967296 n) = decide (¬ M_inClass 115 (n : Int) = 0) := by decide +kernel
theorem kc_119 : ∀ n : Nat, n < 128 → (if 64 ≤ n then bw 576460745995190270 (n - 64) else bw 287948901175001088 n) = decide (¬ M_inClass 119 (n : Int) = 0) := by decide +kernel
theorem sm_or {S : CSt} {a b : Int64} {n : Nat} {p : Bool} (h : (if 64 ≤ n then bw b (n - 64) else bw a n) = p) : sm (cj (cj S 9 0 (S.2.1 9 0 ||| a)) 9 1 (S.2.1 9 1 ||| b)) (n : Int) = (sm S (n : Int) || p) := by
  subst h
  unfold sm
  by_cases hx : 64 ≤ n
  · rw [if_pos (show (64 : Int) ≤ n by omega), if_pos (show (64 : Int) ≤ n by omega), if_pos hx, cj_eq, pk_uLs, bw_or, show ((n : Int) - 64).toNat = n - 64 by omega]
  · rw [if_neg (show ¬ (64 : Int) ≤ n by omega), if_neg (show ¬ (64 : Int) ≤ n by omega), if_neg hx, cj_eq, pk_uLn (by decide), cj_eq, pk_uLs, bw_or, show (n : Int).toNat = n by omega]
theorem sm_addKind {S : CSt} {c x : Int} (hc : M_isClass c) (x0 : 0 ≤ x) (x1 : x ≤ 127) : sm (K5_addKind c S) x = (sm S x || decide (¬ M_inClass c x = 0)) := by
  obtain ⟨n, rfl⟩ : ∃ n : Nat, x = n := ⟨x.toNat, by omega⟩
  have hn : n < 128 := by omega
  unfold K5_addKind
  rcases hc with rfl | rfl | rfl | rfl | rfl | rfl
  · exact sm_or (kc_100 n hn)
  · exact sm_or (kc_119 n hn)
  · exact sm_or (kc_115 n hn)
  · exact sm_or (kc_68 n hn)
  · exact sm_or (kc_87 n hn)
  · exact sm_or (kc_83 n hn)
theorem sm_turn {S : CSt} {x : Int} (x0 : 0 ≤ x) (x1 : x ≤ 127) : sm (K5_turnRound S) x = !sm S x := by
  unfold K5_turnRound sm
  by_cases hx : 64 ≤ x
  · rw [if_pos hx, if_pos hx, cj_eq, pk_uLs, bw_xor, bw_m1 _ (by omega), Bool.xor_true]
  · rw [if_neg hx, if_neg hx, cj_eq, pk_uLn (by decide), cj_eq, pk_uLs, bw_xor, bw_m1 _ (by omega), Bool.xor_true]
theorem bw_cap : ∀ m : Nat, m < 64 → bw 134217726 m = decide (1 ≤ m ∧ m ≤ 26) := by decide +kernel
theorem bw_64 {a : Int64} {m : Nat} (h : 64 ≤ m) : bw a m = false := by
  unfold bw
  exact BitVec.getLsbD_of_ge _ _ h
theorem sm_same {S : CSt} {x : Int} (x0 : 0 ≤ x) (x1 : x ≤ 127) : sm (K5_addSameLetters S) x = (sm S x || sm S (M_other x)) := by
  unfold K5_addSameLetters
  by_cases hx : 64 ≤ x
  · have e1 : sm (cj S 9 1 (S.2.1 9 1 ||| (zshl (S.2.1 9 1 &&& 134217726) 32 ||| zushr (S.2.1 9 1) 32 &&& 134217726))) x = bw (S.2.1 9 1 ||| (zshl (S.2.1 9 1 &&& 134217726) 32 ||| zushr (S.2.1 9 1) 32 &&& 134217726)) (x - 64).toNat := by
      unfold sm
      rw [if_pos hx, cj_eq, pk_uLs]
    have e2 : sm S x = bw (S.2.1 9 1) (x - 64).toNat := by
      unfold sm
      rw [if_pos hx]
    rw [e1, e2]
    obtain ⟨n, hn⟩ : ∃ n : Nat, (x - 64).toNat = n := ⟨_, rfl⟩
    have h32 : bw (zushr (S.2.1 9 1) 32) n = bw (S.2.1 9 1) (32 + n) := bw_shr (k := 32) (by decide)
    rw [hn, bw_or, bw_or, bw_shl32 (by omega), bw_and, bw_and, h32]
    unfold M_other
    by_cases c1 : 97 ≤ x ∧ x ≤ 122
    · have e3 : sm S (x - 32) = bw (S.2.1 9 1) (n - 32) := by
        unfold sm
        rw [if_pos (by omega), show (x - 32 - 64).toNat = n - 32 by omega]
      rw [if_pos c1, e3, bw_cap _ (by omega), decide_eq_true (show 32 ≤ n by omega), decide_eq_true (show 1 ≤ n - 32 ∧ n - 32 ≤ 26 by omega), bw_64 (show 64 ≤ 32 + n by omega)]
      simp
    · rw [if_neg c1]
      by_cases c2 : 65 ≤ x ∧ x ≤ 90
      · have e3 : sm S (x + 32) = bw (S.2.1 9 1) (32 + n) := by
          unfold sm
          rw [if_pos (by omega), show (x + 32 - 64).toNat = 32 + n by omega]
        rw [if_pos c2, e3, decide_eq_false (show ¬ 32 ≤ n by omega), bw_cap n (by omega), decide_eq_true (show 1 ≤ n ∧ n ≤ 26 by omega)]
        simp
      · have e3 : bw 134217726 n = false := by
          rw [bw_cap n (by omega)]
          exact decide_eq_false (by omega)
        have e4 : (decide (32 ≤ n) && (bw (S.2.1 9 1) (n - 32) && bw 134217726 (n - 32))) = false := by
          by_cases c3 : 32 ≤ n
          · rw [bw_cap _ (by omega), decide_eq_false (show ¬ (1 ≤ n - 32 ∧ n - 32 ≤ 26) by omega)]
            simp
          · rw [decide_eq_false c3]
            rfl
        rw [if_neg c2, e2, hn, e3, e4]
        simp
  · have e0 : M_other x = x := by
      unfold M_other
      rw [if_neg (by omega), if_neg (by omega)]
    rw [e0, Bool.or_self]
    unfold sm
    rw [if_neg hx, if_neg hx, cj_eq, pk_uLn (by decide)]
