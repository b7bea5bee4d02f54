theorem swp0 {n : Nat} (h : n < 6 ∨ (7 < n ∧ n < 17) ∨ 34 < n) : swp 0 n = n := by
  unfold swp
  rw [if_pos rfl, if_neg (by omega), if_neg (by omega), if_neg (by omega), if_neg (by omega)]
theorem swp0_a {j : Nat} (h : j < 9) : swp 0 (17 + j) = 26 + j := by
  unfold swp
  rw [if_pos rfl, if_neg (by omega), if_neg (by omega), if_pos (by omega)]
  omega
theorem swp0_b {j : Nat} (h : j < 9) : swp 0 (26 + j) = 17 + j := by
  unfold swp
  rw [if_pos rfl, if_neg (by omega), if_neg (by omega), if_neg (by omega), if_pos (by omega)]
  omega
theorem rK_all {S S' : CSt} (h : rK S S') : (∀ n, n ≠ 7 → n ≠ 8 → (n < 26 ∨ 34 < n) → S'.1 n = S.1 n) ∧ (∀ n, n ≠ 9 → n ≠ 29 → n ≠ 30 → S'.2.1 n = S.2.1 n) := ⟨h.2.1, h.2.2⟩
theorem C_pattern {a b : Nat} {S : CSt} {M : MSt} {fl : Int} (h : INV a b S M) (z0 : -2147483648 ≤ fl) (z1 : fl ≤ 2147483647) : (((K6_pattern b fl S).1 = 1 ∧ (M_pattern fl M).2.1 0 = 1 ∧ ∃ a', INV a' b (K6_pattern b fl S).2.2 (M_pattern fl M).2) ∨ ((K6_pattern b fl S).1 = 0 ∧ (M_pattern fl M).2.1 0 = 0 ∧ (K6_pattern b fl S).2.1 = (M_pattern fl M).1 ∧ ∃ X, (K6_pattern b fl S).2.2 = cSw 0 X ∧ INV 6 (swp 0 b) X (M_pattern fl M).2)) ∧ M_patternOK fl M := by
  have h' := h
  obtain ⟨h1, h2, h3, ⟨t1, t2, t3, t4⟩, ⟨c1, c2, c3, c4⟩, h6, h7, ⟨h8, h8'⟩, ⟨p, h9⟩, ⟨b1, b2, b3, b4, b5, b6, b7⟩, ⟨f1, f2, f3, f4⟩⟩ := h'
  -- the reference's row to read
  obtain ⟨m1, m2⟩ := patL_v fl (M.1 2).toNat 0 (mi M 0 0) (Int.le_refl _)
  have m3 : (M_patL fl (M.1 2).toNat 0 (mi M 0 0)).1 = (mi M 0 0).1 := M_patL_1 _ _ _ _
  unfold M_patternOK M_pattern
  generalize hM2 : (mi (mi (M_patL fl (M.1 2).toNat 0 (mi M 0 0)) 14 (M.1 2)) 2 0) = M2
  have n14 : M2.1 14 = M.1 2 := by rw [← hM2]; rfl
  have n2 : M2.1 2 = 0 := by rw [← hM2]; rfl
  have n0 : M2.1 0 = 0 := by
    rw [← hM2]
    show (M_patL fl (M.1 2).toNat 0 (mi M 0 0)).1 0 = 0
    rw [m3]; rfl
  have nI : ∀ k, k ≠ 0 → k ≠ 14 → k ≠ 2 → M2.1 k = M.1 k := fun k a0 a1 a2 => by
    rw [← hM2]
    show (if k = 2 then 0 else if k = 14 then M.1 2 else (M_patL fl (M.1 2).toNat 0 (mi M 0 0)).1 k) = _
    rw [if_neg a2, if_neg a1, m3]
    exact if_neg a0
  have nA : ∀ k, k ≠ 13 → M2.2 k = M.2 k := fun k hk => by
    rw [← hM2]
    exact m2 k hk
  have n13 : ∀ j : Nat, M2.2 13 j = if (j : Int) < M.1 2 then M.2 1 j else M.2 13 j := fun j => by
    rw [← hM2]
    refine (m1 j).trans ?_
    show (if (0 : Int) ≤ j ∧ (j : Int) < 0 + ((M.1 2).toNat : Nat) then M.2 1 j else M.2 13 j) = _
    by_cases c : (j : Int) < M.1 2
    · rw [if_pos c, if_pos (by omega)]
    · rw [if_neg c, if_neg (by omega)]
  have nR : ∀ j, 0 ≤ M2.2 13 j ∧ M2.2 13 j ≤ 126 := fun j => by
    rw [n13]
    by_cases c : (j : Int) < M.1 2
    · rw [if_pos c]; exact c2 j
    · rw [if_neg c]; exact c4 j
  clear hM2
  clear m1
  clear m2
  clear m3
  -- the class's
  have l2 : ((cLen (11 + 2) : Nat) : Int) = 40 := rfl
  obtain ⟨k1, k2⟩ := K4_copy_v (t := 2) (Or.inl rfl) (S := S) (by omega) (by omega)
  have kO : ∀ n, n ≠ 2 → n ≠ 13 → (K4_copy 2 S).1 n = S.1 n := fun n x y => K4_copy_1 x y
  have kT : (K4_copy 2 S).2 = S.2 := K4_copy_2
  unfold K6_pattern
  generalize hS2 : ci (K4_copy 2 S) 1 1 0 = S2
  have s2 : S2.1 2 1 = S.1 1 1 := by rw [← hS2, ci_ne (by decide)]; exact k1
  have s1 : S2.1 1 1 = 0 := by rw [← hS2, ci_eq, zu_eq]
  have s13 : ∀ j : Nat, S2.1 13 j = if (j : Int) < S.1 1 1 then S.1 12 j else S.1 13 j := fun j => by rw [← hS2, ci_ne (by decide)]; exact k2 j
  have sO : ∀ n, n ≠ 1 → n ≠ 2 → n ≠ 13 → S2.1 n = S.1 n := fun n x y z => by rw [← hS2, ci_ne x]; exact kO n y z
  have sT : S2.2 = S.2 := by rw [← hS2]; exact kT
  have sR : ∀ j, 0 ≤ S2.1 13 j ∧ S2.1 13 j ≤ 126 := fun j => by
    rw [s13]
    by_cases c : (j : Int) < S.1 1 1
    · rw [if_pos c]; exact c1 j
    · rw [if_neg c]; exact c3 j
  clear hS2
  have pB7 : pB 7 S2 := pB_of (sO 7 (by decide) (by decide) (by decide)) (fun j hj => sO _ (by unfold pA; omega) (by unfold pA; omega) (by unfold pA; omega)) b2
  have rQ2 : rQ S2 := by
    unfold rQ
    rw [sO 8 (by decide) (by decide) (by decide), sO 27 (by decide) (by decide) (by decide), sO 33 (by decide) (by decide) (by decide), sO 34 (by decide) (by decide) (by decide), sO 7 (by decide) (by decide) (by decide)]; exact b5
  have hin : RIn M2 S2 := by
    refine ⟨by omega, by omega, fun k hk => ?_, fun k hk hl => ?_, nR, sR, pB7, rQ2⟩
    · unfold K4_at M_sign
      rw [if_neg (by omega), l2]
      by_cases c : M2.1 14 ≤ k
      · rw [if_pos c, if_pos (by omega)]
      · rw [if_neg c, if_neg (by omega), if_neg (by omega)]
        show S2.1 13 k.toNat = _
        rw [s13, n13, if_pos (by omega), if_pos (by omega)]
        exact (t4 k.toNat (by omega)).1
    · unfold M_sign
      rw [if_neg (by omega), n13, if_pos (by omega)]
      have := (t4 k.toNat (by omega)).2
      omega
  have rv := read_V 100 (opT M2) (VRd_0 (S := M2) (by omega) nR)
  rw [← reads_eq] at rv
  obtain ⟨v1, v2, v3, -⟩ := rv
  have fr : frR M2 (M_reads M2).2 := frR_trans (frR_open (frR_mi (by omega) (frR_mi (by omega) (frR_mi (by omega) (frR_mi (by omega) (frR_mi (by omega) (frR_mi (by omega) (frR_mi (by omega) (frR_mi (by omega) (frR_refl M2)))))))))) v1
  have e14 : (M_reads M2).2.1 14 = M.1 2 := (fr.1 14 (by omega)).trans n14
  have e13 : (M_reads M2).2.2 13 = M2.2 13 := fr.2 13 (by omega)
  have okR : M_readsOK M2 := reads_OK (by omega) nR
  have okT : ¬ (M_reads M2).1 = 0 → M_takeOK fl (M_reads M2).2 := fun y => by
    have := v3 y
    exact ⟨this.1, this.2.1, by omega, by omega, by rw [e13]; exact nR⟩
  refine ⟨?_, z0, z1, t2, t3, c2, fun _ _ => ⟨okR, v2, okT⟩⟩
  by_cases g0 : fl < 0
  · rw [if_pos g0, if_pos g0]
    exact Or.inl ⟨rfl, rfl, a, INV_0 (INV_0 h)⟩
  rw [if_neg g0, if_neg g0]
  by_cases g7 : fl ≤ 7
  · rw [if_pos g7, if_pos g7]
    have rd := READ_all hin (by omega) g7
    have rr := K3_read_R (fl := fl) (S := S2) pB7 (by omega) (by omega) sR rQ2.1.1.1 rQ2.1.1.2 rQ2.1.2.1.1 rQ2.1.2.1.2 rQ2.1.2.2 (by omega) g7
    have rq := Q_read (fl := fl) rQ2
    have rg := G_read (fl := fl) (S := S2)
    obtain ⟨rk, p7, -, -⟩ := rr
    have F7 : cFx 7 b (K3_read fl S2).2.2 := cFx_of rk.1 (cFx_of (S := cr S2 8 2 7) rfl (cFx_a7 (cFx_of (by rw [sT]) h3)))
    have x1 : ∀ n, n ≠ 7 → n ≠ 8 → (n < 26 ∨ 34 < n) → (K3_read fl S2).2.2.1 n = S2.1 n := fun n x y z => by
      refine (rk.2.1 n x y z).trans ?_
      unfold K3_r0
      rw [ci_ne y, ci_ne y, ci_ne x, ci_ne x, ci_ne x, ci_ne x, ci_ne x]
      rfl
    have x21 : ∀ n, n ≠ 9 → n ≠ 29 → n ≠ 30 → (K3_read fl S2).2.2.2.1 n = S.2.1 n := fun n x y z => by
      refine (rk.2.2 n x y z).trans ?_
      show S2.2.1 n = _
      rw [sT]
    have x22 : (K3_read fl S2).2.2.2.2.2 = S.2.2.2 := by
      have : (K3_read fl S2).2.2.2.2 = (K3_r0 fl S2).2.2 := rk.1
      rw [this]
      show S2.2.2.2 = _
      rw [sT]
    have x0 : ∀ n, n ≠ 1 → n ≠ 2 → n ≠ 13 → n ≠ 7 → n ≠ 8 → (n < 26 ∨ 34 < n) → (K3_read fl S2).2.2.1 n = S.1 n := fun n a1 a2 a3 a4 a5 a6 => (x1 n a4 a5 a6).trans (sO n a1 a2 a3)
    have q1 : ∀ k, k ≠ 0 → k ≠ 14 → k ≠ 2 → (k < 19 ∨ (25 < k ∧ k ≠ 32)) → (M_reads M2).2.1 k = M.1 k := fun k a1 a2 a3 a4 => (fr.1 k a4).trans (nI k a1 a2 a3)
    have q2 : ∀ k, k ≠ 13 → (k < 15 ∨ (18 < k ∧ k < 26) ∨ 31 < k) → (M_reads M2).2.2 k = M.2 k := fun k a1 a2 => (fr.2 k a2).trans (nA k a1)
    have q20 : (M_reads M2).2.1 2 = 0 := (fr.1 2 (by omega)).trans n2
    have q00 : (M_reads M2).2.1 0 = 0 := (fr.1 0 (by omega)).trans n0
    clear fr
    clear v1
    clear rk
    generalize K3_read fl S2 = r at *
    generalize M_reads M2 = m at *
    have sVr : sV r.2.2 := by
      unfold sV
      rw [x0 35 (by decide) (by decide) (by decide) (by decide) (by decide) (by omega), x0 11 (by decide) (by decide) (by decide) (by decide) (by decide) (by omega), x22, x0 36 (by decide) (by decide) (by decide) (by decide) (by decide) (by omega), x0 37 (by decide) (by decide) (by decide) (by decide) (by decide) (by omega)]
      exact b3
    have mkr : mkB r.2.2 := mkB_of (x0 35 (by decide) (by decide) (by decide) (by decide) (by decide) (by omega)) (x0 37 (by decide) (by decide) (by decide) (by decide) (by decide) (by omega)) b4
    have pl : 0 ≤ r.2.2.1 10 3 ∧ r.2.2.1 10 3 ≤ 1000 := by rw [x0 10 (by decide) (by decide) (by decide) (by decide) (by decide) (by omega)]; exact b7
    have pB6 : pB 6 r.2.2 := pB_of (x0 6 (by decide) (by decide) (by decide) (by decide) (by decide) (by omega)) (fun j hj => x0 _ (by unfold pA; omega) (by unfold pA; omega) (by unfold pA; omega) (by unfold pA; omega) (by unfold pA; omega) (by unfold pA; omega)) b1
    have r1 : r.2.2.1 1 1 = 0 := by rw [x1 1 (by decide) (by decide) (by omega)]; exact s1
    have r13 : r.2.2.1 13 = S2.1 13 := x1 13 (by decide) (by decide) (by omega)
    rcases rd with ⟨rd1, rd2⟩ | ⟨rd1, rd2, rd3⟩
    · left
      rw [if_neg (show ¬ r.1 = 0 by omega), if_pos rd2]
      refine ⟨rfl, rfl, 7, INV_0 ?_⟩
      show INV 7 b r.2.2 m.2
      refine ⟨Or.inr rfl, h2, F7, ⟨by rw [q20]; exact r1, by omega, by omega, fun j hj => ?_⟩, ⟨?_, ?_, ?_, ?_⟩, ?_, ?_, ⟨PRG_cg h8 ⟨q1 6 (by decide) (by decide) (by decide) (by omega), q1 12 (by decide) (by decide) (by decide) (by omega), fun k x y => q2 k (by omega) (by omega)⟩ ⟨x0 6 (by decide) (by decide) (by decide) (by decide) (by decide) (by omega), fun j hj => x0 _ (by omega) (by omega) (by omega) (by omega) (by omega) (by omega), fun j hj => x21 _ (by omega) (by omega) (by omega)⟩, ?_⟩, ⟨p, ?_⟩, ⟨pB6, p7, sVr, mkr, rq, ?_, pl⟩, ?_⟩
      · rw [q20] at hj; omega
      · rw [x0 12 (by decide) (by decide) (by decide) (by decide) (by decide) (by omega)]; exact c1
      · rw [q2 1 (by decide) (by omega)]; exact c2
      · rw [r13]; exact sR
      · rw [e13]; exact nR
      · unfold I_tx
        rw [x0 3 (by decide) (by decide) (by decide) (by decide) (by decide) (by omega), x0 14 (by decide) (by decide) (by decide) (by decide) (by decide) (by omega), q1 4 (by decide) (by decide) (by decide) (by omega), q2 3 (by decide) (by omega)]; exact h6
      · unfold I_re
        rw [x0 4 (by decide) (by decide) (by decide) (by decide) (by decide) (by omega), x0 15 (by decide) (by decide) (by decide) (by decide) (by decide) (by omega), x0 16 (by decide) (by decide) (by decide) (by decide) (by decide) (by omega), q1 47 (by decide) (by decide) (by decide) (by omega), q2 46 (by decide) (by omega), q2 48 (by decide) (by omega)]; exact h7
      · rw [x0 6 (by decide) (by decide) (by decide) (by decide) (by decide) (by omega), q1 6 (by decide) (by decide) (by decide) (by omega), q1 12 (by decide) (by decide) (by decide) (by omega)]; exact h8'
      · unfold CfT
        rw [q2 8 (by decide) (by omega), q2 9 (by decide) (by omega), q2 10 (by decide) (by omega), q2 11 (by decide) (by omega), q2 3 (by decide) (by omega), q2 7 (by decide) (by omega), q2 34 (by decide) (by omega), q2 33 (by decide) (by omega), q1 4 (by decide) (by decide) (by decide) (by omega), q1 6 (by decide) (by decide) (by decide) (by omega), q1 35 (by decide) (by decide) (by decide) (by omega), q1 37 (by decide) (by decide) (by decide) (by omega), q1 40 (by decide) (by decide) (by decide) (by omega), q1 41 (by decide) (by decide) (by decide) (by omega)]
        exact h9
      · rw [x0 18 (by decide) (by decide) (by decide) (by decide) (by decide) (by omega), x0 24 (by decide) (by decide) (by decide) (by decide) (by decide) (by omega), x0 25 (by decide) (by decide) (by decide) (by decide) (by decide) (by omega)]; exact b6
      · unfold I_fd
        rw [x0 0 (by decide) (by decide) (by decide) (by decide) (by decide) (by omega), x0 38 (by decide) (by decide) (by decide) (by decide) (by decide) (by omega), x0 39 (by decide) (by decide) (by decide) (by decide) (by decide) (by omega), q1 5 (by decide) (by decide) (by decide) (by omega), q1 45 (by decide) (by decide) (by decide) (by omega), q1 42 (by decide) (by decide) (by decide) (by omega), q1 12 (by decide) (by decide) (by decide) (by omega), q2 43 (by decide) (by omega), q2 44 (by decide) (by omega)]
        exact ⟨f1, f2, f3, f4⟩
    · right
      rw [if_pos rd1, if_neg (show ¬ m.1 = 0 by omega)]
      have hfn := v3 (show ¬ m.1 = 0 by omega)
      have y1 : ∀ n, n ≠ 0 → n ≠ 38 → n ≠ 39 → (K6_forgetFound (ci (cSn0 b r.2.2) 0 11 0)).1 n = r.2.2.1 (swp 0 n) := fun n a0 a1 a2 => by
        rw [K6_forgetFound_1 a1 a2, ci_ne a0]; rfl
      have yT : (K6_forgetFound (ci (cSn0 b r.2.2) 0 11 0)).2 = (cSn0 b r.2.2).2 := by rw [K6_forgetFound_2]; rfl
      have y0 : (K6_forgetFound (ci (cSn0 b r.2.2) 0 11 0)).1 0 = zu (r.2.2.1 0) 11 0 := by rw [K6_forgetFound_1 (by decide) (by decide)]; rfl
      have yf := fun (k : Nat) (hk : k < 10) => K6_fF_v (S := ci (cSn0 b r.2.2) 0 11 0) hk
      generalize K6_forgetFound (ci (cSn0 b r.2.2) 0 11 0) = X at *
      have yo : ∀ n, n ≠ 0 → n ≠ 38 → n ≠ 39 → (n < 6 ∨ (7 < n ∧ n < 17) ∨ 34 < n) → X.1 n = r.2.2.1 n := fun n a0 a1 a2 a3 => by rw [y1 n a0 a1 a2, swp0 a3]
      have ya : ∀ j, j < 9 → X.1 (17 + j) = r.2.2.1 (26 + j) := fun j hj => by rw [y1 _ (by omega) (by omega) (by omega), swp0_a hj]
      have yb : ∀ j, j < 9 → X.1 (26 + j) = r.2.2.1 (17 + j) := fun j hj => by rw [y1 _ (by omega) (by omega) (by omega), swp0_b hj]
      have y6 : X.1 6 = r.2.2.1 7 := by rw [y1 6 (by decide) (by decide) (by decide)]; rfl
      have y7 : X.1 7 = r.2.2.1 6 := by rw [y1 7 (by decide) (by decide) (by decide)]; rfl
      have ya2 : ∀ j, j < 9 → X.2.1 (17 + j) = r.2.2.2.1 (26 + j) := fun j hj => by
        rw [yT]
        show r.2.2.2.1 (swp 0 (17 + j)) = _
        rw [swp0_a hj]
      have y22 : ∀ n, X.2.2.2 n = r.2.2.2.2.2 (swp 0 n) := fun n => by rw [yT]; rfl
      obtain ⟨k8, k9, k10, k11, k7, kA, k12, k6, k5, k42, kI⟩ := take_v (f := fl) (T := m.2) hfn.1 (by omega)
      have pg := TAKE_all (S2 := X) rd3 hfn (by omega) rg y6 ya ya2
      have rdd := rd3
      obtain ⟨-, -, -, -, -, -, -, -, -, -, -, -, -, -, -, ⟨d1, d2, d3⟩, d4⟩ := rdd
      have FX : cFx 6 (swp 0 b) X := cFx_of (S := cSn0 b r.2.2) (by rw [yT]) (cSn0_F F7)
      generalize M_take fl m.2 = Z at *
      have bs : swp 0 b = 6 ∨ swp 0 b = 7 := by
        rcases h2 with y | y
        · right; rw [y]; rfl
        · left; rw [y]; rfl
      refine ⟨rfl, ?_, ?_, X, rfl, Or.inl rfl, bs, FX, ⟨?_, ?_, ?_, fun j hj => ?_⟩, ⟨?_, ?_, ?_, ?_⟩, ?_, ?_, ⟨pg, ?_, ?_⟩, ⟨fun j => Z.2 (8 + j), ?_⟩, ⟨?_, ?_, ?_, mkB_of (yo 35 (by decide) (by decide) (by decide) (by omega)) (yo 37 (by decide) (by decide) (by decide) (by omega)) mkr, ?_, ?_, ?_⟩, ?_⟩
      · show Z.1 0 = 0
        rw [kI 0 (by decide) (by decide) (by decide) (by decide)]; exact q00
      · show X.1 6 12 = Z.1 12
        rw [y6, k12]; exact d1
      · show X.1 1 1 = Z.1 2
        rw [yo 1 (by decide) (by decide) (by decide) (by omega), kI 2 (by decide) (by decide) (by decide) (by decide), q20]; exact r1
      · show 0 ≤ Z.1 2
        rw [kI 2 (by decide) (by decide) (by decide) (by decide), q20]; decide
      · show Z.1 2 ≤ 40
        rw [kI 2 (by decide) (by decide) (by decide) (by decide), q20]; decide
      · have hj' : (j : Int) < Z.1 2 := hj
        rw [kI 2 (by decide) (by decide) (by decide) (by decide), q20] at hj'
        omega
      · rw [yo 12 (by decide) (by decide) (by decide) (by omega), x0 12 (by decide) (by decide) (by decide) (by decide) (by decide) (by omega)]; exact c1
      · show ∀ j, 0 ≤ Z.2 1 j ∧ Z.2 1 j ≤ 126
        rw [kA 1 (by omega), q2 1 (by decide) (by omega)]; exact c2
      · rw [yo 13 (by decide) (by decide) (by decide) (by omega), r13]; exact sR
      · show ∀ j, 0 ≤ Z.2 13 j ∧ Z.2 13 j ≤ 126
        rw [kA 13 (by omega), e13]; exact nR
      · show I_tx X Z
        unfold I_tx
        rw [yo 3 (by decide) (by decide) (by decide) (by omega), x0 3 (by decide) (by decide) (by decide) (by decide) (by decide) (by omega), yo 14 (by decide) (by decide) (by decide) (by omega), x0 14 (by decide) (by decide) (by decide) (by decide) (by decide) (by omega), kI 4 (by decide) (by decide) (by decide) (by decide), q1 4 (by decide) (by decide) (by decide) (by omega), kA 3 (by omega), q2 3 (by decide) (by omega)]; exact h6
      · show I_re X Z
        unfold I_re
        rw [yo 4 (by decide) (by decide) (by decide) (by omega), x0 4 (by decide) (by decide) (by decide) (by decide) (by decide) (by omega), yo 15 (by decide) (by decide) (by decide) (by omega), x0 15 (by decide) (by decide) (by decide) (by decide) (by decide) (by omega), yo 16 (by decide) (by decide) (by decide) (by omega), x0 16 (by decide) (by decide) (by decide) (by decide) (by decide) (by omega), kI 47 (by decide) (by decide) (by decide) (by decide), q1 47 (by decide) (by decide) (by decide) (by omega), kA 46 (by omega), q2 46 (by decide) (by omega), kA 48 (by omega), q2 48 (by decide) (by omega)]; exact h7
      · show X.1 6 13 = Z.1 6
        rw [y6, k6]; exact d4
      · show X.1 6 12 = Z.1 12
        rw [y6, k12]; exact d1
      · show CfT (fun j => Z.2 (8 + j)) Z
        obtain ⟨u1, u2, u3, u4, u5, u6, u7, u8, u9, u10, u11, u12, u13, u14, u15, u16⟩ := h9
        refine ⟨rfl, rfl, rfl, rfl, ?_, ?_, ?_, ?_, fun j => ?_, ?_, ?_, ?_, ?_, ?_, ?_, ?_⟩
        · rw [kI 4 (by decide) (by decide) (by decide) (by decide), q1 4 (by decide) (by decide) (by decide) (by omega)]; exact u5
        · rw [k6]; omega
        · rw [k6]; exact g7
        · rw [kA 3 (by omega), q2 3 (by decide) (by omega)]; exact u8
        · rw [k7]
          by_cases c : (j : Int) < m.2.1 14
          · rw [if_pos c, e13]; exact nR j
          · rw [if_neg c, q2 7 (by decide) (by omega)]; exact u9 j
        · rw [kA 34 (by omega), q2 34 (by decide) (by omega)]; exact u10
        · rw [kI 35 (by decide) (by decide) (by decide) (by decide), q1 35 (by decide) (by decide) (by decide) (by omega)]; exact u11
        · rw [kI 37 (by decide) (by decide) (by decide) (by decide), q1 37 (by decide) (by decide) (by decide) (by omega)]; exact u12
        · rw [kI 40 (by decide) (by decide) (by decide) (by decide), q1 40 (by decide) (by decide) (by decide) (by omega)]; exact u13
        · rw [kI 40 (by decide) (by decide) (by decide) (by decide), q1 40 (by decide) (by decide) (by decide) (by omega)]; exact u14
        · rw [kI 41 (by decide) (by decide) (by decide) (by decide), q1 41 (by decide) (by decide) (by decide) (by omega), kI 40 (by decide) (by decide) (by decide) (by decide), q1 40 (by decide) (by decide) (by decide) (by omega)]; exact u15
        · rw [kA 33 (by omega), q2 33 (by decide) (by omega)]; exact u16
      · obtain ⟨w1, w2⟩ := p7
        refine ⟨fun j i hj => ?_, by rw [y6]; exact w2⟩
        show -1 ≤ X.1 (17 + j) i ∧ X.1 (17 + j) i ≤ 1000000
        rw [ya j hj]; exact w1 j i hj
      · obtain ⟨w1, w2⟩ := pB6
        refine ⟨fun j i hj => ?_, by rw [y7]; exact w2⟩
        show -1 ≤ X.1 (26 + j) i ∧ X.1 (26 + j) i ≤ 1000000
        rw [yb j hj]; exact w1 j i hj
      · unfold sV
        rw [yo 35 (by decide) (by decide) (by decide) (by omega), yo 11 (by decide) (by decide) (by decide) (by omega), y22 36, y22 37, yo 36 (by decide) (by decide) (by decide) (by omega), yo 37 (by decide) (by decide) (by decide) (by omega)]
        exact sVr
      · obtain ⟨w1, -⟩ := rq
        obtain ⟨-, o1, o2, -, -, -, -, o7, o8, -⟩ := pB6
        have e27 : X.1 27 = S.1 18 := (yb 1 (by omega)).trans (x0 18 (by decide) (by decide) (by decide) (by decide) (by decide) (by omega))
        have e33 : X.1 33 = S.1 24 := (yb 7 (by omega)).trans (x0 24 (by decide) (by decide) (by decide) (by decide) (by decide) (by omega))
        have e34 : X.1 34 = S.1 25 := (yb 8 (by omega)).trans (x0 25 (by decide) (by decide) (by decide) (by decide) (by decide) (by omega))
        unfold rQ
        rw [yo 8 (by decide) (by decide) (by decide) (by omega), e27, e33, e34, y7]
        exact ⟨w1, b6.1, b6.2.1, b6.2.2, ⟨o7, o8⟩, o2⟩
      · have e18 : X.1 18 = r.2.2.1 27 := ya 1 (by omega)
        have e24 : X.1 24 = r.2.2.1 33 := ya 7 (by omega)
        have e25 : X.1 25 = r.2.2.1 34 := ya 8 (by omega)
        rw [e18, e24, e25]
        exact ⟨rq.2.1, rq.2.2.1, rq.2.2.2.1⟩
      · rw [yo 10 (by decide) (by decide) (by decide) (by omega)]; exact pl
      · refine ⟨⟨?_, ?_, ?_⟩, ?_, ?_, fun k hk => ?_⟩
        · show X.1 0 11 = Z.1 5
          rw [y0, zu_eq, k5]
        · show 0 ≤ Z.1 5
          rw [k5]; decide
        · show Z.1 5 ≤ 24
          rw [k5]; decide
        · show X.1 0 12 = Z.1 45
          rw [y0, zu_ne (by decide), x0 0 (by decide) (by decide) (by decide) (by decide) (by decide) (by omega), kI 45 (by decide) (by decide) (by decide) (by decide), q1 45 (by decide) (by decide) (by decide) (by omega)]; exact f2
        · show Z.1 42 = 0 ∨ Z.1 42 = 1
          rw [k42]; exact Or.inl rfl
        · obtain ⟨w1, w2⟩ := yf k hk
          show X.1 38 k = (if Z.1 42 = 1 ∧ (k : Int) ≤ Z.1 12 then Z.2 43 k else -1) ∧ X.1 39 k = (if Z.1 42 = 1 ∧ (k : Int) ≤ Z.1 12 then Z.2 44 k else -1)
          have n1 : ¬ (Z.1 42 = 1 ∧ (k : Int) ≤ Z.1 12) := fun y => by rw [k42] at y; exact absurd y.1 (by decide)
          rw [w1, w2, if_neg n1, if_neg n1]; exact ⟨rfl, rfl⟩
  · rw [if_neg g7, if_neg g7]
    exact Or.inl ⟨rfl, rfl, a, INV_0 (INV_0 h)⟩
