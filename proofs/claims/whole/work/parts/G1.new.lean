theorem new_rd : (M_reads M_new0).1 = 1 := by decide +kernel
theorem new_eq : M_new = M_take 0 (M_reads M_new0).2 := by
  unfold M_new
  rw [if_neg (by rw [new_rd]; exact i10)]
theorem new_V : M_readsOK M_new0 ∧ ((M_reads M_new0).1 = 0 ∨ (M_reads M_new0).1 = 1) ∧ frR M_new0 (M_reads M_new0).2 ∧ FNr (M_reads M_new0).2 := by
  have c : ∀ j, 0 ≤ M_new0.2 13 j ∧ M_new0.2 13 j ≤ 126 := fun j => ⟨by show (0 : Int) ≤ 0; decide, by show (0 : Int) ≤ 126; decide⟩
  have l : 0 ≤ M_new0.1 14 ∧ M_new0.1 14 ≤ 40 := ⟨by show (0 : Int) ≤ 0; decide, by show (0 : Int) ≤ 40; decide⟩
  have rv := read_V 100 (opT M_new0) (VRd_0 (S := M_new0) l c)
  rw [← reads_eq] at rv
  obtain ⟨v1, v2, v3, -⟩ := rv
  refine ⟨reads_OK l c, v2, ?_, v3 (by rw [new_rd]; exact i10)⟩
  exact frR_trans (frR_open (frR_mi (by omega) (frR_mi (by omega) (frR_mi (by omega) (frR_mi (by omega) (frR_mi (by omega) (frR_mi (by omega) (frR_mi (by omega) (frR_mi (by omega) (frR_refl M_new0)))))))))) v1
theorem new_T : ¬ (M_reads M_new0).1 = 0 → M_takeOK 0 (M_reads M_new0).2 := fun _ => by
  obtain ⟨-, -, f, g⟩ := new_V
  have e14 : (M_reads M_new0).2.1 14 = 0 := f.1 14 (by omega)
  have e13 : (M_reads M_new0).2.2 13 = M_new0.2 13 := f.2 13 (by omega)
  exact ⟨g.1, g.2.1, by omega, by omega, by rw [e13]; exact fun j => ⟨by show (0 : Int) ≤ 0; decide, by show (0 : Int) ≤ 126; decide⟩⟩
theorem new_p : (M_new.2 8 0 = 1 ∧ M_new.2 9 0 = -1 ∧ M_new.2 10 0 = 0 ∧ M_new.2 11 0 = 0) ∧ (M_new.2 8 1 = 2 ∧ M_new.2 9 1 = 2 ∧ M_new.2 10 1 = 0 ∧ M_new.2 11 1 = 0) ∧ (M_new.2 8 2 = 16 ∧ M_new.2 9 2 = 0 ∧ M_new.2 10 2 = 0 ∧ M_new.2 11 2 = 0) := by decide +kernel
theorem new_i : M_new.1 2 = 0 ∧ M_new.1 4 = 0 ∧ M_new.1 5 = 0 ∧ M_new.1 6 = 0 ∧ M_new.1 12 = 0 ∧ M_new.1 35 = 0 ∧ M_new.1 37 = 0 ∧ M_new.1 40 = 0 ∧ M_new.1 41 = 0 ∧ M_new.1 42 = 0 ∧ M_new.1 45 = 0 ∧ M_new.1 47 = 0 := by decide +kernel
theorem new_a : (∀ k, (k < 7 ∨ (11 < k ∧ k < 15) ∨ (18 < k ∧ k < 26) ∨ 31 < k) → ∀ j, M_new.2 k j = 0) ∧ (∀ j, M_new.2 7 j = 0) := by
  obtain ⟨-, -, f, g⟩ := new_V
  have e14 : (M_reads M_new0).2.1 14 = 0 := f.1 14 (by omega)
  obtain ⟨-, -, -, -, k7, kA, -⟩ := take_v (f := 0) (T := (M_reads M_new0).2) g.1 (by omega)
  rw [new_eq]
  refine ⟨fun k hk j => ?_, fun j => ?_⟩
  · rw [kA k (by omega), f.2 k (by omega)]; rfl
  · rw [k7, if_neg (by omega), f.2 7 (by omega)]; rfl
theorem new_S : ∀ n, n ≠ 38 → n ≠ 39 → K6_new.1 n = K6_S0.1 n := fun n a b => K6_forgetFound_1 a b
theorem S0_z : ∀ n, n ≠ 17 → n ≠ 26 → n ≠ 18 → n ≠ 27 → n ≠ 6 → n ≠ 7 → K6_S0.1 n = (fun _ => 0) := fun n a b c d e f => by
  show (if n = 17 ∨ n = 26 then _ else if n = 18 ∨ n = 27 then _ else if n = 6 ∨ n = 7 then _ else (fun _ => (0 : Int))) = _
  rw [if_neg (by omega), if_neg (by omega), if_neg (by omega)]
theorem S0_pB {t : Nat} (ht : t = 6 ∨ t = 7) : pB t K6_S0 := by
  have e1 : K6_S0.1 t = fun k => if k = 5 then 2 else 0 := by rcases ht with y | y <;> subst y <;> rfl
  refine ⟨fun j i hj => ?_, ?_⟩
  · have hp : pA t j = 17 + j ∨ pA t j = 26 + j := by unfold pA; omega
    by_cases j0 : j = 0
    · have e : K6_S0.1 (pA t j) = zu (zu (fun _ => 0) 0 5) 1 0 := by rcases ht with y | y <;> subst y <;> subst j0 <;> rfl
      rw [e]
      unfold zu
      (repeat' split) <;> first | omega | (dsimp only; omega)
    · by_cases j1 : j = 1
      · have e : K6_S0.1 (pA t j) = zu (fun _ => 0) 0 (-1) := by rcases ht with y | y <;> subst y <;> subst j1 <;> rfl
        rw [e]
        unfold zu
        split <;> first | omega | (dsimp only; omega)
      · rw [S0_z _ (by omega) (by omega) (by omega) (by omega) (by omega) (by omega)]; exact ⟨by show (-1 : Int) ≤ 0; decide, by show (0 : Int) ≤ 1000000; decide⟩
  · rw [e1]; decide
theorem new_PRG : PRG M_new K6_new := by
  obtain ⟨⟨a0, a1, a2, a3⟩, ⟨b0, b1, b2, b3⟩, ⟨d0, d1, d2, d3⟩⟩ := new_p
  have sg : SG (fun j => M_new.2 (8 + j)) (fun k => k) 0 2 := SG_alt (b := 0) (g := 1) (e := 2) a0 SG_nil b0 b1 (Or.inl ⟨a1, rfl⟩) SG_nil
  have r2 : ∀ r, r < 2 → r = 0 ∨ r = 1 := fun r hr => by omega
  have nn : ∀ (q : Int) (f : Nat) (lo : Int), q = 14 ∨ q = 12 ∨ q = 10 → NUM (fun j => M_new.2 (8 + j)) q f 0 2 lo lo := fun q f lo hq => NUM_none (fun h _ hh => by
    rcases r2 h hh with y | y
    · subst y
      show M_new.2 8 0 ≠ q
      rw [a0]; omega
    · subst y
      show M_new.2 8 1 ≠ q
      rw [b0]; omega)
  have pr : prR (fun j => M_new.2 (8 + j)) (fun _ => 0) (2 + 1) := by
    refine prR_of sg (nn 14 3 0 (by omega)) (nn 12 3 0 (by omega)) (nn 10 1 1 (by omega)) (by decide) (by decide) (fun r hr => ?_) (fun r _ hr => ?_) rfl (by decide) ⟨d0, ?_, ?_, ?_, ?_, ?_, ?_⟩ (by decide)
    · rcases r2 r hr with y | y
      · subst y
        unfold LOC
        show (1 ≤ M_new.2 8 0 ∧ M_new.2 8 0 ≤ 17 ∧ M_new.2 8 0 ≠ 16 ∧ -1000 ≤ M_new.2 9 0 ∧ M_new.2 9 0 ≤ 100000 ∧ 0 ≤ M_new.2 10 0 ∧ M_new.2 10 0 ≤ 2000000 ∧ 0 ≤ M_new.2 11 0 ∧ M_new.2 11 0 < 50) ∧ _
        rw [a0, a1, a2, a3]
        have q : (fun j => M_new.2 (8 + j)) 0 0 = 1 := a0
        rw [q]
        refine ⟨by decide, fun x y => by omega, fun x => by omega, fun x => by omega, fun x => by omega, fun x => by omega, fun x => by omega⟩
      · subst y
        unfold LOC
        show (1 ≤ M_new.2 8 1 ∧ M_new.2 8 1 ≤ 17 ∧ M_new.2 8 1 ≠ 16 ∧ -1000 ≤ M_new.2 9 1 ∧ M_new.2 9 1 ≤ 100000 ∧ 0 ≤ M_new.2 10 1 ∧ M_new.2 10 1 ≤ 2000000 ∧ 0 ≤ M_new.2 11 1 ∧ M_new.2 11 1 < 50) ∧ _
        rw [b0, b1, b2, b3]
        have q : (fun j => M_new.2 (8 + j)) 0 1 = 2 := b0
        rw [q]
        refine ⟨by decide, fun x y => by omega, fun x => by omega, fun x => by omega, fun x => by omega, fun x => by omega, fun x => by omega⟩
    · refine ⟨Int.le_refl _, fun h14 => ?_⟩
      have h14' : M_new.2 8 r = 14 := h14
      rcases r2 r hr with y | y
      · subst y; omega
      · subst y; omega
    · show -1000 ≤ M_new.2 9 2
      omega
    · show M_new.2 9 2 ≤ 100000
      omega
    · show 0 ≤ M_new.2 10 2
      omega
    · show M_new.2 10 2 ≤ 2000000
      omega
    · show 0 ≤ M_new.2 11 2
      omega
    · show M_new.2 11 2 < 50
      omega
  refine ⟨fun j => M_new.2 (8 + j), fun _ => 0, 3, fun r => if r = 0 then 0 else 1, pr, ⟨rfl, rfl, rfl, rfl⟩, rfl, fun r hr => ?_, fun r hr h11 => ?_⟩
  · have k0 : K2_kind 6 0 K6_new = 5 ∧ K2_aim 6 0 K6_new = -1 := by
      unfold K2_kind K2_aim K2_isInstruction
      rw [new_S 6 (by decide) (by decide), new_S (pA 6 0) (by decide) (by decide), new_S (pA 6 1) (by decide) (by decide)]
      exact ⟨rfl, rfl⟩
    have k1 : K2_kind 6 1 K6_new = 0 := by
      unfold K2_kind K2_isInstruction
      rw [new_S 6 (by decide) (by decide), new_S (pA 6 0) (by decide) (by decide)]
      rfl
    rcases (show r = 0 ∨ r = 1 ∨ r = 2 by omega) with y | y | y
    · subst y
      have q : (fun j => M_new.2 (8 + j)) 0 0 = 1 := a0
      have q1 : (fun j => M_new.2 (8 + j)) 1 0 = -1 := a1
      unfold certR
      rw [q, q1]
      exact ⟨by decide, fun _ => ⟨k0.1, rfl, k0.2⟩, fun x => by omega, fun x => by omega, fun x => by omega, fun x => by omega, fun x => by omega, fun x => by omega, fun x => by omega, fun x => by omega, fun x => by omega, fun x => by omega, fun x => by omega, fun x => by omega⟩
    · subst y
      have q : (fun j => M_new.2 (8 + j)) 0 1 = 2 := b0
      have q1 : (fun j => M_new.2 (8 + j)) 1 1 = 2 := b1
      unfold certR
      rw [q, q1]
      exact ⟨by decide, fun x => by omega, fun _ => Or.inr rfl, fun x => by omega, fun x => by omega, fun x => by omega, fun x => by omega, fun x => by omega, fun x => by omega, fun x => by omega, fun x => by omega, fun x => by omega, fun x => by omega, fun x => by omega⟩
    · subst y
      have q : (fun j => M_new.2 (8 + j)) 0 2 = 16 := d0
      unfold certR
      rw [q]
      exact ⟨by decide, fun x => by omega, fun x => by omega, fun x y => by omega, fun x => by omega, fun x => by omega, fun x => by omega, fun x => by omega, fun x => by omega, fun x => by omega, fun x => by omega, fun x => by omega, fun _ => k1, fun x => by omega⟩
  · have h11' : M_new.2 8 r = 11 := h11
    rcases (show r = 0 ∨ r = 1 ∨ r = 2 by omega) with y | y | y
    · subst y; omega
    · subst y; omega
    · subst y; omega
/-- BOTH BEGIN ALIKE -/
theorem INV_new : INV 6 6 K6_new M_new := by
  obtain ⟨i2, i4, i5, i6, i12, i35, i37, i40, i41, i42, i45, i47⟩ := new_i
  obtain ⟨na, n7⟩ := new_a
  have z : ∀ n, n ≠ 38 → n ≠ 39 → n ≠ 17 → n ≠ 26 → n ≠ 18 → n ≠ 27 → n ≠ 6 → n ≠ 7 → ∀ j, K6_new.1 n j = 0 := fun n a b c d e f g h j => by rw [new_S n a b, S0_z n c d e f g h]
  have zz : ∀ n, n < 6 ∨ (7 < n ∧ n < 17) ∨ (18 < n ∧ n < 26) ∨ (27 < n ∧ n < 38) → ∀ j, K6_new.1 n j = 0 := fun n hn j => z n (by omega) (by omega) (by omega) (by omega) (by omega) (by omega) (by omega) (by omega) j
  have k6 : K6_new.1 6 = fun k => if k = 5 then 2 else 0 := (new_S 6 (by decide) (by decide)).trans rfl
  have k7 : K6_new.1 7 = fun k => if k = 5 then 2 else 0 := (new_S 7 (by decide) (by decide)).trans rfl
  have k18 : K6_new.1 18 = zu (fun _ => 0) 0 (-1) := (new_S 18 (by decide) (by decide)).trans rfl
  have k27 : K6_new.1 27 = zu (fun _ => 0) 0 (-1) := (new_S 27 (by decide) (by decide)).trans rfl
  have le1 : ∀ j, zu (fun _ => (0 : Int)) 0 (-1) j ≤ 1000 := fun j => by
    unfold zu
    split <;> first | omega | (dsimp only; omega)
  have l36 : K6_new.2.2.2 36 = 192 := by
    show (K6_forgetFound K6_S0).2.2.2 36 = 192
    rw [K6_forgetFound_2]; rfl
  have l37 : K6_new.2.2.2 37 = 512 := by
    show (K6_forgetFound K6_S0).2.2.2 37 = 512
    rw [K6_forgetFound_2]; rfl
  refine ⟨Or.inl rfl, Or.inl rfl, cFx_of (S := K6_S0) (by show (K6_forgetFound K6_S0).2.2 = _; rw [K6_forgetFound_2]) K6_S0_F, ⟨?_, by omega, by omega, fun j hj => by omega⟩, ⟨fun j => ?_, fun j => ?_, fun j => ?_, fun j => ?_⟩, ⟨?_, by omega, by omega, fun j hj => by omega, fun j => ?_⟩, ⟨?_, by omega, by omega, fun j hj => by omega, fun j => ?_, fun j => ?_, fun j => ?_, fun j => ?_⟩, ⟨new_PRG, ?_, ?_⟩, ⟨fun j => M_new.2 (8 + j), rfl, rfl, rfl, rfl, by omega, by omega, by omega, fun j => ?_, fun j => ?_, fun j => ?_, by omega, by omega, by omega, by omega, ?_, fun y hy => ?_⟩, ⟨?_, ?_, ⟨fun j => ?_, ?_, ?_, ?_, ?_, fun j => ?_, fun j => ?_⟩, ⟨fun j => ?_, fun j => ?_⟩, ?_, ⟨?_, fun j => ?_, fun j => ?_⟩, ?_, ?_⟩, ⟨⟨?_, by omega, by omega⟩, ?_, Or.inl i42, fun k hk => ?_⟩⟩
  · rw [zz 1 (by omega), i2]
  · rw [zz 12 (by omega)]; decide
  · rw [na 1 (by omega)]; decide
  · rw [zz 13 (by omega)]; decide
  · rw [na 13 (by omega)]; decide
  · rw [zz 3 (by omega), i4]
  · rw [zz 14 (by omega)]; decide
  · rw [zz 4 (by omega), i47]
  · rw [zz 15 (by omega)]; decide
  · rw [zz 16 (by omega)]; decide
  · rw [na 46 (by omega)]; decide
  · rw [na 48 (by omega)]; decide
  · rw [k6, i6]; rfl
  · rw [k6, i12]; rfl
  · rw [na 3 (by omega)]; decide
  · rw [n7]; decide
  · rw [na 34 (by omega)]; decide
  · rw [i41, i40]; rfl
  · rw [na 33 (by omega)]; decide
  · exact pB_of (new_S 6 (by decide) (by decide)) (fun j hj => new_S _ (by unfold pA; omega) (by unfold pA; omega)) (S0_pB (Or.inl rfl))
  · exact pB_of (new_S 7 (by decide) (by decide)) (fun j hj => new_S _ (by unfold pA; omega) (by unfold pA; omega)) (S0_pB (Or.inr rfl))
  · rw [zz 35 (by omega)]; decide
  · rw [zz 11 (by omega)]; decide
  · rw [zz 11 (by omega), l36]; decide
  · rw [zz 11 (by omega)]; decide
  · rw [zz 11 (by omega), l37]; decide
  · rw [zz 36 (by omega)]; decide
  · rw [zz 37 (by omega)]; decide
  · rw [zz 35 (by omega)]; decide
  · rw [zz 37 (by omega)]; decide
  · unfold rQ
    rw [zz 8 (by omega), zz 8 (by omega), zz 8 (by omega), k27, k7]
    exact ⟨by decide, le1, fun j => by rw [zz 33 (by omega)]; decide, fun j => by rw [zz 34 (by omega)]; decide, by decide, by decide⟩
  · rw [k18]; exact le1
  · rw [zz 24 (by omega)]; decide
  · rw [zz 25 (by omega)]; decide
  · rw [zz 10 (by omega)]; decide
  · rw [zz 10 (by omega)]; decide
  · rw [zz 0 (by omega), i5]
  · rw [zz 0 (by omega), i45]
  · obtain ⟨w1, w2⟩ := K6_fF_v (S := K6_S0) hk
    have n1 : ¬ (M_new.1 42 = 1 ∧ (k : Int) ≤ M_new.1 12) := fun y => by rw [i42] at y; exact absurd y.1 (by decide)
    rw [if_neg n1, if_neg n1]; exact ⟨w1, w2⟩
