theorem COR_u {a : Nat} {T' : CSt} {U N : MSt} (h : COR a T' U) (hp : frP U N) (hc : I_cf N) : COR a T' N := by
  obtain ⟨h0, h1, ⟨h2, h2'⟩, -, h4⟩ := h
  refine ⟨h0, ?_, ⟨PRG_cg h2 ⟨hp.1 6 (by decide) (by decide) (by decide) (by decide) (by decide) (by decide) (by decide) (by decide), hp.1 12 (by decide) (by decide) (by decide) (by decide) (by decide) (by decide) (by decide) (by decide), fun k x y => hp.2 k (by omega) (by omega) (by omega) (by omega)⟩ (pgE_o (fun _ _ => rfl) rfl), ?_⟩, hc, h4⟩
  · unfold I_tx
    rw [hp.1 4 (by decide) (by decide) (by decide) (by decide) (by decide) (by decide) (by decide) (by decide), hp.2 3 (by decide) (by decide) (by decide) (by decide)]; exact h1
  · rw [hp.1 6 (by decide) (by decide) (by decide) (by decide) (by decide) (by decide) (by decide) (by decide), hp.1 12 (by decide) (by decide) (by decide) (by decide) (by decide) (by decide) (by decide) (by decide)]; exact h2'
theorem swp1 {n : Nat} (h : n ≠ 4) (h5 : n ≠ 5) (h15 : n ≠ 15) (h16 : n ≠ 16) : swp 1 n = n := by
  unfold swp
  rw [if_neg (by decide), if_neg h, if_neg h5, if_neg h15, if_neg h16]
theorem replC_v {m : Int} : ∀ (n : Nat) (k : Int) (T : MSt), 0 ≤ k → (∀ j : Nat, (M_replC m n k T).2 46 j = if k ≤ (j : Int) ∧ (j : Int) < k + n then T.2 48 j else T.2 46 j)
  | 0, k, T, hk => by
    rw [M_replC]
    exact fun j => by rw [if_neg (by omega)]
  | n + 1, k, T, hk => by
    have a := replC_v (m := m) n (k + 1) (ma T 46 k.toNat (T.2 48 k.toNat)) (by omega)
    rw [M_replC]
    intro j
    rw [a j]
    have e1 : (ma T 46 k.toNat (T.2 48 k.toNat)).2 48 = T.2 48 := rfl
    have e2 : (ma T 46 k.toNat (T.2 48 k.toNat)).2 46 = zu (T.2 46) k.toNat (T.2 48 k.toNat) := rfl
    rw [e1, e2]
    by_cases c : k + 1 ≤ (j : Int) ∧ (j : Int) < k + 1 + n
    · rw [if_pos c, if_pos (by omega)]
    · rw [if_neg c]
      by_cases c2 : j = k.toNat
      · rw [c2, zu_eq, if_pos (by omega)]
      · rw [zu_ne c2, if_neg (by omega)]
theorem C_replace {a b : Nat} {S : CSt} {M : MSt} (h : INV a b S M) : (((K6_replace S).1 = 1 ∧ (M_replace M).2.1 0 = 1 ∧ ∃ b', INV a b' (K6_replace S).2.2 (M_replace M).2) ∨ ((K6_replace S).1 = 0 ∧ (M_replace M).2.1 0 = 0 ∧ (K6_replace S).2.1 = (M_replace M).1 ∧ ∃ X b', (K6_replace S).2.2 = cSw 1 X ∧ INV a b' X (M_replace M).2)) ∧ M_replaceOK M ∧ K6_repOK S := by
  have h' := h
  obtain ⟨h1, h2, h3, h4, ⟨c1, c2, c3, c4⟩, h6, ⟨r1, r2, r3, r4, r5, r6, r7, r8⟩, h8, ⟨p, h9⟩, ⟨b1, b2, b3, b4, b5, b6, b7⟩, ⟨f1, f2, f3, f4⟩⟩ := h'
  have t4 : 0 ≤ M.1 4 := h6.2.1
  have u0 : ∀ k, k ≠ 0 → k ≠ 49 → (mi (mi M 0 0) 49 0).1 k = M.1 k := fun k a0 a1 => by
    show (if k = 49 then 0 else if k = 0 then 0 else M.1 k) = M.1 k
    rw [if_neg a1, if_neg a0]
  have cor : COR a (ci S 5 1 0) (mi (mi M 0 0) 49 0) := COR_cg (INV_COR h) (fun n _ _ x _ => ci_ne x) rfl (fun k x _ _ y => u0 k x y) (fun _ _ => rfl) ⟨p, h9⟩
  have dr : DR (ci S 5 1 0) (mi (mi M 0 0) 49 0) := ⟨rfl, by show (0 : Int) ≤ 0; decide, by show (0 : Int) ≤ 200; decide, fun j hj => absurd hj (show ¬ (j : Int) < 0 by omega), r6, r8⟩
  have ty : TYP (ci S 5 1 0) (mi (mi M 0 0) 49 0) := ⟨h4, c1, c2⟩
  have rl : RLh a (ci S 5 1 0) (mi (mi M 0 0) 49 0) 0 0 := ⟨cor, dr, ty, Or.inr t4, by decide, ⟨Int.le_refl _, t4⟩⟩
  obtain ⟨v1, v2, -⟩ := srch_V (n := 100) (m := 0) (c := 0) cor (DR_DU dr) ⟨h4.2.1, h4.2.2.1⟩ c2 (Int.le_refl _) (by decide) (Or.inr t4) (Int.le_refl _) (by decide) (by decide)
  refine ⟨?_, ⟨v2, VRp, fun _ _ _ _ _ y => VRp_step y, v1⟩, ⟨fun _ s c T => ∃ U, RLh a T U s c, fun n s c T ⟨U, y⟩ => ?_, fun n s c T ⟨U, y⟩ => ?_, ⟨_, rl⟩⟩⟩
  · -- both replace
    have rp := REP 25 100 0 0 0 0 _ _ rl (by decide) (by decide) (by decide) (by decide)
    have e1 : K6_replace S = K6_repL 25 0 0 0 0 (ci S 5 1 0) := rfl
    have e2 : M_replace M = M_replL 100 0 0 (M_search 0 (mi (mi M 0 0) 49 0)).1 (M_search 0 (mi (mi M 0 0) 49 0)).2 := rfl
    rw [← e1, ← e2] at rp
    generalize K6_replace S = r at *
    generalize M_replace M = m at *
    rcases rp with ⟨i1, ⟨j1, j2, j3, j4⟩, i3, i4, i5⟩ | ⟨i1, i2, S8, U8, i3, i4, i5, i6, i7, i8, i9⟩
    · left
      have co := COR_u i4 j2 j3
      obtain ⟨⟨b', hb', hF'⟩, d1, d2, d3, d4, d5, d6, d7, d8⟩ := co
      have s0 : ∀ n, n ≠ 5 → n ≠ 10 → n ≠ 11 → n ≠ 16 → n ≠ 35 → n ≠ 36 → n ≠ 37 → r.2.2.1 n = S.1 n := fun n x1 x2 x3 x4 x5 x6 x7 => (i3.1 n x1 x2 x3 x4 x5 x6 x7).trans (ci_ne x1)
      have m0 : ∀ k, k ≠ 0 → k ≠ 35 → k ≠ 37 → k ≠ 38 → k ≠ 39 → k ≠ 40 → k ≠ 41 → k ≠ 49 → m.2.1 k = M.1 k := fun k x1 x2 x3 x4 x5 x6 x7 x8 => (j2.1 k x1 x2 x3 x4 x5 x6 x7 x8).trans (u0 k x1 x8)
      have m2 : ∀ k, k ≠ 33 → k ≠ 34 → k ≠ 36 → k ≠ 48 → m.2.2 k = M.2 k := fun k x1 x2 x3 x4 => j2.2 k x1 x2 x3 x4
      refine ⟨i1, j1, b', h1, hb', hF', ?_, ⟨?_, ?_, ?_, ?_⟩, d1, ⟨?_, ?_, ?_, ?_, ?_, i5, ?_, j4⟩, d2, d3, ⟨d5, pB_of (s0 7 (by decide) (by decide) (by decide) (by decide) (by decide) (by decide) (by decide)) (fun j hj => s0 _ (by unfold pA; omega) (by unfold pA; omega) (by unfold pA; omega) (by unfold pA; omega) (by unfold pA; omega) (by unfold pA; omega) (by unfold pA; omega)) b2, d4, d6, ?_, d7, d8⟩, ?_⟩
      · unfold I_ty
        rw [s0 1 (by decide) (by decide) (by decide) (by decide) (by decide) (by decide) (by decide), s0 12 (by decide) (by decide) (by decide) (by decide) (by decide) (by decide) (by decide), m0 2 (by decide) (by decide) (by decide) (by decide) (by decide) (by decide) (by decide) (by decide), m2 1 (by decide) (by decide) (by decide) (by decide)]; exact h4
      · rw [s0 12 (by decide) (by decide) (by decide) (by decide) (by decide) (by decide) (by decide)]; exact c1
      · rw [m2 1 (by decide) (by decide) (by decide) (by decide)]; exact c2
      · rw [s0 13 (by decide) (by decide) (by decide) (by decide) (by decide) (by decide) (by decide)]; exact c3
      · rw [m2 13 (by decide) (by decide) (by decide) (by decide)]; exact c4
      · rw [s0 4 (by decide) (by decide) (by decide) (by decide) (by decide) (by decide) (by decide), m0 47 (by decide) (by decide) (by decide) (by decide) (by decide) (by decide) (by decide) (by decide)]; exact r1
      · rw [m0 47 (by decide) (by decide) (by decide) (by decide) (by decide) (by decide) (by decide) (by decide)]; exact r2
      · rw [m0 47 (by decide) (by decide) (by decide) (by decide) (by decide) (by decide) (by decide) (by decide)]; exact r3
      · rw [m0 47 (by decide) (by decide) (by decide) (by decide) (by decide) (by decide) (by decide) (by decide), s0 15 (by decide) (by decide) (by decide) (by decide) (by decide) (by decide) (by decide), m2 46 (by decide) (by decide) (by decide) (by decide)]; exact r4
      · rw [s0 15 (by decide) (by decide) (by decide) (by decide) (by decide) (by decide) (by decide)]; exact r5
      · rw [m2 46 (by decide) (by decide) (by decide) (by decide)]; exact r7
      · unfold rQ
        rw [s0 8 (by decide) (by decide) (by decide) (by decide) (by decide) (by decide) (by decide), s0 27 (by decide) (by decide) (by decide) (by decide) (by decide) (by decide) (by decide), s0 33 (by decide) (by decide) (by decide) (by decide) (by decide) (by decide) (by decide), s0 34 (by decide) (by decide) (by decide) (by decide) (by decide) (by decide) (by decide), s0 7 (by decide) (by decide) (by decide) (by decide) (by decide) (by decide) (by decide)]; exact b5
      · unfold I_fd
        rw [s0 0 (by decide) (by decide) (by decide) (by decide) (by decide) (by decide) (by decide), s0 38 (by decide) (by decide) (by decide) (by decide) (by decide) (by decide) (by decide), s0 39 (by decide) (by decide) (by decide) (by decide) (by decide) (by decide) (by decide), m0 5 (by decide) (by decide) (by decide) (by decide) (by decide) (by decide) (by decide) (by decide), m0 45 (by decide) (by decide) (by decide) (by decide) (by decide) (by decide) (by decide) (by decide), m0 42 (by decide) (by decide) (by decide) (by decide) (by decide) (by decide) (by decide) (by decide), m0 12 (by decide) (by decide) (by decide) (by decide) (by decide) (by decide) (by decide) (by decide), m2 43 (by decide) (by decide) (by decide) (by decide), m2 44 (by decide) (by decide) (by decide) (by decide)]
        exact ⟨f1, f2, f3, f4⟩
    · right
      obtain ⟨⟨b', hb', hF'⟩, d1, d2, d3, d4, d5, d6, d7, d8⟩ := i9
      obtain ⟨e1', e2', e3', e4', e5', e6'⟩ := i5
      have s0 : ∀ n, n ≠ 5 → n ≠ 10 → n ≠ 11 → n ≠ 16 → n ≠ 35 → n ≠ 36 → n ≠ 37 → S8.1 n = S.1 n := fun n x1 x2 x3 x4 x5 x6 x7 => (i6.1 n x1 x2 x3 x4 x5 x6 x7).trans (ci_ne x1)
      have m0 : ∀ k, k ≠ 0 → k ≠ 35 → k ≠ 37 → k ≠ 38 → k ≠ 39 → k ≠ 40 → k ≠ 41 → k ≠ 49 → U8.1 k = M.1 k := fun k x1 x2 x3 x4 x5 x6 x7 x8 => (i7.1 k x1 x2 x3 x4 x5 x6 x7 x8).trans (u0 k x1 x8)
      have m2 : ∀ k, k ≠ 33 → k ≠ 34 → k ≠ 36 → k ≠ 48 → U8.2 k = M.2 k := fun k x1 x2 x3 x4 => i7.2 k x1 x2 x3 x4
      have q46 := replC_v (m := m.1) (U8.1 49).toNat 0 U8 (Int.le_refl _)
      have q1 : (M_replC m.1 (U8.1 49).toNat 0 U8).1 = U8.1 := M_replC_1 _ _ _ _
      have q2 : ∀ k, k ≠ 46 → (M_replC m.1 (U8.1 49).toNat 0 U8).2 k = U8.2 k := fun k hk => M_replC_2 _ hk _ _ _
      generalize M_replC m.1 (U8.1 49).toNat 0 U8 = Y at *
      have z1 : ∀ k, k ≠ 47 → k ≠ 2 → k ≠ 5 → k ≠ 42 → m.2.1 k = U8.1 k := fun k x1 x2 x3 x4 => by
        rw [i4]
        show (if k = 42 then 0 else if k = 5 then 0 else if k = 2 then 0 else if k = 47 then U8.1 49 else Y.1 k) = _
        rw [if_neg x4, if_neg x3, if_neg x2, if_neg x1, q1]
      have z47 : m.2.1 47 = U8.1 49 := by rw [i4]; rfl
      have zz2 : m.2.1 2 = 0 := by rw [i4]; rfl
      have z5 : m.2.1 5 = 0 := by rw [i4]; rfl
      have z42 : m.2.1 42 = 0 := by rw [i4]; rfl
      have z2 : ∀ k, k ≠ 46 → m.2.2 k = U8.2 k := fun k hk => by rw [i4]; exact q2 k hk
      have z46 : ∀ j : Nat, m.2.2 46 j = if (j : Int) < U8.1 49 then U8.2 48 j else U8.2 46 j := fun j => by
        rw [i4]
        refine (q46 j).trans ?_
        by_cases c : (j : Int) < U8.1 49
        · rw [if_pos c, if_pos (by omega)]
        · rw [if_neg c, if_neg (by omega)]
      have y1 : ∀ n, n ≠ 0 → n ≠ 1 → n ≠ 38 → n ≠ 39 → (K6_forgetFound (ci (ci (cSt S8) 1 1 0) 0 11 0)).1 n = S8.1 (swp 1 n) := fun n x0 x1 x2 x3 => by rw [K6_forgetFound_1 x2 x3, ci_ne x0, ci_ne x1]; rfl
      have yT : (K6_forgetFound (ci (ci (cSt S8) 1 1 0) 0 11 0)).2 = (cSt S8).2 := by rw [K6_forgetFound_2]; rfl
      have y0 : (K6_forgetFound (ci (ci (cSt S8) 1 1 0) 0 11 0)).1 0 = zu (S8.1 0) 11 0 := by rw [K6_forgetFound_1 (by decide) (by decide)]; rfl
      have y11 : (K6_forgetFound (ci (ci (cSt S8) 1 1 0) 0 11 0)).1 1 1 = 0 := by rw [K6_forgetFound_1 (by decide) (by decide)]; rfl
      have yf := fun (k : Nat) (hk : k < 10) => K6_fF_v (S := ci (ci (cSt S8) 1 1 0) 0 11 0) hk
      have FX : cFx a b' (K6_forgetFound (ci (ci (cSt S8) 1 1 0) 0 11 0)) := cFx_of (S := cSt S8) (by rw [yT]) (by rw [← cSt_eq hF'.1]; exact cSn1_F hF')
      rw [i3]
      generalize K6_forgetFound (ci (ci (cSt S8) 1 1 0) 0 11 0) = X at *
      have yo : ∀ n, n ≠ 0 → n ≠ 1 → n ≠ 38 → n ≠ 39 → n ≠ 4 → n ≠ 5 → n ≠ 15 → n ≠ 16 → X.1 n = S8.1 n := fun n x0 x1 x2 x3 x4 x5 x6 x7 => by rw [y1 n x0 x1 x2 x3, swp1 x4 x5 x6 x7]
      have y4 : X.1 4 = S8.1 5 := y1 4 (by decide) (by decide) (by decide) (by decide)
      have y15 : X.1 15 = S8.1 16 := y1 15 (by decide) (by decide) (by decide) (by decide)
      have y16 : X.1 16 = S8.1 15 := y1 16 (by decide) (by decide) (by decide) (by decide)
      have yx : ∀ n, n ≠ 0 → n ≠ 1 → n ≠ 38 → n ≠ 39 → n ≠ 4 → n ≠ 5 → n ≠ 15 → n ≠ 16 → n ≠ 10 → n ≠ 11 → n ≠ 35 → n ≠ 36 → n ≠ 37 → X.1 n = S.1 n := fun n x0 x1 x2 x3 x4 x5 x6 x7 x8 x9 x10 x11 x12 => (yo n x0 x1 x2 x3 x4 x5 x6 x7).trans (s0 n x5 x8 x9 x7 x10 x11 x12)
      have yp : ∀ n, n = 6 ∨ n = 7 ∨ n = 8 ∨ (17 ≤ n ∧ n ≤ 34) → X.1 n = S8.1 n := fun n hn => yo n (by omega) (by omega) (by omega) (by omega) (by omega) (by omega) (by omega) (by omega)
      have yT1 : ∀ n, n ≠ 4 → n ≠ 5 → n ≠ 15 → n ≠ 16 → X.2.1 n = S8.2.1 n := fun n x1 x2 x3 x4 => by
        rw [yT]
        show S8.2.1 (swp 1 n) = _
        rw [swp1 x1 x2 x3 x4]
      have y22 : ∀ n, X.2.2.2 n = S8.2.2.2 (swp 1 n) := fun n => by rw [yT]; rfl
      refine ⟨i1, ?_, i2, X, b', rfl, h1, hb', FX, ⟨by rw [y11, zz2], by omega, by omega, fun j hj => by omega⟩, ⟨?_, ?_, ?_, ?_⟩, ?_, ⟨?_, ?_, ?_, fun j hj => ?_, ?_, ?_, fun j => ?_, ?_⟩, ⟨PRG_cg d2.1 ⟨z1 6 (by decide) (by decide) (by decide) (by decide), z1 12 (by decide) (by decide) (by decide) (by decide), fun k x y => z2 k (by omega)⟩ ⟨yp 6 (by omega), fun j hj => yp _ (by omega), fun j hj => yT1 _ (by omega) (by omega) (by omega) (by omega)⟩, ?_⟩, ?_, ⟨?_, ?_, ?_, mkB_of (yo 35 (by decide) (by decide) (by decide) (by decide) (by decide) (by decide) (by decide) (by decide)) (yo 37 (by decide) (by decide) (by decide) (by decide) (by decide) (by decide) (by decide) (by decide)) d6, ?_, ?_, ?_⟩, ?_⟩
      · rw [z1 0 (by decide) (by decide) (by decide) (by decide), i8]; rfl
      · rw [yx 12 (by decide) (by decide) (by decide) (by decide) (by decide) (by decide) (by decide) (by decide) (by decide) (by decide) (by decide) (by decide) (by decide)]; exact c1
      · rw [z2 1 (by decide), m2 1 (by decide) (by decide) (by decide) (by decide)]; exact c2
      · rw [yx 13 (by decide) (by decide) (by decide) (by decide) (by decide) (by decide) (by decide) (by decide) (by decide) (by decide) (by decide) (by decide) (by decide)]; exact c3
      · rw [z2 13 (by decide), m2 13 (by decide) (by decide) (by decide) (by decide)]; exact c4
      · unfold I_tx
        rw [yo 3 (by decide) (by decide) (by decide) (by decide) (by decide) (by decide) (by decide) (by decide), yo 14 (by decide) (by decide) (by decide) (by decide) (by decide) (by decide) (by decide) (by decide), z1 4 (by decide) (by decide) (by decide) (by decide), z2 3 (by decide)]; exact d1
      · rw [y4, z47]; exact e1'
      · rw [z47]; exact e2'
      · rw [z47]; exact e3'
      · rw [z47] at hj
        rw [y15, z46, if_pos hj]; exact e4' j hj
      · rw [y15]; exact e5'
      · rw [y16, s0 15 (by decide) (by decide) (by decide) (by decide) (by decide) (by decide) (by decide)]; exact r5
      · rw [z46]
        by_cases c : (j : Int) < U8.1 49
        · rw [if_pos c]; exact e6' j
        · rw [if_neg c, m2 46 (by decide) (by decide) (by decide) (by decide)]; exact r7 j
      · rw [z2 48 (by decide)]; exact e6'
      · rw [yp 6 (by omega), z1 6 (by decide) (by decide) (by decide) (by decide), z1 12 (by decide) (by decide) (by decide) (by decide)]; exact d2.2
      · obtain ⟨p', hp'⟩ := d3
        refine ⟨p', ?_⟩
        unfold CfT
        rw [z2 8 (by decide), z2 9 (by decide), z2 10 (by decide), z2 11 (by decide), z2 3 (by decide), z2 7 (by decide), z2 34 (by decide), z2 33 (by decide), z1 4 (by decide) (by decide) (by decide) (by decide), z1 6 (by decide) (by decide) (by decide) (by decide), z1 35 (by decide) (by decide) (by decide) (by decide), z1 37 (by decide) (by decide) (by decide) (by decide), z1 40 (by decide) (by decide) (by decide) (by decide), z1 41 (by decide) (by decide) (by decide) (by decide)]
        exact hp'
      · exact pB_of (yp 6 (by omega)) (fun j hj => yp _ (by unfold pA; omega)) d5
      · exact pB_of ((yp 7 (by omega)).trans (s0 7 (by decide) (by decide) (by decide) (by decide) (by decide) (by decide) (by decide))) (fun j hj => (yp _ (by unfold pA; omega)).trans (s0 _ (by unfold pA; omega) (by unfold pA; omega) (by unfold pA; omega) (by unfold pA; omega) (by unfold pA; omega) (by unfold pA; omega) (by unfold pA; omega))) b2
      · unfold sV
        rw [yo 35 (by decide) (by decide) (by decide) (by decide) (by decide) (by decide) (by decide) (by decide), yo 11 (by decide) (by decide) (by decide) (by decide) (by decide) (by decide) (by decide) (by decide), y22 36, y22 37, yo 36 (by decide) (by decide) (by decide) (by decide) (by decide) (by decide) (by decide) (by decide), yo 37 (by decide) (by decide) (by decide) (by decide) (by decide) (by decide) (by decide) (by decide)]
        exact d4
      · unfold rQ
        rw [yx 8 (by decide) (by decide) (by decide) (by decide) (by decide) (by decide) (by decide) (by decide) (by decide) (by decide) (by decide) (by decide) (by decide), yx 27 (by decide) (by decide) (by decide) (by decide) (by decide) (by decide) (by decide) (by decide) (by decide) (by decide) (by decide) (by decide) (by decide), yx 33 (by decide) (by decide) (by decide) (by decide) (by decide) (by decide) (by decide) (by decide) (by decide) (by decide) (by decide) (by decide) (by decide), yx 34 (by decide) (by decide) (by decide) (by decide) (by decide) (by decide) (by decide) (by decide) (by decide) (by decide) (by decide) (by decide) (by decide), yx 7 (by decide) (by decide) (by decide) (by decide) (by decide) (by decide) (by decide) (by decide) (by decide) (by decide) (by decide) (by decide) (by decide)]
        exact b5
      · rw [yp 18 (by omega), yp 24 (by omega), yp 25 (by omega)]; exact d7
      · rw [yo 10 (by decide) (by decide) (by decide) (by decide) (by decide) (by decide) (by decide) (by decide)]; exact d8
      · refine ⟨⟨by rw [y0, zu_eq, z5], by omega, by omega⟩, ?_, Or.inl z42, fun k hk => ?_⟩
        · rw [y0, zu_ne (by decide), s0 0 (by decide) (by decide) (by decide) (by decide) (by decide) (by decide) (by decide), z1 45 (by decide) (by decide) (by decide) (by decide), m0 45 (by decide) (by decide) (by decide) (by decide) (by decide) (by decide) (by decide) (by decide)]; exact f2
        · obtain ⟨w1, w2⟩ := yf k hk
          have n1 : ¬ (m.2.1 42 = 1 ∧ (k : Int) ≤ m.2.1 12) := fun y => by rw [z42] at y; exact absurd y.1 (by decide)
          rw [w1, w2, if_neg n1, if_neg n1]; exact ⟨rfl, rfl⟩
  · obtain ⟨cor', dr', ty', -, -, hc'⟩ := y
    have := (COR_TX cor').2.1
    exact ⟨COR_fV cor' dr' ty', by omega, by omega⟩
  · have y' := y
    obtain ⟨cor', dr', ty', hp', hs', hc'⟩ := y'
    obtain ⟨p2, -, -, ok2, -, -⟩ := SRCH cor' hs'.1 (by omega)
    obtain ⟨p3, ⟨-, -, rr⟩, co2, dr2, ty2, fk2⟩ := STEPr y
    refine ⟨hs'.1, by omega, ok2, fun e1 e2 e3 e4 => ?_⟩
    have hA : 0 ≤ (M_search s U).1 ∧ (K0_search s T).2.1 = (M_search s U).1 := by
      rcases rr with z | z | z
      · exact ⟨z.2.1, z.2.2.2.2.2.1⟩
      · exact absurd z.2.2.2.1 e2
      · omega
    obtain ⟨fk3, hb3⟩ := fk2 hA.1
    have tt : K0_tookTo 0 (K0_search s T).2.2 = (M_search s U).2.1 38 := fk3.2.1
    rw [hA.2] at e3 e4 ⊢
    rw [tt, nx_eq hb3]
    rcases WRTr co2 dr2 ty2 fk3 hb3 hc'.1 with ⟨z1, -⟩ | ⟨z1, z2, ⟨z3, -⟩ | ⟨z3, z4⟩⟩
    · omega
    · omega
    · exact ⟨_, z4⟩
