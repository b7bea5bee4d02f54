theorem K6_fF_v {S : CSt} {k : Nat} (h : k < 10) : (K6_forgetFound S).1 38 k = -1 ∧ (K6_forgetFound S).1 39 k = -1 := by
  unfold K6_forgetFound
  refine ⟨?_, K7_fill39_v h⟩
  rw [K7_fill39_1 (by decide)]
  exact K7_fill38_v h
theorem C_text {a b : Nat} {S : CSt} {M : MSt} (h : INV a b S M) : COK a b (K6_text S) (K6_text S).2.2 (M_text M) := by
  have h' := h
  obtain ⟨h1, h2, h3, ⟨t1, t2, t3, t4⟩, ⟨c1, c2, c3, c4⟩, ⟨x1, x2, x3, x4, x5⟩, h7, ⟨h8, h8'⟩, ⟨p, h9⟩, h10, ⟨-, f2, f3, f4⟩⟩ := h'
  unfold K6_text M_text
  by_cases c24 : M.1 2 ≤ 24
  · rw [if_pos (show S.1 1 1 ≤ 24 by omega), if_pos c24]
    have l3 : ((cLen (11 + 3) : Nat) : Int) = 24 := rfl
    obtain ⟨k1, k2⟩ := K4_copy_v (t := 3) (Or.inr rfl) (S := S) (by omega) (by omega)
    have kO : ∀ n, n ≠ 3 → n ≠ 14 → (K4_copy 3 S).1 n = S.1 n := fun n a b => K4_copy_1 a b
    have kT : (K4_copy 3 S).2 = S.2 := K4_copy_2
    generalize K4_copy 3 S = Y at *
    have xO : ∀ n, n ≠ 0 → n ≠ 1 → n ≠ 3 → n ≠ 14 → n ≠ 38 → n ≠ 39 → (K6_forgetFound (ci (ci Y 1 1 0) 0 11 0)).1 n = S.1 n := fun n a0 a1 a3 a14 a38 a39 => by
      rw [K6_forgetFound_1 a38 a39, ci_ne a0, ci_ne a1, kO n a3 a14]
    have xT : (K6_forgetFound (ci (ci Y 1 1 0) 0 11 0)).2 = S.2 := by rw [K6_forgetFound_2]; exact kT
    have x3' : (K6_forgetFound (ci (ci Y 1 1 0) 0 11 0)).1 3 1 = S.1 1 1 := by rw [K6_forgetFound_1 (by decide) (by decide), ci_ne (by decide), ci_ne (by decide)]; exact k1
    have x14 : ∀ j : Nat, (K6_forgetFound (ci (ci Y 1 1 0) 0 11 0)).1 14 j = if (j : Int) < S.1 1 1 then S.1 12 j else S.1 14 j := fun j => by rw [K6_forgetFound_1 (by decide) (by decide), ci_ne (by decide), ci_ne (by decide)]; exact k2 j
    have x11 : (K6_forgetFound (ci (ci Y 1 1 0) 0 11 0)).1 1 1 = 0 := by rw [K6_forgetFound_1 (by decide) (by decide), ci_ne (by decide), ci_eq, zu_eq]
    have x011 : (K6_forgetFound (ci (ci Y 1 1 0) 0 11 0)).1 0 11 = 0 := by rw [K6_forgetFound_1 (by decide) (by decide), ci_eq, zu_eq]
    have x012 : (K6_forgetFound (ci (ci Y 1 1 0) 0 11 0)).1 0 12 = S.1 0 12 := by rw [K6_forgetFound_1 (by decide) (by decide), ci_eq, zu_ne (by decide), ci_ne (by decide), kO 0 (by decide) (by decide)]
    have xf := fun (k : Nat) (hk : k < 10) => K6_fF_v (S := ci (ci Y 1 1 0) 0 11 0) hk
    generalize K6_forgetFound (ci (ci Y 1 1 0) 0 11 0) = X at *
    obtain ⟨m1, m2⟩ := textL_v (M.1 2).toNat 0 (mi M 0 0) (Int.le_refl _)
    have m3 : (M_textL (M.1 2).toNat 0 (mi M 0 0)).1 = (mi M 0 0).1 := M_textL_1 _ _ _
    generalize M_textL (M.1 2).toNat 0 (mi M 0 0) = N at *
    have n1 : ∀ k, k ≠ 0 → N.1 k = M.1 k := fun k hk => by rw [m3]; exact if_neg hk
    have n2 : ∀ k, k ≠ 3 → N.2 k = M.2 k := fun k hk => m2 k hk
    have n3 : ∀ j : Nat, N.2 3 j = if (j : Int) < M.1 2 then M.2 1 j else M.2 3 j := fun j => by
      rw [m1 j]
      show (if (0 : Int) ≤ j ∧ (j : Int) < 0 + ((M.1 2).toNat : Nat) then M.2 1 j else M.2 3 j) = _
      by_cases c : (j : Int) < M.1 2
      · rw [if_pos c, if_pos (by omega)]
      · rw [if_neg c, if_neg (by omega)]
    have q1 : ∀ k, k ≠ 0 → k ≠ 4 → k ≠ 2 → k ≠ 5 → k ≠ 42 → (mi (mi (mi (mi N 4 (M.1 2)) 2 0) 5 0) 42 0).1 k = M.1 k := fun k a0 a4 a2 a5 a42 => by
      show (if k = 42 then 0 else if k = 5 then 0 else if k = 2 then 0 else if k = 4 then M.1 2 else N.1 k) = _
      rw [if_neg a42, if_neg a5, if_neg a2, if_neg a4, n1 k a0]
    have rg : ∀ j, 0 ≤ N.2 3 j ∧ N.2 3 j ≤ 126 := fun j => by
      rw [n3]
      by_cases c : (j : Int) < M.1 2
      · rw [if_pos c]; exact c2 j
      · rw [if_neg c]; exact h9.2.2.2.2.2.2.2.1 j
    refine Or.inr ⟨rfl, ?_, by show X.1 3 1 = M.1 2; omega, h1, h2, cFx_of (by rw [xT]) h3, ⟨x11, by show (0 : Int) ≤ 0; decide, by show (0 : Int) ≤ 40; decide, fun j hj => ?_⟩, ⟨?_, ?_, ?_, ?_⟩, ⟨?_, t2, c24, fun j hj => ?_, fun j => ?_⟩, ?_, ⟨PRG_cg h8 ⟨q1 6 (by decide) (by decide) (by decide) (by decide) (by decide), q1 12 (by decide) (by decide) (by decide) (by decide) (by decide), fun k a b => n2 k (by omega)⟩ (pgE_o (fun n hn => xO n (by omega) (by omega) (by omega) (by omega) (by omega) (by omega)) (by rw [xT])), ?_⟩, ⟨p, ?_⟩, I_bd_o (fun n hn => xO n (by omega) (by omega) (by omega) (by omega) (by omega) (by omega)) (by rw [xT]) h10, ⟨⟨x011, by show (0 : Int) ≤ 0; decide, by show (0 : Int) ≤ 24; decide⟩, ?_, Or.inl rfl, fun k hk => ?_⟩⟩
    · show N.1 0 = 0
      rw [m3]; rfl
    · exact absurd hj (show ¬ (j : Int) < 0 by omega)
    · show ∀ j, 0 ≤ X.1 12 j ∧ X.1 12 j ≤ 126
      rw [xO 12 (by decide) (by decide) (by decide) (by decide) (by decide) (by decide)]; exact c1
    · show ∀ j, 0 ≤ N.2 1 j ∧ N.2 1 j ≤ 126
      rw [n2 1 (by decide)]; exact c2
    · show ∀ j, 0 ≤ X.1 13 j ∧ X.1 13 j ≤ 126
      rw [xO 13 (by decide) (by decide) (by decide) (by decide) (by decide) (by decide)]; exact c3
    · show ∀ j, 0 ≤ N.2 13 j ∧ N.2 13 j ≤ 126
      rw [n2 13 (by decide)]; exact c4
    · show X.1 3 1 = M.1 2
      omega
    · have hj' : (j : Int) < M.1 2 := hj
      obtain ⟨y1, y2⟩ := t4 j hj'
      show X.1 14 j = N.2 3 j ∧ 32 ≤ N.2 3 j ∧ N.2 3 j ≤ 126
      rw [x14, n3, if_pos (by omega), if_pos hj']
      exact ⟨y1, y2, (c2 j).2⟩
    · show 0 ≤ X.1 14 j ∧ X.1 14 j ≤ 126
      rw [x14]
      by_cases c : (j : Int) < S.1 1 1
      · rw [if_pos c]; exact c1 j
      · rw [if_neg c]; exact x5 j
    · unfold I_re
      rw [show (mi (mi (mi (mi N 4 (M.1 2)) 2 0) 5 0) 42 0).2 = N.2 from rfl, q1 47 (by decide) (by decide) (by decide) (by decide) (by decide), n2 46 (by decide), n2 48 (by decide), show (0, X.1 3 1, X).2.2 = X from rfl, xO 4 (by decide) (by decide) (by decide) (by decide) (by decide) (by decide), xO 15 (by decide) (by decide) (by decide) (by decide) (by decide) (by decide), xO 16 (by decide) (by decide) (by decide) (by decide) (by decide) (by decide)]
      exact h7
    · rw [show (0, X.1 3 1, X).2.2 = X from rfl, xO 6 (by decide) (by decide) (by decide) (by decide) (by decide) (by decide), q1 6 (by decide) (by decide) (by decide) (by decide) (by decide), q1 12 (by decide) (by decide) (by decide) (by decide) (by decide)]
      exact h8'
    · obtain ⟨g1, g2, g3, g4, g5, g6, g7, g8, g9, g10, g11, g12, g13, g14, g15, g16⟩ := h9
      unfold CfT
      rw [show (mi (mi (mi (mi N 4 (M.1 2)) 2 0) 5 0) 42 0).2 = N.2 from rfl, n2 8 (by decide), n2 9 (by decide), n2 10 (by decide), n2 11 (by decide), n2 7 (by decide), n2 34 (by decide), n2 33 (by decide), q1 6 (by decide) (by decide) (by decide) (by decide) (by decide), q1 35 (by decide) (by decide) (by decide) (by decide) (by decide), q1 37 (by decide) (by decide) (by decide) (by decide) (by decide), q1 40 (by decide) (by decide) (by decide) (by decide) (by decide), q1 41 (by decide) (by decide) (by decide) (by decide) (by decide)]
      exact ⟨g1, g2, g3, g4, c24, g6, g7, rg, g9, g10, g11, g12, g13, g14, g15, g16⟩
    · show X.1 0 12 = _
      rw [x012, q1 45 (by decide) (by decide) (by decide) (by decide) (by decide)]; exact f2
    · obtain ⟨y1, y2⟩ := xf k hk
      have e0 : ¬ ((mi (mi (mi (mi N 4 (M.1 2)) 2 0) 5 0) 42 0).1 42 = 1 ∧ (k : Int) ≤ (mi (mi (mi (mi N 4 (M.1 2)) 2 0) 5 0) 42 0).1 12) := fun y => absurd y.1 (show ¬ (0 : Int) = 1 by decide)
      rw [if_neg e0, if_neg e0]
      exact ⟨y1, y2⟩
  · rw [if_neg (show ¬ S.1 1 1 ≤ 24 by omega), if_neg c24]
    exact Or.inl ⟨rfl, rfl, INV_0 (INV_0 h)⟩
