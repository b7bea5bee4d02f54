theorem M_clr_41 : ∀ (n : Nat) (g : Int) (T : MSt), (M_clr n g T).1 41 = T.1 41
  | 0, _, _ => rfl
  | n + 1, g, T => by rw [M_clr, M_clr_41 n, M_put_i41, M_put_i41]
theorem M_pass_41 (k : Int) (T : MSt) : (M_pass k T).1 41 = T.1 41 := by
  show (M_clr _ _ _).1 41 = _
  rw [M_clr_41, M_put_i41, M_put_i41]
theorem M_decide_41 (k : Int) (T : MSt) : (M_decide k T).1 41 = T.1 41 := by
  have h1 : (M_pass k (M_choose 0 (T.2 10 k.toNat / 4096 + 1) T)).1 41 = T.1 41 := by rw [M_pass_41]; rfl
  have h2 : (mi (M_choose 1 k T) 39 (T.2 10 k.toNat / 4096 + 1)).1 41 = T.1 41 := rfl
  have h3 : (mi T 39 (T.2 10 k.toNat / 4096 + 1)).1 41 = T.1 41 := rfl
  have h4 := M_pass_41 k T
  unfold M_decide
  (repeat' split) <;> assumption
/-- clearing groups, in both -/
theorem JClr {i l9 : Int} : ∀ (n m : Nat) (g : Int) (T : MSt) (S : CSt) (tc : Nat), cX tc S → 0 ≤ T.1 35 → (∀ y, y < 130 → -1 ≤ gT T y ∧ gT T y ≤ 34) → 1 ≤ g → g + n ≤ 10 → n ≤ m → K2_lastGroup 6 l9 S = g + n - 1 → (∀ y : Nat, g ≤ y → (y : Int) < g + n → S.1 35 (10 + y) = gT T y ∧ S.1 35 (20 + y) = gT T (10 + y)) → mkB S → ∃ (S' : CSt) (tc' : Nat), K0_bpL i l9 m g S = (0, K2_aim 6 i S, S') ∧ CAd tc S S' (clrG n (10 + g.toNat) (S.1 35)) tc' ∧ (tc' : Int) - tc = (M_clr n g T).1 35 - T.1 35 ∧ mkB S'
  | 0, m, g, T, S, tc, hX, h5, hb, g1, g9, hm, hl, hq, hB => by
    refine ⟨S, tc, ?_, CAd_refl hX, by rw [M_clr]; omega, hB⟩
    cases m with
    | zero => rw [K0_bpL]
    | succ m => rw [K0_bpL_eq, if_pos (by omega)]
  | n + 1, 0, g, T, S, tc, hX, h5, hb, g1, g9, hm, hl, hq, hB => by omega
  | n + 1, m + 1, g, T, S, tc, hX, h5, hb, g1, g9, hm, hl, hq, hB => by
    obtain ⟨q1, q2⟩ := hq g.toNat (by omega) (by omega)
    have s1 := CAd_set (v := -1) (i := 10 + g) hX (by omega) (by omega)
    have s2 := CAd_set (v := -1) (i := 20 + g) s1.1 (by omega) (by omega)
    have k1 : mkB (K1_set (10 + g) (-1) S).2.2 := mkB_set hB (by omega)
    have k2 : mkB (K1_set (20 + g) (-1) (K1_set (10 + g) (-1) S).2.2).2.2 := mkB_set k1 (by omega)
    have aC := CAd_trans s1 s2 (fun _ => by rw [← s1.2.2.1]; exact k1.1)
    have t1 := AdT_put (T := T) (r := g) (v := -1) h5 (by omega) (by omega) hb
    have b1 : ∀ y, y < 130 → -1 ≤ gT (M_put g (-1) T) y ∧ gT (M_put g (-1) T) y ≤ 34 := by rw [t1.2.2.2.2.1]; exact zu_bd hb (by omega) (by omega)
    have t2 := AdT_put (T := M_put g (-1) T) (r := 10 + g) (v := -1) (by have := t1.2.2.1; omega) (by omega) (by omega) b1
    have b2 : ∀ y, y < 130 → -1 ≤ gT (M_put (10 + g) (-1) (M_put g (-1) T)) y ∧ gT (M_put (10 + g) (-1) (M_put g (-1) T)) y ≤ 34 := by rw [t2.2.2.2.2.1]; exact zu_bd b1 (by omega) (by omega)
    have e1 := M_put_t g (-1) T
    have e2 := M_put_t (10 + g) (-1) (M_put g (-1) T)
    have v1 : T.2 33 g.toNat = S.1 35 (10 + g).toNat := by rw [show (10 + g).toNat = 10 + g.toNat by omega, q1, gT_at (by omega)]
    have v2 : (M_put g (-1) T).2 33 (10 + g).toNat = (K1_set (10 + g) (-1) S).2.2.1 35 (20 + g).toNat := by
      rw [s1.2.2.1, show (20 + g).toNat = 20 + g.toNat by omega, zu_ne (show 20 + g.toNat ≠ (10 + g).toNat by omega), q2, show (10 + g).toNat = 10 + g.toNat by omega]
      have z : gT (M_put g (-1) T) (10 + g.toNat) = gT T (10 + g.toNat) := by rw [t1.2.2.2.2.1, zu_ne (show 10 + g.toNat ≠ g.toNat by omega)]
      rw [← z, gT_at (by omega)]
    rw [v1] at e1
    rw [v2] at e2
    have tcE : ((if (K1_set (10 + g) (-1) S).2.2.1 35 (20 + g).toNat = -1 then (if S.1 35 (10 + g).toNat = -1 then tc else tc + 1) else (if S.1 35 (10 + g).toNat = -1 then tc else tc + 1) + 1 : Nat) : Int) - tc = (M_put (10 + g) (-1) (M_put g (-1) T)).1 35 - T.1 35 := by
      rw [e2, e1]
      (repeat' split) <;> omega
    generalize (if (K1_set (10 + g) (-1) S).2.2.1 35 (20 + g).toNat = -1 then (if S.1 35 (10 + g).toNat = -1 then tc else tc + 1) else (if S.1 35 (10 + g).toNat = -1 then tc else tc + 1) + 1 : Nat) = tc1 at aC tcE
    have mkE : (K1_set (20 + g) (-1) (K1_set (10 + g) (-1) S).2.2).2.2.1 35 = zu (zu (S.1 35) (10 + g).toNat (-1)) (20 + g).toNat (-1) := by rw [s2.2.2.1, s1.2.2.1]
    obtain ⟨S', tc', r1, r2, r3, r4⟩ := JClr (i := i) (l9 := l9) n m (g + 1) (M_put (10 + g) (-1) (M_put g (-1) T)) (K1_set (20 + g) (-1) (K1_set (10 + g) (-1) S).2.2).2.2 tc1 aC.1 (by have := t1.2.2.1; have := t2.2.2.1; omega) b2 (by omega) (by omega) (by omega) (by rw [(mK_prog aC.2.2.2.2.2.2.2.1).2.2.2.2.2.2.1]; omega) (fun y y0 y1 => by
      obtain ⟨p1, p2⟩ := hq y (by omega) (by omega)
      rw [mkE, t2.2.2.2.2.1, t1.2.2.2.2.1, zu_ne (show 10 + y ≠ (20 + g).toNat by omega), zu_ne (show 10 + y ≠ (10 + g).toNat by omega), zu_ne (show 20 + y ≠ (20 + g).toNat by omega), zu_ne (show 20 + y ≠ (10 + g).toNat by omega), zu_ne (show y ≠ (10 + g).toNat by omega), zu_ne (show y ≠ g.toNat by omega), zu_ne (show 10 + y ≠ (10 + g).toNat by omega), zu_ne (show 10 + y ≠ g.toNat by omega)]
      exact ⟨p1, p2⟩) k2
    refine ⟨S', tc', ?_, ?_, ?_, r4⟩
    · rw [K0_bpL_eq, if_neg (by omega), r1, (mK_prog aC.2.2.2.2.2.2.2.1).2.1]
    · rw [mkE] at r2
      have x := CAd_trans aC r2 (fun _ => by rw [← aC.2.2.1]; exact k2.1)
      rw [clrG, show 10 + (10 + g.toNat) = (20 + g).toNat by omega, show 10 + g.toNat = (10 + g).toNat by omega, show (10 + g).toNat + 1 = 10 + (g + 1).toNat by omega]
      exact x
    · rw [M_clr]
      omega
