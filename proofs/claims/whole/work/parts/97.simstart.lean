theorem M_resetL_at (pp : Int) (y : Nat) : ∀ (n : Nat) (r : Int) (T : MSt), 0 ≤ r → (M_resetL pp n r T).2 33 y = if r ≤ y ∧ (y : Int) < r + n then -1 else T.2 33 y
  | 0, r, T, _ => by rw [M_resetL, if_neg (by omega)]
  | n + 1, r, T, h => by
    rw [M_resetL, M_resetL_at pp y n (r + 1) _ (by omega)]
    show (if r + 1 ≤ y ∧ (y : Int) < r + 1 + n then -1 else zu (T.2 33) r.toNat (-1) y) = _
    by_cases e : y = r.toNat
    · rw [e, zu_eq, if_pos (show r ≤ (r.toNat : Nat) ∧ ((r.toNat : Nat) : Int) < r + (n + 1 : Nat) by omega)]
      split <;> rfl
    · rw [zu_ne e]
      by_cases c : r + 1 ≤ y ∧ (y : Int) < r + 1 + n
      · rw [if_pos c, if_pos (by omega)]
      · rw [if_neg c, if_neg (by omega)]
theorem cntB_0 {p : Nat → Nat → Int} {q : Int} : ∀ n, cntB p q 0 n = 0
  | 0 => rfl
  | n + 1 => by
    have w : ¬ (p 0 n = q ∧ inB p n 0) := fun y => by have := y.2.1; omega
    rw [cntB, cntB_0 n, pif_neg w]
    rfl
theorem Wr_m1 : Wr (fun _ => -1) 130 = 20 := by decide +kernel
/-- the state in which the reference begins to try -/
theorem RI_start {p : Nat → Nat → Int} {R : Nat → Int} {N : Nat} {T : MSt} {pp : Int} (hp : prR p R N) (h : CfT p T) (h0 : 0 ≤ pp) (h1 : pp ≤ T.1 4) : RI p R N (M_triesS pp T) ∧ MU p N (M_triesS pp T) ≤ 188751 ∧ (M_triesS pp T).1 40 = T.1 40 ∧ (M_triesS pp T).1 41 = T.1 41 ∧ (∀ y, y < 130 → gT (M_triesS pp T) y = -1) ∧ (M_triesS pp T).1 35 = 0 ∧ (M_triesS pp T).1 37 = 0 ∧ (M_triesS pp T).1 38 = pp ∧ (M_triesS pp T).1 39 = 0 := by
  obtain ⟨q8, q9, q10, q11, q4, q6, q6', q3, q7, q34, q35, q37, q40, q41, q41', q33⟩ := h
  have fr := frM_triesS pp T
  have e1 : ∀ k, k < 35 ∨ k = 36 ∨ 39 < k → (M_triesS pp T).1 k = T.1 k := fun k hk => by
    show (if k = 39 then _ else if k = 38 then _ else if k = 37 then _ else if k = 35 then _ else (M_resetL pp 180 0 T).1 k) = _
    rw [if_neg (by omega), if_neg (by omega), if_neg (by omega), if_neg (by omega), M_resetL_1]
  have e2 : ∀ k, k ≠ 33 → (M_triesS pp T).2 k = T.2 k := fun k hk => M_resetL_2 pp hk 180 0 T
  have e33 : ∀ y : Nat, (M_triesS pp T).2 33 y = if y < 180 then -1 else T.2 33 y := fun y => by
    show (M_resetL pp 180 0 T).2 33 y = _
    rw [M_resetL_at pp y 180 0 T (by omega)]
    by_cases c : y < 180
    · rw [if_pos c, if_pos (by omega)]
    · rw [if_neg c, if_neg (by omega)]
  have u35 : (M_triesS pp T).1 35 = 0 := rfl
  have u37 : (M_triesS pp T).1 37 = 0 := rfl
  have u38 : (M_triesS pp T).1 38 = pp := rfl
  have u39 : (M_triesS pp T).1 39 = 0 := rfl
  have u40 := e1 40 (by omega)
  have u41 := e1 41 (by omega)
  have u4 := e1 4 (by omega)
  have gg : ∀ y, y < 130 → gT (M_triesS pp T) y = -1 := fun y hy => by rw [gT_at hy, e33, if_pos (by omega)]
  have N0 : 0 < N := hp.1.2.2.2.1
  have no : ∀ h, ¬ inB p h 0 := fun h y => by have := y.1; omega
  have psu := Ps_sup (R := R) (rg := gT (M_triesS pp T)) (pl := pp) hp.1 N 0 (Nat.le_refl _) N0 (fun h _ _ y => absurd y (no h))
  have d := dcp_nn (p 0 0)
  have cr := crp_nn (p 0 0)
  have st := stp_nn (p 0 0)
  generalize hT0 : M_triesS pp T = T0 at *
  refine ⟨⟨?_, by omega, ?_⟩, ?_, u40, u41, gg, u35, u37, u38, u39⟩
  · unfold CfT
    rw [e2 8 (by decide), e2 9 (by decide), e2 10 (by decide), e2 11 (by decide), e2 3 (by decide), e2 7 (by decide), e2 34 (by decide), u35, u37, u40, u41, u4, e1 6 (by omega)]
    refine ⟨q8, q9, q10, q11, q4, q6, q6', q3, q7, q34, by omega, by omega, q40, q41, q41', fun y hy => ?_⟩
    rw [e33]
    split
    · omega
    · exact q33 y hy
  · rw [u39, u37, u38, u40, u4, u35]
    refine ⟨⟨N0, h0, h1, fun y hy => by rw [gg y hy]; omega, fun g g1 g9 => by rw [gg g (by omega), gg (10 + g) (by omega)]; omega, fun h _ _ y => absurd y (no h), fun h _ _ y => absurd y (no h), fun h _ _ y => absurd y (no h), fun m y => by omega⟩, ?_, ?_, ⟨fun i hi => by omega, fun i j _ hj => by omega⟩, snT_top (by omega)⟩
    · have e : Wr (gT T0) 130 = 20 := by rw [Wr_cong 130 gg]; exact Wr_m1
      show ((0 : Nat) : Int) + Wr (gT T0) 130 + 4 * cntB p 10 0 N ≤ 8 * T.1 40 + 40 + dcp (p 0 0)
      rw [e, cntB_0]
      omega
    · show ((0 : Nat) : Int) + Ps p R N (gT T0) pp N 0 ≤ 79 * (pp + 1) + 2 * T.1 40 + crp (p 0 0)
      omega
  · unfold MU
    rw [u39, u37, u40]
    have hN := hp.2.1
    show 376 * (501 - T.1 40) + 250 - 250 * stp (p 0 0) + 125 * 0 + ((N : Int) - 0) ≤ 188751
    omega
theorem tries_OK {p : Nat → Nat → Int} {R : Nat → Int} {N : Nat} {T : MSt} {pp : Int} (hp : prR p R N) (h : CfT p T) (h0 : 0 ≤ pp) (h1 : pp ≤ T.1 4) : M_triesOK pp T := by
  obtain ⟨r1, r2, -⟩ := RI_start hp h h0 h1
  exact ⟨VR p R N, VR_run hp, r1, fun _ => by omega⟩
/-- the state in which both begin to try -/
theorem LNo_start {a : Nat} {p : Nat → Nat → Int} {R : Nat → Int} {N : Nat} {F : Nat → Int} {fit : Nat → Int → Int} {T : MSt} {S : CSt} {pp : Int} (hp : prR p R N) (h : CfT p T) (h41 : T.1 41 = 0) (h0 : 0 ≤ pp) (h1 : pp ≤ T.1 4) (hF0 : F 0 = 0) (hB : CBd a S) (hS : SK p F fit N T S) (h4 : S.1 10 4 = T.1 40) : LNo a p R N F fit (M_triesS pp T) 0 (ci (K1_clear S) 10 3 pp) := by
  obtain ⟨r1, r2, r3, r4, r5, u35, u37, u38, u39⟩ := RI_start hp h h0 h1
  have q4 := h.2.2.2.2.1
  have q40 := h.2.2.2.2.2.2.2.2.2.2.2.2.1
  have m5 := (CfT_step h h41).2
  have no : ∀ h, ¬ inB p h 0 := fun h y => by have := y.1; omega
  have mk : mK S (ci (K1_clear S) 10 3 pp) := mK.clear.tr mK.c10
  have cl35 : (ci (K1_clear S) 10 3 pp).1 35 = (K7_fill35 (-1) S).1 35 := by
    rw [ci_ne (by decide)]
    unfold K1_clear
    rw [ci_ne (by decide), ci_ne (by decide)]
  have c35 : ∀ y, y < 90 → (ci (K1_clear S) 10 3 pp).1 35 y = -1 := fun y hy => by rw [cl35, K7_fill35_v hy]
  have c35b : ∀ y, (ci (K1_clear S) 10 3 pp).1 35 y ≤ 90000 := fun y => by
    by_cases c : y < 90
    · rw [c35 y c]; omega
    · rw [cl35, K7_fill35_o c]; exact hB.2.2.1 y
  have c37 : (ci (K1_clear S) 10 3 pp).1 37 = S.1 37 := by rw [ci_ne (by decide), K1_clear_1 (by decide) (by decide)]
  have c10 : (ci (K1_clear S) 10 3 pp).1 10 4 = S.1 10 4 := by rw [ci_eq, zu_ne (by decide), K1_clear_1 (by decide) (by decide)]
  have c103 : (ci (K1_clear S) 10 3 pp).1 10 3 = pp := by rw [ci_eq, zu_eq]
  have c113 : (ci (K1_clear S) 10 3 pp).1 11 3 = 0 := by
    rw [ci_ne (by decide)]
    unfold K1_clear
    rw [ci_eq, zu_ne (by decide), ci_eq, zu_eq]
  have c114 : (ci (K1_clear S) 10 3 pp).1 11 4 = 0 := by
    rw [ci_ne (by decide)]
    unfold K1_clear
    rw [ci_eq, zu_eq]
  have e2 : (ci (K1_clear S) 10 3 pp).2 = S.2 := by rw [ci_2, K1_clear_2]
  obtain ⟨hF, hX, hm⟩ := hB
  obtain ⟨hX1, hX2, x1, x2, x3, x4, x5, x6, x7, x8, x9, x10, x11⟩ := hX
  have k : ∀ n, n ≠ 10 → n ≠ 11 → n ≠ 35 → n ≠ 36 → n ≠ 37 → (ci (K1_clear S) 10 3 pp).1 n = S.1 n := mk.1
  have sv : sV (ci (K1_clear S) 10 3 pp) := sV_ci (sV_clear hX1) (by decide)
  have fr := frM_triesS pp T
  have sk := SK_cong fr mk hS
  generalize ci (K1_clear S) 10 3 pp = S0 at *
  generalize M_triesS pp T = T0 at *
  have cb : CBd a S0 := by
    refine ⟨cFx_of (congrArg Prod.snd e2) hF, ⟨sv, pB_of (k 6 (by decide) (by decide) (by decide) (by decide) (by decide)) (fun j hj => k _ (by unfold pA; omega) (by unfold pA; omega) (by unfold pA; omega) (by unfold pA; omega) (by unfold pA; omega)) hX2, ?_, ?_, ?_, ?_, ?_, ?_, ?_, ?_, ?_, ?_, c35b⟩, c35b, fun j => by rw [c37]; exact hm.2 j⟩
    · rw [k 3 (by decide) (by decide) (by decide) (by decide) (by decide)]; exact x1
    · rw [k 3 (by decide) (by decide) (by decide) (by decide) (by decide)]; exact x2
    · rw [k 14 (by decide) (by decide) (by decide) (by decide) (by decide)]; exact x3
    · rw [c103]; exact h0
    · rw [c103]; omega
    · rw [c10]; exact x6
    · rw [c10]; exact x7
    · rw [k 18 (by decide) (by decide) (by decide) (by decide) (by decide)]; exact x8
    · rw [k 24 (by decide) (by decide) (by decide) (by decide) (by decide)]; exact x9
    · rw [k 25 (by decide) (by decide) (by decide) (by decide) (by decide)]; exact x10
  have z0 : (0 : Int).toNat = 0 := rfl
  have ph : phi p (T0.2 36) 0 = 0 := rfl
  refine ⟨r1, by rw [r4]; exact h41, cb, sk, by rw [u39]; exact hF0.symm, ?_⟩
  rw [u39, z0]
  refine ⟨by rw [u38, c103], by rw [r3, c10]; exact h4, ?_, 0, ⟨by rw [c114]; omega, ?_, fun i hi => by omega⟩, ⟨⟨fun g g1 g9 => ?_, fun j hj j14 => ?_⟩, fun j _ _ jb => absurd jb (no j)⟩, ⟨fun i hi => ?_, fun e e' _ he => ?_, fun e he => ?_⟩, ?_⟩
  · rw [u37, z0, ph, c113]; omega
  · rw [e2]
    exact ⟨by omega, by have := hF.2.2.2.2.1; omega⟩
  · rw [c35 _ (by omega), c35 _ (by omega), c35 _ (by omega), r5 _ (by omega), r5 _ (by omega), r5 _ (by omega)]
    exact ⟨rfl, rfl, rfl⟩
  · have rr := loop_re hp hj j14
    obtain ⟨j0, j1, j2, j3, j4, -⟩ := loop_in hp hj j14
    rw [pif_neg (no j), r5 _ (by omega), r5 _ (by omega), c35 _ (by omega), c35 _ (by omega)]
    exact ⟨by omega, rfl⟩
  · rw [u37, z0] at hi; exact absurd hi (by omega)
  · rw [u37, z0, ph] at he; exact absurd he (by omega)
  · rw [u37, z0, ph] at he; exact absurd he (by omega)
  · rw [cntB_0, u35, r3]
    split <;> omega
theorem found_OK {a : Nat} {p : Nat → Nat → Int} {R : Nat → Int} {N : Nat} {F : Nat → Int} {fit : Nat → Int → Int} {T : MSt} {S : CSt} {pp : Int} (hp : prR p R N) (h : CfT p T) (h41 : T.1 41 = 0) (h0 : 0 ≤ pp) (h1 : pp ≤ T.1 4) (hF0 : F 0 = 0) (hB : CBd a S) (hS : SK p F fit N T S) (h4 : S.1 10 4 = T.1 40) : K0_foundOK pp S := by
  have l := LNo_start hp h h41 h0 h1 hF0 hB hS h4
  have r := (RI_start (N := N) hp h h0 h1).2.1
  exact ⟨VC a p R N F fit, VC_turn hp, Or.inl ⟨_, l, by rw [zM_eq]; omega⟩⟩
