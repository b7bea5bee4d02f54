/-- the class begins the pass that the reference has begun -/
theorem PD_turn {a : Nat} {p : Nat → Nat → Int} {R : Nat → Int} {N : Nat} {F : Nat → Int} {fit : Nat → Int → Int} {T T0 : MSt} {S : CSt} {k : Nat} (hp : prR p R N) (h : LpT p R N k T0) (t0 : 0 ≤ gT T0 (reL p k)) (t1 : gT T0 (reL p k) ≤ leL p k + T0.1 38) (h40 : T0.1 40 ≤ 500) (h37 : T0.1 37 ≤ 2990) (hL : LKd p F N T0 S k) (hB : CBd a S) (hS : SK p F fit N T S) : ∃ S', K0_carryOut (F (enL p k) + 1) S = (0, F (k + 1), S') ∧ CBd a S' ∧ LKd p F N (M_pass k T0) S' (k + 1) := by
  obtain ⟨c, hk, k14, i1, i2, i4⟩ := h
  obtain ⟨q8, q9, q10, q11, q4, -, -, -, -, -, q35, q37, q40, q41, -, -⟩ := c
  obtain ⟨l0, l1, l2, l3, l4, l5, l6, l7, l8, l9, l10, l11, l12, l13⟩ := loop_in hp hk k14
  have w1 := i1.2.1
  have w2 := i1.2.2.1
  have cR := hS.1 k hk
  obtain ⟨-, -, fn, -, -, k12, am, nu, -, -, -, fg, lg⟩ := cR.2.2.2.2.2.2.2.2.2.2.2.1 k14
  obtain ⟨⟨g0, g1⟩, -⟩ := hS.1 (enL p k) l9
  have wn := Wr_nn (gT T0) 130
  have cn := cntB_nn (p := p) (q := 10) (r := k) N
  obtain ⟨z4, z3⟩ := LKd_bd hL (by omega) h40 h37
  have hLL := hL
  obtain ⟨a1, a2, a3, tc, a4, ⟨⟨m1, m2⟩, m3⟩, a7, a8⟩ := hLL
  rw [if_neg (show ¬ p 0 k = 1 by omega), Int.add_zero] at a7 a8
  have aT := AdT_pass (p := p) (k := k) (T := T0) q10 q11 q35 i1.2.2.2.1 l3 l4 l0 l1 l2 t0 (by omega) w1 (by omega)
  -- the reference, step by step
  have g30 : T0.2 33 (30 + p 3 k).toNat = gT T0 (reL p k) := by rw [gT_at (show reL p k < 130 by unfold reL; omega)]; rfl
  have u1 := AdT_put (T := T0) (r := 30 + p 3 k) (v := gT T0 (reL p k) + 1) q35 (by omega) (by omega) i1.2.2.2.1
  have v1 : ∀ y, y < 130 → -1 ≤ gT (M_put (30 + p 3 k) (gT T0 (reL p k) + 1) T0) y ∧ gT (M_put (30 + p 3 k) (gT T0 (reL p k) + 1) T0) y ≤ 34 := by rw [u1.2.2.2.2.1]; exact zu_bd i1.2.2.2.1 (by omega) (by omega)
  have u2 := AdT_put (T := M_put (30 + p 3 k) (gT T0 (reL p k) + 1) T0) (r := 80 + p 3 k) (v := T0.1 38) (by have := u1.2.2.1; omega) (by omega) (by omega) v1
  have v2 : ∀ y, y < 130 → -1 ≤ gT (M_put (80 + p 3 k) (T0.1 38) (M_put (30 + p 3 k) (gT T0 (reL p k) + 1) T0)) y ∧ gT (M_put (80 + p 3 k) (T0.1 38) (M_put (30 + p 3 k) (gT T0 (reL p k) + 1) T0)) y ≤ 34 := by rw [u2.2.2.2.2.1]; exact zu_bd v1 (by omega) (by omega)
  have e1 := M_put_t (30 + p 3 k) (gT T0 (reL p k) + 1) T0
  have e2 := M_put_t (80 + p 3 k) (T0.1 38) (M_put (30 + p 3 k) (gT T0 (reL p k) + 1) T0)
  rw [g30, if_neg (by omega)] at e1
  obtain ⟨ml, mr⟩ := m2 k hk k14
  have nik : ¬ inB p k k := inB_not_self
  rw [pif_neg nik, Int.add_zero] at ml
  have g80 : (M_put (30 + p 3 k) (gT T0 (reL p k) + 1) T0).2 33 (80 + p 3 k).toNat = S.1 35 (50 + p 3 k).toNat := by
    have z : gT (M_put (30 + p 3 k) (gT T0 (reL p k) + 1) T0) (80 + p 3 k).toNat = gT T0 (rbL p k) := by
      rw [u1.2.2.2.2.1, zu_ne (show (80 + p 3 k).toNat ≠ (30 + p 3 k).toNat by omega)]
      rfl
    rw [← mr, ← z]
    exact (gT_at (by omega)).symm
  rw [g80] at e2
  -- the class
  have s1 := CAd_set (v := T0.1 38) (i := 50 + p 3 k) a4 (by omega) (by omega)
  have mk1 : mkB (K1_set (50 + p 3 k) (T0.1 38) S).2.2 := mkB_set hB.2.2 (by omega)
  have pg := mK_prog s1.2.2.2.2.2.2.2.1
  obtain ⟨S', tc', r1, r2, r3, r4⟩ := JClr (i := F (enL p k) + 1) (l9 := p 3 k) (p 2 k % 16 - p 2 k / 16 % 256).toNat (10 - (p 2 k / 16 % 256 + 1)).toNat (p 2 k / 16 % 256 + 1) (M_put (80 + p 3 k) (T0.1 38) (M_put (30 + p 3 k) (gT T0 (reL p k) + 1) T0)) (K1_set (50 + p 3 k) (T0.1 38) S).2.2 _ s1.1 (by have := u1.2.2.1; have := u2.2.2.1; omega) v2 (by omega) (by omega) (by omega) (by rw [pg.2.2.2.2.2.2.1, lg]; omega) (fun y y0 y1 => by
    obtain ⟨n1, n2, -⟩ := m1 y (by omega) (by omega)
    rw [s1.2.2.1, u2.2.2.2.2.1, u1.2.2.2.2.1, zu_ne (show 10 + y ≠ (50 + p 3 k).toNat by omega), zu_ne (show 20 + y ≠ (50 + p 3 k).toNat by omega), zu_ne (show y ≠ (80 + p 3 k).toNat by omega), zu_ne (show y ≠ (30 + p 3 k).toNat by omega), zu_ne (show 10 + y ≠ (80 + p 3 k).toNat by omega), zu_ne (show 10 + y ≠ (30 + p 3 k).toNat by omega)]
    exact ⟨n1, n2⟩) mk1
  have eC : K0_carryOut (F (enL p k) + 1) S = (0, F (k + 1), S') := by
    rw [coo_12 k12, K0_beginPass_eq, nu, a1, pg.2.2.2.2.2.1, fg, r1, pg.2.1, am, fn, cw_0]
  have aC := CAd_trans s1 r2 (fun _ => by rw [← s1.2.2.1]; exact mk1.1)
  rw [s1.2.2.1] at aC
  have s10 := aC.2.2.2.2.2.2.1
  have ec : (10 + (p 2 k / 16 % 256 + 1).toNat) = 11 + (p 2 k / 16 % 256).toNat := by omega
  rw [ec] at aC
  have eT : M_pass k T0 = mi (passT k T0) 39 ((k : Int) + 1) := rfl
  have etr : (passT k T0).1 35 = (M_clr (p 2 k % 16 - p 2 k / 16 % 256).toNat (p 2 k / 16 % 256 + 1) (M_put (80 + p 3 k) (T0.1 38) (M_put (30 + p 3 k) (gT T0 (reL p k) + 1) T0))).1 35 := by
    unfold passT
    rw [q10, q11, show ((k : Int)).toNat = k by omega, g30]
  refine ⟨S', eC, CBd_co hB z4 z3 (by omega) (by omega) eC (by rw [s10]; omega) (by rw [s10]; omega) (by rw [s10]; omega) (by rw [s10]; omega) r4, ?_⟩
  rw [eT]
  refine LKd_cong39 (LKd_ad (T := T0) i4 aT aC a1 a2 a3 a7 ⟨⟨fun g y1 y9 => ?_, fun j hj j14 => ?_⟩, ?_⟩ ?_)
  · obtain ⟨n1, n2, n3⟩ := m1 g y1 y9
    unfold passG
    rw [clrG_at, clrG_at, clrG_at, clrG_at, clrG_at, clrG_at]
    have rr := loop_re hp hk k14
    rw [zu_ne (show 10 + g ≠ (50 + p 3 k).toNat by omega), zu_ne (show 20 + g ≠ (50 + p 3 k).toNat by omega), zu_ne (show g ≠ (50 + p 3 k).toNat by omega), zu_ne (show g ≠ rbL p k by omega), zu_ne (show g ≠ reL p k by omega), zu_ne (show 10 + g ≠ rbL p k by omega), zu_ne (show 10 + g ≠ reL p k by omega), zu_ne (show 20 + g ≠ rbL p k by omega), zu_ne (show 20 + g ≠ reL p k by omega), n1, n2, n3]
    refine ⟨?_, ?_, ?_⟩
    · (repeat' split) <;> omega
    · (repeat' split) <;> omega
    · (repeat' split) <;> omega
  · obtain ⟨j0, j1, j2, j3, j4, -⟩ := loop_in hp hj j14
    rw [clrG_at, clrG_at, if_neg (by omega), if_neg (by omega), zu_ne (show (30 + p 3 j).toNat ≠ (50 + p 3 k).toNat by omega)]
    by_cases e : j = k
    · subst e
      obtain ⟨o1, o2⟩ := passG_re (rg := gT T0) (pl := T0.1 38) l0 l1 l2 l3 l4
      rw [o1, o2, pif_pos l5, zu_eq]
      exact ⟨by omega, rfl⟩
    · have ne := loop_ne hp hj hk j14 k14 e
      have n3 : p 3 j ≠ p 3 k := fun y => e (hp.2.2.2.1 j k hj hk j14 k14 y)
      rw [passG_ot l0 l1 l2 (by omega) ne.1 ne.2.2.1, passG_ot l0 l1 l2 (by omega) ne.2.2.2.1 ne.2.1, zu_ne (show (50 + p 3 j).toNat ≠ (50 + p 3 k).toNat by omega), pif_iff (P := inB p j (k + 1)) (Q := inB p j k) ((loop_out (h := j) hp hk k14).2.2 e)]
      exact m2 j hj j14
  · refine LKm_mk hp (LKm_go (pos := k) (fun j hj j12 jb => ((loop_out (h := j) hp hk k14).2.2 (fun y => by rw [y, k14] at j12; exact absurd j12 (by decide))).mp jb) m3) (fun y y0 y1 => ?_)
    rw [clrG_at, if_neg (by omega), zu_ne (by omega)]
  · have cb := cntB_but (q := 14) (hp.1.2.2.2.2.1 k hk k14).2.2.2.2.2.2.2.2.2.2.2.2.2.2.1 inB_not_self l5 N
    rw [if_pos ⟨hk, k14⟩] at cb
    rw [etr]
    have := u1.2.2.1
    have := u2.2.2.1
    split at e2 <;> split at r3 <;> split <;> omega
/-- what the class's choosePass is to the reference's decide -/
theorem CP_all {p : Nat → Nat → Int} {R : Nat → Int} {N : Nat} {F : Nat → Int} {fit : Nat → Int → Int} {a : Nat} {T T0 : MSt} {S : CSt} {k : Nat} (hp : prR p R N) (h : LpT p R N k T0) (hd : DPr p R N (gT T0) (T0.1 38) (T0.1 37).toNat (T0.1 40) k) (h40 : T0.1 40 ≤ 500) (hL : LKd p F N T0 S k) (hX : sV S) (hF : 192 ≤ S.2.2.2 36) (hS : SK p F fit N T S) : ∃ v S', K0_choosePass (F (enL p k)) S = (0, v, S') ∧ 0 ≤ v ∧ S'.1 10 = S.1 10 ∧ S'.1 35 = S.1 35 ∧ S'.1 37 = S.1 37 ∧ ((v = F ((M_decide k T0).1 39).toNat ∧ LKd p F N (M_decide k T0) S' ((M_decide k T0).1 39).toNat) ∨ PD p R N F (M_decide k T0) v S') := by
  have h' := h
  obtain ⟨c, hk, k14, i1, i2, i4⟩ := h'
  have c' := c
  obtain ⟨q8, q9, q10, q11, q4, -, -, -, -, -, q35, q37, q40, q41, -, -⟩ := c'
  obtain ⟨l0, l1, l2, l3, l4, l5, l6, l7, l8, l9, l10, l11, l12, l13⟩ := loop_in hp hk k14
  have hlo := hp.1.2.2.2.2.1 k hk k14
  obtain ⟨d0, d1, d2, d3, d4⟩ := hd
  have hN2 := hp.2.1
  have w1 := i1.2.1
  have w2 := i1.2.2.1
  have cR := hS.1 k hk
  obtain ⟨-, -, fn, kd, nu, -, -, -, fo, le, mo, -, -⟩ := cR.2.2.2.2.2.2.2.2.2.2.2.1 k14
  obtain ⟨⟨g0, g1⟩, -⟩ := hS.1 (enL p k) l9
  obtain ⟨⟨g2, g3⟩, -⟩ := hS.1 (enL p k + 1) l10
  have hLL := hL
  obtain ⟨a1, a2, a3, tc, a4, ⟨⟨m1, m2⟩, m3⟩, a7, a8⟩ := hLL
  rw [if_neg (show ¬ p 0 k = 1 by omega), Int.add_zero] at a8
  obtain ⟨ml, mr⟩ := m2 k hk k14
  have nik : ¬ inB p k k := inB_not_self
  rw [pif_neg nik, Int.add_zero] at ml
  have hr : reL p k < 130 := by unfold reL; omega
  have sB : sameB p k (enL p k + 1) := fun h => (loop_out (h := h) hp hk k14).1.symm
  have mk : K1_mark (30 + K2_number 6 (F (enL p k)) S) S = gT T0 (reL p k) := by rw [nu, K1_mk (by omega) (by omega), ml]
  have lb : gT T0 (reL p k) ≤ 34 := (i1.2.2.2.1 _ hr).2
  rw [M_decide_by q9 q10 q11 l0 hr, K0_choosePass_eq, mk, nu, le, mo, kd, a1]
  have hlev : LKd p F N T0 S (enL p k + 1) := LKd_go i4 sB (by omega) hL
  have e39 : ((enL p k : Int) + 1).toNat = enL p k + 1 := by omega
  have ec : (enL p k : Int) + 1 = ((enL p k + 1 : Nat) : Int) := by omega
  by_cases c1 : leL p k ≤ gT T0 (reL p k)
  · rw [if_pos c1, if_neg (show ¬ gT T0 (reL p k) < leL p k by omega)]
    by_cases c2 : moL p k ≠ 99 ∧ moL p k ≤ gT T0 (reL p k)
    · rw [if_pos c2, if_neg c2.1, if_pos c2.2]
      refine ⟨_, _, rfl, by omega, rfl, rfl, rfl, Or.inl ⟨?_, ?_⟩⟩
      · show F (enL p k) + 2 = F ((enL p k : Int) + 1).toNat
        rw [e39, fo]
      · show LKd p F N (mi T0 39 ((enL p k : Int) + 1)) S ((enL p k : Int) + 1).toNat
        rw [e39]; exact LKd_cong39 hlev
    · have nc : ¬ (if moL p k = 99 then 1000000 else moL p k) ≤ gT T0 (reL p k) := by
        split
        · omega
        · omega
      rw [if_neg c2, if_neg nc]
      have hac : S.1 11 4 + 2 * cntB p 14 k N ≤ 2 * (T0.1 35 + 2 * T0.1 40) := by have := a4.1; omega
      have hm : ∀ j, j < N → p 0 j = 12 → inB p j k → ∃ m : Nat, qT T0 (p 3 j).toNat = m ∧ m < (T0.1 37).toNat := RSb_m i1
      have hm2 : ∀ j, j < N → p 0 j = 12 → inB p j k → ∃ m : Nat, qT T0 (p 3 j).toNat = m ∧ m ≤ (T0.1 37).toNat ∧ (p 1 j = 1 → m < (T0.1 37).toNat) := fun j x1 x2 x3 => by
        obtain ⟨m, n1, n2⟩ := hm j x1 x2 x3
        exact ⟨m, n1, by omega, fun _ => n2⟩
      by_cases c3 : p 1 k < 65536
      · rw [if_pos c3, if_pos c3, if_pos rfl, ec, ← fo]
        have lp := LKd_push (R := R) (pos := k) (w := enL p k + 1) (kd := 0) (way := F (enL p k + 1)) (by omega) w1 (by omega) (by omega) (by omega) (by omega) q35 q37 hm2 (RSb_m (RSb_go sB l10 i1)) i4 hX hF hL (by obtain ⟨-, -, -, -, -, x5, -, -⟩ := hlev; exact x5) (by rw [← cntB_same sB]; (repeat' split) <;> omega) (by rw [if_pos rfl])
        refine ⟨_, _, rfl, by omega, K1_choose_1 (by decide) (by decide), K1_choose_1 (by decide) (by decide), K1_choose_1 (by decide) (by decide), Or.inr ⟨k, M_choose 0 ((enL p k + 1 : Nat) : Int) T0, ?_, d0, d1, rfl, rfl, lp, h40⟩⟩
        have := LpT_choose0 hp h (by have := d4 c1; omega)
        rw [ec] at this
        exact this
      · rw [if_neg c3, if_neg c3, if_neg (show ¬ (11 : Int) = 10 by decide)]
        have lp := LKd_push (R := R) (pos := k) (w := k) (kd := 1) (way := F (enL p k) + 1) (by omega) w1 (by omega) (by omega) (by omega) (by omega) q35 q37 hm2 hm i4 hX hF hL ⟨⟨m1, m2⟩, m3⟩ (by (repeat' split) <;> omega) (by rw [if_neg (by decide), if_pos rfl])
        have st := (LpT_choose1 hp h d0 d1 c1 (by have := d3 c1 (by omega); omega)).2.2.2.2.2
        refine ⟨_, _, rfl, by omega, K1_choose_1 (by decide) (by decide), K1_choose_1 (by decide) (by decide), K1_choose_1 (by decide) (by decide), Or.inl ⟨?_, ?_⟩⟩
        · show F (enL p k) + 2 = F ((enL p k : Int) + 1).toNat
          rw [e39, fo]
        · show LKd p F N (mi (M_choose 1 k T0) 39 ((enL p k : Int) + 1)) _ ((enL p k : Int) + 1).toNat
          rw [e39]
          exact LKd_cong39 (LKd_go st sB (by omega) lp)
  · rw [if_neg c1, if_pos (show gT T0 (reL p k) < leL p k by omega)]
    exact ⟨_, _, rfl, by omega, rfl, rfl, rfl, Or.inr ⟨k, T0, h, d0, d1, rfl, rfl, hL, h40⟩⟩
