theorem SO_dec {a : Nat} {p : Nat → Nat → Int} {R : Nat → Int} {N : Nat} {F : Nat → Int} {fit : Nat → Int → Int} {T T0 : MSt} {S S1 : CSt} {k : Nat} {kk : Int} (hp : prR p R N) (h : LpT p R N k T0) (hd : DPr p R N (gT T0) (T0.1 38) (T0.1 37).toNat (T0.1 40) k) (h40 : T0.1 40 ≤ 500) (h41 : T0.1 41 = 0) (hL : LKd p F N T0 S1 k) (hX : sV S1) (hF : 192 ≤ S1.2.2.2 36) (hm : mkB S1) (hS : SK p F fit N T S1) (hB : CBd a S) (b4 : S.1 11 4 ≤ 11900) (b3 : S.1 11 3 ≤ 8990) (k0 : 0 ≤ kk) (k1 : kk ≤ 900) (eC : K0_carryOut kk S = cw (K0_choosePass (F (enL p k)) S1)) : SO a p R N F kk S (1, M_decide k T0) := by
  obtain ⟨v, S', e1, e2, e3, e4, e5, e6⟩ := CP_all (fit := fit) (a := a) hp h hd h40 hL hX hF hS
  rw [e1, cw_0] at eC
  have w1 := h.2.2.2.1.2.1
  have w2 := h.2.2.2.1.2.2.1
  have q4 := h.1.2.2.2.2.1
  have q40 := h.1.2.2.2.2.2.2.2.2.2.2.2.2.1
  have l1 := hL.1
  have l2 := hL.2.1
  right; left
  refine ⟨v, S', eC, rfl, ?_, CBd_co hB b4 b3 k0 (by omega) eC (by rw [e3]; omega) (by rw [e3]; omega) (by rw [e3]; omega) (by rw [e3]; omega) (mkB_of e4 e5 hm), e2, e6⟩
  show (M_decide k T0).1 41 = 0
  rw [M_decide_41]; exact h41
theorem SO_loop {a : Nat} {p : Nat → Nat → Int} {R : Nat → Int} {N : Nat} {F : Nat → Int} {fit : Nat → Int → Int} {T : MSt} {S : CSt} (hp : prR p R N) (h : RI p R N T) (h0 : T.1 41 = 0) (h40 : T.1 40 ≤ 500) (hB : CBd a S) (hS : SK p F fit N T S) (hL : LKd p F N T S (T.1 39).toNat) (hop : p 0 (T.1 39).toNat = 14) : SO a p R N F (F (T.1 39).toNat) S (M_order T) := by
  have hrb := RI_RB hp h
  have htr := RI_tr h
  obtain ⟨c, h39, i1, i2, i3, i4, i5⟩ := h
  have c' := c
  obtain ⟨q8, q9, q10, q11, q4, -, -, -, -, -, q35, q37, q40, q41, -, -⟩ := c'
  have eM : M_order T = (1, M_decide (T.1 39) (M_put (30 + T.2 11 (T.1 39).toNat) 0 (mi T 39 (T.1 39 + 1)))) := by
    unfold M_order
    rw [q8, hop]
    rfl
  rw [eM, q11]
  obtain ⟨z4, z3⟩ := LKd_bd hL htr h40 hrb.2.2.2.1
  have e39 : T.1 39 = (((T.1 39).toNat : Nat) : Int) := by omega
  generalize hk : (T.1 39).toNat = k at *
  rw [e39]
  have hkN := i1.1
  obtain ⟨l0, l1, l2, l3, l4, l5, l6, l7, l8, l9, l10, l11, l12, l13⟩ := loop_in hp hkN hop
  have cR := hS.1 k hkN
  obtain ⟨f0, f1⟩ := cR.1
  obtain ⟨k9, am, fn, kd, nu, -⟩ := cR.2.2.2.2.2.2.2.2.2.2.2.1 hop
  obtain ⟨⟨g0, g1⟩, -⟩ := hS.1 (enL p k) l9
  have aT := AdT_put (T := mi T 39 ((k : Int) + 1)) (r := 30 + p 3 k) (v := 0) q35 (by omega) (by omega) i1.2.2.2.1
  have e35 := M_put_t (30 + p 3 k) 0 (mi T 39 ((k : Int) + 1))
  have e41 : (M_put (30 + p 3 k) 0 (mi T 39 ((k : Int) + 1))).1 41 = T.1 41 := M_put_i41 _ _ _
  have f := aT.1
  generalize hT' : M_put (30 + p 3 k) 0 (mi T 39 ((k : Int) + 1)) = T' at aT f e35 e41 ⊢
  have e4 : T'.1 4 = T.1 4 := f.1 4 (by decide)
  have e37 : T'.1 37 = T.1 37 := f.1 37 (by decide)
  have e38 : T'.1 38 = T.1 38 := f.1 38 (by decide)
  have e40 : T'.1 40 = T.1 40 := f.1 40 (by decide)
  have e36 : T'.2 36 = T.2 36 := f.2.1 36 (by decide) (by decide)
  have eq : qT T' = qT T := by have h1 := qT_ad aT; exact h1
  have eg : gT T' = zu (gT T) (reL p k) 0 := aT.2.2.2.2.1
  have dO : dcp (p 0 k) = 0 := by rw [hop]; rfl
  have cO : crp (p 0 k) = 0 := by rw [hop]; rfl
  have rr := loop_re hp hkN hop
  have lp : LpT p R N k T' := by
    refine ⟨CfT_ad (T := mi T 39 ((k : Int) + 1)) c aT, hkN, hop, ?_, ?_, ?_⟩
    · rw [e4, e37, e38, e36, eq, eg]
      refine RSb_ad aT i4 (RSb_regs hp.1 i1 (zu_bd i1.2.2.2.1 (by omega) (by omega)) (fun g g1 g9 => ?_) (fun j hj j14 jb => ?_) (fun j hj j10 _ => ?_))
      · rw [zu_ne (show g ≠ reL p k by omega), zu_ne (show 10 + g ≠ reL p k by omega)]
        exact i1.2.2.2.2.1 g g1 g9
      · have ne := loop_ne hp hj hkN j14 hop (fun y => by subst y; exact inB_not_self jb)
        exact ⟨zu_ne ne.1, zu_ne ne.2.2.2.1⟩
      · have o := (hp.2.2.1 j hj).2.2.2.2.2.2.2.1 j10
        exact zu_ne (by omega)
    · rw [eg, e40]
      have a6 := aT.2.2.2.2.2.1
      have wg : ∀ v : Int, (if v = 0 then 0 else 1 - wgt (30 + p 3 k).toNat v + wgt (30 + p 3 k).toNat 0) ≤ 0 := by
        intro v
        unfold wgt
        rw [if_neg (show ¬ ((1 ≤ (30 + p 3 k).toNat ∧ (30 + p 3 k).toNat ≤ 9) ∨ (11 ≤ (30 + p 3 k).toNat ∧ (30 + p 3 k).toNat ≤ 19)) by omega), if_neg (show ¬ ((1 ≤ (30 + p 3 k).toNat ∧ (30 + p 3 k).toNat ≤ 9) ∨ (11 ≤ (30 + p 3 k).toNat ∧ (30 + p 3 k).toNat ≤ 19)) by omega), if_pos (show 30 ≤ (30 + p 3 k).toNat ∧ (30 + p 3 k).toNat < 50 by omega), if_pos (show 30 ≤ (30 + p 3 k).toNat ∧ (30 + p 3 k).toNat < 50 by omega), if_pos rfl]
        split <;> omega
      have wg' := wg (gT (mi T 39 ((k : Int) + 1)) (30 + p 3 k).toNat)
      have x1 : (mi T 39 ((k : Int) + 1)).1 35 = T.1 35 := rfl
      have x2 : gT (mi T 39 ((k : Int) + 1)) = gT T := rfl
      have x3 : (30 + p 3 k).toNat = reL p k := rfl
      rw [x2, x3] at a6 wg'
      omega
    · rw [e4, e37, e40, e36, eq]
      exact StR_ad aT i4
  have dp : DPr p R N (gT T') (T'.1 38) (T'.1 37).toNat (T'.1 40) k := by
    rw [eg, e37, e38, e40]
    exact DPr_loop hp hkN hop i1.2.1 (by omega)
  -- the class
  have hLL := hL
  obtain ⟨a1, a2, a3, tc, a4, ⟨⟨m1, m2⟩, m3⟩, a7, a8⟩ := hLL
  rw [if_neg (show ¬ p 0 k = 1 by omega), Int.add_zero] at a7 a8
  have s1 := CAd_set (v := 0) (i := 30 + p 3 k) a4 (by omega) (by omega)
  have mk1 : mkB (K1_set (30 + p 3 k) 0 S).2.2 := mkB_set hB.2.2 (by omega)
  have oko := oK_set (i := 30 + p 3 k) (v := 0) (a := a) ⟨hB.1, hB.2.1.1, hB.2.1.2.1, z4, z3⟩ (by omega) (by omega) (by omega)
  obtain ⟨ml, mr⟩ := m2 k hkN hop
  have nik : ¬ inB p k k := inB_not_self
  rw [pif_neg nik, Int.add_zero] at ml
  have lk : LKd p F N T' (K1_set (30 + p 3 k) 0 S).2.2 k := by
    refine LKd_ad (T := mi T 39 ((k : Int) + 1)) i4 aT s1 a1 a2 a3 a7 ⟨⟨fun g y1 y9 => ?_, fun j hj j14 => ?_⟩, ?_⟩ ?_
    · have x2 : gT (mi T 39 ((k : Int) + 1)) = gT T := rfl
      rw [x2, zu_ne (show 10 + g ≠ (30 + p 3 k).toNat by omega), zu_ne (show 20 + g ≠ (30 + p 3 k).toNat by omega), zu_ne (show g ≠ (30 + p 3 k).toNat by omega), zu_ne (show g ≠ (30 + p 3 k).toNat by omega), zu_ne (show 10 + g ≠ (30 + p 3 k).toNat by omega), zu_ne (show 20 + g ≠ (30 + p 3 k).toNat by omega)]
      exact m1 g y1 y9
    · obtain ⟨j0, j1, j2, j3, j4, -⟩ := loop_in hp hj j14
      have x2 : gT (mi T 39 ((k : Int) + 1)) = gT T := rfl
      rw [x2]
      by_cases e : j = k
      · subst e
        have x3 : (30 + p 3 j).toNat = reL p j := rfl
        rw [x3, zu_eq, zu_eq, pif_neg nik, zu_ne (show rbL p j ≠ reL p j by omega), zu_ne (show (50 + p 3 j).toNat ≠ reL p j by rw [← x3]; omega)]
        exact ⟨rfl, mr⟩
      · have ne := loop_ne hp hj hkN j14 hop e
        have n3 : p 3 j ≠ p 3 k := fun y => e (hp.2.2.2.1 j k hj hkN j14 hop y)
        have x3 : (30 + p 3 k).toNat = reL p k := rfl
        rw [zu_ne (show (30 + p 3 j).toNat ≠ (30 + p 3 k).toNat by omega), zu_ne (show (50 + p 3 j).toNat ≠ (30 + p 3 k).toNat by omega), x3, zu_ne ne.1, zu_ne ne.2.2.2.1]
        exact m2 j hj j14
    · exact LKm_mk hp m3 (fun y y0 y1 => zu_ne (by omega))
    · rw [e35]
      have x1 : (mi T 39 ((k : Int) + 1)).1 35 = T.1 35 := rfl
      have x4 : (mi T 39 ((k : Int) + 1)).1 40 = T.1 40 := rfl
      have x5 : (mi T 39 ((k : Int) + 1)).2 33 (30 + p 3 k).toNat = S.1 35 (30 + p 3 k).toNat := by
        rw [← ml, gT_at (by omega)]; rfl
      rw [x1, x4, x5]
      (repeat' split) <;> omega
  refine SO_dec (T := T) (fit := fit) hp lp dp (by omega) (by omega) lk oko.2.1 (by rw [s1.2.2.2.2.2.2.2.2.1]; exact hB.1.2.2.1) mk1 (SK_cong (frM_refl T) s1.2.2.2.2.2.2.2.1 hS) hB z4 z3 f0 f1 ?_
  rw [coo_9 k9, K0_enterLoop_eq, am, if_neg (by omega), nu]
theorem SO_again {a : Nat} {p : Nat → Nat → Int} {R : Nat → Int} {N : Nat} {F : Nat → Int} {fit : Nat → Int → Int} {T : MSt} {S : CSt} (hp : prR p R N) (h : RI p R N T) (h0 : T.1 41 = 0) (h40 : T.1 40 ≤ 500) (hB : CBd a S) (hS : SK p F fit N T S) (hL : LKd p F N T S (T.1 39).toNat) (hop : p 0 (T.1 39).toNat = 15) : SO a p R N F (F (T.1 39).toNat) S (M_order T) := by
  have hrb := RI_RB hp h
  have htr := RI_tr h
  obtain ⟨c, h39, i1, i2, i3, i4, i5⟩ := h
  have c' := c
  obtain ⟨q8, q9, q10, q11, q4, -, -, -, -, -, q35, q37, q40, q41, -, -⟩ := c'
  obtain ⟨y0, y1, y2, y3⟩ := (hp.2.2.1 _ i1.1).2.2.2.2.2.2.2.2.2.2.2.2.1 hop
  have eM : M_order T = if zb (M_isIdle (T.2 9 (T.1 39).toNat) (mi T 39 (T.1 39 + 1))) = 0 then (1, M_decide (T.2 9 (T.1 39).toNat) (mi T 39 (T.1 39 + 1))) else (0, mi T 39 (T.1 39 + 1)) := by
    unfold M_order
    rw [q8, hop]
    rfl
  rw [eM, q9]
  obtain ⟨z4, z3⟩ := LKd_bd hL htr h40 hrb.2.2.2.1
  have hN := i1.1
  have hkN : (p 1 (T.1 39).toNat).toNat < N := by omega
  have e39 : p 1 (T.1 39).toNat = (((p 1 (T.1 39).toNat).toNat : Nat) : Int) := by omega
  obtain ⟨k, hk⟩ : ∃ k, (p 1 (T.1 39).toNat).toNat = k := ⟨_, rfl⟩
  rw [hk] at y2 y3 e39 hkN
  obtain ⟨l0, l1, l2, l3, l4, l5, l6, l7, l8, l9, l10, l11, l12, l13⟩ := loop_in hp hkN y2
  have rr := loop_re hp hkN y2
  have cR := hS.1 k hkN
  obtain ⟨k9, am, fn, kd, nu, -, -, -, -, le, -⟩ := cR.2.2.2.2.2.2.2.2.2.2.2.1 y2
  obtain ⟨⟨g0, g1⟩, -⟩ := hS.1 (enL p k) l9
  have hid : M_isIdle (p 1 (T.1 39).toNat) (mi T 39 (T.1 39 + 1)) ↔ lockL p (gT T) (T.1 38) k := by
    show (T.2 9 (p 1 (T.1 39).toNat).toNat % 128 < T.2 33 (30 + T.2 11 (p 1 (T.1 39).toNat).toNat).toNat ∧ T.2 33 (80 + T.2 11 (p 1 (T.1 39).toNat).toNat).toNat = T.1 38) ↔ _
    unfold lockL
    rw [q9, q11, hk, gT_at (show reL p k < 130 by omega), gT_at (show rbL p k < 130 by omega)]
    exact Iff.rfl
  have sO : p 0 (T.1 39).toNat ≠ 1 := by omega
  have cO : crp (p 0 (T.1 39).toNat) = 0 := by rw [hop]; rfl
  have dO : dcp (p 0 (T.1 39).toNat) = 0 := by rw [hop]; rfl
  have hBK := LKd_BK sO hL
  rw [e39] at hid
  rw [e39]
  rw [← y3] at i1 i2 i3 hN hL sO cO dO
  have hLL := hL
  obtain ⟨a1, a2, a3, tc, a4, ⟨⟨m1, m2⟩, m3⟩, a7, a8⟩ := hLL
  rw [if_neg sO, Int.add_zero] at a7 a8
  obtain ⟨ml, mr⟩ := m2 k hkN y2
  rw [pif_pos l6] at ml
  have c10 : K0_carryOut (F (enL p k)) S = cw (K0_endPass (F (enL p k)) S) := by
    by_cases e : p 1 k < 65536
    · rw [if_pos e] at kd; exact coo_10 kd
    · rw [if_neg e] at kd; exact coo_11 kd
  have mk30 : K1_mark (30 + p 3 k) S = gT T (reL p k) - 1 := by rw [K1_mk (by omega) (by omega)]; omega
  have mk50 : K1_mark (50 + p 3 k) S = gT T (rbL p k) := by rw [K1_mk (by omega) (by omega), mr]
  have eE : K0_endPass (F (enL p k)) S = if leL p k < gT T (reL p k) ∧ gT T (rbL p k) = T.1 38 then (0, -1, S) else K0_choosePass (F (enL p k)) (K1_set (30 + p 3 k) (gT T (reL p k)) S).2.2 := by
    rw [K0_endPass_eq, nu, le, mk30, mk50, a1, show gT T (reL p k) - 1 + 1 = gT T (reL p k) by omega]
  rw [← y3]
  unfold zb
  by_cases ci : M_isIdle (k : Int) (mi T 39 (T.1 39 + 1))
  · have lk := hid.mp ci
    rw [if_pos ci, if_neg (by decide)]
    right; right; left
    refine ⟨S, ?_, rfl, h0, hB, hBK⟩
    rw [c10, eE, if_pos (show leL p k < gT T (reL p k) ∧ gT T (rbL p k) = T.1 38 from lk), cw_0]
  · rw [if_neg ci, if_pos rfl]
    have nl : ¬ lockL p (gT T) (T.1 38) k := fun y => ci (hid.mpr y)
    have lo := fun h => loop_out (h := h) hp hkN y2
    have lp : LpT p R N k (mi T 39 (T.1 39 + 1)) := by
      refine ⟨CfT_39 c, hkN, y2, RSb_sub hkN (fun h hb => ((lo h).2.1 (fun y => by subst y; exact inB_not_self hb)).mpr hb) (fun m hm m2 hb => ?_) i1, ?_, i4⟩
      · refine ((lo _).2.1 (fun y => ?_)).mp hb
        have h12 := (i4.1 m hm).1.2.2.2.2.2.2.1 m2
        have y' : (T.2 36 m / 4 % 256).toNat = k := y
        rw [y', y2] at h12
        exact absurd h12 (by decide)
      · show T.1 35 + Wr (gT T) 130 + 4 * cntB p 10 k N ≤ 8 * T.1 40 + 40
        have cb := cntB_but (q := 10) (b := k) (r := k) (x := enL p k) (fun h ne => ((lo h).2.1 ne).symm) inB_not_self l6 N
        rw [if_neg (fun y => by rw [y2] at y; exact absurd y.2 (by decide))] at cb
        omega
    have dp : DPr p R N (gT T) (T.1 38) (T.1 37).toNat (T.1 40) k := DPr_again hp hkN y2 i1 nl (by omega)
    have gb := i1.2.2.2.1 (reL p k) (by omega)
    have s1 := CAd_set (v := gT T (reL p k)) (i := 30 + p 3 k) a4 (by omega) (by omega)
    have mk1 : mkB (K1_set (30 + p 3 k) (gT T (reL p k)) S).2.2 := mkB_set hB.2.2 (by omega)
    have oko := oK_set (i := 30 + p 3 k) (v := gT T (reL p k)) (a := a) ⟨hB.1, hB.2.1.1, hB.2.1.2.1, z4, z3⟩ (by omega) (by omega) (by omega)
    have aT : AdT (mi T 39 (T.1 39 + 1)) (mi T 39 (T.1 39 + 1)) (gT T) 0 := ⟨⟨fun _ _ => rfl, fun _ _ _ => rfl, fun _ _ => rfl⟩, q35, Int.le_refl _, fun _ _ => rfl, rfl, by show T.1 35 + _ ≤ T.1 35 + Wr (gT T) 130 + 0; omega, fun y => y⟩
    have lk : LKd p F N (mi T 39 (T.1 39 + 1)) (K1_set (30 + p 3 k) (gT T (reL p k)) S).2.2 k := by
      refine LKd_ad (T := mi T 39 (T.1 39 + 1)) i4 aT s1 a1 a2 a3 a7 ⟨⟨fun g y1 y9 => ?_, fun j hj j14 => ?_⟩, ?_⟩ ?_
      · rw [zu_ne (show 10 + g ≠ (30 + p 3 k).toNat by omega), zu_ne (show 20 + g ≠ (30 + p 3 k).toNat by omega), zu_ne (show g ≠ (30 + p 3 k).toNat by omega)]
        exact m1 g y1 y9
      · obtain ⟨j0, j1, j2, j3, j4, -⟩ := loop_in hp hj j14
        by_cases e : j = k
        · subst e
          have nik : ¬ inB p j j := inB_not_self
          rw [zu_eq, pif_neg nik, zu_ne (show (50 + p 3 j).toNat ≠ (30 + p 3 j).toNat by omega)]
          exact ⟨by omega, mr⟩
        · have n3 : p 3 j ≠ p 3 k := fun y => e (hp.2.2.2.1 j k hj hkN j14 y2 y)
          rw [zu_ne (show (30 + p 3 j).toNat ≠ (30 + p 3 k).toNat by omega), zu_ne (show (50 + p 3 j).toNat ≠ (30 + p 3 k).toNat by omega), ← pif_iff (P := inB p j (enL p k)) (Q := inB p j k) ((lo j).2.1 e)]
          exact m2 j hj j14
      · exact LKm_mk hp (LKm_go (fun j hj j12 jb => ((lo j).2.1 (fun y => by subst y; exact inB_not_self jb)).mpr jb) m3) (fun y y0 y1 => zu_ne (by omega))
      · have cb := cntB_but (q := 14) (b := k) (r := k) (x := enL p k) (fun h ne => ((lo h).2.1 ne).symm) inB_not_self l6 N
        rw [if_pos ⟨hkN, y2⟩] at cb
        show _ ≤ T.1 35 + 2 * T.1 40 + _
        (repeat' split) <;> omega
    refine SO_dec (T := T) (fit := fit) hp lp dp h40 h0 lk oko.2.1 (by rw [s1.2.2.2.2.2.2.2.2.1]; exact hB.1.2.2.1) mk1 (SK_cong (frM_refl T) s1.2.2.2.2.2.2.2.1 hS) hB z4 z3 g0 g1 ?_
    rw [c10, eE, if_neg (show ¬ (leL p k < gT T (reL p k) ∧ gT T (rbL p k) = T.1 38) from nl)]
theorem SO_order {a : Nat} {p : Nat → Nat → Int} {R : Nat → Int} {N : Nat} {F : Nat → Int} {fit : Nat → Int → Int} {T : MSt} {S : CSt} (hp : prR p R N) (h : RI p R N T) (h0 : T.1 41 = 0) (hB : CBd a S) (hS : SK p F fit N T S) (hL : LKd p F N T S (T.1 39).toNat) (h16 : p 0 (T.1 39).toNat ≠ 16) : SO a p R N F (F (T.1 39).toNat) S (M_order T) := by
  have h40 : T.1 40 ≤ 500 := (CfT_step h.1 h0).2
  have o0 := (hp.2.2.1 _ h.2.2.1.1).1
  by_cases e1 : p 0 (T.1 39).toNat = 1
  · exact SO_begin hp h h0 hB hS hL e1
  by_cases e2 : p 0 (T.1 39).toNat = 2
  · exact SO_go hp h h0 hB hS hL e2
  by_cases e3 : p 0 (T.1 39).toNat ≤ 6
  · exact SO_leaf hp h h0 hB hS hL (by omega) e3
  by_cases e7 : p 0 (T.1 39).toNat = 7
  · exact SO_same hp h h0 hB hS hL e7
  by_cases e10 : p 0 (T.1 39).toNat = 10
  · exact SO_open hp h h0 h40 hB hS hL e10
  by_cases e11 : p 0 (T.1 39).toNat = 11
  · exact SO_close hp h h0 h40 hB hS hL e11
  by_cases e12 : p 0 (T.1 39).toNat = 12
  · exact SO_look hp h h0 h40 hB hS hL e12
  by_cases e13 : p 0 (T.1 39).toNat = 13
  · exact SO_looked hp h h0 h40 hB hS hL e13
  by_cases e14 : p 0 (T.1 39).toNat = 14
  · exact SO_loop hp h h0 h40 hB hS hL e14
  by_cases e15 : p 0 (T.1 39).toNat = 15
  · exact SO_again hp h h0 h40 hB hS hL e15
  exact SO_ends hp h h0 hB hS hL (by omega)
