theorem M_put_t (r v : Int) (T : MSt) : (M_put r v T).1 35 = T.1 35 + (if T.2 33 r.toNat = v then 0 else 1) := by
  unfold M_put
  by_cases c : T.2 33 r.toNat = v
  · rw [if_pos c, if_pos c]; omega
  · rw [if_neg c, if_neg c]; rfl
theorem LSt_ad {p : Nat → Nat → Int} {R : Nat → Int} {F : Nat → Int} {N : Nat} {len mz md md' : Int} {x Q : Nat → Int} {T T' : MSt} {S S' : CSt} {rg mk : Nat → Int} {d : Int} {cnt tc tc' : Nat} (hr : StR p R N len mz x Q (snT T) cnt (T.1 35).toNat) (hmd : md ≤ md') (aT : AdT T T' rg d) (aC : CAd tc S S' mk tc') (h : LSt p F N md x Q (snT T) (S.1 36) (sC S) cnt tc) : LSt p F N md' x Q (snT T') (S'.1 36) (sC S') cnt tc' := by
  obtain ⟨-, a2, a3, a4, -⟩ := aT
  obtain ⟨-, c2, -, c4, c5, -⟩ := aC
  rw [c5]
  exact LSt_cong hr hmd (Nat.le_refl _) (fun _ _ => rfl) (fun _ _ _ _ => rfl) (fun m _ b c => a4 _ (by omega)) (fun _ _ => rfl) (fun e _ y => by omega) (fun e c _ _ hc => c4 c hc) h
theorem LKd_ad {p : Nat → Nat → Int} {R : Nat → Int} {F : Nat → Int} {N : Nat} {T T' : MSt} {S S' : CSt} {rg mk : Nat → Int} {d : Int} {tc tc' pos' : Nat} (hr : StR p R N (T.1 4) (T.1 40) (T.2 36) (qT T) (snT T) (T.1 37).toNat (T.1 35).toNat) (aT : AdT T T' rg d) (aC : CAd tc S S' mk tc') (a1 : S.1 10 3 = T.1 38) (a2 : S.1 10 4 = T.1 40) (a3 : S.1 11 3 = 3 * (phi p (T.2 36) (T.1 37).toNat : Int)) (a7 : LSt p F N (2 * T.1 40) (T.2 36) (qT T) (snT T) (S.1 36) (sC S) (T.1 37).toNat tc) (hMR : MR p N (T.2 36) (qT T) pos' rg mk) (hac : (tc' : Int) + cntB p 14 pos' N ≤ T'.1 35 + 2 * T.1 40 + (if p 0 pos' = 1 then 2 else 0)) : LKd p F N T' S' pos' := by
  have l := LSt_ad (md' := 2 * T.1 40 + (if p 0 pos' = 1 then 2 else 0)) hr (by split <;> omega) aT aC a7
  have f := aT.1
  have e37 := f.1 37 (by decide)
  have e38 := f.1 38 (by decide)
  have e40 := f.1 40 (by decide)
  have e36 := f.2.1 36 (by decide) (by decide)
  have eg := aT.2.2.2.2.1
  obtain ⟨c1, c2, c3, c4, c5, c6, c7, c8, -⟩ := aC
  unfold LKd
  rw [e37, e38, e40, e36, qT_ad aT, eg, c6, c7, c3]
  exact ⟨a1, a2, a3, tc', c1, hMR, l, hac⟩
theorem LKm_mk {p : Nat → Nat → Int} {R : Nat → Int} {N pos : Nat} {x Q mk mk' : Nat → Int} (hp : prR p R N) (h : LKm p N x Q pos mk) (e : ∀ y, 70 ≤ y → y < 90 → mk' y = mk y) : LKm p N x Q pos mk' := by
  intro k a b c
  obtain ⟨l0, l1, l3, l4, l5, l6, -⟩ := look_in hp a b
  rw [e _ (by omega) (by omega), e _ (by omega) (by omega)]
  exact h k a b c
theorem SO_group {a : Nat} {p : Nat → Nat → Int} {R : Nat → Int} {N : Nat} {F : Nat → Int} {T T' : MSt} {S S' : CSt} (hrb : RB p R N T) (htr : T.1 35 ≤ 8 * T.1 40 + 48) (h40 : T.1 40 ≤ 500) (h0 : T.1 41 = 0) (h38 : 0 ≤ T.1 38) (h38' : T.1 38 ≤ 24) (hB : CBd a S) (hL : LKd p F N T S (T.1 39).toNat) (f0 : 0 ≤ F (T.1 39).toNat) (f1 : F (T.1 39).toNat ≤ 900) (fn : F ((T.1 39).toNat + 1) = F (T.1 39).toNat + 1) (e39 : T'.1 39 = T.1 39 + 1) (h39 : 0 ≤ T.1 39) (e41 : T'.1 41 = T.1 41) (s10 : S'.1 10 = S.1 10) (hmk : mkB S') (eC : K0_carryOut (F (T.1 39).toNat) S = (0, F (T.1 39).toNat + 1, S')) (hL' : LKd p F N T' S' ((T.1 39).toNat + 1)) : SO a p R N F (F (T.1 39).toNat) S (1, T') := by
  obtain ⟨b4, b3⟩ := LKd_bd hL htr h40 hrb.2.2.2.1
  have l1 := hL.1
  have l2 := hL.2.1
  have q40 := hrb.1.2.2.2.2.2.2.2.2.2.2.2.2.1
  right; left
  refine ⟨_, _, eC, rfl, by show T'.1 41 = 0; omega, CBd_co hB b4 b3 f0 (by omega) eC (by rw [s10]; omega) (by rw [s10]; omega) (by rw [s10]; omega) (by rw [s10]; omega) hmk, by omega, Or.inl ⟨?_, ?_⟩⟩
  · show F (T.1 39).toNat + 1 = F (T'.1 39).toNat
    rw [e39, show (T.1 39 + 1).toNat = (T.1 39).toNat + 1 by omega, fn]
  · show LKd p F N T' S' (T'.1 39).toNat
    rw [e39, show (T.1 39 + 1).toNat = (T.1 39).toNat + 1 by omega]
    exact hL'
theorem zu_90 {g : Nat → Int} {r : Nat} {v : Int} (b : ∀ y, g y ≤ 90000) (h1 : v ≤ 90000) : ∀ y, zu g r v y ≤ 90000 := by
  intro y
  unfold zu
  split
  · exact h1
  · exact b y
theorem SO_open {a : Nat} {p : Nat → Nat → Int} {R : Nat → Int} {N : Nat} {F : Nat → Int} {fit : Nat → Int → Int} {T : MSt} {S : CSt} (hp : prR p R N) (h : RI p R N T) (h0 : T.1 41 = 0) (h40 : T.1 40 ≤ 500) (hB : CBd a S) (hS : SK p F fit N T S) (hL : LKd p F N T S (T.1 39).toNat) (hop : p 0 (T.1 39).toNat = 10) : SO a p R N F (F (T.1 39).toNat) S (M_order T) := by
  have hrb := RI_RB hp h
  have htr := RI_tr h
  obtain ⟨c, h39, i1, i2, i3, i4, i5⟩ := h
  obtain ⟨q8, q9, q10, q11, q4, -, -, -, -, -, q35, q37, q40, q41, -, -⟩ := c
  obtain ⟨w1, w2, w3, w4, w5, w6⟩ := (hp.2.2.1 _ i1.1).2.2.2.2.2.2.2.1 hop
  have hpl := i1.2.1
  have hle := i1.2.2.1
  have cR := hS.1 _ i1.1
  obtain ⟨f0, f1⟩ := cR.1
  obtain ⟨k7, fn, nu⟩ := cR.2.2.2.2.2.2.2.1 hop
  have eM : M_order T = (1, M_put (20 + T.2 9 (T.1 39).toNat) (T.1 38) (mi T 39 (T.1 39 + 1))) := by
    unfold M_order
    rw [q8, hop]
    rfl
  rw [eM, q9]
  have hLL := hL
  obtain ⟨a1, a2, a3, tc, a4, ⟨⟨m1, m2⟩, m3⟩, a7, a8⟩ := hLL
  rw [if_neg (show ¬ p 0 (T.1 39).toNat = 1 by omega), Int.add_zero] at a7
  have aT := AdT_put (T := mi T 39 (T.1 39 + 1)) (r := 20 + p 1 (T.1 39).toNat) (v := T.1 38) q35 (by omega) (by omega) i1.2.2.2.1
  have aC := CAd_set (v := T.1 38) (i := 0 + p 1 (T.1 39).toNat) a4 (by omega) (by omega)
  have eC : K0_carryOut (F (T.1 39).toNat) S = (0, F (T.1 39).toNat + 1, (K1_set (0 + p 1 (T.1 39).toNat) (T.1 38) S).2.2) := by
    rw [coo_7 k7, K0_beginGroup_eq, nu, a1, cw_0]
  have e35 := M_put_t (20 + p 1 (T.1 39).toNat) (T.1 38) (mi T 39 (T.1 39 + 1))
  obtain ⟨-, -, mg⟩ := m1 (p 1 (T.1 39).toNat).toNat (by omega) (by omega)
  have ei : (0 + p 1 (T.1 39).toNat).toNat = (p 1 (T.1 39).toNat).toNat := by omega
  have ej : (20 + p 1 (T.1 39).toNat).toNat = 20 + (p 1 (T.1 39).toNat).toNat := by omega
  have hmk : mkB (K1_set (0 + p 1 (T.1 39).toNat) (T.1 38) S).2.2 := mkB_set hB.2.2 (by omega)
  refine SO_group hrb htr h40 h0 hpl (by omega) hB hL f0 f1 fn (M_put_i39 _ _ _) h39 (M_put_i41 _ _ _) aC.2.2.2.2.2.2.1 hmk eC ?_
  refine LKd_ad (T := mi T 39 (T.1 39 + 1)) i4 aT aC a1 a2 a3 a7 ⟨⟨fun g g1 g9 => ?_, fun h hh h14 => ?_⟩, ?_⟩ ?_
  · have mm := m1 g g1 g9
    have x2 : gT (mi T 39 (T.1 39 + 1)) = gT T := rfl
    rw [ei, ej, x2, zu_ne (show 10 + g ≠ (p 1 (T.1 39).toNat).toNat by omega), zu_ne (show 20 + g ≠ (p 1 (T.1 39).toNat).toNat by omega), zu_ne (show g ≠ 20 + (p 1 (T.1 39).toNat).toNat by omega), zu_ne (show 10 + g ≠ 20 + (p 1 (T.1 39).toNat).toNat by omega)]
    refine ⟨mm.1, mm.2.1, ?_⟩
    by_cases e : g = (p 1 (T.1 39).toNat).toNat
    · rw [e, zu_eq, zu_eq]
    · rw [zu_ne e, zu_ne (show 20 + g ≠ 20 + (p 1 (T.1 39).toNat).toNat by omega)]
      exact mm.2.2
  · have rr := loop_re hp hh h14
    obtain ⟨-, -, -, l3, l4, -⟩ := loop_in hp hh h14
    have x2 : gT (mi T 39 (T.1 39 + 1)) = gT T := rfl
    rw [ei, ej, x2, zu_ne (show reL p h ≠ 20 + (p 1 (T.1 39).toNat).toNat by omega), zu_ne (show rbL p h ≠ 20 + (p 1 (T.1 39).toNat).toNat by omega), zu_ne (show (30 + p 3 h).toNat ≠ (p 1 (T.1 39).toNat).toNat by omega), zu_ne (show (50 + p 3 h).toNat ≠ (p 1 (T.1 39).toNat).toNat by omega)]
    rw [pif_iff (P := inB p h ((T.1 39).toNat + 1)) (Q := inB p h (T.1 39).toNat) (w5 h (fun y => by rw [y, hop] at h14; exact absurd h14 (by decide))).symm]
    exact m2 h hh h14
  · refine LKm_mk hp (LKm_go (pos := (T.1 39).toNat) (fun h hh h12 hb => (w5 h (fun y => by rw [y, hop] at h12; exact absurd h12 (by decide))).mpr hb) m3) (fun y y0 y1 => zu_ne (by omega))
  · have cb := cntB_but (q := 14) w5 inB_not_self w6 N
    rw [if_neg (fun y => by rw [hop] at y; exact absurd y.2 (by decide))] at cb
    rw [e35, if_pos w2]
    have x1 : (mi T 39 (T.1 39 + 1)).1 35 = T.1 35 := rfl
    have x3 : (mi T 39 (T.1 39 + 1)).1 40 = T.1 40 := rfl
    have x4 : (mi T 39 (T.1 39 + 1)).2 33 (20 + p 1 (T.1 39).toNat).toNat = S.1 35 (0 + p 1 (T.1 39).toNat).toNat := by
      rw [ei, ej, mg, gT_at (by omega)]
      rfl
    rw [x1, x3, x4]
    rw [if_neg (by omega)] at a8
    split <;> omega
theorem SO_close {a : Nat} {p : Nat → Nat → Int} {R : Nat → Int} {N : Nat} {F : Nat → Int} {fit : Nat → Int → Int} {T : MSt} {S : CSt} (hp : prR p R N) (h : RI p R N T) (h0 : T.1 41 = 0) (h40 : T.1 40 ≤ 500) (hB : CBd a S) (hS : SK p F fit N T S) (hL : LKd p F N T S (T.1 39).toNat) (hop : p 0 (T.1 39).toNat = 11) : SO a p R N F (F (T.1 39).toNat) S (M_order T) := by
  have hrb := RI_RB hp h
  have htr := RI_tr h
  obtain ⟨c, h39, i1, i2, i3, i4, i5⟩ := h
  obtain ⟨q8, q9, q10, q11, q4, -, -, -, -, -, q35, q37, q40, q41, -, -⟩ := c
  obtain ⟨w1, w3, w4, q, qr, hq, eq1, ib, nib, bB⟩ := (hp.2.2.1 _ i1.1).2.2.2.2.2.2.2.2.1 hop
  have hpl := i1.2.1
  have hle := i1.2.2.1
  have cR := hS.1 _ i1.1
  obtain ⟨f0, f1⟩ := cR.1
  obtain ⟨k8, fn, nu⟩ := cR.2.2.2.2.2.2.2.2.1 hop
  have eM : M_order T = (1, M_put (10 + T.2 9 (T.1 39).toNat) (T.1 38) (M_put (T.2 9 (T.1 39).toNat) (T.2 33 (20 + T.2 9 (T.1 39).toNat).toNat) (mi T 39 (T.1 39 + 1)))) := by
    unfold M_order
    rw [q8, hop]
    rfl
  rw [eM, q9]
  have hLL := hL
  obtain ⟨a1, a2, a3, tc, a4, ⟨⟨m1, m2⟩, m3⟩, a7, a8⟩ := hLL
  rw [if_neg (show ¬ p 0 (T.1 39).toNat = 1 by omega), Int.add_zero] at a7
  obtain ⟨mg1, mg2, mg3⟩ := m1 (p 1 (T.1 39).toNat).toNat (by omega) (by omega)
  have b6 := i1.2.2.2.2.2.2.1 q (by have := i1.1; omega) hq ib
  rw [eq1] at b6
  have ei : (0 + p 1 (T.1 39).toNat).toNat = (p 1 (T.1 39).toNat).toNat := by omega
  have e10 : (10 + p 1 (T.1 39).toNat).toNat = 10 + (p 1 (T.1 39).toNat).toNat := by omega
  have ej : (20 + p 1 (T.1 39).toNat).toNat = 20 + (p 1 (T.1 39).toNat).toNat := by omega
  rw [ej] at b6
  have g20 : T.2 33 (20 + p 1 (T.1 39).toNat).toNat = gT T (20 + (p 1 (T.1 39).toNat).toNat) := by rw [ej]; exact (gT_at (by omega)).symm
  have k20 : K1_mark (0 + p 1 (T.1 39).toNat) S = gT T (20 + (p 1 (T.1 39).toNat).toNat) := by rw [K1_mk (by omega) (by omega), ei]; exact mg3
  rw [g20]
  have eC : K0_carryOut (F (T.1 39).toNat) S = (0, F (T.1 39).toNat + 1, (K1_set (20 + p 1 (T.1 39).toNat) (T.1 38) (K1_set (10 + p 1 (T.1 39).toNat) (gT T (20 + (p 1 (T.1 39).toNat).toNat)) S).2.2).2.2) := by
    rw [coo_8 k8, K0_endGroup_eq, nu, a1, k20, cw_0]
  have x2 : gT (mi T 39 (T.1 39 + 1)) = gT T := rfl
  generalize hvv : gT T (20 + (p 1 (T.1 39).toNat).toNat) = vv at *
  have t1 := AdT_put (T := mi T 39 (T.1 39 + 1)) (r := p 1 (T.1 39).toNat) (v := vv) q35 (by omega) (by omega) i1.2.2.2.1
  have b1 : ∀ y, y < 130 → -1 ≤ gT (M_put (p 1 (T.1 39).toNat) vv (mi T 39 (T.1 39 + 1))) y ∧ gT (M_put (p 1 (T.1 39).toNat) vv (mi T 39 (T.1 39 + 1))) y ≤ 34 := by
    rw [t1.2.2.2.2.1]
    exact zu_bd i1.2.2.2.1 (by omega) (by omega)
  have t2 := AdT_put (T := M_put (p 1 (T.1 39).toNat) vv (mi T 39 (T.1 39 + 1))) (r := 10 + p 1 (T.1 39).toNat) (v := T.1 38) (by have := t1.2.2.1; have e : (mi T 39 (T.1 39 + 1)).1 35 = T.1 35 := rfl; omega) (by omega) (by omega) b1
  have aT := AdT_trans t1 t2
  have s1 := CAd_set (v := vv) (i := 10 + p 1 (T.1 39).toNat) a4 (by omega) (by omega)
  have s2 := CAd_set (v := T.1 38) (i := 20 + p 1 (T.1 39).toNat) s1.1 (by omega) (by omega)
  have mk1 : mkB (K1_set (10 + p 1 (T.1 39).toNat) vv S).2.2 := mkB_set hB.2.2 (by omega)
  have hmk : mkB (K1_set (20 + p 1 (T.1 39).toNat) (T.1 38) (K1_set (10 + p 1 (T.1 39).toNat) vv S).2.2).2.2 := mkB_set mk1 (by omega)
  have aC := CAd_trans s1 s2 (fun _ => by rw [← s1.2.2.1]; exact mk1.1)
  rw [t1.2.2.2.2.1, x2, e10] at aT
  rw [s1.2.2.1, e10, ej] at aC
  have e35a := M_put_t (p 1 (T.1 39).toNat) vv (mi T 39 (T.1 39 + 1))
  have e35b := M_put_t (10 + p 1 (T.1 39).toNat) (T.1 38) (M_put (p 1 (T.1 39).toNat) vv (mi T 39 (T.1 39 + 1)))
  refine SO_group hrb htr h40 h0 hpl (by omega) hB hL f0 f1 fn ((M_put_i39 _ _ _).trans (M_put_i39 _ _ _)) h39 ((M_put_i41 _ _ _).trans (M_put_i41 _ _ _)) aC.2.2.2.2.2.2.1 hmk eC ?_
  generalize hgg : (p 1 (T.1 39).toNat).toNat = gg at *
  refine LKd_ad (T := mi T 39 (T.1 39 + 1)) i4 aT aC a1 a2 a3 a7 ⟨⟨fun g g1 g9 => ?_, fun h hh h14 => ?_⟩, ?_⟩ ?_
  · have mm := m1 g g1 g9
    rw [zu_ne (show g ≠ 20 + gg by omega), zu_ne (show g ≠ 10 + gg by omega), zu_ne (show g ≠ 10 + gg by omega), zu_ne (show 10 + g ≠ 20 + gg by omega), zu_ne (f := zu (gT T) gg vv) (show 20 + g ≠ 10 + gg by omega), zu_ne (f := gT T) (show 20 + g ≠ gg by omega)]
    by_cases e : g = gg
    · subst e
      rw [zu_eq, zu_eq, zu_eq, zu_eq]
      exact ⟨rfl, rfl, mm.2.2⟩
    · rw [zu_ne (f := S.1 35) (show 10 + g ≠ 10 + gg by omega), zu_ne (show 20 + g ≠ 20 + gg by omega), zu_ne (f := S.1 35) (show 20 + g ≠ 10 + gg by omega), zu_ne e, zu_ne (show 10 + g ≠ 10 + gg by omega), zu_ne (show 10 + g ≠ gg by omega)]
      exact mm
  · have rr := loop_re hp hh h14
    obtain ⟨-, -, -, l3, l4, -⟩ := loop_in hp hh h14
    rw [zu_ne (show reL p h ≠ 10 + gg by omega), zu_ne (show reL p h ≠ gg by omega), zu_ne (show rbL p h ≠ 10 + gg by omega), zu_ne (show rbL p h ≠ gg by omega), zu_ne (show (30 + p 3 h).toNat ≠ 20 + gg by omega), zu_ne (show (30 + p 3 h).toNat ≠ 10 + gg by omega), zu_ne (show (50 + p 3 h).toNat ≠ 20 + gg by omega), zu_ne (show (50 + p 3 h).toNat ≠ 10 + gg by omega)]
    rw [pif_iff (P := inB p h ((T.1 39).toNat + 1)) (Q := inB p h (T.1 39).toNat) (bB h (fun y => by rw [y, hq] at h14; exact absurd h14 (by decide))).symm]
    exact m2 h hh h14
  · refine LKm_mk hp (LKm_go (pos := (T.1 39).toNat) (fun h hh h12 hb => (bB h (fun y => by rw [y, hq] at h12; exact absurd h12 (by decide))).mpr hb) m3) (fun y y0 y1 => by rw [zu_ne (show y ≠ 20 + gg by omega), zu_ne (show y ≠ 10 + gg by omega)])
  · have cb := cntB_but (q := 14) (b := q) (r := (T.1 39).toNat + 1) (x := (T.1 39).toNat) (fun h ne => (bB h ne).symm) nib ib N
    rw [if_neg (fun y => by rw [hq] at y; exact absurd y.2 (by decide))] at cb
    rw [if_neg (by omega)] at a8
    rw [e35b, e35a]
    have x1 : (mi T 39 (T.1 39 + 1)).1 35 = T.1 35 := rfl
    have x3 : (mi T 39 (T.1 39 + 1)).1 40 = T.1 40 := rfl
    have y1 : (mi T 39 (T.1 39 + 1)).2 33 gg = S.1 35 (10 + gg) := by
      rw [mg1, gT_at (by omega)]
      rfl
    have y2 : (M_put (p 1 (T.1 39).toNat) vv (mi T 39 (T.1 39 + 1))).2 33 (10 + p 1 (T.1 39).toNat).toNat = zu (S.1 35) (10 + gg) vv (20 + gg) := by
      rw [zu_ne (show 20 + gg ≠ 10 + gg by omega), mg2, e10]
      have z : gT (M_put (p 1 (T.1 39).toNat) vv (mi T 39 (T.1 39 + 1))) (10 + gg) = gT T (10 + gg) := by
        rw [t1.2.2.2.2.1, zu_ne (show 10 + gg ≠ gg by omega)]
        rfl
      rw [gT_at (show 10 + gg < 130 by omega)] at z
      exact z
    rw [x1, x3, y2]
    have y1' : (mi T 39 (T.1 39 + 1)).2 33 (p 1 (T.1 39).toNat).toNat = S.1 35 (10 + gg) := by rw [hgg]; exact y1
    first | rw [y1'] | rw [y1]
    have := dcp_nn (p 0 ((T.1 39).toNat + 1))
    (repeat' split) <;> omega
