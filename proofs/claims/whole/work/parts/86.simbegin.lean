theorem LSt_ml {p : Nat → Nat → Int} {R : Nat → Int} {F : Nat → Int} {N : Nat} {len mz md md' : Int} {x Q : Nat → Int} {sn : Nat → Nat → Int} {y : Nat → Int} {sc : Nat → Nat → Int} {cnt tc tr : Nat} (hr : StR p R N len mz x Q sn cnt tr) (hmd : md ≤ md') (h : LSt p F N md x Q sn y sc cnt tc) : LSt p F N md' x Q sn y sc cnt tc :=
  LSt_cong hr hmd (Nat.le_refl _) (fun _ _ => rfl) (fun _ _ _ _ => rfl) (fun _ _ _ _ => rfl) (fun _ _ => rfl) (fun _ _ y => y) (fun _ _ _ _ _ => rfl) h
theorem LKd_go {p : Nat → Nat → Int} {R : Nat → Int} {F : Nat → Int} {N : Nat} {T : MSt} {S : CSt} {pos pos' : Nat} (hr : StR p R N (T.1 4) (T.1 40) (T.2 36) (qT T) (snT T) (T.1 37).toNat (T.1 35).toNat) (hs : sameB p pos pos') (h1 : p 0 pos ≠ 1) (h : LKd p F N T S pos) : LKd p F N T S pos' := by
  obtain ⟨a1, a2, a3, tc, a4, ⟨a5, a6⟩, a7, a8⟩ := h
  refine ⟨a1, a2, a3, tc, a4, ⟨MRg_go (fun h _ _ => hs h) a5, LKm_go (fun h _ _ hb => (hs h).mpr hb) a6⟩, LSt_ml hr (by rw [if_neg h1]; split <;> omega) a7, ?_⟩
  rw [← cntB_same hs]
  rw [if_neg h1] at a8
  split <;> omega
theorem LKd_step {p : Nat → Nat → Int} {R : Nat → Int} {F : Nat → Int} {N : Nat} {T : MSt} {S : CSt} {pos pos' : Nat} (hr : StR p R N (T.1 4) (T.1 40) (T.2 36) (qT T) (snT T) (T.1 37).toNat (T.1 35).toNat) (hs : sameB p pos pos') (h : LKd p F N T S pos) : LKd p F N (M_step T) (ci S 10 4 (S.1 10 4 + 1)) pos' := by
  obtain ⟨a1, a2, a3, tc, a4, ⟨a5, a6⟩, a7, a8⟩ := h
  refine ⟨a1, ?_, a3, tc, a4, ⟨MRg_go (fun h _ _ => hs h) a5, LKm_go (fun h _ _ hb => (hs h).mpr hb) a6⟩, ?_, ?_⟩
  · show S.1 10 4 + 1 = T.1 40 + 1
    omega
  · show LSt p F N (2 * (T.1 40 + 1) + (if p 0 pos' = 1 then 2 else 0)) (T.2 36) (qT T) (snT T) (S.1 36) (sC S) (T.1 37).toNat tc
    exact LSt_ml hr (by split <;> split <;> omega) a7
  · show (tc : Int) + cntB p 14 pos' N ≤ T.1 35 + 2 * (T.1 40 + 1) + (if p 0 pos' = 1 then 2 else 0)
    rw [← cntB_same hs]
    split at a8 <;> split <;> omega
theorem LKd_BKs {p : Nat → Nat → Int} {R : Nat → Int} {F : Nat → Int} {N : Nat} {T : MSt} {S : CSt} {pos : Nat} (hr : StR p R N (T.1 4) (T.1 40) (T.2 36) (qT T) (snT T) (T.1 37).toNat (T.1 35).toNat) (h : LKd p F N T S pos) : BKr p F N (M_step T) (ci S 10 4 (S.1 10 4 + 1)) := by
  obtain ⟨a1, a2, a3, tc, a4, a5, a7, a8⟩ := h
  refine ⟨by show S.1 10 4 + 1 = T.1 40 + 1; omega, a3, tc, a4, ?_⟩
  show LSt p F N (2 * (T.1 40 + 1)) (T.2 36) (qT T) (snT T) (S.1 36) (sC S) (T.1 37).toNat tc
  exact LSt_ml hr (by split <;> omega) a7
theorem LKd_pl {p : Nat → Nat → Int} {F : Nat → Int} {N : Nat} {T : MSt} {S : CSt} {pos : Nat} {pl : Int} (h : LKd p F N T S pos) : LKd p F N (mi T 38 pl) (ci S 10 3 pl) pos := by
  obtain ⟨a1, a2, a3, tc, a4, a5, a7, a8⟩ := h
  exact ⟨rfl, a2, a3, tc, a4, a5, a7, a8⟩
/-- both choose -/
theorem LKd_push {p : Nat → Nat → Int} {R : Nat → Int} {F : Nat → Int} {N : Nat} {T : MSt} {S : CSt} {pos w : Nat} {kd way : Int} (hl : T.1 38 < 32) (h38 : 0 ≤ T.1 38) (hw : w < 256) (k0 : 0 ≤ kd) (k1 : kd < 3) (hk : kd = 2 → p 1 w = 0) (q35 : 0 ≤ T.1 35) (q37 : 0 ≤ T.1 37) (hm : ∀ k, k < N → p 0 k = 12 → inB p k pos → ∃ m : Nat, qT T (p 3 k).toNat = m ∧ m ≤ (T.1 37).toNat ∧ (p 1 k = 1 → m < (T.1 37).toNat)) (hmw : ∀ k, k < N → p 0 k = 12 → inB p k w → ∃ m : Nat, qT T (p 3 k).toNat = m ∧ m < (T.1 37).toNat) (hr : StR p R N (T.1 4) (T.1 40) (T.2 36) (qT T) (snT T) (T.1 37).toNat (T.1 35).toNat) (hX : sV S) (hF : 192 ≤ S.2.2.2 36) (h : LKd p F N T S pos) (hMR : MR p N (T.2 36) (qT T) w (gT T) (S.1 35)) (hac : S.1 11 4 + 2 * cntB p 14 w N ≤ 2 * (T.1 35 + 2 * T.1 40 + (if p 0 pos = 1 then 2 else 0) + (if p 0 w = 1 then 2 else 0))) (hway : way = (if kd = 0 then F w else if kd = 1 then F (enL p w) + 1 else F ((p 2 w).toNat + 1))) : LKd p F N (M_choose kd w T) (K1_choose way (T.1 38) S).2.2 pos := by
  obtain ⟨a1, a2, a3, tc, a4, a5, a7, a8⟩ := h
  have e35 : ((T.1 35).toNat : Int) = T.1 35 := by omega
  obtain ⟨d1, d2, d3, d4, d5⟩ := dec4 (kd := kd) (w := w) (pl := T.1 38) (tr := T.1 35) k0 (by omega) (by omega) (by omega) h38 hl q35
  obtain ⟨c1, c2, c3, c4, c5, c6⟩ := K1_choose_s (n := phi p (T.2 36) (T.1 37).toNat) (ow := way) (pl := T.1 38) a3 ⟨by have := hX.2.2.1; omega, by omega⟩
  have s35 : (K1_choose way (T.1 38) S).2.2.1 35 = S.1 35 := K1_choose_1 (by decide) (by decide)
  have s37 : (K1_choose way (T.1 38) S).2.2.1 37 = S.1 37 := K1_choose_1 (by decide) (by decide)
  have s10 : (K1_choose way (T.1 38) S).2.2.1 10 = S.1 10 := K1_choose_1 (by decide) (by decide)
  have s4 := K1_choose_4 (ow := way) (pl := T.1 38) (S := S)
  have nP : ¬ ((kd + 4 * ((w : Int) + 256 * (T.1 38 + 32 * T.1 35))) % 4 = 2 ∧ p 1 ((kd + 4 * ((w : Int) + 256 * (T.1 38 + 32 * T.1 35))) / 4 % 256).toNat = 1) := by
    rw [d1, d2, show ((w : Int)).toNat = w by omega]
    intro y
    have := hk y.1
    omega
  have esc : sC (K1_choose way (T.1 38) S).2.2 = sC S := funext (fun j => sC_of s4.1 s37 s35 j)
  have e37 : (T.1 37 + 1).toNat = (T.1 37).toNat + 1 := by omega
  have esn : snT (M_choose kd w T) (T.1 35).toNat = gT T := snT_now (T := M_choose kd w T) q35
  have hx : (M_choose kd w T).2 36 = zu (T.2 36) (T.1 37).toNat (kd + 4 * ((w : Int) + 256 * (T.1 38 + 32 * T.1 35))) := rfl
  have hc : (M_choose kd w T).1 37 = T.1 37 + 1 := rfl
  refine ⟨by rw [s10]; exact a1, by rw [s10]; exact a2, ?_, tc, cX_of s4.1 s37 s4.2 a4, ?_, ?_, a8⟩
  · rw [hx, hc, e37, phi_push, if_neg nP]
    exact c1
  · rw [s35, hx]
    exact ⟨a5.1, LKm_cong2 hm (fun m hm => zu_ne (by omega)) (fun _ _ _ _ => rfl) a5.2⟩
  · rw [hx, hc, e37, esc]
    refine LSt_push hr nP c3 ?_ (by rw [c6]; exact a4.1) a7
    have ep : phi p (zu (T.2 36) (T.1 37).toNat (kd + 4 * ((w : Int) + 256 * (T.1 38 + 32 * T.1 35)))) (T.1 37).toNat = phi p (T.2 36) (T.1 37).toNat := phi_cong _ (fun m hm => zu_ne (by omega))
    right
    refine ⟨tc, ?_, ?_, ?_, ?_, ?_⟩
    · rw [ep, c4, zu_eq, hway]
      unfold wayL
      rw [d1, d2, show ((w : Int)).toNat = w by omega]
    · rw [ep, c5, zu_eq, d3]
    · rw [ep, c6]; exact a4.1
    · rw [zu_eq, d2, d4, show ((w : Int)).toNat = w by omega, sC_top a4 (Nat.le_refl _), esn]
      exact ⟨hMR.1, LKm_cong hmw (fun m hm => zu_ne (by omega)) (fun _ _ _ _ => rfl) hMR.2⟩
    · rw [zu_eq, d2, d4, show ((w : Int)).toNat = w by omega]
      have := a4.1
      show (tc : Int) + cntB p 14 w N ≤ T.1 35 + (2 * T.1 40 + (if p 0 pos = 1 then 2 else 0)) + (if p 0 w = 1 then 2 else 0)
      omega
theorem LKd_cong39 {p : Nat → Nat → Int} {F : Nat → Int} {N : Nat} {T : MSt} {S : CSt} {pos : Nat} {v : Int} (h : LKd p F N T S pos) : LKd p F N (mi T 39 v) S pos := h
theorem SO_begin {a : Nat} {p : Nat → Nat → Int} {R : Nat → Int} {N : Nat} {F : Nat → Int} {fit : Nat → Int → Int} {T : MSt} {S : CSt} (hp : prR p R N) (h : RI p R N T) (h0 : T.1 41 = 0) (hB : CBd a S) (hS : SK p F fit N T S) (hL : LKd p F N T S (T.1 39).toNat) (hop : p 0 (T.1 39).toNat = 1) : SO a p R N F (F (T.1 39).toNat) S (M_order T) := by
  have hrb := RI_RB hp h
  have htr := RI_tr h
  obtain ⟨c, h39, hc⟩ := h
  have c' := c
  obtain ⟨q8, q9, q10, q11, q4, -, -, -, -, -, q35, q37, q40, q41, -, -⟩ := c'
  obtain ⟨cs, m5⟩ := CfT_step (CfT_39 (v := T.1 39 + 1) c) h0
  have m5' : T.1 40 ≤ 500 := m5
  have hN := hc.1.1
  have hN2 := hp.2.1
  obtain ⟨o1, o2, o3⟩ := (hp.2.2.1 _ hN).2.1 hop
  obtain ⟨b4, b3⟩ := LKd_bd hL htr m5' hrb.2.2.2.1
  obtain ⟨⟨f0, f1⟩, cc, -⟩ := hS.1 _ hN
  obtain ⟨k5, fn, am⟩ := cc hop
  have ep : (T.1 39 + 1).toNat = (T.1 39).toNat + 1 := by omega
  have l1 := hL.1
  have l2 := hL.2.1
  have pl0 := hc.1.2.1
  have pl1 := hc.1.2.2.1
  have eM : M_order T = if T.2 9 (T.1 39).toNat < 0 then (1, M_step (mi T 39 (T.1 39 + 1))) else (1, M_choose 0 (T.2 9 (T.1 39).toNat) (M_step (mi T 39 (T.1 39 + 1)))) := by
    unfold M_order
    rw [q8, hop]
    rfl
  have e41 : (M_step (mi T 39 (T.1 39 + 1))).1 41 = if T.1 40 = 500 then 1 else 0 := by
    have := cs.2.2.2.2.2.2.2.2.2.2.2.2.2.2.1
    rw [this]
    show (if T.1 40 + 1 = 501 then (1 : Int) else 0) = _
    by_cases e : T.1 40 = 500
    · rw [if_pos e, if_pos (by omega)]
    · rw [if_neg e, if_neg (by omega)]
  rw [eM, q9]
  by_cases hov : T.1 40 = 500
  · -- the 501st step
    right; right; right
    refine ⟨0, S, ?_, ?_, hB⟩
    · rw [coo_5 k5, K0_alt_eq, if_neg (by omega)]
      rfl
    · rw [if_pos hov] at e41
      split
      · exact e41
      · exact e41
  · rw [if_neg hov] at e41
    have ls := LKd_step (T := mi T 39 (T.1 39 + 1)) hc.2.2.2.1 o2 (LKd_cong39 hL)
    have ca : CBd a (ci S 10 4 (S.1 10 4 + 1)) ∨ True := Or.inr trivial
    have hlt : S.1 10 4 < 500 := by omega
    by_cases ha : p 1 (T.1 39).toNat < 0
    · rw [if_pos ha]
      have am' : K2_aim 6 (F (T.1 39).toNat) S = -1 := by
        rw [am, if_pos]
        rcases o3 with o3 | o3 <;> omega
      have eC : K0_carryOut (F (T.1 39).toNat) S = (0, F (T.1 39).toNat + 1, ci S 10 4 (S.1 10 4 + 1)) := by
        rw [coo_5 k5, K0_alt_eq, if_pos hlt, if_pos am']
        rfl
      right; left
      refine ⟨_, _, eC, rfl, e41, CBd_co hB b4 b3 f0 (by omega) eC ?_ ?_ ?_ ?_ (mkB_of rfl rfl hB.2.2), by omega, Or.inl ⟨?_, ?_⟩⟩
      · show 0 ≤ S.1 10 3; omega
      · show S.1 10 3 ≤ 1000; omega
      · show 0 ≤ S.1 10 4 + 1; omega
      · show S.1 10 4 + 1 ≤ 500; omega
      · show F (T.1 39).toNat + 1 = F (T.1 39 + 1).toNat
        rw [ep, fn]
      · show LKd p F N (M_step (mi T 39 (T.1 39 + 1))) (ci S 10 4 (S.1 10 4 + 1)) (T.1 39 + 1).toNat
        rw [ep]; exact ls
    · rw [if_neg ha]
      have am' : K2_aim 6 (F (T.1 39).toNat) S = F (p 1 (T.1 39).toNat).toNat := by
        rw [am, if_neg (by omega)]
      rcases o3 with o3 | ⟨o4, o5, o6, o7⟩
      · omega
      obtain ⟨⟨g0, g1⟩, -⟩ := hS.1 (p 1 (T.1 39).toNat).toNat (by omega)
      obtain ⟨w, hw⟩ : ∃ w : Nat, p 1 (T.1 39).toNat = w := ⟨(p 1 (T.1 39).toNat).toNat, by omega⟩
      have hw' : (p 1 (T.1 39).toNat).toNat = w := by omega
      rw [hw'] at am' g0 g1 o6 o7
      rw [hw]
      have eC : K0_carryOut (F (T.1 39).toNat) S = (0, F (T.1 39).toNat + 1, (K1_choose (F w) (S.1 10 3) (ci S 10 4 (S.1 10 4 + 1))).2.2) := by
        rw [coo_5 k5, K0_alt_eq, if_pos hlt, if_neg (by omega), am']
        rfl
      rw [l1] at eC
      have hst := StR_md (md' := T.1 40 + 1) (by omega) hc.2.2.2.1
      have lw := LKd_step (pos' := w) (T := mi T 39 (T.1 39 + 1)) hc.2.2.2.1 o7 (LKd_cong39 hL)
      have hmw : ∀ k, k < N → p 0 k = 12 → inB p k w → ∃ m : Nat, qT T (p 3 k).toNat = m ∧ m < (T.1 37).toNat := RSb_m (RSb_go o7 (by omega) hc.1)
      obtain ⟨-, -, -, tcw, lw4, lw5, -, lw8⟩ := lw
      have lp := LKd_push (T := M_step (mi T 39 (T.1 39 + 1))) (S := ci S 10 4 (S.1 10 4 + 1)) (pos := (T.1 39).toNat + 1) (w := w) (kd := 0) (way := F w) (R := R) (by show T.1 38 < 32; omega) pl0 (by omega) (by omega) (by omega) (by omega) q35 q37 (fun k a b c => by obtain ⟨m, m1, m2⟩ := RSb_m (RSb_go o2 o1 hc.1) k a b c; exact ⟨m, m1, Nat.le_of_lt m2, fun _ => m2⟩) hmw hst (sV_ci hB.2.1.1 (by decide)) (by show 192 ≤ S.2.2.2 36; exact hB.1.2.2.1) ls lw5 (by have := lw4.1; have e : (M_step (mi T 39 (T.1 39 + 1))).1 40 = T.1 40 + 1 := rfl; split <;> omega) (by rw [if_pos rfl])
      right; left
      refine ⟨_, _, eC, rfl, e41, CBd_co hB b4 b3 f0 (by omega) eC ?_ ?_ ?_ ?_ (mkB_of (K1_choose_1 (by decide) (by decide)) (K1_choose_1 (by decide) (by decide)) (mkB_of (S := S) rfl rfl hB.2.2)), by omega, Or.inl ⟨?_, ?_⟩⟩
      · rw [K1_choose_1 (by decide) (by decide)]; show 0 ≤ S.1 10 3; omega
      · rw [K1_choose_1 (by decide) (by decide)]; show S.1 10 3 ≤ 1000; omega
      · rw [K1_choose_1 (by decide) (by decide)]; show 0 ≤ S.1 10 4 + 1; omega
      · rw [K1_choose_1 (by decide) (by decide)]; show S.1 10 4 + 1 ≤ 500; omega
      · show F (T.1 39).toNat + 1 = F (T.1 39 + 1).toNat
        rw [ep, fn]
      · show LKd p F N (M_choose 0 w (M_step (mi T 39 (T.1 39 + 1)))) (K1_choose (F w) (T.1 38) (ci S 10 4 (S.1 10 4 + 1))).2.2 (T.1 39 + 1).toNat
        rw [ep]; exact lp
