theorem K4_in {i : Int} {S : CSt} (h0 : 0 ≤ i) (h1 : i < S.1 3 1) (h2 : S.1 3 1 ≤ 24) : K4_at 3 i S = S.1 14 i.toNat := by
  unfold K4_at
  have e : ((cLen (11 + 3) : Nat) : Int) = 24 := rfl
  rw [if_neg (by omega), if_neg (by omega), e, if_neg (by omega)]
theorem K4_out {i : Int} {S : CSt} (h1 : S.1 3 1 ≤ i) : K4_at 3 i S = 0 := by
  unfold K4_at
  by_cases c : i < 0
  · rw [if_pos c]
  · rw [if_neg c, if_pos h1]
theorem has_eq {p : Nat → Nat → Int} {F : Nat → Int} {fit : Nat → Int → Int} {N : Nat} {T : MSt} {S : CSt} (h : SK p F fit N T S) (f : Int) : K2_has 6 f S = M_has f T := by
  unfold K2_has M_has
  rw [h.2.2.2.2]
theorem text_eq {p : Nat → Nat → Int} {F : Nat → Int} {fit : Nat → Int → Int} {N : Nat} {T : MSt} {S : CSt} (h : SK p F fit N T S) (hl : T.1 4 ≤ 24) {i : Int} (h0 : 0 ≤ i) (h1 : i < T.1 4) : K4_at 3 i S = T.2 3 i.toNat ∧ 32 ≤ T.2 3 i.toNat ∧ T.2 3 i.toNat ≤ 126 := by
  have e := h.2.2.1
  have d := h.2.2.2.1 i.toNat (by omega)
  rw [K4_in h0 (by omega) (by omega)]
  exact d
/-- orders that neither step nor change anything: what the class answers -/
theorem SO_on {a : Nat} {p : Nat → Nat → Int} {R : Nat → Int} {N : Nat} {F : Nat → Int} {T : MSt} {S : CSt} {w : Nat} {r v : Int} (hrb : RB p R N T) (h0 : T.1 41 = 0) (hB : CBd a S) (h1 : p 0 (T.1 39).toNat ≠ 1) (hr : (r = 0 ∧ v = -1) ∨ (r = 1 ∧ v = F w)) (hv : 0 ≤ F w) (sB : sameB p (T.1 39).toNat w) (eC : K0_carryOut (F (T.1 39).toNat) S = (0, v, S)) (hL : LKd p F N T S (T.1 39).toNat) : SO a p R N F (F (T.1 39).toNat) S (r, mi T 39 w) := by
  rcases hr with ⟨e, e'⟩ | ⟨e, e'⟩ <;> subst e <;> subst e'
  · right; right; left
    exact ⟨S, eC, rfl, h0, hB, LKd_BK h1 hL⟩
  · right; left
    refine ⟨_, S, eC, rfl, h0, hB, hv, Or.inl ⟨?_, ?_⟩⟩
    · show F w = F ((w : Int)).toNat
      rw [show ((w : Int)).toNat = w by omega]
    · show LKd p F N (mi T 39 w) S ((w : Int)).toNat
      rw [show ((w : Int)).toNat = w by omega]
      exact LKd_cong39 (LKd_go hrb.2.1 sB h1 hL)
theorem SO_go {a : Nat} {p : Nat → Nat → Int} {R : Nat → Int} {N : Nat} {F : Nat → Int} {fit : Nat → Int → Int} {T : MSt} {S : CSt} (hp : prR p R N) (h : RI p R N T) (h0 : T.1 41 = 0) (hB : CBd a S) (hS : SK p F fit N T S) (hL : LKd p F N T S (T.1 39).toNat) (hop : p 0 (T.1 39).toNat = 2) : SO a p R N F (F (T.1 39).toNat) S (M_order T) := by
  have hrb := RI_RB hp h
  obtain ⟨c, h39, hc⟩ := h
  obtain ⟨q8, q9, -⟩ := c
  have hN := hc.1.1
  obtain ⟨g1, g2, g3⟩ := (hp.2.2.1 _ hN).2.2.1 hop
  obtain ⟨w, hw⟩ : ∃ w : Nat, p 1 (T.1 39).toNat = w := ⟨(p 1 (T.1 39).toNat).toNat, by omega⟩
  have hw' : (p 1 (T.1 39).toNat).toNat = w := by omega
  obtain ⟨⟨f0, f1⟩, -⟩ := hS.1 w (by omega)
  have cc := (hS.1 _ hN).2.2.1 hop
  rw [hw'] at cc g3
  have eM : M_order T = (1, mi T 39 w) := by
    have e1 : M_order T = (1, mi (mi T 39 (T.1 39 + 1)) 39 (T.2 9 (T.1 39).toNat)) := by
      unfold M_order
      rw [q8, hop]
      rfl
    rw [e1, q9, hw]
    refine Prod.ext rfl ?_
    refine Prod.ext ?_ rfl
    funext j
    show (if j = 39 then _ else if j = 39 then _ else T.1 j) = if j = 39 then _ else T.1 j
    split <;> rfl
  rw [eM]
  rcases cc with ⟨k6, am⟩ | e
  · exact SO_on hrb h0 hB (by omega) (Or.inr ⟨rfl, rfl⟩) f0 g3 (by rw [coo_6 k6, am]) hL
  · left
    refine ⟨rfl, ?_, ?_, h0⟩
    · show F ((w : Int)).toNat = _
      rw [show ((w : Int)).toNat = w by omega, e]
    · show LKd p F N (mi T 39 w) S ((w : Int)).toNat
      rw [show ((w : Int)).toNat = w by omega]
      exact LKd_cong39 (LKd_go hrb.2.1 g3 (by omega) hL)
theorem SO_ends {a : Nat} {p : Nat → Nat → Int} {R : Nat → Int} {N : Nat} {F : Nat → Int} {fit : Nat → Int → Int} {T : MSt} {S : CSt} (hp : prR p R N) (h : RI p R N T) (h0 : T.1 41 = 0) (hB : CBd a S) (hS : SK p F fit N T S) (hL : LKd p F N T S (T.1 39).toNat) (hop : p 0 (T.1 39).toNat = 8 ∨ p 0 (T.1 39).toNat = 9 ∨ p 0 (T.1 39).toNat = 17) : SO a p R N F (F (T.1 39).toNat) S (M_order T) := by
  have hrb := RI_RB hp h
  obtain ⟨c, h39, hc⟩ := h
  obtain ⟨q8, q9, q10, q11, q4, -⟩ := c
  have hN := hc.1.1
  have pl0 := hc.1.2.1
  have pl1 := hc.1.2.2.1
  have hO := hp.2.2.1 _ hN
  have g : (T.1 39).toNat + 1 < N ∧ sameB p (T.1 39).toNat ((T.1 39).toNat + 1) := by
    rcases hop with e | e | e
    · exact hO.2.2.2.1 (by omega) (by omega)
    · exact hO.2.2.2.1 (by omega) (by omega)
    · exact hO.2.2.2.2.2.2.2.2.2.2.2.2.2 e
  obtain ⟨⟨f0, f1⟩, -⟩ := hS.1 _ g.1
  have cR := hS.1 _ hN
  have ep : T.1 39 + 1 = (((T.1 39).toNat + 1 : Nat) : Int) := by omega
  have l1 := hL.1
  have t1 := hS.2.2.1
  rcases hop with e8 | e8 | e8
  · obtain ⟨k2, fn⟩ := cR.2.2.2.2.2.1 e8
    have eM : M_order T = ((if T.1 38 = 0 then 1 else (if M_has 2 T = 0 then 0 else (if T.2 3 (T.1 38 - 1).toNat = 47 then 1 else 0 : Int) : Int) : Int), mi T 39 (T.1 39 + 1)) := by
      unfold M_order
      rw [q8, e8]
      rfl
    have eB : K0_isLineBegin S = (if T.1 38 = 0 then 1 else (if M_has 2 T = 0 then 0 else (if T.2 3 (T.1 38 - 1).toNat = 47 then 1 else 0 : Int) : Int) : Int) := by
      unfold K0_isLineBegin
      rw [l1, has_eq hS]
      by_cases z : T.1 38 = 0
      · rw [if_pos z, if_pos z]
      · rw [if_neg z, if_neg z, (text_eq hS q4 (i := T.1 38 - 1) (by omega) (by omega)).1]
    rw [eM, ep]
    refine SO_on hrb h0 hB (by omega) ?_ f0 g.2 (by rw [coo_2 k2, eB]) hL
    rw [← fn]
    by_cases z : (if T.1 38 = 0 then 1 else (if M_has 2 T = 0 then 0 else (if T.2 3 (T.1 38 - 1).toNat = 47 then 1 else 0 : Int) : Int) : Int) = 0
    · left; exact ⟨z, by rw [if_pos z]⟩
    · right
      refine ⟨?_, by rw [if_neg z]⟩
      revert z
      (repeat' split) <;> omega
  · obtain ⟨k2, fn⟩ := cR.2.2.2.2.2.2.1 e8
    have eM : M_order T = ((if T.1 38 = T.1 4 then 1 else (if M_has 2 T = 0 then 0 else (if T.2 3 (T.1 38).toNat = 47 then 1 else 0 : Int) : Int) : Int), mi T 39 (T.1 39 + 1)) := by
      unfold M_order
      rw [q8, e8]
      rfl
    have eB : K0_isLineEnd S = (if T.1 38 = T.1 4 then 1 else (if M_has 2 T = 0 then 0 else (if T.2 3 (T.1 38).toNat = 47 then 1 else 0 : Int) : Int) : Int) := by
      unfold K0_isLineEnd
      rw [l1, t1, has_eq hS]
      by_cases z : T.1 38 = T.1 4
      · rw [if_pos z, if_pos z]
      · rw [if_neg z, if_neg z, (text_eq hS q4 (i := T.1 38) (by omega) (by omega)).1]
    rw [eM, ep]
    refine SO_on hrb h0 hB (by omega) ?_ f0 g.2 (by rw [coo_3 k2, eB]) hL
    rw [← fn]
    by_cases z : (if T.1 38 = T.1 4 then 1 else (if M_has 2 T = 0 then 0 else (if T.2 3 (T.1 38).toNat = 47 then 1 else 0 : Int) : Int) : Int) = 0
    · left; exact ⟨z, by rw [if_pos z]⟩
    · right
      refine ⟨?_, by rw [if_neg z]⟩
      revert z
      (repeat' split) <;> omega
  · obtain ⟨k9, am, fn⟩ := cR.2.2.2.2.2.2.2.2.2.2.2.2.2 e8
    have eM : M_order T = (1, mi T 39 (T.1 39 + 1)) := by
      unfold M_order
      rw [q8, e8]
      rfl
    rw [eM, ep]
    exact SO_on hrb h0 hB (by omega) (Or.inr ⟨rfl, rfl⟩) f0 g.2 (by rw [coo_9 k9, K0_enterLoop_eq, if_pos am, fn]; rfl) hL
/-- orders that count a step -/
theorem SO_st {a : Nat} {p : Nat → Nat → Int} {R : Nat → Int} {N : Nat} {F : Nat → Int} {fit : Nat → Int → Int} {T : MSt} {S : CSt} {r : Int × MSt} (hp : prR p R N) (h : RI p R N T) (h0 : T.1 41 = 0) (hB : CBd a S) (hS : SK p F fit N T S) (hL : LKd p F N T S (T.1 39).toNat) (sB : sameB p (T.1 39).toNat ((T.1 39).toNat + 1)) (wN : (T.1 39).toNat + 1 < N) (fn : F ((T.1 39).toNat + 1) = F (T.1 39).toNat + 1)
    (h5 : T.1 40 = 500 → K0_carryOut (F (T.1 39).toNat) S = (1, 0, S) ∧ (r = (0, M_step (mi T 39 (T.1 39 + 1))) ∨ ∃ pl, r = (1, mi (M_step (mi T 39 (T.1 39 + 1))) 38 pl)))
    (h6 : T.1 40 < 500 → (K0_carryOut (F (T.1 39).toNat) S = (0, -1, ci S 10 4 (S.1 10 4 + 1)) ∧ r = (0, M_step (mi T 39 (T.1 39 + 1)))) ∨ ∃ pl, 0 ≤ pl ∧ pl ≤ 24 ∧ K0_carryOut (F (T.1 39).toNat) S = (0, F (T.1 39).toNat + 1, ci (ci S 10 4 (S.1 10 4 + 1)) 10 3 pl) ∧ r = (1, mi (M_step (mi T 39 (T.1 39 + 1))) 38 pl)) : SO a p R N F (F (T.1 39).toNat) S r := by
  have hrb := RI_RB hp h
  have htr := RI_tr h
  obtain ⟨c, h39, hc⟩ := h
  have c' := c
  obtain ⟨q8, q9, q10, q11, q4, -, -, -, -, -, q35, q37, q40, q41, -, -⟩ := c'
  obtain ⟨cs, m5⟩ := CfT_step (CfT_39 (v := T.1 39 + 1) c) h0
  have m5' : T.1 40 ≤ 500 := m5
  obtain ⟨b4, b3⟩ := LKd_bd hL htr m5' hrb.2.2.2.1
  have pl0 := hc.1.2.1
  have pl1 := hc.1.2.2.1
  have l1 := hL.1
  have l2 := hL.2.1
  obtain ⟨⟨f0, f1⟩, -⟩ := hS.1 _ hc.1.1
  have ep : (T.1 39 + 1).toNat = (T.1 39).toNat + 1 := by omega
  have e41 : (M_step (mi T 39 (T.1 39 + 1))).1 41 = if T.1 40 = 500 then 1 else 0 := by
    have := cs.2.2.2.2.2.2.2.2.2.2.2.2.2.2.1
    rw [this]
    show (if T.1 40 + 1 = 501 then (1 : Int) else 0) = _
    by_cases e : T.1 40 = 500
    · rw [if_pos e, if_pos (by omega)]
    · rw [if_neg e, if_neg (by omega)]
  by_cases hov : T.1 40 = 500
  · rw [if_pos hov] at e41
    obtain ⟨g1, g2⟩ := h5 hov
    right; right; right
    refine ⟨0, S, g1, ?_, hB⟩
    rcases g2 with e | ⟨pl, e⟩ <;> rw [e] <;> exact e41
  · rw [if_neg hov] at e41
    have ls := LKd_step (T := mi T 39 (T.1 39 + 1)) hc.2.2.2.1 sB (LKd_cong39 hL)
    rcases h6 (by omega) with ⟨g1, g2⟩ | ⟨pl, z0, z1, g1, g2⟩
    · rw [g2]
      right; right; left
      refine ⟨_, g1, rfl, e41, CBd_co hB b4 b3 f0 (by omega) g1 ?_ ?_ ?_ ?_ (mkB_of rfl rfl hB.2.2), LKd_BKs (T := mi T 39 (T.1 39 + 1)) hc.2.2.2.1 (LKd_cong39 hL)⟩
      · show 0 ≤ S.1 10 3; omega
      · show S.1 10 3 ≤ 1000; omega
      · show 0 ≤ S.1 10 4 + 1; omega
      · show S.1 10 4 + 1 ≤ 500; omega
    · rw [g2]
      right; left
      refine ⟨_, _, g1, rfl, e41, CBd_co hB b4 b3 f0 (by omega) g1 ?_ ?_ ?_ ?_ (mkB_of rfl rfl hB.2.2), by omega, Or.inl ⟨?_, ?_⟩⟩
      · show 0 ≤ pl; omega
      · show pl ≤ 1000; omega
      · show 0 ≤ S.1 10 4 + 1; omega
      · show S.1 10 4 + 1 ≤ 500; omega
      · show F (T.1 39).toNat + 1 = F (T.1 39 + 1).toNat
        rw [ep, fn]
      · show LKd p F N (mi (M_step (mi T 39 (T.1 39 + 1))) 38 pl) (ci (ci S 10 4 (S.1 10 4 + 1)) 10 3 pl) (T.1 39 + 1).toNat
        rw [ep]; exact LKd_pl ls
theorem SO_leaf {a : Nat} {p : Nat → Nat → Int} {R : Nat → Int} {N : Nat} {F : Nat → Int} {fit : Nat → Int → Int} {T : MSt} {S : CSt} (hp : prR p R N) (h : RI p R N T) (h0 : T.1 41 = 0) (hB : CBd a S) (hS : SK p F fit N T S) (hL : LKd p F N T S (T.1 39).toNat) (hop0 : 3 ≤ p 0 (T.1 39).toNat) (hop1 : p 0 (T.1 39).toNat ≤ 6) : SO a p R N F (F (T.1 39).toNat) S (M_order T) := by
  have hh := h
  obtain ⟨c, h39, hc⟩ := hh
  obtain ⟨q8, q9, q10, q11, q4, -⟩ := c
  have hN := hc.1.1
  have g := (hp.2.2.1 _ hN).2.2.2.1 (by omega) (by omega)
  obtain ⟨k1, fn, ft⟩ := (hS.1 _ hN).2.2.2.1 hop0 hop1
  have pl0 := hc.1.2.1
  have pl1 := hc.1.2.2.1
  have l1 := hL.1
  have l2 := hL.2.1
  have t1 := hS.2.2.1
  have eM : M_order T = M_one (T.1 39) (mi T 39 (T.1 39 + 1)) := by
    have : p 0 (T.1 39).toNat = 3 ∨ p 0 (T.1 39).toNat = 4 ∨ p 0 (T.1 39).toNat = 5 ∨ p 0 (T.1 39).toNat = 6 := by omega
    unfold M_order
    rw [q8]
    rcases this with e | e | e | e <;> rw [e] <;> rfl
  have fr := frM_trans (frM_mi T 39 (T.1 39 + 1) (by omega)) (frM_step (mi T 39 (T.1 39 + 1)))
  have eP : M_passes (T.1 39) (M_step (mi T 39 (T.1 39 + 1))) = if T.1 38 = T.1 4 then 0 else fit (T.1 39).toNat (T.2 3 (T.1 38).toNat) := by
    rw [M_passes_R, M_fitR_cong fr]
    show (if T.1 38 = T.1 4 then 0 else M_fitR (T.1 39) (T.2 3 (T.1 38).toNat) T) = _
    have e := hS.2.1 (T.1 39).toNat (T.2 3 (T.1 38).toNat)
    rw [show (((T.1 39).toNat : Nat) : Int) = T.1 39 by omega] at e
    rw [e]
  rw [eM]
  refine SO_st hp h h0 hB hS hL g.2 g.1 fn (fun e5 => ⟨?_, ?_⟩) (fun e5 => ?_)
  · rw [coo_1 k1, K0_sign_eq, if_neg (by omega)]; rfl
  · unfold M_one
    by_cases e : M_passes (T.1 39) (M_step (mi T 39 (T.1 39 + 1))) = 0
    · rw [if_pos e]; exact Or.inl rfl
    · rw [if_neg e]; exact Or.inr ⟨_, rfl⟩
  · have hlt : S.1 10 4 < 500 := by omega
    rw [coo_1 k1, K0_sign_eq, if_pos hlt]
    unfold M_one
    rw [eP, l1, t1]
    by_cases e : T.1 38 = T.1 4
    · left
      rw [if_pos (by omega : T.1 4 ≤ T.1 38), if_pos e, if_pos rfl]
      exact ⟨rfl, rfl⟩
    · obtain ⟨x1, x2, x3⟩ := text_eq hS q4 (i := T.1 38) pl0 (by omega)
      rw [if_neg (by omega : ¬ T.1 4 ≤ T.1 38), if_neg e, x1, ft _ x2 x3]
      by_cases e2 : fit (T.1 39).toNat (T.2 3 (T.1 38).toNat) = 0
      · left
        rw [if_pos e2, if_pos e2]
        exact ⟨rfl, rfl⟩
      · right
        refine ⟨T.1 38 + 1, by omega, by omega, ?_, ?_⟩
        · rw [if_neg e2]; rfl
        · rw [if_neg e2]
          rfl
