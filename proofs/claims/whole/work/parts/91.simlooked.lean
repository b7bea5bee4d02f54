theorem cut_to {h : Nat} {S : CSt} {n : Nat} (h3 : S.1 11 3 = 3 * (n : Int)) (hn : h ≤ n) : (K1_cut (3 * (h : Int)) S).1 11 3 = 3 * (h : Int) ∧ (K1_cut (3 * (h : Int)) S).1 11 4 = S.1 11 4 := by
  obtain ⟨e1, e2, -⟩ := K1_cut_v (h := 3 * (h : Int)) (S := S)
  refine ⟨?_, e2⟩
  rw [e1]
  split <;> omega
theorem SO_looked {a : Nat} {p : Nat → Nat → Int} {R : Nat → Int} {N : Nat} {F : Nat → Int} {fit : Nat → Int → Int} {T : MSt} {S : CSt} (hp : prR p R N) (h : RI p R N T) (h0 : T.1 41 = 0) (h40 : T.1 40 ≤ 500) (hB : CBd a S) (hS : SK p F fit N T S) (hL : LKd p F N T S (T.1 39).toNat) (hop : p 0 (T.1 39).toNat = 13) : SO a p R N F (F (T.1 39).toNat) S (M_order T) := by
  have hrb := RI_RB hp h
  have htr := RI_tr h
  obtain ⟨c, h39, hc⟩ := h
  obtain ⟨q8, q9, q10, q11, q4, q6, q6', q3, q7, q34, q35, q37, q40, q41, q41', q33⟩ := c
  have eM : M_order T = ((if T.2 10 (T.1 39).toNat = 1 then 1 else 0 : Int), M_looked (T.1 39) (mi T 39 (T.1 39 + 1))) := by
    unfold M_order
    rw [q8, hop]
    rfl
  have hr := hc.1.1
  have pl0 := hc.1.2.1
  have pl1 := hc.1.2.2.1
  have c3 := (hp.2.2.1 _ hr).1
  obtain ⟨y0, y1, y2, y3, y4, y5⟩ := (hp.2.2.1 _ hr).2.2.2.2.2.2.2.2.2.2.1 hop
  have cR := hS.1 _ hr
  obtain ⟨f0, f1⟩ := cR.1
  obtain ⟨nu, kp, kn⟩ := cR.2.2.2.2.2.2.2.2.2.2.1 hop
  obtain ⟨z4, z3⟩ := LKd_bd hL htr h40 hrb.2.2.2.1
  have hLL := hL
  obtain ⟨a1, a2, a3, tc, a4, ⟨m1, m3⟩, a7, a8⟩ := hLL
  rw [if_neg (show ¬ p 0 (T.1 39).toNat = 1 by omega), Int.add_zero] at a7 a8
  have hk : (p 1 (T.1 39).toNat).toNat < N := by omega
  generalize hkk : (p 1 (T.1 39).toNat).toNat = k at *
  obtain ⟨l0, ⟨l1, l2⟩, l3, l4, l5, l6, l7, l8⟩ := look_in hp hk y2
  obtain ⟨-, -, -, sB, b1, b2⟩ := hp.1.2.2.2.2.2 k hk y2
  have er : (p 2 k).toNat = (T.1 39).toNat := by omega
  rw [er] at l1 l2 l4 sB b2
  obtain ⟨m, n1, n2, n3, n4, -⟩ := hc.1.2.2.2.2.2.2.2.1 k hk y2 l4
  have en := (hc.2.2.2.1.1 m n2).1
  have lm := m3 k hk y2 l4
  rw [n1, show ((m : Int)).toNat = m by omega] at lm
  have em : T.2 33 (130 + p 3 (T.1 39).toNat).toNat = m := by
    rw [y4, ← n1]
    unfold qT
    rw [show (130 + p 3 k).toNat = 130 + (p 3 k).toNat by omega]
  have eL : M_looked (T.1 39) (mi T 39 (T.1 39 + 1)) = mi (mi (mi T 39 (T.1 39 + 1)) 38 (T.2 36 m / 1024 % 32)) 37 m := by
    unfold M_looked
    show mi (mi (mi T 39 (T.1 39 + 1)) 38 (T.2 36 (T.2 33 (130 + T.2 11 (T.1 39).toNat).toNat).toNat / 1024 % 32)) 37 (T.2 33 (130 + T.2 11 (T.1 39).toNat).toNat) = _
    rw [q11, em, show ((m : Int)).toNat = m by omega]
  have ep : (T.1 39 + 1).toNat = (T.1 39).toNat + 1 := by omega
  have pm := phi_mono (p := p) (x := T.2 36) (T.1 37).toNat (show m ≤ (T.1 37).toNat by omega)
  have k70 : K1_mark (70 + K2_number 6 (F (T.1 39).toNat) S) S = 3 * (phi p (T.2 36) m : Int) := by
    rw [nu, y4, K1_mk (by omega) (by omega)]
    exact lm.1
  obtain ⟨ct1, ct2⟩ := cut_to a3 pm
  have ct35 : (K1_cut (3 * (phi p (T.2 36) m : Int)) S).1 35 = S.1 35 := K1_cut_1 (by decide)
  have ct36 : (K1_cut (3 * (phi p (T.2 36) m : Int)) S).1 36 = S.1 36 := K1_cut_1 (by decide)
  have ct37 : (K1_cut (3 * (phi p (T.2 36) m : Int)) S).1 37 = S.1 37 := K1_cut_1 (by decide)
  have ct10 : (K1_cut (3 * (phi p (T.2 36) m : Int)) S).1 10 = S.1 10 := K1_cut_1 (by decide)
  have ct2' : (K1_cut (3 * (phi p (T.2 36) m : Int)) S).2 = S.2 := K1_cut_2
  have cx : cX tc (K1_cut (3 * (phi p (T.2 36) m : Int)) S) := cX_of ct2 ct37 (by rw [ct2']) a4
  have esc : sC (K1_cut (3 * (phi p (T.2 36) m : Int)) S) = sC S := funext (fun j => sC_of ct2 ct37 ct35 j)
  have lst : LSt p F N (2 * T.1 40) (T.2 36) (qT T) (snT T) (S.1 36) (sC S) m tc := LSt_cong hc.2.2.2.1 (Int.le_refl _) (show m ≤ (T.1 37).toNat by omega) (fun _ _ => rfl) (fun _ _ _ _ => rfl) (fun _ _ _ _ => rfl) (fun _ _ => rfl) (fun _ _ y => y) (fun _ _ _ _ _ => rfl) a7
  rw [eM, eL, q10, y5]
  have nik : ¬ inB p k ((T.1 39).toNat + 1) := fun y => by
    have := (inB_lt hp.1 hk y).2 y2
    omega
  by_cases hpos : p 1 k = 1
  · rw [if_pos hpos]
    obtain ⟨k14, fn⟩ := kp (by rw [y5]; exact hpos)
    have k80 : K1_mark (80 + K2_number 6 (F (T.1 39).toNat) S) (K1_cut (3 * (phi p (T.2 36) m : Int)) S) = T.2 36 m / 1024 % 32 := by
      rw [nu, y4, K1_mk (by omega) (by omega), ct35]
      exact lm.2 hpos
    have eC : K0_carryOut (F (T.1 39).toNat) S = (0, F (T.1 39).toNat + 1, ci (K1_cut (3 * (phi p (T.2 36) m : Int)) S) 10 3 (T.2 36 m / 1024 % 32)) := by
      rw [coo_14 k14]
      unfold K0_endLook
      rw [k70, k80, cw_0]
    have cb := cntB_but (q := 14) (b := k) (r := (T.1 39).toNat + 1) (x := (T.1 39).toNat) (fun h ne => (b2 h ne).symm) nik l4 N
    rw [if_neg (fun y => by rw [y2] at y; exact absurd y.2 (by decide))] at cb
    right; left
    refine ⟨_, _, eC, rfl, h0, CBd_co hB z4 z3 f0 (by omega) eC ?_ ?_ ?_ ?_ (mkB_of (S := K1_cut (3 * (phi p (T.2 36) m : Int)) S) rfl rfl (mkB_of ct35 ct37 hB.2.2)), by omega, Or.inl ⟨?_, ?_⟩⟩
    · show 0 ≤ T.2 36 m / 1024 % 32; omega
    · show T.2 36 m / 1024 % 32 ≤ 1000; omega
    · show 0 ≤ (K1_cut (3 * (phi p (T.2 36) m : Int)) S).1 10 4
      rw [ct10]; omega
    · show (K1_cut (3 * (phi p (T.2 36) m : Int)) S).1 10 4 ≤ 500
      rw [ct10]; omega
    · show F (T.1 39).toNat + 1 = F (T.1 39 + 1).toNat
      rw [ep, fn]
    · show LKd p F N _ _ (T.1 39 + 1).toNat
      rw [ep]
      refine ⟨rfl, ?_, ?_, tc, cX_of (S := K1_cut (3 * (phi p (T.2 36) m : Int)) S) rfl rfl rfl cx, ⟨?_, ?_⟩, ?_, ?_⟩
      · show (K1_cut (3 * (phi p (T.2 36) m : Int)) S).1 10 4 = T.1 40
        rw [ct10]; exact a2
      · show (K1_cut (3 * (phi p (T.2 36) m : Int)) S).1 11 3 = 3 * (phi p (T.2 36) ((m : Int)).toNat : Int)
        rw [ct1, show ((m : Int)).toNat = m by omega]
      · show MRg p N ((T.1 39).toNat + 1) (gT T) ((K1_cut (3 * (phi p (T.2 36) m : Int)) S).1 35)
        rw [ct35]
        exact MRg_go (fun j hj j14 => b2 j (fun y => by rw [y, y2] at j14; exact absurd j14 (by decide))) m1
      · show LKm p N (T.2 36) (qT T) ((T.1 39).toNat + 1) ((K1_cut (3 * (phi p (T.2 36) m : Int)) S).1 35)
        rw [ct35]
        exact LKm_go (fun j hj j12 jb => (b2 j (fun y => by subst y; exact nik jb)).mpr jb) m3
      · show LSt p F N (2 * T.1 40 + (if p 0 ((T.1 39).toNat + 1) = 1 then 2 else 0)) (T.2 36) (qT T) (snT T) ((K1_cut (3 * (phi p (T.2 36) m : Int)) S).1 36) (sC (K1_cut (3 * (phi p (T.2 36) m : Int)) S)) ((m : Int)).toNat tc
        rw [show ((m : Int)).toNat = m by omega, ct36, esc]
        exact LSt_ml (StR_cong (cnt' := m) (Int.le_refl _) (by omega) (fun _ _ y => y) (fun _ _ => rfl) (fun _ _ _ _ => rfl) (fun _ _ _ _ => rfl) hc.2.2.2.1) (by split <;> omega) lst
      · show (tc : Int) + cntB p 14 ((T.1 39).toNat + 1) N ≤ T.1 35 + 2 * T.1 40 + _
        split <;> omega
  · rw [if_neg hpos]
    have eC : K0_carryOut (F (T.1 39).toNat) S = (0, -1, K1_cut (3 * (phi p (T.2 36) m : Int)) S) := by
      rw [coo_16 (kn (by rw [y5]; exact hpos))]
      unfold K0_endLookNot
      rw [k70, cw_0]
    right; right; left
    refine ⟨_, eC, rfl, h0, CBd_co hB z4 z3 f0 (by omega) eC (by rw [ct10]; omega) (by rw [ct10]; omega) (by rw [ct10]; omega) (by rw [ct10]; omega) (mkB_of ct35 ct37 hB.2.2), ?_, ?_, tc, cx, ?_⟩
    · rw [ct10]; exact a2
    · show (K1_cut (3 * (phi p (T.2 36) m : Int)) S).1 11 3 = 3 * (phi p (T.2 36) ((m : Int)).toNat : Int)
      rw [ct1, show ((m : Int)).toNat = m by omega]
    · show LSt p F N (2 * T.1 40) (T.2 36) (qT T) (snT T) ((K1_cut (3 * (phi p (T.2 36) m : Int)) S).1 36) (sC (K1_cut (3 * (phi p (T.2 36) m : Int)) S)) ((m : Int)).toNat tc
      rw [show ((m : Int)).toNat = m by omega, ct36, esc]
      exact lst
