/-- the reference's state: its program is p, and all that never changes while it tries -/
def CfT (p : Nat → Nat → Int) (T : MSt) : Prop := T.2 8 = p 0 ∧ T.2 9 = p 1 ∧ T.2 10 = p 2 ∧ T.2 11 = p 3 ∧ T.1 4 ≤ 24 ∧ 0 ≤ T.1 6 ∧ T.1 6 ≤ 7 ∧ (∀ j, 0 ≤ T.2 3 j ∧ T.2 3 j ≤ 126) ∧ (∀ j, 0 ≤ T.2 7 j ∧ T.2 7 j ≤ 126) ∧ (∀ j, 0 ≤ T.2 34 j ∧ T.2 34 j < 8320) ∧ 0 ≤ T.1 35 ∧ 0 ≤ T.1 37 ∧ 0 ≤ T.1 40 ∧ T.1 40 ≤ 501 ∧ T.1 41 = (if T.1 40 = 501 then 1 else 0) ∧ (∀ y, 130 ≤ y → -99999 ≤ T.2 33 y ∧ T.2 33 y ≤ 99999)
def RI (p : Nat → Nat → Int) (R : Nat → Int) (N : Nat) (T : MSt) : Prop := CfT p T ∧ 0 ≤ T.1 39 ∧ RIc p R N (T.1 4) (T.2 36) (qT T) (snT T) (gT T) (T.1 35).toNat (T.1 37).toNat (T.1 39).toNat (T.1 38) (T.1 40)
/-- what goBack needs -/
def RB (p : Nat → Nat → Int) (R : Nat → Int) (N : Nat) (T : MSt) : Prop := CfT p T ∧ StR p R N (T.1 4) (T.1 40) (T.2 36) (qT T) (snT T) (T.1 37).toNat (T.1 35).toNat ∧ T.1 35 ≤ 5000 ∧ T.1 37 ≤ 2990 ∧ (∀ y, y < 130 → -1 ≤ gT T y ∧ gT T y ≤ 34)
theorem CfT_ad {p : Nat → Nat → Int} {T T' : MSt} {rg : Nat → Int} {d : Int} (h : CfT p T) (a : AdT T T' rg d) : CfT p T' := by
  obtain ⟨h1, h2, h3, h4, h5, h6, h7, h8, h9, h10, h11, h12, h13, h14, h15, h16⟩ := h
  obtain ⟨⟨f1, f2, f3⟩, a2, a3, a4, a5, a6, a7⟩ := a
  unfold CfT
  rw [f2 8 (by decide) (by decide), f2 9 (by decide) (by decide), f2 10 (by decide) (by decide), f2 11 (by decide) (by decide), f1 4 (by decide), f1 6 (by decide), f2 3 (by decide) (by decide), f2 7 (by decide) (by decide), f1 37 (by decide), f1 40 (by decide), f1 41 (by decide)]
  exact ⟨h1, h2, h3, h4, h5, h6, h7, h8, h9, a7 h10, by omega, h12, h13, h14, h15, fun y hy => by rw [f3 y hy]; exact h16 y hy⟩
theorem CfT_39 {p : Nat → Nat → Int} {T : MSt} {v : Int} (h : CfT p T) : CfT p (mi T 39 v) := h
theorem CfT_38 {p : Nat → Nat → Int} {T : MSt} {v : Int} (h : CfT p T) : CfT p (mi T 38 v) := h
theorem CfT_37 {p : Nat → Nat → Int} {T : MSt} {v : Int} (h : CfT p T) (hv : 0 ≤ v) : CfT p (mi T 37 v) := by
  obtain ⟨h1, h2, h3, h4, h5, h6, h7, h8, h9, h10, h11, h12, h13, h14, h15, h16⟩ := h
  exact ⟨h1, h2, h3, h4, h5, h6, h7, h8, h9, h10, h11, hv, h13, h14, h15, h16⟩
theorem CfT_choose {p : Nat → Nat → Int} {T : MSt} {u v : Int} (h : CfT p T) : CfT p (M_choose u v T) := by
  obtain ⟨h1, h2, h3, h4, h5, h6, h7, h8, h9, h10, h11, h12, h13, h14, h15, h16⟩ := h
  exact ⟨h1, h2, h3, h4, h5, h6, h7, h8, h9, h10, h11, by show 0 ≤ T.1 37 + 1; omega, h13, h14, h15, h16⟩
theorem CfT_step {p : Nat → Nat → Int} {T : MSt} (h : CfT p T) (h0 : T.1 41 = 0) : CfT p (M_step T) ∧ T.1 40 ≤ 500 := by
  obtain ⟨h1, h2, h3, h4, h5, h6, h7, h8, h9, h10, h11, h12, h13, h14, h15, h16⟩ := h
  have q : T.1 40 ≤ 500 := by
    rw [h0] at h15
    by_cases e : T.1 40 = 501
    · rw [if_pos e] at h15; omega
    · omega
  refine ⟨⟨h1, h2, h3, h4, h5, h6, h7, h8, h9, h10, h11, h12, by show 0 ≤ T.1 40 + 1; omega, by show T.1 40 + 1 ≤ 501; omega, ?_, h16⟩, q⟩
  show zb (¬ T.1 41 = 0 ∨ T.1 40 = 500) = if T.1 40 + 1 = 501 then 1 else 0
  unfold zb
  by_cases e : T.1 40 = 500
  · rw [if_pos (Or.inr e), if_pos (by omega)]
  · rw [if_neg (by omega), if_neg (by omega)]
theorem RI_RB {p : Nat → Nat → Int} {R : Nat → Int} {N : Nat} {T : MSt} (hp : prR p R N) (h : RI p R N T) : RB p R N T := by
  obtain ⟨c, h39, i1, i2, i3, i4, i5⟩ := h
  have c' := c
  obtain ⟨-, -, -, -, q4, -, -, -, -, -, q35, q37, q40, q41, -, -⟩ := c'
  have w := Wr_nn (gT T) 130
  have n := cntB_nn (p := p) (q := 10) (r := (T.1 39).toNat) N
  have d : dcp (p 0 (T.1 39).toNat) ≤ 8 := by unfold dcp; (repeat' split) <;> omega
  have e : crp (p 0 (T.1 39).toNat) ≤ 1 := by unfold crp; split <;> omega
  have s := Ps_nn (rg := gT T) (pl := T.1 38) hp.1 N (T.1 39).toNat (Nat.le_refl _) i1.1
  have pl := i1.2.2.1
  exact ⟨c, i4, by omega, by omega, i1.2.2.2.1⟩
theorem RB_goBackOK {p : Nat → Nat → Int} {R : Nat → Int} {N : Nat} {T : MSt} (hp : prR p R N) (h : RB p R N T) : M_goBackOK T := by
  obtain ⟨c, h1, h2, h3, h4⟩ := h
  obtain ⟨q8, q9, q10, q11, -, -, -, -, -, q34, q35, q37, -, -, -, q33⟩ := c
  refine ⟨q37, by omega, fun j => by have := q34 j; omega, q35, by omega, fun j => ?_, fun j hj => ?_, fun i j hij hj => h1.2 i j hij (by omega)⟩
  · by_cases e : j < 130
    · have := h4 j e
      rw [gT_at e] at this
      omega
    · have := q33 j (by omega)
      omega
  · obtain ⟨⟨e1, e2, e3, e4, -, -, -, e8⟩, e5⟩ := h1.1 j (by omega)
    have e6 := e4.1
    have := hp.2.1
    have o := (hp.2.2.1 _ e4.1).1
    refine ⟨e1, by omega, by omega, by omega, ?_⟩
    rw [q9, q10, q11]
    refine ⟨by omega, by omega, fun k1 => ?_⟩
    have o' := (hp.2.2.1 _ e4.1).2.2.2.2.2.2.2.2.2.2.2.1 (e8 k1).1
    exact ⟨by omega, by omega, by omega, by omega, o'.2.2.1⟩
theorem RI_orderOK {p : Nat → Nat → Int} {R : Nat → Int} {N : Nat} {T : MSt} (hp : prR p R N) (h : RI p R N T) (h16 : ¬ T.2 8 (T.1 39).toNat = 16) : M_orderOK T := by
  have hB := RI_RB hp h
  obtain ⟨c, h39, i1, i2, i3, i4, i5⟩ := h
  obtain ⟨q8, q9, q10, q11, q4, q6, q6', q3, q7, q34, q35, q37, q40, q41, q41', q33⟩ := c
  obtain ⟨-, -, b35, b37, b33⟩ := hB
  have hN := i1.1
  have hN2 := hp.2.1
  have hO := hp.2.2.1 _ hN
  have o0 := hO.1
  clear i2 i3
  have r33 : ∀ j, -100000 ≤ T.2 33 j ∧ T.2 33 j ≤ 99999 := fun j => by
    by_cases e : j < 130
    · have := b33 j e
      rw [gT_at e] at this
      omega
    · have := q33 j (by omega)
      omega
  have v41 : 0 ≤ T.1 41 ∧ T.1 41 ≤ 1 := by rw [q41']; split <;> omega
  unfold M_orderOK
  rw [q8] at h16 ⊢
  rw [q9, q10, q11]
  refine ⟨h39, by omega, by omega, by omega, h16, i1.2.1, i1.2.2.1, q4, q6, q6', q3, q7, v41.1, v41.2, q40, by omega, q35, by omega, q37, by omega, fun j => by have := r33 j; omega, by omega, by omega, by omega, fun a b => ?_, fun a => ?_, fun a => ?_, fun a => by omega, fun a => ?_, fun a => ?_, fun a => ?_⟩
  · have x1 := hO.2.2.2.2.1 a b
    exact ⟨a, b, x1.1, x1.2, by omega, hO.2.2.2.2.2.1, by omega, by omega, by omega⟩
  · have x1 := hO.2.2.2.2.2.2.1 a
    have x2 := i1.2.2.2.2.1 (p 1 (T.1 39).toNat).toNat (by omega) (by omega)
    have x3 := i1.2.2.2.1 (p 1 (T.1 39).toNat).toNat (by omega)
    have x4 := i1.2.2.2.1 (10 + (p 1 (T.1 39).toNat).toNat) (by omega)
    rw [gT_at (show (p 1 (T.1 39).toNat).toNat < 130 by omega), gT_at (show 10 + (p 1 (T.1 39).toNat).toNat < 130 by omega)] at x2
    rw [gT_at (show (p 1 (T.1 39).toNat).toNat < 130 by omega)] at x3
    rw [gT_at (show 10 + (p 1 (T.1 39).toNat).toNat < 130 by omega)] at x4
    rw [show (10 + p 1 (T.1 39).toNat).toNat = 10 + (p 1 (T.1 39).toNat).toNat by omega]
    exact ⟨by omega, by omega, by omega, by omega, x2.2.2.1, by omega, by omega⟩
  · rcases a with a | a
    · have x1 := hO.2.2.2.2.2.2.2.1 a
      exact ⟨by omega, by omega⟩
    · obtain ⟨x1, x2, x3, -⟩ := hO.2.2.2.2.2.2.2.2.1 a
      exact ⟨by omega, x3⟩
  · obtain ⟨y0, y1, y2, y3, y4, y5⟩ := hO.2.2.2.2.2.2.2.2.2.2.1 a
    have kN : (p 1 (T.1 39).toNat).toNat < N := by omega
    have lk := hp.1.2.2.2.2.2 _ kN y2
    have ib : inB p (p 1 (T.1 39).toNat).toNat (T.1 39).toNat := inB_look y2 lk.1 (by omega) (by omega)
    obtain ⟨m, m1, m2, m3, m4, -⟩ := i1.2.2.2.2.2.2.2.1 _ kN y2 ib
    have e := (i4.1 m m2).1
    have e2 := (i4.1 m m2).2
    have c3 := (hp.2.2.1 _ kN).2.2.2.2.2.2.2.2.2.1 y2
    have c4 := (hp.2.2.1 _ kN).1
    have em : T.2 33 (130 + p 3 (T.1 39).toNat).toNat = m := by
      rw [← m1, y4]
      unfold qT
      rw [show (130 + p 3 (p 1 (T.1 39).toNat).toNat).toNat = 130 + (p 3 (p 1 (T.1 39).toNat).toNat).toNat by omega]
    rw [em, show ((m : Int)).toNat = m by omega]
    have e1 := e.1
    exact ⟨by omega, by omega, by omega, by omega, e1, by omega⟩
  · have x1 := hO.2.2.2.2.2.2.2.2.2.2.2.1 a
    have := r33 (30 + p 3 (T.1 39).toNat).toNat
    exact ⟨by omega, by omega, by omega, by omega, by omega, by omega, by omega, by omega⟩
  · obtain ⟨y0, y1, y2, y3⟩ := hO.2.2.2.2.2.2.2.2.2.2.2.2.1 a
    have kN : (p 1 (T.1 39).toNat).toNat < N := by omega
    have c4 := (hp.2.2.1 _ kN).1
    have x1 := (hp.2.2.1 _ kN).2.2.2.2.2.2.2.2.2.2.2.1 y2
    have := r33 (30 + p 3 (p 1 (T.1 39).toNat).toNat).toNat
    exact ⟨by omega, by omega, by omega, by omega, by omega, by omega, by omega, by omega, by omega, by omega⟩
