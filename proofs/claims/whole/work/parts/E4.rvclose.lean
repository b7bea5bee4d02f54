theorem RV_at {T : MSt} {v b : Int} (h : RV T) (h1 : T.1 24 ≤ v) (h2 : v ≤ T.1 14) : RV (mi (mi T 24 v) 25 b) := by
  obtain ⟨⟨i1, i2, i3, i4, i5, i6, i7⟩, h0, hc, hw⟩ := h
  exact ⟨⟨i1, by show 0 ≤ v; omega, h2, i4, i5, i6, i7⟩, RV0_25 (RV0_24 h0 h1), by show T.1 19 ≤ 3 * v + 1; omega, WB_mono _ _ _ (by show (T.1 24 + 1).toNat ≤ (v + 1).toNat; omega) hw⟩
/-- what closing needs -/
theorem close_OK {T : MSt} (h : RV T) (hb : 0 ≤ T.1 25 ∧ T.1 25 ≤ 1) : M_closeBodyOK T := by
  obtain ⟨⟨i1, i2, i3, i4, i5, i6, i7⟩, ⟨a, b, c, d, e, f, g, s1, s2⟩, hc, hw⟩ := h
  have al := CHs_al _ _ g
  obtain ⟨k, hk⟩ : ∃ k : Nat, T.1 32 = (k + 1 : Nat) := ⟨(T.1 32 - 1).toNat, by omega⟩
  have kt : (T.1 32 - 1).toNat = k := by omega
  have kk : (T.1 32).toNat = k + 1 := by omega
  rw [kk] at al g hw
  have ak := al k (by omega)
  have wk := WB_bd (k + 1) _ (by omega) hw k (by omega)
  have fk := f k (by omega)
  have ik := i5 k (by omega)
  unfold M_closeBodyOK
  rw [kt]
  refine ⟨by omega, fk.1, fk.2, ?_, by omega, by omega, ik, by omega, hb.1, hb.2, b, a, by omega, i4, i2, by omega, by omega, i1, by omega, by omega, ?_⟩
  · by_cases k0 : k = 0
    · left; rw [k0]; exact i7
    · right; omega
  · obtain ⟨-, ⟨gs, g2, g3⟩, -⟩ := g
    have e16 : (ma (M_emit 2 (T.2 29 k) 0 0 T) 29 k (T.1 19)).2 16 = zu (T.2 16) (T.1 19).toNat (T.2 29 k) := rfl
    have hne : ∀ x, x ∈ gs → x ≠ (T.1 19).toNat := fun x hx => by have := CH_mem g2 x hx; omega
    have len := CH_len g2
    refine ch_of ((T.1 19).toNat :: gs) 220 ((T.1 19).toNat + 1) (T.1 19) _ ?_ (by omega) (by show gs.length + 1 < 220; omega)
    refine ⟨by omega, by omega, ?_⟩
    rw [e16, zu_eq]
    exact CH_mono (by omega) (CH_cong (fun x hx => zu_ne (hne x hx)) g2)
/-- a closed body: the reference's state at its parent's level -/
theorem clo_V {T : MSt} {k : Nat} (h : RV T) (hk : T.1 32 = (k + 2 : Nat)) : RV0 (mi (clo T) 32 (T.1 32 - 1)) ∧ (clo T).1 19 = T.1 19 + 1 ∧ (clo T).2 30 = T.2 30 ∧ (clo T).2 31 = T.2 31 ∧ (clo T).2 26 = T.2 26 ∧ (∀ r : Nat, (r : Int) < T.1 19 → (clo T).2 15 r = T.2 15 r) ∧ (∀ i : Nat, i < k + 1 → (clo T).2 28 i < T.2 31 (k + 1)) := by
  obtain ⟨⟨i1, i2, i3, i4, i5, i6, i7⟩, ⟨a, b, c, d, e, f, g, s1, s2⟩, hc, hw⟩ := h
  have al := CHs_al _ _ g
  have kk : (T.1 32).toNat = k + 2 := by omega
  have kt : (T.1 32 - 1).toNat = k + 1 := by omega
  rw [kk] at al g
  obtain ⟨g1, ⟨gs, g2, g3⟩, g4⟩ := g
  obtain ⟨o1, o2, o3, o4⟩ := clo_o T
  have al2 := CHs_al _ _ g4
  have ch : CH (T.2 16) (T.2 28 (k + 1)).toNat gs (T.2 29 (T.1 32 - 1).toNat) := by rw [kt]; exact g2
  obtain ⟨n1, n2, n3⟩ := clo_np (T := T) (gs := gs) (m := (T.2 28 (k + 1)).toNat) b (by omega) ch (by omega)
  have n15 : ∀ r : Nat, (r : Int) < T.1 19 → (clo T).2 15 r = T.2 15 r := fun r hr => n1 0 r (by omega) (by omega) (fun y => by omega)
  have n17 : ∀ r : Nat, (r : Int) < T.1 19 → (clo T).2 17 r = T.2 17 r := fun r hr => n1 2 r (by omega) (by omega) (fun y => by omega)
  have c15 : (clo T).2 15 (T.1 19).toNat = 2 := n3.1
  refine ⟨⟨?_, ?_, ?_, ?_, ?_, fun j hj => ?_, ?_, fun r hr h6 => ?_, fun j hj => ?_⟩, o1, o3 30 (by omega), o3 31 (by omega), o3 26 (by omega), n15, fun i hi => ?_⟩
  · show ∀ j, 0 ≤ (clo T).2 13 j ∧ (clo T).2 13 j ≤ 126
    rw [o3 13 (by omega)]; exact a
  · show 0 ≤ (clo T).1 19
    rw [o1]; omega
  · show T.1 32 - 1 ≤ 9
    omega
  · show 0 ≤ (clo T).1 23 ∧ (clo T).1 23 ≤ 9
    rw [o2 23 (by decide)]; exact d
  · show 0 ≤ (clo T).1 20 ∧ (clo T).1 20 ≤ (clo T).1 24
    rw [o2 20 (by decide), o2 24 (by decide)]; exact e
  · have hj' : (j : Int) < T.1 32 - 1 := hj
    show 0 ≤ (clo T).2 26 j ∧ (clo T).2 26 j ≤ 4
    rw [o3 26 (by omega)]; exact f j (by omega)
  · show CHs ((clo T).2 16) ((clo T).2 28) ((clo T).2 29) ((clo T).2 31) (T.1 32 - 1).toNat ((clo T).1 19)
    rw [kt, o1, o3 28 (by omega), o3 31 (by omega)]
    refine CHs_mono (u := T.2 31 (k + 1)) (by omega) (CHs_cong (a := T.2 16) (k + 1) _ (fun x i hi hx => ?_) (fun i hi => ⟨rfl, o4 i (by omega), rfl⟩) g4)
    have := al2 i hi
    refine n1 1 x (by omega) (by omega) (fun y => ?_)
    have := g3 x y.2
    omega
  · have hr' : (r : Int) < (clo T).1 19 := hr
    rw [o1] at hr'
    have h6' : (clo T).2 15 r = 6 := h6
    show (clo T).2 17 r < (clo T).1 14
    rw [o2 14 (by decide)]
    by_cases c : r = (T.1 19).toNat
    · rw [c, c15] at h6'; omega
    · rw [n15 r (by omega)] at h6'
      rw [n17 r (by omega)]
      exact s1 r (by omega) h6'
  · have hj' : (j : Int) < T.1 32 - 1 := hj
    show (clo T).2 15 ((clo T).2 31 j).toNat ≠ 6
    have := al j (by omega)
    rw [o3 31 (by omega), n15 _ (by omega)]
    exact s2 j (by omega)
  · rw [o3 28 (by omega)]
    exact (al2 i hi).1
theorem close_V {T : MSt} {k : Nat} (h : RV T) (hb : T.1 25 = 0) (hk : T.1 32 = (k + 2 : Nat)) (hat : 1 ≤ T.1 24) (hc1 : T.1 19 ≤ 3 * T.1 24 - 2) (hw1 : WB (T.2 30) (k + 2) (T.1 24).toNat) : VVd (M_closeBody T) := by
  have h' := h
  obtain ⟨v1, v2, v3, v4, v5, v6, v7⟩ := clo_V h hk
  obtain ⟨⟨i1, i2, i3, i4, i5, i6, i7⟩, ⟨a, b, c, d, e, f, g, s1, s2⟩, hc, hw⟩ := h'
  have al := CHs_al _ _ g
  have kk : (T.1 32).toNat = k + 2 := by omega
  have kt : (T.1 32 - 1).toNat = k + 1 := by omega
  rw [kk] at al
  have ak := al (k + 1) (by omega)
  obtain ⟨o1, o2, o3, o4⟩ := clo_o T
  have c25 : (clo T).1 25 = 0 := by rw [o2 25 (by decide)]; exact hb
  have c24 : (clo T).1 24 = T.1 24 := o2 24 (by decide)
  have c14 : (clo T).1 14 = T.1 14 := o2 14 (by decide)
  have wk := i5 (k + 1) (by omega)
  have ww : ∀ (d : Int) (x : Nat), (x = 0 ∧ d = T.2 30 (k + 1) + 1) ∨ (1 ≤ x ∧ d ≤ (T.2 30 (k + 1) + 1) * 2 + 2) ∨ (3 ≤ x ∧ d ≤ (T.2 30 (k + 1) + 1) * 10 + 2) → (T.1 24 + 1).toNat + x ≤ 41 → WB (zu ((clo T).2 30) k ((clo T).2 30 k + d)) (k + 1) ((T.1 24 + 1).toNat + x) := fun d x hd hx => by
    rw [v3]
    have q := WB_close (d := d) (s := 1 + x) hw1 (fun p c hpc hc => ?_)
    · rw [show (T.1 24).toNat + (1 + x) = (T.1 24 + 1).toNat + x by omega] at q
      exact q
    · rcases hd with ⟨y, z⟩ | ⟨y, z⟩ | ⟨y, z⟩
      · have g1 := gN_c0 p (by omega) c (by omega)
        have g2 := gN_le (a := p + c + 2) (b := p + c + 1 + (1 + x)) (by omega) (by omega)
        omega
      · have g1 := gN_c1 p (by omega) c (by omega)
        have g2 := gN_le (a := p + c + 3) (b := p + c + 1 + (1 + x)) (by omega) (by omega)
        omega
      · have g1 := gN_c3 p (by omega) c (by omega)
        have g2 := gN_le (a := p + c + 5) (b := p + c + 1 + (1 + x)) (by omega) (by omega)
        omega
  rw [closeB_clo]
  unfold closeF
  rw [kt, v5, v3, v4]
  have c32 : (clo T).1 32 - 1 = T.1 32 - 1 := by rw [o2 32 (by decide)]
  rw [c32]
  have s0 : ¬ T.2 26 (k + 1) = 0 := by have := i6 (k + 1) (by omega) (by omega); omega
  rw [if_neg s0]
  have m32 : (mi (clo T) 32 (T.1 32 - 1)).1 32 = T.1 32 - 1 := rfl
  by_cases c1 : T.2 26 (k + 1) = 1
  · rw [if_pos c1]
    refine cntV (k := k) (s := (T.1 24 + 1).toNat) (RV0_emit v1 (Or.inl (by decide))) c25 (by show 0 ≤ (clo T).1 24 ∧ (clo T).1 24 ≤ (clo T).1 14; omega) (by show (clo T).1 14 ≤ 40; omega) (by show T.1 32 - 1 = _; omega) (fun i hi => ?_) (by omega) (by show (clo T).1 19 + 1 ≤ 3 * (clo T).1 24 + 1; omega) ww (by show _ = (clo T).1 24 + 1; omega) (by omega)
    have hi' : (i : Int) < T.1 32 - 1 := hi
    have := v7 i (by omega)
    show (clo T).2 28 i ≤ T.2 31 (k + 1)
    omega
  rw [if_neg c1]
  by_cases c2 : T.2 26 (k + 1) ≤ 2
  · rw [if_pos c2]
    refine cntV (k := k) (s := (T.1 24 + 1).toNat) v1 c25 (by show 0 ≤ (clo T).1 24 ∧ (clo T).1 24 ≤ (clo T).1 14; omega) (by show (clo T).1 14 ≤ 40; omega) (by show T.1 32 - 1 = _; omega) (fun i hi => ?_) (by omega) (by show (clo T).1 19 ≤ 3 * (clo T).1 24 + 1; omega) ww (by show _ = (clo T).1 24 + 1; omega) (by omega)
    have hi' : (i : Int) < T.1 32 - 1 := hi
    have := v7 i (by omega)
    show (clo T).2 28 i ≤ T.2 31 (k + 1)
    omega
  rw [if_neg c2]
  left
  have n6 : (clo T).2 15 (T.2 31 (k + 1)).toNat ≠ 6 := by
    rw [v6 _ (by omega)]
    exact s2 (k + 1) (by omega)
  refine ⟨c25, RV0_weigh (RV0_emit (RV0_17 v1 n6) (Or.inl (by decide))), by show (clo T).1 19 + 1 ≤ 3 * (clo T).1 24 + 1; omega, ?_⟩
  show WB (zu ((clo T).2 30) (T.1 32 - 1 - 1).toNat ((clo T).2 30 (T.1 32 - 1 - 1).toNat + (T.2 30 (k + 1) + 1))) (T.1 32 - 1).toNat ((clo T).1 24 + 1).toNat
  rw [show (T.1 32 - 1 - 1).toNat = k by omega, kt, c24]
  exact ww _ 0 (Or.inl ⟨rfl, rfl⟩) (by omega)
