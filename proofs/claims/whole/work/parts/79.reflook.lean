theorem look_in {p : Nat → Nat → Int} {R : Nat → Int} {N k : Nat} (hp : prR p R N) (hk : k < N) (k12 : p 0 k = 12) : 0 ≤ p 2 k ∧ (k + 1 < (p 2 k).toNat ∧ (p 2 k).toNat + 1 < N) ∧ inB p k (k + 1) ∧ inB p k (p 2 k).toNat ∧ 0 ≤ p 3 k ∧ p 3 k < 10 ∧ p 0 (k + 1) = 1 ∧ (p 1 k = 0 ∨ p 1 k = 1) := by
  have a := hp.1.2.2.2.2.2 k hk k12
  have o := (hp.2.2.1 k hk).2.2.2.2.2.2.2.2.2.1 k12
  have c := (hp.2.2.1 k hk).1
  exact ⟨a.1, ⟨by omega, by omega⟩, inB_look k12 a.1 (by omega) (by omega), inB_look k12 a.1 (by omega) (by omega), by omega, by omega, o.2.2.1, o.1⟩
theorem RI_look {p : Nat → Nat → Int} {R : Nat → Int} {N : Nat} {len : Int} {x : Nat → Int} {Q : Nat → Int} {sn : Nat → Nat → Int} {rg : Nat → Int} {tr cnt k : Nat} {pl md : Int} (hp : prR p R N) (hl : len ≤ 24) (hm : md ≤ 501) (k12 : p 0 k = 12) (h : RIc p R N len x Q sn rg tr cnt k pl md) : RIc p R N len (zu x cnt (2 + 4 * ((k : Int) + 256 * (pl + 32 * (tr : Int))))) (zu Q (p 3 k).toNat cnt) sn rg tr (cnt + 1) (k + 1) pl md := by
  obtain ⟨i1, i2, i3, i4, i5⟩ := h
  have hk := i1.1
  have kN := hp.2.1
  obtain ⟨l0, ⟨l1, l2⟩, l3, l4, l5, l6, l7, l8⟩ := look_in hp hk k12
  obtain ⟨-, -, -, sB, b1, b2⟩ := hp.1.2.2.2.2.2 k hk k12
  have wn := Wr_nn rg 130
  have cn := cntB_nn (p := p) (q := 10) (r := k) N
  have dO : dcp (p 0 k) = 0 := by rw [k12]; rfl
  have cO : crp (p 0 k) = 0 := by rw [k12]; rfl
  have dB : dcp (p 0 (k + 1)) = 8 := by rw [l7]; rfl
  have cB : crp (p 0 (k + 1)) = 1 := by rw [l7]; rfl
  have w2 := i1.2.1
  have w3 := i1.2.2.1
  obtain ⟨d1, d2, d3, d4, d5⟩ := dec4 (kd := 2) (w := k) (pl := pl) (tr := tr) (by omega) (by omega) (by omega) (by omega) (by omega) (by omega) (by omega)
  generalize 2 + 4 * ((k : Int) + 256 * (pl + 32 * (tr : Int))) = v at *
  have ez : ∀ m, m < cnt → zu x cnt v m = x m := fun m hm => zu_ne (by omega)
  have qz : ∀ k', k' < N → p 0 k' = 12 → k' ≠ k → zu Q (p 3 k).toNat cnt (p 3 k').toNat = Q (p 3 k').toNat := fun k' a b ne => by
    have o := look_in hp a b
    exact zu_ne (fun y => ne (hp.2.2.2.2.1 k' k a hk b k12 (by omega)))
  have cb := cntB_but (q := 10) b1 inB_not_self l3 N
  rw [if_neg (fun y => by rw [k12] at y; exact absurd y.2 (by decide))] at cb
  obtain ⟨h0, h1, h2, h3, h4, h5, h6, h7, h8⟩ := i1
  have i1' : RSb p N len (zu x cnt v) (zu Q (p 3 k).toNat cnt) sn k rg pl cnt := RSb_cong ez (fun k' a b c => qz k' a b (fun y => by subst y; exact inB_not_self c)) (fun _ _ => rfl) ⟨h0, h1, h2, h3, h4, h5, h6, h7, h8⟩
  have stc : StR p R N len md (zu x cnt v) (zu Q (p 3 k).toNat cnt) sn cnt tr := by
    refine StR_cong (Int.le_refl _) (Nat.le_refl _) (fun _ _ y => y) ez (fun k' a b c => qz k' a b (fun y => ?_)) (fun _ _ _ _ => rfl) i4
    subst y
    obtain ⟨i, hi, hb⟩ := c
    obtain ⟨m, m1, m2, m3, m4, -⟩ := (i4.1 i hi).1.2.2.2.1.2.2.2.2.2.2.2.1 k' a b hb
    have hx := h8 m (by omega) m3
    rw [m4] at hx
    exact inB_not_self hx
  have lin := Ps_lin (p := p) (R := R) (N := N) (rg := rg) (pl := pl) N k ((p 2 k).toNat + 1) (fun h _ => sB h)
  have nn := Ps_nn (rg := rg) (pl := pl) hp.1 N ((p 2 k).toNat + 1) (Nat.le_refl _) l2
  have r1 := hp.1.1 k (k + 1) (by omega) (by omega)
  have r2 := hp.1.1 (p 2 k).toNat ((p 2 k).toNat + 1) (by omega) (by omega)
  have ps : Ps p R N rg pl N (k + 1) = R (p 2 k).toNat - R (k + 1) := by
    rw [Ps_drop (p := p) (R := R) (N := N) (rg := rg) (pl := pl) (pos := k + 1) (n := k + 1) N (by omega) (fun h h1 _ _ y => by have := y.1; omega), Ps, pif_pos ⟨l3, k12⟩]
  refine ⟨⟨by omega, h1, h2, h3, h4, fun j a b c => ?_, fun j a b c => ?_, fun j a b c => ?_, fun m a b => ?_⟩, by omega, by omega, ⟨fun i hi => ?_, fun i j hij hj => ?_⟩, i5⟩
  · have ne : j ≠ k := fun y => by rw [y, k12] at b; exact absurd b (by decide)
    exact h5 j a b ((b1 j ne).mpr c)
  · have ne : j ≠ k := fun y => by rw [y, k12] at b; exact absurd b (by decide)
    exact h6 j a b ((b1 j ne).mpr c)
  · by_cases e : j = k
    · subst e
      refine ⟨cnt, zu_eq, by omega, by rw [zu_eq]; exact d1, by rw [zu_eq]; exact d2, ?_⟩
      rw [zu_eq, d4, show ((tr : Int)).toNat = tr by omega, i5]
      exact fun _ _ _ => ⟨fun _ => ⟨rfl, rfl⟩, fun _ => rfl⟩
    · obtain ⟨m, m1, m2, m3, m4, m5⟩ := h7 j a b ((b1 j e).mpr c)
      refine ⟨m, (qz j a b e).trans m1, by omega, ?_⟩
      rw [ez m m2]
      exact ⟨m3, m4, m5⟩
  · by_cases e : m = cnt
    · subst e
      rw [zu_eq, d2, show ((k : Int)).toNat = k by omega]
      exact l3
    · rw [ez m (by omega)] at b ⊢
      have hx := h8 m (by omega) b
      exact (b1 _ (fun y => by rw [y] at hx; exact inB_not_self hx)).mp hx
  · by_cases e : i = cnt
    · subst e
      refine ⟨?_, by rw [zu_eq]; omega⟩
      unfold EntR
      rw [zu_eq, d1, d2, d3, d4, show ((k : Int)).toNat = k by omega, show ((tr : Int)).toNat = tr by omega, i5]
      exact ⟨d5, by omega, by decide, i1', i2, fun _ => i3, fun _ => k12, fun y => absurd y (by decide)⟩
    · exact stc.1 i (by omega)
  · by_cases e : j = cnt
    · subst e
      rw [zu_eq]
      by_cases e2 : i = j
      · subst e2; rw [zu_eq]; exact Int.le_refl _
      · rw [ez i (by omega)]
        have := (i4.1 i (by omega)).2
        omega
    · exact stc.2 i j hij (by omega)
theorem RI_looked {p : Nat → Nat → Int} {R : Nat → Int} {N : Nat} {len : Int} {x : Nat → Int} {Q : Nat → Int} {sn : Nat → Nat → Int} {rg : Nat → Int} {tr cnt r : Nat} {pl md : Int} (hp : prR p R N) (r13 : p 0 r = 13) (h : RIc p R N len x Q sn rg tr cnt r pl md) : ∃ m : Nat, Q (p 3 r).toNat = m ∧ m < cnt ∧ x m % 4 = 2 ∧ RIc p R N len x Q sn rg tr m (r + 1) (x m / 1024 % 32) md := by
  obtain ⟨i1, i2, i3, i4, i5⟩ := h
  obtain ⟨y0, y1, y2, y3, y4, y5⟩ := (hp.2.2.1 r i1.1).2.2.2.2.2.2.2.2.2.2.1 r13
  have hr := i1.1
  generalize hk' : (p 1 r).toNat = k at *
  have hk : k < N := by omega
  obtain ⟨l0, ⟨l1, l2⟩, l3, l4, l5, l6, l7, l8⟩ := look_in hp hk y2
  have er : (p 2 k).toNat = r := by omega
  rw [er] at l1 l2 l4
  obtain ⟨-, -, -, sB, b1, b2⟩ := hp.1.2.2.2.2.2 k hk y2
  rw [er] at sB b2
  obtain ⟨h0, h1, h2, h3, h4, h5, h6, h7, h8⟩ := i1
  obtain ⟨m, m1, m2, m3, m4, m5⟩ := h7 k hk y2 l4
  obtain ⟨e0, e1, e2, e3, e4, e5, e6, e7⟩ := (i4.1 m m2).1
  rw [m4, show ((k : Int)).toNat = k by omega] at e3 e5
  obtain ⟨f0, f1, f2, f3, f4, f5, f6, f7, f8⟩ := e3
  have dO : dcp (p 0 r) = 0 := by rw [r13]; rfl
  have cO : crp (p 0 k) = 0 := by rw [y2]; rfl
  have dB := dcp_nn (p 0 (r + 1))
  have cB := crp_nn (p 0 (r + 1))
  have nik : ¬ inB p k (r + 1) := fun y => by
    have := (inB_lt hp.1 hk y).2 y2
    omega
  have cb := cntB_but (q := 10) (b := k) (r := r + 1) (x := r) (fun h ne => (b2 h ne).symm) nik l4 N
  rw [if_neg (fun y => by rw [y2] at y; exact absurd y.2 (by decide))] at cb
  have e5' := e5 (by omega)
  have lin := Ps_lin (p := p) (R := R) (N := N) (rg := sn (x m / 32768).toNat) (pl := x m / 1024 % 32) N k (r + 1) (fun h _ => sB h)
  have r1 := hp.1.1 k (r + 1) (by omega) (by omega)
  have pc : Ps p R N rg (x m / 1024 % 32) N (r + 1) = Ps p R N (sn (x m / 32768).toNat) (x m / 1024 % 32) N (r + 1) := by
    refine Ps_cong hp.1 N (r + 1) (Nat.le_refl _) l2 (fun j hj j14 jb => ?_)
    exact (m5 j hj ((sB j).mpr jb)).1 j14
  refine ⟨m, by rw [y4]; exact m1, m2, m3, ⟨l2, f1, f2, h3, h4, fun j a b c => ?_, fun j a b c => ?_, fun j a b c => ?_, fun j a b => (sB _).mp (f8 j a b)⟩, by omega, by omega, ?_, i5⟩
  · have jb := (sB j).mpr c
    obtain ⟨w1, w2⟩ := (m5 j a jb).1 b
    rw [w1, w2]
    exact f5 j a b jb
  · have jb := (sB j).mpr c
    rw [(m5 j a jb).2 b]
    exact f6 j a b jb
  · have jb := (sB j).mpr c
    obtain ⟨m', n1, n2, n3, n4, n5⟩ := f7 j a b jb
    obtain ⟨m'', o1, o2, o3, o4, o5⟩ := h7 j a b (inB_under hp.1 hk y2 jb l4)
    have em : m'' = m' := by omega
    subst em
    exact ⟨m'', o1, n2, o3, o4, o5⟩
  · exact StR_cong (Int.le_refl _) (by omega) (fun _ _ y => y) (fun _ _ => rfl) (fun _ _ _ _ => rfl) (fun _ _ _ _ => rfl) i4
