/-- the registers, the trail's account, the choices' account, the pending choices -/
def RIc (p : Nat → Nat → Int) (R : Nat → Int) (N : Nat) (len : Int) (x : Nat → Int) (Q : Nat → Int) (sn : Nat → Nat → Int) (rg : Nat → Int) (tr cnt pos : Nat) (pl md : Int) : Prop :=
  RSb p N len x Q sn pos rg pl cnt ∧ (tr : Int) + Wr rg 130 + 4 * cntB p 10 pos N ≤ 8 * md + 40 + dcp (p 0 pos) ∧ (cnt : Int) + Ps p R N rg pl N pos ≤ 79 * (pl + 1) + 2 * md + crp (p 0 pos) ∧ StR p R N len md x Q sn cnt tr ∧ sn tr = rg
theorem inB_under {p : Nat → Nat → Int} {R : Nat → Int} {N h k pos : Nat} (hs : shR p R N) (hk : k < N) (h12 : p 0 k = 12) (h1 : inB p h k) (h2 : inB p k pos) : inB p h pos := by
  have e := (inB_lt hs hk h2).2 h12
  obtain ⟨-, -, -, sB, -⟩ := hs.2.2.2.2.2 k hk h12
  have h3 := (sB h).mp h1
  have h4 := h2.1
  have h5 := h1.1
  obtain ⟨-, h6 | h6 | h6⟩ := h3
  · exact ⟨by omega, Or.inl ⟨h6.1, by omega⟩⟩
  · exact ⟨by omega, Or.inr (Or.inl ⟨h6.1, by omega⟩)⟩
  · exact ⟨by omega, Or.inr (Or.inr ⟨h6.1, fun y hy => h6.2 y (by omega)⟩)⟩
theorem dec4 {kd w pl tr : Int} (h0 : 0 ≤ kd) (h1 : kd < 4) (h2 : 0 ≤ w) (h3 : w < 256) (h4 : 0 ≤ pl) (h5 : pl < 32) (h6 : 0 ≤ tr) : (kd + 4 * (w + 256 * (pl + 32 * tr))) % 4 = kd ∧ (kd + 4 * (w + 256 * (pl + 32 * tr))) / 4 % 256 = w ∧ (kd + 4 * (w + 256 * (pl + 32 * tr))) / 1024 % 32 = pl ∧ (kd + 4 * (w + 256 * (pl + 32 * tr))) / 32768 = tr ∧ 0 ≤ kd + 4 * (w + 256 * (pl + 32 * tr)) := by
  refine ⟨by omega, by omega, by omega, by omega, by omega⟩
theorem StR_md {p : Nat → Nat → Int} {R : Nat → Int} {N : Nat} {len md md' : Int} {x : Nat → Int} {Q : Nat → Int} {sn : Nat → Nat → Int} {cnt tr : Nat} (hm : md ≤ md') (h : StR p R N len md x Q sn cnt tr) : StR p R N len md' x Q sn cnt tr :=
  StR_cong hm (Nat.le_refl _) (fun _ _ y => y) (fun _ _ => rfl) (fun _ _ _ _ => rfl) (fun _ _ _ _ => rfl) h
theorem StR_push {p : Nat → Nat → Int} {R : Nat → Int} {N : Nat} {len md : Int} {x : Nat → Int} {Q : Nat → Int} {sn : Nat → Nat → Int} {cnt tr : Nat} {v : Int} (h : StR p R N len md x Q sn cnt tr) (he : EntR p R N len md (zu x cnt v) Q sn cnt) (ht : v / 32768 = tr) : StR p R N len md (zu x cnt v) Q sn (cnt + 1) tr := by
  have ez : ∀ m, m < cnt → zu x cnt v m = x m := fun m hm => zu_ne (by omega)
  refine ⟨fun i hi => ?_, fun i j hij hj => ?_⟩
  · by_cases e : i = cnt
    · subst e
      exact ⟨he, by rw [zu_eq]; omega⟩
    · obtain ⟨h1, h2⟩ := h.1 i (by omega)
      refine ⟨EntR_cong (Int.le_refl _) (fun m hm => ez m (by omega)) (fun _ _ _ _ => rfl) (fun _ _ => rfl) h1, ?_⟩
      rw [ez i (by omega)]; exact h2
  · by_cases e : j = cnt
    · subst e
      rw [zu_eq]
      by_cases e2 : i = j
      · subst e2; rw [zu_eq]; exact Int.le_refl _
      · rw [ez i (by omega)]
        have := (h.1 i (by omega)).2
        omega
    · rw [ez i (by omega), ez j (by omega)]
      exact h.2 i j hij (by omega)
theorem RSb_push {p : Nat → Nat → Int} {N : Nat} {len : Int} {x : Nat → Int} {Q : Nat → Int} {sn : Nat → Nat → Int} {pos : Nat} {rg : Nat → Int} {pl : Int} {i : Nat} {v : Int} (h : RSb p N len x Q sn pos rg pl i) (hv : v % 4 ≠ 2) : RSb p N len (zu x i v) Q sn pos rg pl (i + 1) := by
  obtain ⟨h0, h1, h2, h3, h4, h5, h6, h7, h8⟩ := h
  have ez : ∀ m, m < i → zu x i v m = x m := fun m hm => zu_ne (by omega)
  refine ⟨h0, h1, h2, h3, h4, h5, h6, fun k a b c => ?_, fun m a b => ?_⟩
  · obtain ⟨m, m1, m2, m3⟩ := h7 k a b c
    exact ⟨m, m1, by omega, by rw [ez m m2]; exact m3⟩
  · by_cases e : m = i
    · subst e; rw [zu_eq] at b; exact absurd b hv
    · rw [ez m (by omega)] at b ⊢
      exact h8 m (by omega) b
/-- the registers change, but not those of blocks around -/
theorem RSb_regs {p : Nat → Nat → Int} {R : Nat → Int} {N : Nat} {len : Int} {x : Nat → Int} {Q : Nat → Int} {sn : Nat → Nat → Int} {pos : Nat} {rg rg' : Nat → Int} {pl : Int} {i : Nat} (hs : shR p R N) (h : RSb p N len x Q sn pos rg pl i) (g3 : ∀ y, y < 130 → -1 ≤ rg' y ∧ rg' y ≤ 34) (g4 : ∀ g : Nat, 1 ≤ g → g ≤ 9 → rg' g ≤ len ∧ rg' (10 + g) ≤ len ∧ (0 ≤ rg' g → rg' g ≤ rg' (10 + g)) ∧ (0 ≤ rg' (10 + g) → 0 ≤ rg' g)) (g5 : ∀ h, h < N → p 0 h = 14 → inB p h pos → rg' (reL p h) = rg (reL p h) ∧ rg' (rbL p h) = rg (rbL p h)) (g6 : ∀ h, h < N → p 0 h = 10 → inB p h pos → rg' (20 + p 1 h).toNat = rg (20 + p 1 h).toNat) : RSb p N len x Q sn pos rg' pl i := by
  obtain ⟨h0, h1, h2, h3, h4, h5, h6, h7, h8⟩ := h
  refine ⟨h0, h1, h2, g3, g4, fun k a b c => ?_, fun k a b c => ?_, fun k a b c => ?_, h8⟩
  · obtain ⟨w1, w2⟩ := g5 k a b c
    rw [w1, w2]; exact h5 k a b c
  · rw [g6 k a b c]; exact h6 k a b c
  · obtain ⟨m, m1, m2, m3, m4, m5⟩ := h7 k a b c
    refine ⟨m, m1, m2, m3, m4, fun j hj hb => ?_⟩
    have hu := inB_under hs a b hb c
    refine ⟨fun e => ?_, fun e => ?_⟩
    · obtain ⟨w1, w2⟩ := g5 j hj e hu
      rw [w1, w2]; exact (m5 j hj hb).1 e
    · rw [g6 j hj e hu]; exact (m5 j hj hb).2 e
/-- to a place that is in fewer blocks -/
theorem RSb_sub {p : Nat → Nat → Int} {N : Nat} {len : Int} {x : Nat → Int} {Q : Nat → Int} {sn : Nat → Nat → Int} {pos pos' : Nat} {rg : Nat → Int} {pl : Int} {i : Nat} (hN : pos' < N) (hs : ∀ h, inB p h pos' → inB p h pos) (h8' : ∀ m, m < i → x m % 4 = 2 → inB p (x m / 4 % 256).toNat pos → inB p (x m / 4 % 256).toNat pos') (h : RSb p N len x Q sn pos rg pl i) : RSb p N len x Q sn pos' rg pl i := by
  obtain ⟨h0, h1, h2, h3, h4, h5, h6, h7, h8⟩ := h
  exact ⟨hN, h1, h2, h3, h4, fun k a b c => h5 k a b (hs k c), fun k a b c => h6 k a b (hs k c), fun k a b c => h7 k a b (hs k c), fun m a b => h8' m a b (h8 m a b)⟩
theorem RSb_pl {p : Nat → Nat → Int} {N : Nat} {len : Int} {x : Nat → Int} {Q : Nat → Int} {sn : Nat → Nat → Int} {pos : Nat} {rg : Nat → Int} {pl pl' : Int} {i : Nat} (h1' : pl ≤ pl') (h2' : pl' ≤ len) (h : RSb p N len x Q sn pos rg pl i) : RSb p N len x Q sn pos rg pl' i := by
  obtain ⟨h0, h1, h2, h3, h4, h5, h6, h7, h8⟩ := h
  refine ⟨h0, by omega, h2', h3, h4, fun k a b c => ?_, fun k a b c => ?_, h7, h8⟩
  · have := h5 k a b c; omega
  · have := h6 k a b c; omega
/-- into a loop or a group that begins here -/
theorem RSb_add {p : Nat → Nat → Int} {N : Nat} {len : Int} {x : Nat → Int} {Q : Nat → Int} {sn : Nat → Nat → Int} {b : Nat} {rg rg' : Nat → Int} {pl : Int} {i : Nat} (hN : b + 1 < N) (hb : butB p b b (b + 1)) (h : RSb p N len x Q sn b rg pl i) (g3 : ∀ y, y < 130 → -1 ≤ rg' y ∧ rg' y ≤ 34) (g4 : ∀ g : Nat, 1 ≤ g → g ≤ 9 → rg' g ≤ len ∧ rg' (10 + g) ≤ len ∧ (0 ≤ rg' g → rg' g ≤ rg' (10 + g)) ∧ (0 ≤ rg' (10 + g) → 0 ≤ rg' g)) (g5 : ∀ h, h < N → p 0 h = 14 → h < b → rg' (reL p h) = rg (reL p h) ∧ rg' (rbL p h) = rg (rbL p h)) (g6 : ∀ h, h < N → p 0 h = 10 → h < b → rg' (20 + p 1 h).toNat = rg (20 + p 1 h).toNat) (n12 : p 0 b ≠ 12) (n14 : p 0 b = 14 → 1 ≤ rg' (reL p b) ∧ rg' (reL p b) ≤ leL p b + 1 + rg' (rbL p b) ∧ 0 ≤ rg' (rbL p b) ∧ rg' (rbL p b) ≤ pl) (n10 : p 0 b = 10 → 0 ≤ rg' (20 + p 1 b).toNat ∧ rg' (20 + p 1 b).toNat ≤ pl) : RSb p N len x Q sn (b + 1) rg' pl i := by
  obtain ⟨h0, h1, h2, h3, h4, h5, h6, h7, h8⟩ := h
  refine ⟨hN, h1, h2, g3, g4, fun k a e c => ?_, fun k a e c => ?_, fun k a e c => ?_, fun m a e => ?_⟩
  · by_cases kb : k = b
    · subst kb; exact n14 e
    · have c' := (hb k kb).mpr c
      obtain ⟨w1, w2⟩ := g5 k a e c'.1
      rw [w1, w2]; exact h5 k a e c'
  · by_cases kb : k = b
    · subst kb; exact n10 e
    · have c' := (hb k kb).mpr c
      rw [g6 k a e c'.1]; exact h6 k a e c'
  · have kb : k ≠ b := fun y => n12 (by rw [← y]; exact e)
    have c' := (hb k kb).mpr c
    obtain ⟨m, m1, m2, m3, m4, m5⟩ := h7 k a e c'
    refine ⟨m, m1, m2, m3, m4, fun j hj hjb => ?_⟩
    have l1 := hjb.1
    have l2 := c'.1
    refine ⟨fun e => ?_, fun e => ?_⟩
    · obtain ⟨w1, w2⟩ := g5 j hj e (by omega)
      rw [w1, w2]; exact (m5 j hj hjb).1 e
    · rw [g6 j hj e (by omega)]; exact (m5 j hj hjb).2 e
  · have c := h8 m a e
    exact (hb _ (fun y => by have := c.1; omega)).mp c
/-- to a later place in the same blocks -/
theorem RI_move {p : Nat → Nat → Int} {R : Nat → Int} {N : Nat} {len : Int} {x : Nat → Int} {Q : Nat → Int} {sn : Nat → Nat → Int} {rg : Nat → Int} {tr cnt pos pos' : Nat} {pl pl' md md' : Int} (hp : prR p R N) (hs : sameB p pos pos') (hlt : pos ≤ pos') (hN : pos' < N) (hpl : pl ≤ pl') (hle : pl' ≤ len) (hmd : md ≤ md') (h8 : 8 * md + dcp (p 0 pos) ≤ 8 * md' + dcp (p 0 pos')) (h2 : 2 * md + crp (p 0 pos) ≤ 2 * md' + crp (p 0 pos')) (h : RIc p R N len x Q sn rg tr cnt pos pl md) : RIc p R N len x Q sn rg tr cnt pos' pl' md' := by
  obtain ⟨i1, i2, i3, i4, i5⟩ := h
  have r1 := hp.1.1 pos pos' hlt hN
  have lin := Ps_lin (p := p) (R := R) (N := N) (rg := rg) (pl := pl) N pos pos' (fun h _ => hs h)
  have nn := Ps_nn (rg := rg) (pl := pl) hp.1 N pos (Nat.le_refl _) i1.1
  refine ⟨RSb_pl hpl hle (RSb_go hs hN i1), by rw [← cntB_same hs]; omega, ?_, StR_md hmd i4, i5⟩
  by_cases e : pl = pl'
  · subst e; omega
  · have := Ps_sup (rg := rg) (pl := pl') hp.1 N pos' (Nat.le_refl _) hN (fun h a b c => (i1.2.2.2.2.2.1 h a b ((hs h).mpr c)).1)
    omega
/-- a choice of the kind 0 -/
theorem St_push0 {p : Nat → Nat → Int} {R : Nat → Int} {N : Nat} {len : Int} {x : Nat → Int} {Q : Nat → Int} {sn : Nat → Nat → Int} {rg : Nat → Int} {tr cnt w : Nat} {pl md : Int} (hl : len ≤ 24) (hN : N ≤ 125) (h1 : RSb p N len x Q sn w rg pl cnt) (ht : tr ≤ 5000) (h2 : (tr : Int) + Wr rg 130 + 4 * cntB p 10 w N ≤ 8 * md + 40 + dcp (p 0 w)) (h3 : (cnt : Int) + Ps p R N rg pl N w ≤ 79 * (pl + 1) + 2 * md + crp (p 0 w)) (h4 : StR p R N len md x Q sn cnt tr) (h5 : sn tr = rg) : StR p R N len md (zu x cnt (0 + 4 * ((w : Int) + 256 * (pl + 32 * (tr : Int))))) Q sn (cnt + 1) tr := by
  have w1 := h1.1
  have w2 := h1.2.1
  have w3 := h1.2.2.1
  obtain ⟨d1, d2, d3, d4, d5⟩ := dec4 (kd := 0) (w := w) (pl := pl) (tr := tr) (by omega) (by omega) (by omega) (by omega) (by omega) (by omega) (by omega)
  refine StR_push h4 ?_ d4
  unfold EntR
  rw [zu_eq, d1, d2, d3, d4, show ((w : Int)).toNat = w by omega, show ((tr : Int)).toNat = tr by omega, h5]
  refine ⟨d5, by omega, by decide, RSb_cong (fun m hm => zu_ne (by omega)) (fun _ _ _ _ => rfl) (fun _ _ => rfl) h1, h2, fun _ => h3, fun y => absurd y (by decide), fun y => absurd y (by decide)⟩
/-- a choice of the kind 1 -/
theorem St_push1 {p : Nat → Nat → Int} {R : Nat → Int} {N : Nat} {len : Int} {x : Nat → Int} {Q : Nat → Int} {sn : Nat → Nat → Int} {rg : Nat → Int} {tr cnt w : Nat} {pl md : Int} (hl : len ≤ 24) (hN : N ≤ 125) (h1 : RSb p N len x Q sn w rg pl cnt) (ht : tr ≤ 5000) (h2 : (tr : Int) + Wr rg 130 + 4 * cntB p 10 w N ≤ 8 * md + 40 + dcp (p 0 w)) (h14 : p 0 w = 14) (t0 : 0 ≤ rg (reL p w)) (t1 : rg (reL p w) ≤ leL p w + pl) (t2 : leL p w ≤ rg (reL p w)) (h3 : (cnt : Int) + (R (enL p w) - R (w + 1)) ≤ 79 * (pl + 1) + 2 * md) (h4 : StR p R N len md x Q sn cnt tr) (h5 : sn tr = rg) : StR p R N len md (zu x cnt (1 + 4 * ((w : Int) + 256 * (pl + 32 * (tr : Int))))) Q sn (cnt + 1) tr := by
  have w1 := h1.1
  have w2 := h1.2.1
  have w3 := h1.2.2.1
  obtain ⟨d1, d2, d3, d4, d5⟩ := dec4 (kd := 1) (w := w) (pl := pl) (tr := tr) (by omega) (by omega) (by omega) (by omega) (by omega) (by omega) (by omega)
  refine StR_push h4 ?_ d4
  unfold EntR
  rw [zu_eq, d1, d2, d3, d4, show ((w : Int)).toNat = w by omega, show ((tr : Int)).toNat = tr by omega, h5]
  exact ⟨d5, by omega, by decide, RSb_cong (fun m hm => zu_ne (by omega)) (fun _ _ _ _ => rfl) (fun _ _ => rfl) h1, h2, fun y => absurd rfl y, fun y => absurd y (by decide), fun _ => ⟨h14, t0, t1, t2, h3⟩⟩
/-- an alternative -/
theorem RI_begin {p : Nat → Nat → Int} {R : Nat → Int} {N : Nat} {len : Int} {x : Nat → Int} {Q : Nat → Int} {sn : Nat → Nat → Int} {rg : Nat → Int} {tr cnt r : Nat} {pl md : Int} (hp : prR p R N) (hl : len ≤ 24) (hm : md ≤ 500) (h1 : p 0 r = 1) (h : RIc p R N len x Q sn rg tr cnt r pl md) :
    RIc p R N len x Q sn rg tr cnt (r + 1) pl (md + 1) ∧ (0 ≤ p 1 r → RIc p R N len (zu x cnt (0 + 4 * (p 1 r + 256 * (pl + 32 * (tr : Int))))) Q sn rg tr (cnt + 1) (r + 1) pl (md + 1)) := by
  have hr := h.1.1
  have wn := Wr_nn rg 130
  have cn := cntB_nn (p := p) (q := 10) (r := r) N
  obtain ⟨o1, o2, o3⟩ := (hp.2.2.1 r hr).2.1 h1
  have dc : dcp (p 0 r) = 8 := by rw [h1]; rfl
  have cr : crp (p 0 r) = 1 := by rw [h1]; rfl
  have dn : 0 ≤ dcp (p 0 (r + 1)) := by unfold dcp; (repeat' split) <;> omega
  have cn2 : 0 ≤ crp (p 0 (r + 1)) := by unfold crp; split <;> omega
  have a1 := RI_move (pos' := r + 1) (pl' := pl) (md' := md + 1) hp o2 (by omega) o1 (Int.le_refl _) h.1.2.2.1 (by omega) (by omega) (by omega) h
  refine ⟨a1, fun ha => ?_⟩
  rcases o3 with o3 | ⟨o4, o5, o6, o7⟩
  · omega
  have ew : p 1 r = (((p 1 r).toNat : Nat) : Int) := by omega
  have hb : p 0 (p 1 r).toNat = 1 := o6
  have a2 := RI_move (pos' := (p 1 r).toNat) (pl' := pl) (md' := md + 1) hp o7 (by omega) (by omega) (Int.le_refl _) h.1.2.2.1 (by omega) (by rw [h1, hb]; omega) (by rw [h1, hb]; omega) h
  have tb : tr ≤ 5000 := by have := h.2.1; omega
  have st := St_push0 hl hp.2.1 a2.1 tb a2.2.1 a2.2.2.1 a2.2.2.2.1 a2.2.2.2.2
  rw [ew]
  refine ⟨RSb_push a1.1 (by omega), a1.2.1, ?_, st, a1.2.2.2.2⟩
  have lin := Ps_lin (p := p) (R := R) (N := N) (rg := rg) (pl := pl) N r (r + 1) (fun h _ => o2 h)
  have r1 := hp.1.1 r (r + 1) (by omega) o1
  have := h.2.2.1
  omega
