/-- groups g, g + 1, .. (n of them) have taken nothing -/
def clrG : Nat → Nat → (Nat → Int) → (Nat → Int)
  | 0, _, r => r
  | n + 1, g, r => clrG n (g + 1) (zu (zu r g (-1)) (10 + g) (-1))
theorem clrG_at (y : Nat) : ∀ (n g : Nat) (r : Nat → Int), clrG n g r y = if (g ≤ y ∧ y < g + n) ∨ (10 + g ≤ y ∧ y < 10 + g + n) then -1 else r y
  | 0, g, r => by rw [clrG, if_neg (by omega)]
  | n + 1, g, r => by
    rw [clrG, clrG_at y n (g + 1)]
    by_cases e1 : y = g
    · subst e1
      rw [zu_ne (show y ≠ 10 + y by omega), zu_eq, if_pos (show (y ≤ y ∧ y < y + (n + 1)) ∨ (10 + y ≤ y ∧ y < 10 + y + (n + 1)) by omega)]
      split <;> rfl
    · by_cases e2 : y = 10 + g
      · subst e2
        rw [zu_eq, if_pos (show (g ≤ 10 + g ∧ 10 + g < g + (n + 1)) ∨ (10 + g ≤ 10 + g ∧ 10 + g < 10 + g + (n + 1)) by omega)]
        split <;> rfl
      · rw [zu_ne e2, zu_ne e1]
        by_cases c : (g + 1 ≤ y ∧ y < g + 1 + n) ∨ (10 + (g + 1) ≤ y ∧ y < 10 + (g + 1) + n)
        · rw [if_pos c, if_pos (show (g ≤ y ∧ y < g + (n + 1)) ∨ (10 + g ≤ y ∧ y < 10 + g + (n + 1)) by omega)]
        · rw [if_neg c, if_neg (show ¬ ((g ≤ y ∧ y < g + (n + 1)) ∨ (10 + g ≤ y ∧ y < 10 + g + (n + 1))) by omega)]
/-- the registers once a pass of the loop at k has begun -/
def passG (p : Nat → Nat → Int) (k : Nat) (rg : Nat → Int) (pl : Int) : Nat → Int :=
  clrG (p 2 k % 16 - p 2 k / 16 % 256).toNat (p 2 k / 16 % 256 + 1).toNat (zu (zu rg (reL p k) (rg (reL p k) + 1)) (rbL p k) pl)
theorem passG_hi {p : Nat → Nat → Int} {k : Nat} {rg : Nat → Int} {pl : Int} {y : Nat} (h0 : 0 ≤ p 2 k) (h1 : p 2 k / 16 % 256 ≤ p 2 k % 16) (h2 : p 2 k % 16 ≤ 9) (hy : 20 ≤ y) : passG p k rg pl y = zu (zu rg (reL p k) (rg (reL p k) + 1)) (rbL p k) pl y := by
  unfold passG
  rw [clrG_at, if_neg (by omega)]
theorem passG_lo {p : Nat → Nat → Int} {k : Nat} {rg : Nat → Int} {pl : Int} {y : Nat} (h3 : 0 ≤ p 3 k) (hy : y < 20) : passG p k rg pl y = rg y ∨ passG p k rg pl y = -1 := by
  unfold passG
  rw [clrG_at]
  split
  · exact Or.inr rfl
  · left
    rw [zu_ne (show y ≠ rbL p k by unfold rbL; omega), zu_ne (show y ≠ reL p k by unfold reL; omega)]
theorem passG_gr {p : Nat → Nat → Int} {k : Nat} {rg : Nat → Int} {pl : Int} {g : Nat} (h0 : 0 ≤ p 2 k) (h1 : p 2 k / 16 % 256 ≤ p 2 k % 16) (h2 : p 2 k % 16 ≤ 9) (h3 : 0 ≤ p 3 k) (g1 : 1 ≤ g) (g9 : g ≤ 9) : (passG p k rg pl g = rg g ∧ passG p k rg pl (10 + g) = rg (10 + g)) ∨ (passG p k rg pl g = -1 ∧ passG p k rg pl (10 + g) = -1) := by
  unfold passG
  rw [clrG_at, clrG_at, zu_ne (show g ≠ rbL p k by unfold rbL; omega), zu_ne (show g ≠ reL p k by unfold reL; omega), zu_ne (show 10 + g ≠ rbL p k by unfold rbL; omega), zu_ne (show 10 + g ≠ reL p k by unfold reL; omega)]
  by_cases c : (p 2 k / 16 % 256 + 1).toNat ≤ g ∧ g < (p 2 k / 16 % 256 + 1).toNat + (p 2 k % 16 - p 2 k / 16 % 256).toNat
  · right
    exact ⟨if_pos (by omega), if_pos (by omega)⟩
  · left
    exact ⟨if_neg (by omega), if_neg (by omega)⟩
theorem passG_re {p : Nat → Nat → Int} {k : Nat} {rg : Nat → Int} {pl : Int} (h0 : 0 ≤ p 2 k) (h1 : p 2 k / 16 % 256 ≤ p 2 k % 16) (h2 : p 2 k % 16 ≤ 9) (h3 : 0 ≤ p 3 k) (h4 : p 3 k < 20) : passG p k rg pl (reL p k) = rg (reL p k) + 1 ∧ passG p k rg pl (rbL p k) = pl := by
  refine ⟨?_, ?_⟩
  · rw [passG_hi h0 h1 h2 (by unfold reL; omega), zu_ne (show reL p k ≠ rbL p k by unfold rbL reL; omega), zu_eq]
  · rw [passG_hi h0 h1 h2 (by unfold rbL; omega), zu_eq]
theorem passG_ot {p : Nat → Nat → Int} {k : Nat} {rg : Nat → Int} {pl : Int} {y : Nat} (h0 : 0 ≤ p 2 k) (h1 : p 2 k / 16 % 256 ≤ p 2 k % 16) (h2 : p 2 k % 16 ≤ 9) (hy : 20 ≤ y) (n1 : y ≠ reL p k) (n2 : y ≠ rbL p k) : passG p k rg pl y = rg y := by
  rw [passG_hi h0 h1 h2 hy, zu_ne n2, zu_ne n1]
/-- other loops' registers -/
theorem loop_ne {p : Nat → Nat → Int} {R : Nat → Int} {N h k : Nat} (hp : prR p R N) (hh : h < N) (hk : k < N) (h14 : p 0 h = 14) (k14 : p 0 k = 14) (ne : h ≠ k) : reL p h ≠ reL p k ∧ rbL p h ≠ rbL p k ∧ reL p h ≠ rbL p k ∧ rbL p h ≠ reL p k ∧ 30 ≤ reL p h ∧ reL p h < 50 ∧ 80 ≤ rbL p h ∧ rbL p h < 100 := by
  have n3 : p 3 h ≠ p 3 k := fun y => ne (hp.2.2.2.1 h k hh hk h14 k14 y)
  have a := hp.1.2.2.2.2.1 h hh h14
  have b := hp.1.2.2.2.2.1 k hk k14
  unfold reL rbL
  omega
theorem loop_in {p : Nat → Nat → Int} {R : Nat → Int} {N k : Nat} (hp : prR p R N) (hk : k < N) (k14 : p 0 k = 14) : 0 ≤ p 2 k ∧ p 2 k / 16 % 256 ≤ p 2 k % 16 ∧ p 2 k % 16 ≤ 9 ∧ 0 ≤ p 3 k ∧ p 3 k < 20 ∧ inB p k (k + 1) ∧ inB p k (enL p k) ∧ ¬ inB p k (enL p k + 1) ∧ k + 1 < N ∧ enL p k < N ∧ enL p k + 1 < N ∧ 0 ≤ leL p k ∧ leL p k ≤ 9 ∧ stp (p 0 (k + 1)) = 1 := by
  have a := hp.1.2.2.2.2.1 k hk k14
  obtain ⟨o0, -, -, -, -, -, -, -, -, -, -, o14, -, -⟩ := hp.2.2.1 k hk
  have o := o14 k14
  refine ⟨by omega, by omega, by omega, by omega, by omega, inB_loop k14 (by omega) (by omega) (by omega), inB_loop k14 (by omega) (by omega) (by omega), fun y => ?_, by omega, by omega, by omega, by omega, by omega, o.1⟩
  have := (inB_lt hp.1 hk y).1 k14
  omega
theorem RSb_pass {p : Nat → Nat → Int} {R : Nat → Int} {N : Nat} {len : Int} {x : Nat → Int} {Q : Nat → Int} {sn : Nat → Nat → Int} {rg : Nat → Int} {cnt k : Nat} {pl : Int} (hp : prR p R N) (hk : k < N) (k14 : p 0 k = 14) (hl : len ≤ 24) (h : RSb p N len x Q sn k rg pl cnt) (t0 : 0 ≤ rg (reL p k)) (t1 : rg (reL p k) ≤ leL p k + pl) : RSb p N len x Q sn (k + 1) (passG p k rg pl) pl cnt := by
  obtain ⟨l0, l1, l2, l3, l4, l5, l6, l7, l8, l9, l10, l11, l12, l13⟩ := loop_in hp hk k14
  obtain ⟨q1, q2⟩ := passG_re (rg := rg) (pl := pl) l0 l1 l2 l3 l4
  have w1 := h.2.1
  have w2 := h.2.2.1
  have hb := (hp.1.2.2.2.2.1 k hk k14).2.2.2.2.2.2.2.2.2.2.2.2.2.2.1
  refine RSb_add l8 hb h (fun y hy => ?_) (fun g g1 g9 => ?_) (fun j hj j14 jk => ?_) (fun j hj j10 jk => ?_) (by rw [k14]; decide) (fun _ => ?_) (fun e => by rw [k14] at e; exact absurd e (by decide))
  · have b3 := h.2.2.2.1 y hy
    by_cases c : y < 20
    · rcases passG_lo (p := p) (k := k) (rg := rg) (pl := pl) l3 c with e | e <;> rw [e] <;> omega
    · by_cases e1 : y = reL p k
      · rw [e1, q1]; omega
      · by_cases e2 : y = rbL p k
        · rw [e2, q2]; omega
        · rw [passG_ot l0 l1 l2 (by omega) e1 e2]; exact b3
  · have b4 := h.2.2.2.2.1 g g1 g9
    rcases passG_gr (p := p) (k := k) (rg := rg) (pl := pl) l0 l1 l2 l3 g1 g9 with ⟨e, e'⟩ | ⟨e, e'⟩ <;> rw [e, e']
    · exact b4
    · omega
  · have ne := loop_ne hp hj hk j14 k14 (by omega)
    exact ⟨passG_ot l0 l1 l2 (by omega) ne.1 ne.2.2.1, passG_ot l0 l1 l2 (by omega) ne.2.2.2.1 ne.2.1⟩
  · have := ((hp.2.2.1 j hj).2.2.2.2.2.2.2.1 j10)
    exact passG_ot l0 l1 l2 (by omega) (by unfold reL; omega) (by unfold rbL; omega)
  · rw [q1, q2]; omega
/-- the potential at a place of the loop's own level -/
theorem Ps_at {p : Nat → Nat → Int} {R : Nat → Int} {N : Nat} {rg : Nat → Int} {pl : Int} {k pos : Nat} (hk : k < N) (k14 : p 0 k = 14) (hb : inB p k pos) (hn : ∀ h, k < h → ¬ inB p h pos) : Ps p R N rg pl N pos = R (enL p k) - R pos + pif (lockL p rg pl k) 0 ((R (enL p k) - R (k + 1)) * muL p rg k + 1 + mx (exL p R k) (Ps p R N rg pl k (enL p k + 1))) := by
  rw [Ps_drop (p := p) (R := R) (N := N) (rg := rg) (pl := pl) (pos := pos) (n := k + 1) N (by omega) (fun h h1 _ _ => hn h (by omega)), Ps]
  have n12 : ¬ (inB p k pos ∧ p 0 k = 12) := fun y => by rw [k14] at y; exact absurd y.2 (by decide)
  rw [pif_neg n12, pif_pos ⟨hb, k14⟩]
theorem loop_out {p : Nat → Nat → Int} {R : Nat → Int} {N h k : Nat} (hp : prR p R N) (hk : k < N) (k14 : p 0 k = 14) : (inB p h (enL p k + 1) ↔ inB p h k) ∧ (h ≠ k → (inB p h (enL p k) ↔ inB p h k)) ∧ (h ≠ k → (inB p h (k + 1) ↔ inB p h k)) := by
  obtain ⟨-, -, -, -, -, -, -, -, -, -, -, -, -, sB, b1, b2⟩ := hp.1.2.2.2.2.1 k hk k14
  exact ⟨(sB h).symm, fun ne => (b2 h ne).trans (sB h).symm, fun ne => (b1 h ne).symm⟩
theorem Ps_out {p : Nat → Nat → Int} {R : Nat → Int} {N : Nat} {rg : Nat → Int} {pl : Int} {k : Nat} (hp : prR p R N) (hk : k < N) (k14 : p 0 k = 14) : Ps p R N rg pl N (enL p k + 1) = Ps p R N rg pl k (enL p k + 1) ∧ Ps p R N rg pl N k = Ps p R N rg pl k k := by
  refine ⟨Ps_drop (p := p) (R := R) (N := N) (rg := rg) (pl := pl) N (by omega) (fun h h1 _ _ y => ?_), Ps_drop (p := p) (R := R) (N := N) (rg := rg) (pl := pl) N (by omega) (fun h h1 _ _ y => ?_)⟩
  · have := ((loop_out (h := h) hp hk k14).1.mp y).1; omega
  · have := y.1; omega
/-- what is known when a loop decides -/
def DPr (p : Nat → Nat → Int) (R : Nat → Int) (N : Nat) (rg : Nat → Int) (pl : Int) (cnt : Nat) (md : Int) (k : Nat) : Prop :=
  0 ≤ rg (reL p k) ∧ rg (reL p k) ≤ leL p k + pl ∧
  (rg (reL p k) < leL p k → (cnt : Int) + (R (enL p k) - R (k + 1)) * (leL p k - rg (reL p k)) + 1 + mx (exL p R k) (Ps p R N rg pl k (enL p k + 1)) ≤ 79 * (pl + 1) + 2 * md) ∧
  (leL p k ≤ rg (reL p k) → leL p k < moL p k → (cnt : Int) + 1 + (R (enL p k) - R (k + 1)) ≤ 79 * (pl + 1) + 2 * md) ∧
  (leL p k ≤ rg (reL p k) → (cnt : Int) + 1 + Ps p R N rg pl k (enL p k + 1) ≤ 79 * (pl + 1) + 2 * md)
theorem DPr_loop {p : Nat → Nat → Int} {R : Nat → Int} {N : Nat} {rg : Nat → Int} {pl md : Int} {cnt k : Nat} (hp : prR p R N) (hk : k < N) (k14 : p 0 k = 14) (hpl : 0 ≤ pl) (h : (cnt : Int) + Ps p R N rg pl N k ≤ 79 * (pl + 1) + 2 * md) : DPr p R N (zu rg (reL p k) 0) pl cnt md k := by
  obtain ⟨c0, c1, b0, g1, g2, l0, l1, l2, k1, k2, k3, e1, e2, sB, -⟩ := hp.1.2.2.2.2.1 k hk k14
  have lin := Ps_lin (p := p) (R := R) (N := N) (rg := rg) (pl := pl) k k (enL p k + 1) (fun h _ => sB h)
  rw [(Ps_out hp hk k14).2] at h
  have pc : Ps p R N (zu rg (reL p k) 0) pl k (enL p k + 1) = Ps p R N rg pl k (enL p k + 1) := by
    refine Ps_cong hp.1 k (enL p k + 1) (by omega) (by omega) (fun j hj j14 _ => ?_)
    have ne := loop_ne hp (by omega) hk j14 k14 (by omega)
    exact ⟨zu_ne ne.1, zu_ne ne.2.2.2.1⟩
  have nn := Ps_nn (rg := rg) (pl := pl) hp.1 k (enL p k + 1) (by omega) (by omega)
  have r2 := hp.1.1 (k + 1) (enL p k) (by omega) (by omega)
  have m1 := mul_le_r (show 0 ≤ R (enL p k) - R (k + 1) by omega) k2
  have m2 := mul_le_r (show 0 ≤ R (enL p k) - R (k + 1) by omega) k1
  unfold DPr
  rw [zu_eq, pc, Int.sub_zero]
  refine ⟨by omega, by omega, fun a => ?_, fun a b => by omega, fun a => by omega⟩
  have m3 : mx (exL p R k) (Ps p R N rg pl k (enL p k + 1)) ≤ 79 * (pl + 1) + 2 * md - 1 - (R (enL p k) - R (k + 1)) * leL p k - cnt := by
    refine mx_le ?_ (by omega)
    unfold exL
    by_cases e : leL p k < moL p k
    · rw [if_pos e]
      have := mul_le_r (show 0 ≤ R (enL p k) - R (k + 1) by omega) (k3 e)
      rw [Int.mul_add] at this
      omega
    · rw [if_neg e]; omega
  omega
theorem DPr_again {p : Nat → Nat → Int} {R : Nat → Int} {N : Nat} {len : Int} {x : Nat → Int} {Q : Nat → Int} {sn : Nat → Nat → Int} {rg : Nat → Int} {pl md : Int} {cnt k : Nat} (hp : prR p R N) (hk : k < N) (k14 : p 0 k = 14) (hr : RSb p N len x Q sn (enL p k) rg pl cnt) (hi : ¬ lockL p rg pl k) (h : (cnt : Int) + Ps p R N rg pl N (enL p k) ≤ 79 * (pl + 1) + 2 * md) : DPr p R N rg pl cnt md k := by
  obtain ⟨l0, l1, l2, l3, l4, l5, l6, l7, l8, l9, l10, l11, l12, l13⟩ := loop_in hp hk k14
  have hu : ∀ j, k < j → ¬ inB p j (enL p k) := fun j hj y => by
    have := (((loop_out (h := j) hp hk k14).2.1 (by omega)).mp y).1
    omega
  rw [Ps_at hk k14 l6 hu, pif_neg hi] at h
  have m1 := mx_l (exL p R k) (Ps p R N rg pl k (enL p k + 1))
  have m2 := mx_r (exL p R k) (Ps p R N rg pl k (enL p k + 1))
  have b5 := hr.2.2.2.2.2.1 k hk k14 l6
  unfold lockL at hi
  refine ⟨by omega, by omega, fun a => ?_, fun a b => ?_, fun a => ?_⟩
  · have e : muL p rg k = leL p k - rg (reL p k) := by unfold muL; rw [if_pos a]
    rw [e] at h
    omega
  · have e : muL p rg k = 0 := by unfold muL; rw [if_neg (by omega)]
    have e2 : exL p R k = R (enL p k) - R (k + 1) := by unfold exL; rw [if_pos b]
    rw [e] at h
    omega
  · have e : muL p rg k = 0 := by unfold muL; rw [if_neg (by omega)]
    rw [e] at h
    omega
/-- the choices' account behind a pass's begin -/
theorem Ps_pass {p : Nat → Nat → Int} {R : Nat → Int} {N : Nat} {rg : Nat → Int} {pl : Int} {k : Nat} (hp : prR p R N) (hk : k < N) (k14 : p 0 k = 14) : Ps p R N (passG p k rg pl) pl N (k + 1) = if leL p k ≤ rg (reL p k) then R (enL p k) - R (k + 1) else (R (enL p k) - R (k + 1)) * (leL p k - rg (reL p k)) + 1 + mx (exL p R k) (Ps p R N rg pl k (enL p k + 1)) := by
  obtain ⟨l0, l1, l2, l3, l4, l5, l6, l7, l8, l9, l10, l11, l12, l13⟩ := loop_in hp hk k14
  obtain ⟨q1, q2⟩ := passG_re (rg := rg) (pl := pl) l0 l1 l2 l3 l4
  rw [Ps_at hk k14 l5 (fun j hj y => by have := y.1; omega)]
  have pc : Ps p R N (passG p k rg pl) pl k (enL p k + 1) = Ps p R N rg pl k (enL p k + 1) := by
    refine Ps_cong hp.1 k (enL p k + 1) (by omega) (by omega) (fun j hj j14 _ => ?_)
    have ne := loop_ne hp (by omega) hk j14 k14 (by omega)
    exact ⟨passG_ot l0 l1 l2 (by omega) ne.1 ne.2.2.1, passG_ot l0 l1 l2 (by omega) ne.2.2.2.1 ne.2.1⟩
  rw [pc]
  by_cases c : leL p k ≤ rg (reL p k)
  · have lk : lockL p (passG p k rg pl) pl k := ⟨by rw [q1]; omega, q2⟩
    rw [pif_pos lk, if_pos c]
    omega
  · have lk : ¬ lockL p (passG p k rg pl) pl k := fun y => by have := y.1; rw [q1] at this; omega
    rw [pif_neg lk, if_neg c]
    unfold muL
    rw [q1]
    have e : (R (enL p k) - R (k + 1)) * (leL p k - rg (reL p k)) = (R (enL p k) - R (k + 1)) * (if rg (reL p k) + 1 < leL p k then leL p k - (rg (reL p k) + 1) else 0) + (R (enL p k) - R (k + 1)) := by
      have : leL p k - rg (reL p k) = (if rg (reL p k) + 1 < leL p k then leL p k - (rg (reL p k) + 1) else 0) + 1 := by split <;> omega
      rw [this, Int.mul_add]
      omega
    omega
