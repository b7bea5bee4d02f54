noncomputable def pif (P : Prop) (x y : Int) : Int := @ite Int P (Classical.propDecidable P) x y
theorem pif_pos {P : Prop} {x y : Int} (h : P) : pif P x y = x := by unfold pif; exact if_pos h
theorem pif_neg {P : Prop} {x y : Int} (h : ¬ P) : pif P x y = y := by unfold pif; exact if_neg h
theorem pif_iff {P Q : Prop} {x y : Int} (h : P ↔ Q) : pif P x y = pif Q x y := by rw [propext h]
/-- the program p (0 op, 1 a, 2 b, 3 c): place r lies in the block that h begins (14 a loop, 12 a look, 10 a group) -/
def inB (p : Nat → Nat → Int) (h r : Nat) : Prop := h < r ∧ ((p 0 h = 14 ∧ (r : Int) ≤ p 2 h / 4096) ∨ (p 0 h = 12 ∧ (r : Int) ≤ p 2 h) ∨ (p 0 h = 10 ∧ ∀ x, x < r → p 0 x = 11 → p 1 x ≠ p 1 h))
def sameB (p : Nat → Nat → Int) (r x : Nat) : Prop := ∀ h, inB p h r ↔ inB p h x
def butB (p : Nat → Nat → Int) (b r x : Nat) : Prop := ∀ h, h ≠ b → (inB p h r ↔ inB p h x)
theorem inB_not_self {p : Nat → Nat → Int} {h : Nat} : ¬ inB p h h := fun x => Nat.lt_irrefl _ x.1
/-- how many blocks of a kind there are around a place -/
noncomputable def cntB (p : Nat → Nat → Int) (q : Int) (r : Nat) : Nat → Int
  | 0 => 0
  | n + 1 => cntB p q r n + pif (p 0 n = q ∧ inB p n r) 1 0
theorem cntB_same {p : Nat → Nat → Int} {q : Int} {r x : Nat} (h : sameB p r x) : ∀ n, cntB p q r n = cntB p q x n
  | 0 => rfl
  | n + 1 => by rw [cntB, cntB, cntB_same h n, pif_iff (P := p 0 n = q ∧ inB p n r) (Q := p 0 n = q ∧ inB p n x) (by rw [h n])]
theorem cntB_nn {p : Nat → Nat → Int} {q : Int} {r : Nat} : ∀ n, 0 ≤ cntB p q r n
  | 0 => Int.le_refl _
  | n + 1 => by
    rw [cntB]
    have := cntB_nn (p := p) (q := q) (r := r) n
    by_cases h : p 0 n = q ∧ inB p n r
    · rw [pif_pos h]; omega
    · rw [pif_neg h]; omega
theorem cntB_but {p : Nat → Nat → Int} {q : Int} {b r x : Nat} (h : butB p b r x) (hr : ¬ inB p b r) (hx : inB p b x) : ∀ n, cntB p q x n = cntB p q r n + (if b < n ∧ p 0 b = q then 1 else 0)
  | 0 => by rw [cntB, cntB, if_neg (by omega)]; rfl
  | n + 1 => by
    rw [cntB, cntB, cntB_but h hr hx n]
    by_cases hb : b = n
    · subst hb
      rw [if_neg (by omega)]
      by_cases hq : p 0 b = q
      · have w : ¬ (p 0 b = q ∧ inB p b r) := fun y => hr y.2
        rw [pif_pos ⟨hq, hx⟩, pif_neg w, if_pos ⟨by omega, hq⟩]
      · have w : ¬ (p 0 b = q ∧ inB p b r) := fun y => hq y.1
        have w' : ¬ (p 0 b = q ∧ inB p b x) := fun y => hq y.1
        rw [pif_neg w, pif_neg w', if_neg (fun y => hq y.2)]
    · rw [pif_iff (P := p 0 n = q ∧ inB p n r) (Q := p 0 n = q ∧ inB p n x) (by rw [h n (fun y => hb y.symm)])]
      by_cases hl : b < n ∧ p 0 b = q
      · rw [if_pos hl, if_pos ⟨by omega, hl.2⟩]; omega
      · rw [if_neg hl, if_neg (fun y => hl ⟨by omega, y.2⟩)]; omega
/-- a loop's end, least, most, copies -/
def enL (p : Nat → Nat → Int) (h : Nat) : Nat := (p 2 h / 4096).toNat
def leL (p : Nat → Nat → Int) (h : Nat) : Int := p 1 h % 128
def moL (p : Nat → Nat → Int) (h : Nat) : Int := p 1 h / 128 % 512
def ccL (p : Nat → Nat → Int) (h : Nat) : Int := if moL p h = 99 then leL p h + 1 else if moL p h < 1 then 1 else moL p h
def reL (p : Nat → Nat → Int) (h : Nat) : Nat := (30 + p 3 h).toNat
def rbL (p : Nat → Nat → Int) (h : Nat) : Nat := (80 + p 3 h).toNat
def lockL (p : Nat → Nat → Int) (rg : Nat → Int) (pl : Int) (h : Nat) : Prop := leL p h < rg (reL p h) ∧ rg (rbL p h) = pl
def muL (p : Nat → Nat → Int) (rg : Nat → Int) (h : Nat) : Int := if rg (reL p h) < leL p h then leL p h - rg (reL p h) else 0
def mx (x y : Int) : Int := if x ≤ y then y else x
theorem mx_l (x y : Int) : x ≤ mx x y := by unfold mx; split <;> omega
theorem mx_r (x y : Int) : y ≤ mx x y := by unfold mx; split <;> omega
theorem mx_le {x y z : Int} (h1 : x ≤ z) (h2 : y ≤ z) : mx x y ≤ z := by unfold mx; split <;> omega
def exL (p : Nat → Nat → Int) (R : Nat → Int) (h : Nat) : Int := if leL p h < moL p h then R (enL p h) - R (h + 1) else 0
/-- how many loop choices can still come before a sign is passed -/
noncomputable def Ps (p : Nat → Nat → Int) (R : Nat → Int) (N : Nat) (rg : Nat → Int) (pl : Int) : Nat → Nat → Int
  | 0, pos => R (N - 1) - R pos
  | n + 1, pos => pif (inB p n pos ∧ p 0 n = 12) (R (p 2 n).toNat - R pos) (pif (inB p n pos ∧ p 0 n = 14) (R (enL p n) - R pos + pif (lockL p rg pl n) 0 ((R (enL p n) - R (n + 1)) * muL p rg n + 1 + mx (exL p R n) (Ps p R N rg pl n (enL p n + 1)))) (Ps p R N rg pl n pos))
theorem Ps_lin {p : Nat → Nat → Int} {R : Nat → Int} {N : Nat} {rg : Nat → Int} {pl : Int} : ∀ (n r x : Nat), (∀ h, h < n → (inB p h r ↔ inB p h x)) → Ps p R N rg pl n r + R r = Ps p R N rg pl n x + R x
  | 0, r, x, _ => by rw [Ps, Ps]; omega
  | n + 1, r, x, h => by
    rw [Ps, Ps]
    have hn := h n (by omega)
    have ih := Ps_lin (p := p) (R := R) (N := N) (rg := rg) (pl := pl) n r x (fun i hi => h i (by omega))
    by_cases h1 : inB p n r ∧ p 0 n = 12
    · rw [pif_pos h1, pif_pos ⟨hn.mp h1.1, h1.2⟩]; omega
    · have h1' : ¬ (inB p n x ∧ p 0 n = 12) := fun y => h1 ⟨hn.mpr y.1, y.2⟩
      rw [pif_neg h1, pif_neg h1']
      by_cases h2 : inB p n r ∧ p 0 n = 14
      · have h2' : inB p n x ∧ p 0 n = 14 := ⟨hn.mp h2.1, h2.2⟩
        rw [pif_pos h2, pif_pos h2']; omega
      · have h2' : ¬ (inB p n x ∧ p 0 n = 14) := fun y => h2 ⟨hn.mpr y.1, y.2⟩
        rw [pif_neg h2, pif_neg h2']; exact ih
theorem Ps_drop {p : Nat → Nat → Int} {R : Nat → Int} {N : Nat} {rg : Nat → Int} {pl : Int} {pos n : Nat} : ∀ m : Nat, n ≤ m → (∀ h, n ≤ h → h < m → p 0 h ≠ 10 → ¬ inB p h pos) → Ps p R N rg pl m pos = Ps p R N rg pl n pos
  | 0, h, _ => by rw [show n = 0 by omega]
  | m + 1, h, hb => by
    by_cases e : n = m + 1
    · rw [e]
    · have h1 : ¬ (inB p m pos ∧ p 0 m = 12) := fun y => hb m (by omega) (by omega) (by rw [y.2]; decide) y.1
      have h2 : ¬ (inB p m pos ∧ p 0 m = 14) := fun y => hb m (by omega) (by omega) (by rw [y.2]; decide) y.1
      rw [Ps, pif_neg h1, pif_neg h2]
      exact Ps_drop m (by omega) (fun h h1 h2 => hb h h1 (by omega))
/-- what the shape of a program gives -/
def shR (p : Nat → Nat → Int) (R : Nat → Int) (N : Nat) : Prop :=
  (∀ r x, r ≤ x → x < N → R r ≤ R x) ∧ 0 ≤ R 0 ∧ R (N - 1) ≤ 40 ∧ 0 < N ∧
  (∀ h, h < N → p 0 h = 14 → 0 ≤ p 3 h ∧ p 3 h < 20 ∧ 0 ≤ p 2 h / 4096 ∧ h + 1 < enL p h ∧ enL p h + 1 < N ∧ 0 ≤ leL p h ∧ leL p h ≤ 9 ∧ leL p h ≤ moL p h ∧ 1 ≤ ccL p h ∧ leL p h ≤ ccL p h ∧ (leL p h < moL p h → leL p h + 1 ≤ ccL p h) ∧ R (h + 1) = R h ∧ R h + (R (enL p h) - R (h + 1)) * ccL p h + 1 ≤ R (enL p h + 1) ∧ sameB p h (enL p h + 1) ∧ butB p h h (h + 1) ∧ butB p h (enL p h) (enL p h + 1)) ∧
  (∀ h, h < N → p 0 h = 12 → 0 ≤ p 2 h ∧ h + 1 < (p 2 h).toNat ∧ (p 2 h).toNat + 1 < N ∧ sameB p h ((p 2 h).toNat + 1) ∧ butB p h h (h + 1) ∧ butB p h (p 2 h).toNat ((p 2 h).toNat + 1))
theorem inB_lt {p : Nat → Nat → Int} {R : Nat → Int} {N h r : Nat} (hs : shR p R N) (hh : h < N) (hb : inB p h r) : (p 0 h = 14 → r ≤ enL p h) ∧ (p 0 h = 12 → r ≤ (p 2 h).toNat) := by
  obtain ⟨-, hb | hb | hb⟩ := hb
  · refine ⟨fun _ => ?_, fun e => ?_⟩
    · unfold enL; omega
    · rw [hb.1] at e; exact absurd e (by decide)
  · refine ⟨fun e => ?_, fun e => by omega⟩
    rw [hb.1] at e; exact absurd e (by decide)
  · refine ⟨fun e => ?_, fun e => ?_⟩ <;> (rw [hb.1] at e; exact absurd e (by decide))
theorem inB_loop {p : Nat → Nat → Int} {h r : Nat} (h0 : p 0 h = 14) (h1 : 0 ≤ p 2 h / 4096) (h2 : h < r) (h3 : r ≤ enL p h) : inB p h r := ⟨h2, Or.inl ⟨h0, by unfold enL at h3; omega⟩⟩
theorem inB_look {p : Nat → Nat → Int} {h r : Nat} (h0 : p 0 h = 12) (h1 : 0 ≤ p 2 h) (h2 : h < r) (h3 : r ≤ (p 2 h).toNat) : inB p h r := ⟨h2, Or.inr (Or.inl ⟨h0, by omega⟩)⟩
theorem mul_le_r {x y z : Int} (hx : 0 ≤ x) (h : y ≤ z) : x * y ≤ x * z := Int.mul_le_mul_of_nonneg_left h hx
theorem mul_nn {x y : Int} (hx : 0 ≤ x) (h : 0 ≤ y) : 0 ≤ x * y := Int.mul_nonneg hx h
theorem Ps_nn {p : Nat → Nat → Int} {R : Nat → Int} {N : Nat} {rg : Nat → Int} {pl : Int} (hs : shR p R N) : ∀ (n pos : Nat), n ≤ N → pos < N → 0 ≤ Ps p R N rg pl n pos
  | 0, pos, _, hp => by
    rw [Ps]
    have := hs.1 pos (N - 1) (by omega) (by omega)
    omega
  | n + 1, pos, hn, hp => by
    rw [Ps]
    by_cases h1 : inB p n pos ∧ p 0 n = 12
    · rw [pif_pos h1]
      have e := (inB_lt hs (by omega) h1.1).2 h1.2
      have := hs.1 pos (p 2 n).toNat e (by have := hs.2.2.2.2.2 n (by omega) h1.2; omega)
      omega
    · rw [pif_neg h1]
      by_cases h2 : inB p n pos ∧ p 0 n = 14
      · rw [pif_pos h2]
        have e := (inB_lt hs (by omega) h2.1).1 h2.2
        obtain ⟨-, -, -, g1, g2, -⟩ := hs.2.2.2.2.1 n (by omega) h2.2
        have r1 := hs.1 pos (enL p n) e (by omega)
        have r2 := hs.1 (n + 1) (enL p n) (by omega) (by omega)
        have ih := Ps_nn (rg := rg) (pl := pl) hs n (enL p n + 1) (by omega) (by omega)
        by_cases h3 : lockL p rg pl n
        · rw [pif_pos h3]; omega
        · rw [pif_neg h3]
          have m0 : 0 ≤ muL p rg n := by unfold muL; split <;> omega
          have m1 := mul_nn (show 0 ≤ R (enL p n) - R (n + 1) by omega) m0
          have m2 := mx_r (exL p R n) (Ps p R N rg pl n (enL p n + 1))
          omega
      · rw [pif_neg h2]
        exact Ps_nn hs n pos (by omega) hp
theorem Ps_sup {p : Nat → Nat → Int} {R : Nat → Int} {N : Nat} {rg : Nat → Int} {pl : Int} (hs : shR p R N) : ∀ (n pos : Nat), n ≤ N → pos < N → (∀ h, h < n → p 0 h = 14 → inB p h pos → 1 ≤ rg (reL p h)) → Ps p R N rg pl n pos ≤ 79
  | 0, pos, _, hp, _ => by
    rw [Ps]
    have := hs.1 0 pos (by omega) hp
    have := hs.2.1
    have := hs.2.2.1
    omega
  | n + 1, pos, hn, hp, ht => by
    rw [Ps]
    have q0 := hs.1 0 pos (by omega) hp
    have q1 := hs.2.1
    have q2 := hs.2.2.1
    by_cases h1 : inB p n pos ∧ p 0 n = 12
    · rw [pif_pos h1]
      have g := hs.2.2.2.2.2 n (by omega) h1.2
      have := hs.1 (p 2 n).toNat (N - 1) (by omega) (by omega)
      omega
    · rw [pif_neg h1]
      by_cases h2 : inB p n pos ∧ p 0 n = 14
      · rw [pif_pos h2]
        have e := (inB_lt hs (by omega) h2.1).1 h2.2
        obtain ⟨c0, c1, b0, g1, g2, l0, l1, l2, k1, k2, k3, e1, e2, sB, -⟩ := hs.2.2.2.2.1 n (by omega) h2.2
        have hp1 := h2.1.1
        have r1 := hs.1 (n + 1) pos (by omega) (by omega)
        have r2 := hs.1 (n + 1) (enL p n) (by omega) (by omega)
        have r3 := hs.1 0 n (by omega) (by omega)
        have r4 := hs.1 (enL p n + 1) (N - 1) (by omega) (by omega)
        have r5 := hs.1 pos (enL p n) (by omega) (by omega)
        by_cases h3 : lockL p rg pl n
        · rw [pif_pos h3]
          have := mul_le_r (show 0 ≤ R (enL p n) - R (n + 1) by omega) k1
          omega
        · rw [pif_neg h3]
          have t1 := ht n (by omega) h2.2 h2.1
          have ih := Ps_sup (rg := rg) (pl := pl) hs n n (by omega) (by omega) (fun h hh h14 hb => ht h (by omega) h14 (by
            have hb' := (sB h).mp hb
            have := (inB_lt hs (by omega) hb').1 h14
            exact inB_loop h14 (hs.2.2.2.2.1 h (by omega) h14).2.2.1 (by omega) (by omega)))
          have lin := Ps_lin (p := p) (R := R) (N := N) (rg := rg) (pl := pl) n n (enL p n + 1) (fun h _ => sB h)
          have m1 : (R (enL p n) - R (n + 1)) * muL p rg n + (R (enL p n) - R (n + 1)) ≤ (R (enL p n) - R (n + 1)) * ccL p n := by
            have : (R (enL p n) - R (n + 1)) * (muL p rg n + 1) ≤ (R (enL p n) - R (n + 1)) * ccL p n := mul_le_r (by omega) (by unfold muL; split <;> omega)
            rw [Int.mul_add] at this
            omega
          have m3 : R (enL p n) - R (n + 1) ≤ (R (enL p n) - R (n + 1)) * ccL p n := by
            have := mul_le_r (show 0 ≤ R (enL p n) - R (n + 1) by omega) k1
            omega
          have m2 : mx (exL p R n) (Ps p R N rg pl n (enL p n + 1)) ≤ 78 - (R (enL p n) - R (n + 1)) * muL p rg n - (R (enL p n) - R (n + 1)) := by
            refine mx_le ?_ (by omega)
            unfold exL
            split <;> omega
          omega
      · rw [pif_neg h2]
        exact Ps_sup hs n pos (by omega) hp (fun h hh => ht h (by omega))
theorem Ps_cong {p : Nat → Nat → Int} {R : Nat → Int} {N : Nat} {rg rg' : Nat → Int} {pl : Int} (hs : shR p R N) : ∀ (n pos : Nat), n ≤ N → pos < N → (∀ h, h < n → p 0 h = 14 → inB p h pos → rg (reL p h) = rg' (reL p h) ∧ rg (rbL p h) = rg' (rbL p h)) → Ps p R N rg pl n pos = Ps p R N rg' pl n pos
  | 0, pos, _, _, _ => rfl
  | n + 1, pos, hn, hp, ht => by
    rw [Ps, Ps]
    by_cases h1 : inB p n pos ∧ p 0 n = 12
    · rw [pif_pos h1, pif_pos h1]
    · rw [pif_neg h1, pif_neg h1]
      by_cases h2 : inB p n pos ∧ p 0 n = 14
      · rw [pif_pos h2, pif_pos h2]
        have e := (inB_lt hs (by omega) h2.1).1 h2.2
        obtain ⟨c0, c1, b0, g1, g2, l0, l1, l2, k1, k2, k3, e1, e2, sB, -⟩ := hs.2.2.2.2.1 n (by omega) h2.2
        have hp1 := h2.1.1
        obtain ⟨w1, w2⟩ := ht n (by omega) h2.2 h2.1
        have ih := Ps_cong (rg := rg) (rg' := rg') (pl := pl) hs n (enL p n + 1) (by omega) (by omega) (fun h hh h14 hb => ht h (by omega) h14 (by
            have := (inB_lt hs (by omega) hb).1 h14
            exact inB_loop h14 (hs.2.2.2.2.1 h (by omega) h14).2.2.1 (by omega) (by omega)))
        rw [ih, show muL p rg n = muL p rg' n by unfold muL; rw [w1], pif_iff (P := lockL p rg pl n) (Q := lockL p rg' pl n) (by unfold lockL; rw [w1, w2])]
      · rw [pif_neg h2, pif_neg h2]
        exact Ps_cong hs n pos (by omega) hp (fun h hh => ht h (by omega))
