theorem blk_cong {p p' : Nat → Nat → Int} {h : Nat} (e : p' 0 h = p 0 h) : blk p' h ↔ blk p h := by unfold blk; rw [e]
theorem SG_cong {p p' : Nat → Nat → Int} {E E' : Nat → Nat} {b e : Nat} (hp : ∀ j k, j < 4 → b ≤ k → k < e → p' j k = p j k) (hE : ∀ k, b ≤ k → k < e → E' k = E k) (h : SG p E b e) : SG p' E' b e := by
  obtain ⟨h1, h2, h3, h4, h5, h6, h7⟩ := h
  have bk : ∀ k, b ≤ k → k < e → (blk p' k ↔ blk p k) := fun k a c => blk_cong (hp 0 k (by omega) a c)
  have jb : ∀ r x, JB p E b e r x → JB p' E' b e r x := fun r x hj k a c hb => by
    unfold inE
    rw [hE k a c]
    exact hj k a c ((bk k a c).mp hb)
  refine ⟨h1, fun k a c hb => ?_, fun k k' a c d hb hb' hl => ?_, fun r a c hr => ?_, fun r a c hr => ?_, fun r a c hr => ?_, fun r a c hr => ?_⟩
  · obtain ⟨x1, x2, x3, x4, x5⟩ := h2 k a c ((bk k a c).mp hb)
    rw [hE k a c, hp 0 k (by omega) a c, hp 0 (E k) (by omega) (by omega) x2, hp 2 k (by omega) a c, hp 1 (E k) (by omega) (by omega) x2, hp 3 (E k) (by omega) (by omega) x2, hp 3 k (by omega) a c, hp 2 (E k) (by omega) (by omega) x2, hp 1 k (by omega) a c]
    exact ⟨x1, x2, x3, x4, x5⟩
  · rw [hE k a (by omega)] at hl ⊢
    rw [hE k' (by omega) d]
    exact h3 k k' a c d ((bk k a (by omega)).mp hb) ((bk k' (by omega) d).mp hb') hl
  · rw [hp 0 r (by omega) a c] at hr
    obtain ⟨x1, x2, x3, x4⟩ := h4 r a c hr
    rw [hp 1 r (by omega) a c, hp 0 r (by omega) a c, hp 0 _ (by omega) (by omega) (by omega), hE _ (by omega) (by omega)]
    exact ⟨x1, x2, x3, x4⟩
  · rw [hp 0 r (by omega) a c] at hr
    obtain ⟨q, x1, x2, x3, x4, x5⟩ := h5 r a c hr
    refine ⟨q, x1, x2, ?_⟩
    rw [hp 0 q (by omega) x1 (by omega), hp 1 q (by omega) x1 (by omega), hp 1 r (by omega) a c, hE q x1 (by omega)]
    exact ⟨x3, x4, x5⟩
  · rw [hp 0 r (by omega) a c] at hr
    rw [hp 1 r (by omega) a c]
    rcases h6 r a c hr with x | ⟨x1, x2, x3, x4⟩
    · exact Or.inl x
    · rw [hp 0 _ (by omega) (by omega) (by omega)]
      exact Or.inr ⟨x1, x2, x3, jb _ _ x4⟩
  · rw [hp 0 r (by omega) a c] at hr
    rw [hp 1 r (by omega) a c]
    obtain ⟨x1, x2, x3⟩ := h7 r a c hr
    exact ⟨x1, x2, jb _ _ x3⟩
/-- what each order of a program is by itself -/
def LOC (p : Nat → Nat → Int) (r : Nat) : Prop :=
  (1 ≤ p 0 r ∧ p 0 r ≤ 17 ∧ p 0 r ≠ 16 ∧ -1000 ≤ p 1 r ∧ p 1 r ≤ 100000 ∧ 0 ≤ p 2 r ∧ p 2 r ≤ 2000000 ∧ 0 ≤ p 3 r ∧ p 3 r < 50) ∧
  (3 ≤ p 0 r → p 0 r ≤ 6 → 0 ≤ p 1 r ∧ p 1 r ≤ 1000) ∧ (p 0 r = 6 → p 1 r ≤ 41 ∧ p 2 r ≤ 39) ∧ (p 0 r = 7 → 1 ≤ p 1 r ∧ p 1 r ≤ 9) ∧
  (p 0 r = 10 → p 0 (r + 1) = 1 ∧ 1 ≤ p 1 r ∧ p 1 r ≤ 9) ∧ (p 0 r = 12 → (p 1 r = 0 ∨ p 1 r = 1) ∧ p 0 (r + 1) = 1) ∧
  (p 0 r = 14 → stp (p 0 (r + 1)) = 1 ∧ 0 ≤ p 1 r ∧ p 2 r / 16 % 256 ≤ p 2 r % 16 ∧ p 2 r % 16 ≤ 9 ∧ 0 ≤ leL p r ∧ leL p r ≤ 9 ∧ leL p r ≤ moL p r ∧ 1 ≤ ccL p r ∧ leL p r ≤ ccL p r ∧ (leL p r < moL p r → leL p r + 1 ≤ ccL p r))
/-- numbers of loops, looks and groups -/
def NUM (p : Nat → Nat → Int) (q : Int) (f : Nat) (b e : Nat) (lo hi : Int) : Prop := (∀ h, b ≤ h → h < e → p 0 h = q → lo ≤ p f h ∧ p f h < hi) ∧ (∀ h h', b ≤ h → h < e → b ≤ h' → h' < e → p 0 h = q → p 0 h' = q → p f h = p f h' → h = h')
theorem NUM_app {p : Nat → Nat → Int} {q : Int} {f b m e : Nat} {lo mi hi : Int} (hb : lo ≤ mi) (hh : mi ≤ hi) (h1 : NUM p q f b m lo mi) (h2 : NUM p q f m e mi hi) : NUM p q f b e lo hi := by
  refine ⟨fun h a c d => ?_, fun h h' a c a' c' d d' y => ?_⟩
  · by_cases z : h < m
    · have := h1.1 h a z d; omega
    · have := h2.1 h (by omega) c d; omega
  · by_cases z : h < m
    · by_cases z' : h' < m
      · exact h1.2 h h' a z a' z' d d' y
      · have := h1.1 h a z d; have := h2.1 h' (by omega) c' d'; omega
    · by_cases z' : h' < m
      · have := h1.1 h' a' z' d'; have := h2.1 h (by omega) c d; omega
      · exact h2.2 h h' (by omega) c (by omega) c' d d' y
theorem NUM_cong {p p' : Nat → Nat → Int} {q : Int} {f b e : Nat} {lo hi : Int} (hf : f < 4) (hp : ∀ j k, j < 4 → b ≤ k → k < e → p' j k = p j k) (h : NUM p q f b e lo hi) : NUM p' q f b e lo hi := by
  refine ⟨fun k a c d => ?_, fun k k' a c a' c' d d' y => ?_⟩
  · rw [hp 0 k (by omega) a c] at d
    rw [hp f k hf a c]
    exact h.1 k a c d
  · rw [hp 0 k (by omega) a c] at d
    rw [hp 0 k' (by omega) a' c'] at d'
    rw [hp f k hf a c, hp f k' hf a' c'] at y
    exact h.2 k k' a c a' c' d d' y
theorem NUM_none {p : Nat → Nat → Int} {q : Int} {f b e : Nat} {lo hi : Int} (hn : ∀ h, b ≤ h → h < e → p 0 h ≠ q) : NUM p q f b e lo hi := ⟨fun h a c d => absurd d (hn h a c), fun h _ a c _ _ d => absurd d (hn h a c)⟩
/-- the weights of the loops -/
def WTR (p : Nat → Nat → Int) (E : Nat → Nat) (R : Nat → Int) (b e : Nat) : Prop := ∀ r, b ≤ r → r < e → R r ≤ R (r + 1) ∧ (p 0 r = 14 → R (r + 1) = R r ∧ R r + (R (E r) - R (r + 1)) * ccL p r + 1 ≤ R (E r + 1))
theorem R_mono {p : Nat → Nat → Int} {E : Nat → Nat} {R : Nat → Int} {n : Nat} (h : WTR p E R 0 n) : ∀ (d r : Nat), r + d ≤ n → R r ≤ R (r + d)
  | 0, r, _ => Int.le_refl _
  | d + 1, r, hd => by
    have a := R_mono h d r (by omega)
    have b := (h (r + d) (by omega) (by omega)).1
    rw [show r + (d + 1) = r + d + 1 by omega]
    omega
theorem SG_inB {p : Nat → Nat → Int} {E : Nat → Nat} {n : Nat} {gh : Int} (hs : SG p E 0 n) (hg : NUM p 10 1 0 n 1 gh) {h r : Nat} (hr : r ≤ n) : inB p h r ↔ (h < n ∧ blk p h ∧ inE E h r) := by
  constructor
  · intro hi
    have hl := hi.1
    have hb : blk p h := by obtain ⟨-, x | x | x⟩ := hi <;> (unfold blk; omega)
    obtain ⟨e1, e2, e3, e4, e5⟩ := hs.2.1 h (by omega) (by omega) hb
    refine ⟨by omega, hb, hl, ?_⟩
    obtain ⟨-, x | x | x⟩ := hi
    · have := (e3 x.1).2.1; omega
    · have := (e4 x.1).2.1; omega
    · refine Nat.le_of_not_lt (fun y => ?_)
      obtain ⟨z1, z2⟩ := e5 x.1
      exact x.2 (E h) y z1 z2
  · intro ⟨hn, hb, hl, hE⟩
    obtain ⟨e1, e2, e3, e4, e5⟩ := hs.2.1 h (by omega) hn hb
    refine ⟨hl, ?_⟩
    rcases hb with x | x | x
    · refine Or.inr (Or.inr ⟨x, fun y hy y11 ye => ?_⟩)
      obtain ⟨q, q1, q2, q3, q4, q5⟩ := hs.2.2.2.2.1 y (by omega) (by omega) y11
      have : q = h := hg.2 q h (by omega) (by omega) (by omega) hn q3 x (by omega)
      subst this
      omega
    · have := (e4 x).2.1
      exact Or.inr (Or.inl ⟨x, by omega⟩)
    · have := (e3 x).2.1
      exact Or.inl ⟨x, by omega⟩
/-- THE WHOLE: what has been read is a program -/
theorem prR_of {p : Nat → Nat → Int} {E : Nat → Nat} {R : Nat → Int} {n : Nat} {lh kh gh : Int} (hs : SG p E 0 n) (hl : NUM p 14 3 0 n 0 lh) (hk : NUM p 12 3 0 n 0 kh) (hg : NUM p 10 1 0 n 1 gh) (l20 : lh ≤ 20) (k10 : kh ≤ 10) (hloc : ∀ r, r < n → LOC p r) (hw : WTR p E R 0 n) (r0 : R 0 = 0) (r40 : R n ≤ 40) (hd : p 0 n = 16 ∧ -1000 ≤ p 1 n ∧ p 1 n ≤ 100000 ∧ 0 ≤ p 2 n ∧ p 2 n ≤ 2000000 ∧ 0 ≤ p 3 n ∧ p 3 n < 50) (hN : n + 1 ≤ 125) : prR p R (n + 1) := by
  have iB : ∀ h r, r ≤ n → (inB p h r ↔ (h < n ∧ blk p h ∧ inE E h r)) := fun h r hr => SG_inB hs hg hr
  have nd : ∀ r, r < n → p 0 r ≠ 16 := fun r hr => (hloc r hr).1.2.2.1
  -- a place that neither begins nor ends a block
  have same1 : ∀ r, r < n → (p 0 r ≤ 9 ∨ p 0 r = 17) → sameB p r (r + 1) := fun r hr ho h => by
    rw [iB h r (by omega), iB h (r + 1) (by omega)]
    constructor
    · intro ⟨x1, x2, x3, x4⟩
      obtain ⟨e1, e2, e3, e4, e5⟩ := hs.2.1 h (by omega) x1 x2
      refine ⟨x1, x2, by omega, ?_⟩
      have : E h ≠ r := fun y => by
        rw [y] at e3 e4 e5
        rcases x2 with x | x | x
        · have := (e5 x).1; omega
        · have := (e4 x).1; omega
        · have := (e3 x).1; omega
      omega
    · intro ⟨x1, x2, x3, x4⟩
      have : h ≠ r := fun y => by rw [y] at x2; unfold blk at x2; omega
      exact ⟨x1, x2, by omega, by omega⟩
  have jmp : ∀ r x, r ≤ n → x ≤ n → JB p E 0 n r x → sameB p r x := fun r x hr hx hj h => by
    rw [iB h r hr, iB h x hx]
    constructor
    · intro ⟨x1, x2, x3⟩; exact ⟨x1, x2, (hj h (by omega) x1 x2).mp x3⟩
    · intro ⟨x1, x2, x3⟩; exact ⟨x1, x2, (hj h (by omega) x1 x2).mpr x3⟩
  have lam := hs.2.2.1
  have endop : ∀ h, h < n → blk p h → p 0 (E h) = 15 ∨ p 0 (E h) = 13 ∨ p 0 (E h) = 11 := fun h hh hb => by
    obtain ⟨e1, e2, e3, e4, e5⟩ := hs.2.1 h (by omega) hh hb
    rcases hb with x | x | x
    · have := (e5 x).1; omega
    · have := (e4 x).1; omega
    · have := (e3 x).1; omega
  have sameH : ∀ h, h < n → blk p h → sameB p h (E h + 1) := fun h hh hb h' => by
    obtain ⟨e1, e2, -⟩ := hs.2.1 h (by omega) hh hb
    rw [iB h' h (by omega), iB h' (E h + 1) (by omega)]
    constructor
    · intro ⟨x1, x2, x3, x4⟩
      have := lam h' h (by omega) x3 hh x2 hb x4
      exact ⟨x1, x2, by omega, by omega⟩
    · intro ⟨x1, x2, x3, x4⟩
      have : h' < h := Nat.lt_of_not_le (fun y => by
        by_cases e : h' = h
        · subst e; omega
        · have := lam h h' (by omega) (by omega) x1 hb x2 (by omega); omega)
      exact ⟨x1, x2, this, by omega⟩
  have butH : ∀ h, h < n → blk p h → butB p h h (h + 1) := fun h hh hb h' ne => by
    rw [iB h' h (by omega), iB h' (h + 1) (by omega)]
    constructor
    · intro ⟨x1, x2, x3, x4⟩
      have : E h' ≠ h := fun y => by have := endop h' x1 x2; rw [y] at this; unfold blk at hb; omega
      exact ⟨x1, x2, by omega, by omega⟩
    · intro ⟨x1, x2, x3, x4⟩
      exact ⟨x1, x2, by omega, by omega⟩
  have butE : ∀ h, h < n → blk p h → butB p h (E h) (E h + 1) := fun h hh hb h' ne => by
    obtain ⟨e1, e2, -⟩ := hs.2.1 h (by omega) hh hb
    rw [iB h' (E h) (by omega), iB h' (E h + 1) (by omega)]
    constructor
    · intro ⟨x1, x2, x3, x4⟩
      have : E h' ≠ E h := fun y => by
        by_cases c : h' < h
        · have := lam h' h (by omega) c hh x2 hb (by omega); omega
        · have := lam h h' (by omega) (by omega) x1 hb x2 (by omega); omega
      exact ⟨x1, x2, by omega, by omega⟩
    · intro ⟨x1, x2, x3, x4⟩
      have : h' ≠ E h := fun y => by have := endop h hh hb; rw [← y] at this; unfold blk at x2; omega
      exact ⟨x1, x2, by omega, by omega⟩
  have inH : ∀ h, h < n → blk p h → inB p h (h + 1) ∧ inB p h (E h) ∧ ¬ inB p h (E h + 1) := fun h hh hb => by
    obtain ⟨e1, e2, -⟩ := hs.2.1 h (by omega) hh hb
    rw [iB h (h + 1) (by omega), iB h (E h) (by omega), iB h (E h + 1) (by omega)]
    unfold inE
    exact ⟨⟨hh, hb, by omega⟩, ⟨hh, hb, by omega⟩, fun y => by omega⟩
  have enE : ∀ h, h < n → p 0 h = 14 → enL p h = E h := fun h hh h14 => by
    have := ((hs.2.1 h (by omega) hh (Or.inr (Or.inr h14))).2.2.1 h14).2.1
    unfold enL
    omega
  have loE : ∀ h, h < n → p 0 h = 12 → (p 2 h).toNat = E h ∧ 0 ≤ p 2 h := fun h hh h12 => by
    have := ((hs.2.1 h (by omega) hh (Or.inr (Or.inl h12))).2.2.2.1 h12).2.1
    omega
  have lt16 : ∀ h q, h < n + 1 → p 0 h = q → q ≠ 16 → h < n := fun h q hh hq nq => by
    by_cases c : h = n
    · subst c; omega
    · omega
  refine ⟨⟨fun r x hr hx => ?_, by omega, ?_, by omega, fun h hh h14 => ?_, fun h hh h12 => ?_⟩, hN, fun r hr => ?_, fun h h' hh hh' a b c => hl.2 h h' (by omega) (lt16 h 14 hh a (by decide)) (by omega) (lt16 h' 14 hh' b (by decide)) a b c, fun h h' hh hh' a b c => hk.2 h h' (by omega) (lt16 h 12 hh a (by decide)) (by omega) (lt16 h' 12 hh' b (by decide)) a b c, fun h h' hh hh' a b c => hg.2 h h' (by omega) (lt16 h 10 hh a (by decide)) (by omega) (lt16 h' 10 hh' b (by decide)) a b c⟩
  · have := R_mono hw (x - r) r (by omega)
    rw [show r + (x - r) = x by omega] at this
    exact this
  · rw [show n + 1 - 1 = n by omega]; exact r40
  · have hh' := lt16 h 14 hh h14 (by decide)
    have hb : blk p h := Or.inr (Or.inr h14)
    obtain ⟨e1, e2, e3, -⟩ := hs.2.1 h (by omega) hh' hb
    have nm := hl.1 h (by omega) hh' h14
    obtain ⟨-, -, -, -, -, -, y⟩ := hloc h hh'
    obtain ⟨y1, y2, y3, y4, y5, y6, y7, y8, y9, y10⟩ := y h14
    obtain ⟨w1, w2⟩ := (hw h (by omega) hh').2 h14
    rw [enE h hh' h14]
    have := (e3 h14).2.1
    exact ⟨by omega, by omega, by omega, e1, by omega, y5, y6, y7, y8, y9, y10, w1, w2, sameH h hh' hb, butH h hh' hb, butE h hh' hb⟩
  · have hh' := lt16 h 12 hh h12 (by decide)
    have hb : blk p h := Or.inr (Or.inl h12)
    obtain ⟨e1, e2, -⟩ := hs.2.1 h (by omega) hh' hb
    obtain ⟨l1, l2⟩ := loE h hh' h12
    rw [l1]
    exact ⟨l2, e1, by omega, sameH h hh' hb, butH h hh' hb, butE h hh' hb⟩
  · by_cases cn : r = n
    · subst cn
      obtain ⟨d0, d1, d2, d3, d4, d5, d6⟩ := hd
      refine ⟨⟨by omega, by omega, d1, d2, d3, d4, d5, d6⟩, ?_, ?_, ?_, ?_, ?_, ?_, ?_, ?_, ?_, ?_, ?_, ?_, ?_⟩
      all_goals (intros; omega)
    · have hr' : r < n := by omega
      obtain ⟨o0, o1, o2, o3, o4, o5, o6⟩ := hloc r hr'
      refine ⟨⟨o0.1, o0.2.1, o0.2.2.2⟩, fun h1 => ?_, fun h2 => ?_, fun a c => ⟨by omega, same1 r hr' (by omega)⟩, o1, o2, o3, fun h10 => ?_, fun h11 => ?_, fun h12 => ?_, fun h13 => ?_, fun h14 => ?_, fun h15 => ?_, fun h17 => ⟨by omega, same1 r hr' (by omega)⟩⟩
      · refine ⟨by omega, same1 r hr' (by omega), ?_⟩
        rcases hs.2.2.2.2.2.1 r (by omega) hr' h1 with x | ⟨x1, x2, x3, x4⟩
        · exact Or.inl x
        · exact Or.inr ⟨x1, by omega, x3, jmp _ _ (by omega) (by omega) x4⟩
      · obtain ⟨x1, x2, x3⟩ := hs.2.2.2.2.2.2 r (by omega) hr' h2
        exact ⟨x1, by omega, jmp _ _ (by omega) (by omega) x3⟩
      · have hb : blk p r := Or.inl h10
        obtain ⟨y1, y2, y3⟩ := o4 h10
        exact ⟨by omega, y1, y2, y3, butH r hr' hb, (inH r hr' hb).1⟩
      · obtain ⟨q, q1, q2, q3, q4, q5⟩ := hs.2.2.2.2.1 r (by omega) hr' h11
        have hb : blk p q := Or.inl q3
        obtain ⟨i1, i2, i3⟩ := inH q (by omega) hb
        have bE := butE q (by omega) hb
        obtain ⟨y1, y2, y3⟩ := (hloc q (by omega)).2.2.2.2.1 q3
        rw [q5] at i2 i3 bE
        exact ⟨by omega, by omega, by omega, q, q2, q3, q4, i2, i3, bE⟩
      · have hb : blk p r := Or.inr (Or.inl h12)
        obtain ⟨y1, y2⟩ := o5 h12
        obtain ⟨e1, e2, -, e4, -⟩ := hs.2.1 r (by omega) hr' hb
        have nm := hk.1 r (by omega) hr' h12
        rw [(loE r hr' h12).1]
        exact ⟨y1, by omega, y2, (e4 h12).1⟩
      · obtain ⟨x1, x2, x3, x4⟩ := hs.2.2.2.1 r (by omega) hr' (Or.inr h13)
        have h12 : p 0 (p 1 r).toNat = 12 := by omega
        obtain ⟨-, -, -, e4, -⟩ := hs.2.1 (p 1 r).toNat (by omega) (by omega) (Or.inr (Or.inl h12))
        obtain ⟨z1, z2, z3, z4, z5⟩ := e4 h12
        rw [x4] at z2 z4 z5
        exact ⟨by omega, x2, h12, by omega, z4, z5⟩
      · obtain ⟨y1, y2, y3, y4, -⟩ := o6 h14
        exact ⟨y1, y2, y3, y4⟩
      · obtain ⟨x1, x2, x3, x4⟩ := hs.2.2.2.1 r (by omega) hr' (Or.inl h15)
        have h14 : p 0 (p 1 r).toNat = 14 := by omega
        exact ⟨by omega, x2, h14, by rw [enE _ (by omega) h14]; exact x4⟩
