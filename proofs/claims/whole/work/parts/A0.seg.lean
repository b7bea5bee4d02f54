/-! SEGMENTS OF A PROGRAM: what the reader makes, part by part -/
def blk (p : Nat → Nat → Int) (h : Nat) : Prop := p 0 h = 10 ∨ p 0 h = 12 ∨ p 0 h = 14
/-- the block of h: from behind h up to E h -/
def inE (E : Nat → Nat) (h r : Nat) : Prop := h < r ∧ r ≤ E h
def JB (p : Nat → Nat → Int) (E : Nat → Nat) (b e r x : Nat) : Prop := ∀ h, b ≤ h → h < e → blk p h → (inE E h r ↔ inE E h x)
def SG (p : Nat → Nat → Int) (E : Nat → Nat) (b e : Nat) : Prop := b ≤ e ∧
  (∀ h, b ≤ h → h < e → blk p h → h + 1 < E h ∧ E h < e ∧ (p 0 h = 14 → p 0 (E h) = 15 ∧ p 2 h / 4096 = E h ∧ p 1 (E h) = h) ∧ (p 0 h = 12 → p 0 (E h) = 13 ∧ p 2 h = E h ∧ p 1 (E h) = h ∧ p 3 (E h) = p 3 h ∧ p 2 (E h) = p 1 h) ∧ (p 0 h = 10 → p 0 (E h) = 11 ∧ p 1 (E h) = p 1 h)) ∧
  (∀ h h', b ≤ h → h < h' → h' < e → blk p h → blk p h' → h' ≤ E h → E h' < E h) ∧
  (∀ r, b ≤ r → r < e → p 0 r = 15 ∨ p 0 r = 13 → (b : Int) ≤ p 1 r ∧ p 1 r < r ∧ p 0 (p 1 r).toNat = p 0 r - 1 ∧ E (p 1 r).toNat = r) ∧
  (∀ r, b ≤ r → r < e → p 0 r = 11 → ∃ q, b ≤ q ∧ q < r ∧ p 0 q = 10 ∧ p 1 q = p 1 r ∧ E q = r) ∧
  (∀ r, b ≤ r → r < e → p 0 r = 1 → p 1 r = -1 ∨ ((r : Int) < p 1 r ∧ p 1 r < e ∧ p 0 (p 1 r).toNat = 1 ∧ JB p E b e r (p 1 r).toNat)) ∧
  (∀ r, b ≤ r → r < e → p 0 r = 2 → (r : Int) < p 1 r ∧ p 1 r ≤ e ∧ JB p E b e r (p 1 r).toNat)
theorem SG_end {p : Nat → Nat → Int} {E : Nat → Nat} {b e h : Nat} (hs : SG p E b e) (h0 : b ≤ h) (h1 : h < e) (hb : blk p h) : E h < e := (hs.2.1 h h0 h1 hb).2.1
/-- one behind the other -/
theorem SG_app {p : Nat → Nat → Int} {E : Nat → Nat} {b m e : Nat} (h1 : SG p E b m) (h2 : SG p E m e) : SG p E b e := by
  have b1 := h1.1
  have b2 := h2.1
  have jL : ∀ r x, b ≤ r → r < m → x ≤ m → JB p E b m r x → JB p E b e r x := fun r x r0 r1 x1 hj h z0 z1 hb => by
    by_cases c : h < m
    · exact hj h z0 c hb
    · constructor <;> (intro y; have := y.1; omega)
  have jR : ∀ r x, m ≤ r → m ≤ x → JB p E m e r x → JB p E b e r x := fun r x r0 x0 hj h z0 z1 hb => by
    by_cases c : m ≤ h
    · exact hj h c z1 hb
    · have := SG_end h1 z0 (by omega) hb
      constructor <;> (intro y; have := y.2; omega)
  refine ⟨by omega, fun h z0 z1 hb => ?_, fun h h' z0 z1 z2 hb hb' hl => ?_, fun r z0 z1 hr => ?_, fun r z0 z1 hr => ?_, fun r z0 z1 hr => ?_, fun r z0 z1 hr => ?_⟩
  · by_cases c : h < m
    · obtain ⟨x1, x2, x3⟩ := h1.2.1 h z0 c hb
      exact ⟨x1, by omega, x3⟩
    · exact h2.2.1 h (by omega) z1 hb
  · by_cases c : h < m
    · have := SG_end h1 z0 c hb
      exact h1.2.2.1 h h' z0 z1 (by omega) hb hb' hl
    · exact h2.2.2.1 h h' (by omega) z1 z2 hb hb' hl
  · by_cases c : r < m
    · exact h1.2.2.2.1 r z0 c hr
    · obtain ⟨x1, x2⟩ := h2.2.2.2.1 r (by omega) z1 hr
      exact ⟨by omega, x2⟩
  · by_cases c : r < m
    · exact h1.2.2.2.2.1 r z0 c hr
    · obtain ⟨q, x1, x2⟩ := h2.2.2.2.2.1 r (by omega) z1 hr
      exact ⟨q, by omega, x2⟩
  · by_cases c : r < m
    · rcases h1.2.2.2.2.2.1 r z0 c hr with x | ⟨x1, x2, x3, x4⟩
      · exact Or.inl x
      · exact Or.inr ⟨x1, by omega, x3, jL r _ z0 c (by omega) x4⟩
    · rcases h2.2.2.2.2.2.1 r (by omega) z1 hr with x | ⟨x1, x2, x3, x4⟩
      · exact Or.inl x
      · exact Or.inr ⟨x1, x2, x3, jR r _ (by omega) (by omega) x4⟩
  · by_cases c : r < m
    · obtain ⟨x1, x2, x3⟩ := h1.2.2.2.2.2.2 r z0 c hr
      exact ⟨x1, by omega, jL r _ z0 c (by omega) x3⟩
    · obtain ⟨x1, x2, x3⟩ := h2.2.2.2.2.2.2 r (by omega) z1 hr
      exact ⟨x1, x2, jR r _ (by omega) (by omega) x3⟩
theorem SG_nil {p : Nat → Nat → Int} {E : Nat → Nat} {b : Nat} : SG p E b b :=
  ⟨Nat.le_refl _, fun h a c => by omega, fun h h' a c d => by omega, fun r a c => by omega, fun r a c => by omega, fun r a c => by omega, fun r a c => by omega⟩
/-- an order of its own: neither block nor jump -/
theorem SG_one {p : Nat → Nat → Int} {E : Nat → Nat} {b : Nat} (h1 : 3 ≤ p 0 b ∧ p 0 b ≤ 9 ∨ p 0 b = 17) : SG p E b (b + 1) := by
  have nb : ∀ h, b ≤ h → h < b + 1 → ¬ blk p h := fun h a c y => by
    have e : h = b := by omega
    subst e
    unfold blk at y
    omega
  have eq : ∀ r, b ≤ r → r < b + 1 → r = b := fun r a c => by omega
  refine ⟨by omega, fun h a c y => absurd y (nb h a c), fun h h' a c d => by omega, fun r a c y => ?_, fun r a c y => ?_, fun r a c y => ?_, fun r a c y => ?_⟩
  all_goals (rw [eq r a c] at y; omega)
/-- a look's, a group's or a loop's block around what is read -/
theorem SG_wrap {p : Nat → Nat → Int} {E : Nat → Nat} {b e : Nat} (hs : SG p E (b + 1) e) (he : b + 1 < e) (hE : E b = e) (hb : (p 0 b = 14 ∧ p 0 e = 15 ∧ p 2 b / 4096 = e ∧ p 1 e = b) ∨ (p 0 b = 12 ∧ p 0 e = 13 ∧ p 2 b = e ∧ p 1 e = b ∧ p 3 e = p 3 b ∧ p 2 e = p 1 b) ∨ (p 0 b = 10 ∧ p 0 e = 11 ∧ p 1 e = p 1 b)) : SG p E b (e + 1) := by
  have bb : blk p b := by unfold blk; omega
  have be : ¬ blk p e := by unfold blk; omega
  have j : ∀ r x, b + 1 ≤ r → r < e → x ≤ e → b < x → JB p E (b + 1) e r x → JB p E b (e + 1) r x := fun r x r0 r1 x1 x0 hj h z0 z1 hbh => by
    by_cases c : h = b
    · subst c
      unfold inE
      rw [hE]
      constructor <;> (intro _; omega)
    · by_cases c2 : h = e
      · subst c2; exact absurd hbh be
      · exact hj h (by omega) (by omega) hbh
  refine ⟨by omega, fun h z0 z1 hbh => ?_, fun h h' z0 z1 z2 hbh hbh' hl => ?_, fun r z0 z1 hr => ?_, fun r z0 z1 hr => ?_, fun r z0 z1 hr => ?_, fun r z0 z1 hr => ?_⟩
  · by_cases c : h = b
    · subst c
      rw [hE]
      refine ⟨he, by omega, fun y => ?_, fun y => ?_, fun y => ?_⟩
      · rcases hb with x | x | x
        · exact x.2
        · omega
        · omega
      · rcases hb with x | x | x
        · omega
        · exact x.2
        · omega
      · rcases hb with x | x | x
        · omega
        · omega
        · exact x.2
    · by_cases c2 : h = e
      · subst c2; exact absurd hbh be
      · obtain ⟨x1, x2, x3⟩ := hs.2.1 h (by omega) (by omega) hbh
        exact ⟨x1, by omega, x3⟩
  · by_cases c2 : h' = e
    · subst c2; exact absurd hbh' be
    · by_cases c : h = b
      · subst c
        rw [hE]
        exact SG_end hs (by omega) (by omega) hbh'
      · exact hs.2.2.1 h h' (by omega) z1 (by omega) hbh hbh' hl
  · by_cases c : r = b
    · subst c; omega
    · by_cases c2 : r = e
      · subst c2
        rcases hb with x | x | x
        · obtain ⟨x1, x2, x3, x4⟩ := x
          rw [x4, show ((b : Int)).toNat = b by omega]
          exact ⟨by omega, by omega, by omega, hE⟩
        · obtain ⟨x1, x2, x3, x4, -⟩ := x
          rw [x4, show ((b : Int)).toNat = b by omega]
          exact ⟨by omega, by omega, by omega, hE⟩
        · omega
      · obtain ⟨x1, x2⟩ := hs.2.2.2.1 r (by omega) (by omega) hr
        exact ⟨by omega, x2⟩
  · by_cases c : r = b
    · subst c; omega
    · by_cases c2 : r = e
      · subst c2
        rcases hb with x | x | x
        · omega
        · omega
        · exact ⟨b, by omega, by omega, x.1, x.2.2.symm, hE⟩
      · obtain ⟨q, x1, x2⟩ := hs.2.2.2.2.1 r (by omega) (by omega) hr
        exact ⟨q, by omega, x2⟩
  · by_cases c : r = b
    · subst c; omega
    · by_cases c2 : r = e
      · subst c2; omega
      · rcases hs.2.2.2.2.2.1 r (by omega) (by omega) hr with x | ⟨x1, x2, x3, x4⟩
        · exact Or.inl x
        · exact Or.inr ⟨x1, by omega, x3, j r _ (by omega) (by omega) (by omega) (by omega) x4⟩
  · by_cases c : r = b
    · subst c; omega
    · by_cases c2 : r = e
      · subst c2; omega
      · obtain ⟨x1, x2, x3⟩ := hs.2.2.2.2.2.2 r (by omega) (by omega) hr
        exact ⟨x1, by omega, j r _ (by omega) (by omega) (by omega) (by omega) x3⟩
/-- an alternative: BEGIN, its row, GO to the end; behind it what follows -/
theorem SG_alt {p : Nat → Nat → Int} {E : Nat → Nat} {b g e : Nat} (h1 : p 0 b = 1) (hr : SG p E (b + 1) g) (h2 : p 0 g = 2) (h3 : p 1 g = e) (hn : (p 1 b = -1 ∧ e = g + 1) ∨ (p 1 b = ((g + 1 : Nat) : Int) ∧ p 0 (g + 1) = 1 ∧ g + 1 < e)) (ht : SG p E (g + 1) e) : SG p E b e := by
  have r1 := hr.1
  have t1 := ht.1
  have nb : ¬ blk p b := by unfold blk; omega
  have ng : ¬ blk p g := by unfold blk; omega
  have jj : ∀ h, b ≤ h → h < e → blk p h → (b + 1 ≤ h ∧ h < g ∧ E h < g) ∨ (g + 1 ≤ h ∧ E h < e) := fun h z0 z1 hb => by
    by_cases c : h < g
    · have : h ≠ b := fun y => nb (by rw [← y]; exact hb)
      exact Or.inl ⟨by omega, c, SG_end hr (by omega) c hb⟩
    · have : h ≠ g := fun y => ng (by rw [← y]; exact hb)
      exact Or.inr ⟨by omega, SG_end ht (by omega) z1 hb⟩
  have j1 : JB p E b e b (g + 1) := fun h z0 z1 hb => by
    rcases jj h z0 z1 hb with x | x <;> (unfold inE; constructor <;> (intro y; omega))
  have j2 : JB p E b e g e := fun h z0 z1 hb => by
    rcases jj h z0 z1 hb with x | x <;> (unfold inE; constructor <;> (intro y; omega))
  have jL : ∀ r x, b + 1 ≤ r → r < g → x ≤ g → JB p E (b + 1) g r x → JB p E b e r x := fun r x r0 r1 x1 hj h z0 z1 hb => by
    rcases jj h z0 z1 hb with y | y
    · exact hj h y.1 y.2.1 hb
    · unfold inE
      constructor <;> (intro w; omega)
  have jR : ∀ r x, g + 1 ≤ r → g + 1 ≤ x → JB p E (g + 1) e r x → JB p E b e r x := fun r x r0 x0 hj h z0 z1 hb => by
    rcases jj h z0 z1 hb with y | y
    · unfold inE
      constructor <;> (intro w; omega)
    · exact hj h y.1 z1 hb
  refine ⟨by omega, fun h z0 z1 hb => ?_, fun h h' z0 z1 z2 hb hb' hl => ?_, fun r z0 z1 hq => ?_, fun r z0 z1 hq => ?_, fun r z0 z1 hq => ?_, fun r z0 z1 hq => ?_⟩
  · rcases jj h z0 z1 hb with y | y
    · obtain ⟨x1, x2, x3⟩ := hr.2.1 h y.1 y.2.1 hb
      exact ⟨x1, by omega, x3⟩
    · exact ht.2.1 h y.1 z1 hb
  · rcases jj h z0 (by omega) hb with y | y
    · exact hr.2.2.1 h h' y.1 z1 (by omega) hb hb' hl
    · exact ht.2.2.1 h h' y.1 z1 z2 hb hb' hl
  · by_cases c : r < g
    · have : r ≠ b := fun y => by rw [y] at hq; omega
      obtain ⟨x1, x2⟩ := hr.2.2.2.1 r (by omega) c hq
      exact ⟨by omega, x2⟩
    · have : r ≠ g := fun y => by rw [y] at hq; omega
      obtain ⟨x1, x2⟩ := ht.2.2.2.1 r (by omega) z1 hq
      exact ⟨by omega, x2⟩
  · by_cases c : r < g
    · have : r ≠ b := fun y => by rw [y] at hq; omega
      obtain ⟨q, x1, x2⟩ := hr.2.2.2.2.1 r (by omega) c hq
      exact ⟨q, by omega, x2⟩
    · have : r ≠ g := fun y => by rw [y] at hq; omega
      obtain ⟨q, x1, x2⟩ := ht.2.2.2.2.1 r (by omega) z1 hq
      exact ⟨q, by omega, x2⟩
  · by_cases cb : r = b
    · subst cb
      rcases hn with x | ⟨x1, x2, x3⟩
      · exact Or.inl x.1
      · rw [x1, show (((g + 1 : Nat) : Int)).toNat = g + 1 by omega]
        exact Or.inr ⟨by omega, by omega, x2, j1⟩
    · by_cases c : r < g
      · rcases hr.2.2.2.2.2.1 r (by omega) c hq with x | ⟨x1, x2, x3, x4⟩
        · exact Or.inl x
        · exact Or.inr ⟨x1, by omega, x3, jL r _ (by omega) c (by omega) x4⟩
      · have : r ≠ g := fun y => by rw [y] at hq; omega
        rcases ht.2.2.2.2.2.1 r (by omega) z1 hq with x | ⟨x1, x2, x3, x4⟩
        · exact Or.inl x
        · exact Or.inr ⟨x1, x2, x3, jR r _ (by omega) (by omega) x4⟩
  · by_cases cg : r = g
    · subst cg
      rw [h3, show ((e : Int)).toNat = e by omega]
      exact ⟨by omega, by omega, j2⟩
    · by_cases c : r < g
      · have : r ≠ b := fun y => by rw [y] at hq; omega
        obtain ⟨x1, x2, x3⟩ := hr.2.2.2.2.2.2 r (by omega) c hq
        exact ⟨x1, by omega, jL r _ (by omega) c (by omega) x3⟩
      · obtain ⟨x1, x2, x3⟩ := ht.2.2.2.2.2.2 r (by omega) z1 hq
        exact ⟨x1, x2, jR r _ (by omega) (by omega) x3⟩
