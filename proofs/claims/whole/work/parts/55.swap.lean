/-! PROGRAM AND SPARE, WRITTEN AND DRAFT CHANGE PLACES: the cells keep their numbers, the addresses change. -/
def swp (i n : Nat) : Nat := if i = 0 then (if n = 6 then 7 else if n = 7 then 6 else if 17 ≤ n ∧ n ≤ 25 then n + 9 else if 26 ≤ n ∧ n ≤ 34 then n - 9 else n) else (if n = 4 then 5 else if n = 5 then 4 else if n = 15 then 16 else if n = 16 then 15 else n)
theorem swp_swp (i n : Nat) : swp i (swp i n) = n := by
  unfold swp
  (repeat' split) <;> omega
theorem swp_lt {i n : Nat} (h : n < 40) : swp i n < 40 := by
  unfold swp
  (repeat' split) <;> omega
theorem swp_lt' {i n : Nat} (h : ¬ n < 40) : swp i n = n := by
  unfold swp
  (repeat' split) <;> omega
theorem swp_1 {i n : Nat} (h : ¬ i = 0) : swp i n = swp 1 n := by
  unfold swp
  rw [if_neg h, if_neg (show ¬ 1 = 0 by decide)]
theorem swp_K0 : ∀ n : Nat, n < 40 → cK (swp 0 n) = cK n := by decide
theorem swp_K1 : ∀ n : Nat, n < 40 → cK (swp 1 n) = cK n := by decide
theorem swp_L0 : ∀ n : Nat, n < 40 → cLen (swp 0 n) = cLen n := by decide
theorem swp_L1 : ∀ n : Nat, n < 40 → cLen (swp 1 n) = cLen n := by decide
theorem swp_K (i n : Nat) : cK (swp i n) = cK n := by
  by_cases hn : n < 40
  · by_cases hi : i = 0
    · subst hi; exact swp_K0 n hn
    · rw [swp_1 hi]; exact swp_K1 n hn
  · rw [swp_lt' hn]
def swq (i : Nat) (q : Nat → Nat) : Nat → Nat := fun n => q (swp i n)
def cSw (i : Nat) (S : CSt) : CSt := (fun n => S.1 (swp i n), fun n => S.2.1 (swp i n), fun n k => swp i (S.2.2.1 (swp i n) k), fun n => S.2.2.2 (swp i n))
theorem cE_sw {cy : Nat → ClassId} {q : Nat → Nat} {i n : Nat} {S : CSt} : cE cy q (cSw i S) n = cE cy (swq i q) S (swp i n) := by
  have hF : cF q (cSw i S) n = cF (swq i q) S (swp i n) := by
    unfold cF
    rw [swp_K]
    rfl
  unfold cE
  rw [swp_K, hF]
  rfl
theorem cW_sw {cy : Nat → ClassId} {q : Nat → Nat} {i : Nat} {S : CSt} (k : Nat) (e : Nat × va_E) (h : (cW cy q (cSw i S))[k]? = some e) : (cW cy (swq i q) S)[swp i k]? = some e := by
  by_cases hk : k < 40
  · rw [cW_get hk] at h
    rw [cW_get (swp_lt hk), ← h, cE_sw]
    show some (q (swp i (swp i k)), _) = _
    rw [swp_swp]
  · rw [cW_none hk] at h
    cases h
theorem cW_sw' {cy : Nat → ClassId} {q : Nat → Nat} {i : Nat} {S : CSt} (k : Nat) (e : Nat × va_E) (h : (cW cy (swq i q) S)[k]? = some e) : (cW cy q (cSw i S))[swp i k]? = some e := by
  by_cases hk : k < 40
  · rw [cW_get hk] at h
    rw [cW_get (swp_lt hk), ← h, cE_sw, swp_swp]
    rfl
  · rw [cW_none hk] at h
    cases h
theorem swp_inj {i a b : Nat} (h : swp i a = swp i b) : a = b := by
  rw [← swp_swp i a, h, swp_swp]
theorem cH_sw {D : va_G} {cy : Nat → ClassId} {q : Nat → Nat} {A : Nat → Prop} {H0 H : Heap} {locs : List Loc} {i : Nat} {S : CSt} : cH D cy q A H0 (cSw i S) H locs ↔ cH D cy (swq i q) A H0 S H locs := by
  constructor
  · intro h
    exact ⟨h.1.by (swp i) cW_sw', h.2.1.by (swp i) cW_sw' (fun _ _ _ _ h => swp_inj h), h.2.2⟩
  · intro h
    exact ⟨h.1.by (swp i) cW_sw, h.2.1.by (swp i) cW_sw (fun _ _ _ _ h => swp_inj h), h.2.2⟩
theorem cq_sw {i : Nat} {q : Nat → Nat} {x y : Nat} : swq i (cq q x y) = cq (swq i q) x y := by
  funext n
  unfold swq cq
  by_cases h1 : n = 36
  · subst h1
    rw [if_pos rfl]
    have : swp i 36 = 36 := by unfold swp; split <;> rfl
    rw [if_pos this]
  · by_cases h2 : n = 37
    · subst h2
      have : swp i 37 = 37 := by unfold swp; split <;> rfl
      rw [this]
      rfl
    · have a1 : swp i n ≠ 36 := fun h => h1 (by rw [← swp_swp i n, h]; unfold swp; split <;> rfl)
      have a2 : swp i n ≠ 37 := fun h => h2 (by rw [← swp_swp i n, h]; unfold swp; split <;> rfl)
      rw [if_neg a1, if_neg a2, if_neg h1, if_neg h2]
theorem gl_sw {i : Nat} {S : CSt} : gl (cSw i S) = gl S := by
  have h1 : swp i 36 = 36 := by unfold swp; split <;> rfl
  have h2 : swp i 37 = 37 := by unfold swp; split <;> rfl
  show S.2.2.2 (swp i 36) + S.2.2.2 (swp i 37) = _
  rw [h1, h2]
  rfl

/-- the state behind the change, in order again -/
def cSn0 (b : Nat) (S : CSt) : CSt := (fun n => S.1 (swp 0 n), fun n => S.2.1 (swp 0 n), cRef 6 (swp 0 b), fun n => S.2.2.2 (swp 0 n))
theorem cSn0_E {cy : Nat → ClassId} {q : Nat → Nat} {b : Nat} {S : CSt} (h1 : S.2.2.1 = cRef 7 b) (n : Nat) (hn : n < 40) : cE cy q (cSw 0 (cr (cr S 0 5 7) 0 6 6)) n = cE cy q (cSn0 b S) n := by
  obtain ⟨S1, S2, S3, S4⟩ := S
  have h1 : S3 = cRef 7 b := h1
  subst h1
  skip
  rcases (show n = 0 ∨ n = 1 ∨ n = 2 ∨ n = 3 ∨ n = 4 ∨ n = 5 ∨ n = 6 ∨ n = 7 ∨ n = 8 ∨ n = 9 ∨ n = 10 ∨ n = 11 ∨ n = 12 ∨ n = 13 ∨ n = 14 ∨ n = 15 ∨ n = 16 ∨ n = 17 ∨ n = 18 ∨ n = 19 ∨ n = 20 ∨ n = 21 ∨ n = 22 ∨ n = 23 ∨ n = 24 ∨ n = 25 ∨ n = 26 ∨ n = 27 ∨ n = 28 ∨ n = 29 ∨ n = 30 ∨ n = 31 ∨ n = 32 ∨ n = 33 ∨ n = 34 ∨ n = 35 ∨ n = 36 ∨ n = 37 ∨ n = 38 ∨ n = 39 by omega) with h | h | h | h | h | h | h | h | h | h | h | h | h | h | h | h | h | h | h | h | h | h | h | h | h | h | h | h | h | h | h | h | h | h | h | h | h | h | h | h
  all_goals (subst h; rfl)
theorem cSn0_H {D : va_G} {cy : Nat → ClassId} {q : Nat → Nat} {x y : Nat} {A : Nat → Prop} {H0 H : Heap} {locs : List Loc} {b : Nat} {S : CSt} (h1 : S.2.2.1 = cRef 7 b) (h : cH D cy (cq q x y) A H0 (cr (cr S 0 5 7) 0 6 6) H locs) : cH D cy (cq (swq 0 q) x y) A H0 (cSn0 b S) H locs := by
  have e : (cr (cr S 0 5 7) 0 6 6) = cSw 0 (cSw 0 (cr (cr S 0 5 7) 0 6 6)) := by
    unfold cSw
    simp only [swp_swp]
  have e2 : cW cy (cq (swq 0 q) x y) (cSw 0 (cr (cr S 0 5 7) 0 6 6)) = cW cy (cq (swq 0 q) x y) (cSn0 b S) := by
    apply List.ext_getElem?
    intro j
    by_cases hj : j < 40
    · rw [cW_get hj, cW_get hj, cSn0_E h1 j hj]
    · rw [cW_none hj, cW_none hj]
  rw [e] at h
  have h := cH_sw.mp h
  rw [cq_sw] at h
  unfold cH at h ⊢
  rw [e2] at h
  exact h
theorem cSn0_F {b : Nat} {S : CSt} (hF : cFx 7 b S) : cFx 6 (swp 0 b) (cSn0 b S) := by
  obtain ⟨h1, h2, h3, h4, h5, h6⟩ := hF
  refine ⟨rfl, fun n n1 n2 => ?_, h3, h4, h5, h6⟩
  have a1 : swp 0 n ≠ 36 := fun h => n1 (by rw [← swp_swp 0 n, h]; rfl)
  have a2 : swp 0 n ≠ 37 := fun h => n2 (by rw [← swp_swp 0 n, h]; rfl)
  show S.2.2.2 (swp 0 n) = _
  rw [h2 _ a1 a2]
  by_cases hn : n < 40
  · exact swp_L0 n hn
  · rw [swp_lt' hn]

/-- the state behind the change, in order again -/
def cSn1 (a b : Nat) (S : CSt) : CSt := (fun n => S.1 (swp 1 n), fun n => S.2.1 (swp 1 n), cRef a b, fun n => S.2.2.2 (swp 1 n))
theorem cSn1_E {cy : Nat → ClassId} {q : Nat → Nat} {a b : Nat} {S : CSt} (h1 : S.2.2.1 = cRef a b) (ha : a = 6 ∨ a = 7) (hb : b = 6 ∨ b = 7) (n : Nat) (hn : n < 40) : cE cy q (cSw 1 (cr (cr S 0 3 5) 0 4 4)) n = cE cy q (cSn1 a b S) n := by
  obtain ⟨S1, S2, S3, S4⟩ := S
  have h1 : S3 = cRef a b := h1
  subst h1
  rcases ha with rfl | rfl <;> rcases hb with rfl | rfl
  all_goals
    rcases (show n = 0 ∨ n = 1 ∨ n = 2 ∨ n = 3 ∨ n = 4 ∨ n = 5 ∨ n = 6 ∨ n = 7 ∨ n = 8 ∨ n = 9 ∨ n = 10 ∨ n = 11 ∨ n = 12 ∨ n = 13 ∨ n = 14 ∨ n = 15 ∨ n = 16 ∨ n = 17 ∨ n = 18 ∨ n = 19 ∨ n = 20 ∨ n = 21 ∨ n = 22 ∨ n = 23 ∨ n = 24 ∨ n = 25 ∨ n = 26 ∨ n = 27 ∨ n = 28 ∨ n = 29 ∨ n = 30 ∨ n = 31 ∨ n = 32 ∨ n = 33 ∨ n = 34 ∨ n = 35 ∨ n = 36 ∨ n = 37 ∨ n = 38 ∨ n = 39 by omega) with h | h | h | h | h | h | h | h | h | h | h | h | h | h | h | h | h | h | h | h | h | h | h | h | h | h | h | h | h | h | h | h | h | h | h | h | h | h | h | h
    all_goals (subst h; rfl)
theorem cSn1_H {D : va_G} {cy : Nat → ClassId} {q : Nat → Nat} {x y : Nat} {A : Nat → Prop} {H0 H : Heap} {locs : List Loc} {a b : Nat} {S : CSt} (h1 : S.2.2.1 = cRef a b) (ha : a = 6 ∨ a = 7) (hb : b = 6 ∨ b = 7) (h : cH D cy (cq q x y) A H0 (cr (cr S 0 3 5) 0 4 4) H locs) : cH D cy (cq (swq 1 q) x y) A H0 (cSn1 a b S) H locs := by
  have e : (cr (cr S 0 3 5) 0 4 4) = cSw 1 (cSw 1 (cr (cr S 0 3 5) 0 4 4)) := by
    unfold cSw
    simp only [swp_swp]
  have e2 : cW cy (cq (swq 1 q) x y) (cSw 1 (cr (cr S 0 3 5) 0 4 4)) = cW cy (cq (swq 1 q) x y) (cSn1 a b S) := by
    apply List.ext_getElem?
    intro j
    by_cases hj : j < 40
    · rw [cW_get hj, cW_get hj, cSn1_E h1 ha hb j hj]
    · rw [cW_none hj, cW_none hj]
  rw [e] at h
  have h := cH_sw.mp h
  rw [cq_sw] at h
  unfold cH at h ⊢
  rw [e2] at h
  exact h
theorem cSn1_F {a b : Nat} {S : CSt} (hF : cFx a b S) : cFx a b (cSn1 a b S) := by
  obtain ⟨h1, h2, h3, h4, h5, h6⟩ := hF
  refine ⟨rfl, fun n n1 n2 => ?_, h3, h4, h5, h6⟩
  have a1 : swp 1 n ≠ 36 := fun h => n1 (by rw [← swp_swp 1 n, h]; rfl)
  have a2 : swp 1 n ≠ 37 := fun h => n2 (by rw [← swp_swp 1 n, h]; rfl)
  show S.2.2.2 (swp 1 n) = _
  rw [h2 _ a1 a2]
  by_cases hn : n < 40
  · exact swp_L1 n hn
  · rw [swp_lt' hn]

