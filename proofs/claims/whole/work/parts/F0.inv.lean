/-- the class's program is the same -/
def pgE (S S' : CSt) : Prop := S'.1 6 = S.1 6 ∧ (∀ j, j < 9 → S'.1 (17 + j) = S.1 (17 + j)) ∧ (∀ j, j = 3 ∨ j = 4 → S'.2.1 (17 + j) = S.2.1 (17 + j))
theorem pgE_o {S S' : CSt} (h : ∀ n, n = 6 ∨ (17 ≤ n ∧ n ≤ 25) → S'.1 n = S.1 n) (h2 : S'.2.1 = S.2.1) : pgE S S' := ⟨h 6 (by omega), fun j hj => h _ (by omega), fun j _ => by rw [h2]⟩
theorem certR_pg {p : Nat → Nat → Int} {F : Nat → Int} {fit : Nat → Int → Int} {S S' : CSt} {r : Nat} (h : pgE S S') (hc : certR p F fit S r) : certR p F fit S' r := by
  obtain ⟨h6, hA', hB'⟩ := h
  have hA : ∀ j, j < 9 → S'.1 (pA 6 j) = S.1 (pA 6 j) := hA'
  have hB3 : S'.2.1 (pA 6 3) = S.2.1 (pA 6 3) := hB' 3 (by omega)
  have hB4 : S'.2.1 (pA 6 4) = S.2.1 (pA 6 4) := hB' 4 (by omega)
  have eI : ∀ i, K2_isInstruction 6 i S' = K2_isInstruction 6 i S := fun i => by unfold K2_isInstruction; rw [h6]
  have eL : ∀ i, K2_isLoop 6 i S' = K2_isLoop 6 i S := fun i => by unfold K2_isLoop; rw [h6]
  have e1 : ∀ i, K2_kind 6 i S' = K2_kind 6 i S := fun i => by unfold K2_kind; rw [eI, hA 0 (by omega)]
  have e2 : ∀ i, K2_aim 6 i S' = K2_aim 6 i S := fun i => by unfold K2_aim; rw [eI, hA 1 (by omega)]
  have e3 : ∀ i, K2_number 6 i S' = K2_number 6 i S := fun i => by unfold K2_number; rw [eI, hA 2 (by omega)]
  have e4 : ∀ i, K2_least 6 i S' = K2_least 6 i S := fun i => by unfold K2_least; rw [eL, hA 5 (by omega)]
  have e5 : ∀ i, K2_most 6 i S' = K2_most 6 i S := fun i => by unfold K2_most; rw [eL, hA 6 (by omega)]
  have e6 : ∀ i, K2_firstGroup 6 i S' = K2_firstGroup 6 i S := fun i => by unfold K2_firstGroup; rw [eL, hA 7 (by omega)]
  have e7 : ∀ i, K2_lastGroup 6 i S' = K2_lastGroup 6 i S := fun i => by unfold K2_lastGroup; rw [eL, hA 8 (by omega)]
  have e8 : ∀ i z, K2_fits 6 i z S' = K2_fits 6 i z S := fun i z => by unfold K2_fits; rw [eI, hB3, hB4]
  unfold certR
  simp only [e1, e2, e3, e4, e5, e6, e7, e8]
  exact hc
/-- the reference's program is the same -/
def pmE (M M' : MSt) : Prop := M'.1 6 = M.1 6 ∧ M'.1 12 = M.1 12 ∧ ∀ k, 7 ≤ k → k ≤ 11 → M'.2 k = M.2 k
theorem pmE_o {M M' : MSt} (h6 : M'.1 6 = M.1 6) (h12 : M'.1 12 = M.1 12) (h2 : M'.2 = M.2) : pmE M M' := ⟨h6, h12, fun k _ _ => by rw [h2]⟩
theorem fitR_pm {M M' : MSt} (h : pmE M M') (k x : Int) : M_fitR k x M' = M_fitR k x M := by
  obtain ⟨h6, -, h2⟩ := h
  have ef : ∀ x, M_fits k x M' = M_fits k x M := fun x => by
    unfold M_fits M_inSet M_has
    rw [h2 8 (by omega) (by omega), h2 9 (by omega) (by omega), h2 10 (by omega) (by omega), h6, M_inSetL_cong (h2 7 (by omega) (by omega))]
  unfold M_fitR
  rw [ef, ef, h2 8 (by omega) (by omega), h2 11 (by omega) (by omega)]
  unfold M_has
  rw [h6]
theorem PRG_cg {M M' : MSt} {S S' : CSt} (h : PRG M S) (hm : pmE M M') (hs : pgE S S') : PRG M' S' := by
  obtain ⟨p, R, N, F, h1, h2, h3, h4, h5⟩ := h
  have hm' := hm
  obtain ⟨-, e12, e⟩ := hm'
  refine ⟨p, R, N, F, h1, ?_, h3, fun r hr => ?_, fun r hr y => by rw [e12]; exact h5 r hr y⟩
  · rw [e 8 (by omega) (by omega), e 9 (by omega) (by omega), e 10 (by omega) (by omega), e 11 (by omega) (by omega)]; exact h2
  · have ef : (fun (r : Nat) (z : Int) => M_fitR r z M') = (fun (r : Nat) (z : Int) => M_fitR r z M) := by
      funext r z
      exact fitR_pm hm r z
    rw [ef]
    exact certR_pg hs (h4 r hr)
/-! WHAT STANDS BETWEEN THE CALLS, of the class (S) and of the reference (M) -/
def I_ty (S : CSt) (M : MSt) : Prop := S.1 1 1 = M.1 2 ∧ 0 ≤ M.1 2 ∧ M.1 2 ≤ 40 ∧ ∀ j : Nat, (j : Int) < M.1 2 → S.1 12 j = M.2 1 j ∧ 32 ≤ M.2 1 j
def I_ch (S : CSt) (M : MSt) : Prop := (∀ j, 0 ≤ S.1 12 j ∧ S.1 12 j ≤ 126) ∧ (∀ j, 0 ≤ M.2 1 j ∧ M.2 1 j ≤ 126) ∧ (∀ j, 0 ≤ S.1 13 j ∧ S.1 13 j ≤ 126) ∧ (∀ j, 0 ≤ M.2 13 j ∧ M.2 13 j ≤ 126)
def I_tx (S : CSt) (M : MSt) : Prop := S.1 3 1 = M.1 4 ∧ 0 ≤ M.1 4 ∧ M.1 4 ≤ 24 ∧ (∀ j : Nat, (j : Int) < M.1 4 → S.1 14 j = M.2 3 j ∧ 32 ≤ M.2 3 j ∧ M.2 3 j ≤ 126) ∧ (∀ j, 0 ≤ S.1 14 j ∧ S.1 14 j ≤ 126)
def I_re (S : CSt) (M : MSt) : Prop := S.1 4 1 = M.1 47 ∧ 0 ≤ M.1 47 ∧ M.1 47 ≤ 200 ∧ (∀ j : Nat, (j : Int) < M.1 47 → S.1 15 j = M.2 46 j) ∧ (∀ j, 0 ≤ S.1 15 j ∧ S.1 15 j < 65536) ∧ (∀ j, 0 ≤ S.1 16 j ∧ S.1 16 j < 65536) ∧ (∀ j, 0 ≤ M.2 46 j ∧ M.2 46 j ≤ 126) ∧ (∀ j, 0 ≤ M.2 48 j ∧ M.2 48 j ≤ 126)
def I_pg (S : CSt) (M : MSt) : Prop := PRG M S ∧ S.1 6 13 = M.1 6 ∧ S.1 6 12 = M.1 12
def I_cf (M : MSt) : Prop := ∃ p, CfT p M
def I_bd (S : CSt) : Prop := pB 6 S ∧ pB 7 S ∧ sV S ∧ mkB S ∧ rQ S ∧ ((∀ j, S.1 18 j ≤ 1000) ∧ (∀ j, 0 ≤ S.1 24 j) ∧ (∀ j, S.1 25 j ≤ 9)) ∧ (0 ≤ S.1 10 3 ∧ S.1 10 3 ≤ 1000)
def I_fd (S : CSt) (M : MSt) : Prop := (S.1 0 11 = M.1 5 ∧ 0 ≤ M.1 5 ∧ M.1 5 ≤ 24) ∧ (S.1 0 12 = M.1 45) ∧ (M.1 42 = 0 ∨ M.1 42 = 1) ∧ ∀ k : Nat, k < 10 → S.1 38 k = (if M.1 42 = 1 ∧ (k : Int) ≤ M.1 12 then M.2 43 k else -1) ∧ S.1 39 k = (if M.1 42 = 1 ∧ (k : Int) ≤ M.1 12 then M.2 44 k else -1)
def INV (a b : Nat) (S : CSt) (M : MSt) : Prop := (a = 6 ∨ a = 7) ∧ (b = 6 ∨ b = 7) ∧ cFx a b S ∧ I_ty S M ∧ I_ch S M ∧ I_tx S M ∧ I_re S M ∧ I_pg S M ∧ I_cf M ∧ I_bd S ∧ I_fd S M
theorem INV_12 {a b : Nat} {S : CSt} {M : MSt} (h : INV a b S M) : 0 ≤ M.1 12 ∧ M.1 12 ≤ 9 := by
  obtain ⟨-, -, -, -, -, -, -, ⟨-, -, h1⟩, -, ⟨⟨-, -, -, -, -, -, -, h2, h3, -⟩, -⟩, -⟩ := h
  omega
theorem CfT_0 {p : Nat → Nat → Int} {M : MSt} {v : Int} (h : CfT p M) : CfT p (mi M 0 v) := h
theorem I_bd_o {S S' : CSt} (h : ∀ n, (6 ≤ n ∧ n ≤ 11) ∨ (17 ≤ n ∧ n ≤ 37) → S'.1 n = S.1 n) (h2 : S'.2.2.2 = S.2.2.2) (hb : I_bd S) : I_bd S' := by
  obtain ⟨b1, b2, b3, b4, b5, b6, b7⟩ := hb
  refine ⟨pB_of (h 6 (by omega)) (fun j hj => h _ (by unfold pA; omega)) b1, pB_of (h 7 (by omega)) (fun j hj => h _ (by unfold pA; omega)) b2, ?_, mkB_of (h 35 (by omega)) (h 37 (by omega)) b4, ?_, ?_, ?_⟩
  · unfold sV
    rw [h 35 (by omega), h 11 (by omega), h2, h 36 (by omega), h 37 (by omega)]
    exact b3
  · unfold rQ
    rw [h 8 (by omega), h 27 (by omega), h 33 (by omega), h 34 (by omega), h 7 (by omega)]
    exact b5
  · rw [h 18 (by omega), h 24 (by omega), h 25 (by omega)]
    exact b6
  · rw [h 10 (by omega)]
    exact b7
/-- the reference's own word on refusals isn't looked at -/
theorem INV_0 {a b : Nat} {S : CSt} {M : MSt} {v : Int} (h : INV a b S M) : INV a b S (mi M 0 v) := by
  obtain ⟨h1, h2, h3, h4, h5, h6, h7, ⟨h8, h8'⟩, ⟨p, h9⟩, h10, h11⟩ := h
  exact ⟨h1, h2, h3, h4, h5, h6, h7, ⟨PRG_cg h8 (pmE_o rfl rfl rfl) (pgE_o (fun _ _ => rfl) rfl), h8'⟩, ⟨p, CfT_0 h9⟩, h10, h11⟩
/-- what a call of both comes to -/
def COK (a b : Nat) (r : CR) (S' : CSt) (m : Int × MSt) : Prop := (r.1 = 1 ∧ m.2.1 0 = 1 ∧ INV a b S' m.2) ∨ (r.1 = 0 ∧ m.2.1 0 = 0 ∧ r.2.1 = m.1 ∧ INV a b S' m.2)
theorem C_start {a b : Nat} {S : CSt} {M : MSt} {v : Int} (h : INV a b S M) : COK a b (K6_start v S) (K6_start v S).2.2 (M_start v M) := by
  unfold K6_start M_start
  by_cases c1 : v < 0
  · rw [if_pos c1, if_pos c1]
    exact Or.inl ⟨rfl, rfl, INV_0 (INV_0 h)⟩
  rw [if_neg c1, if_neg c1]
  by_cases c2 : v ≤ 24
  · rw [if_pos c2, if_pos c2]
    refine Or.inr ⟨rfl, rfl, rfl, ?_⟩
    obtain ⟨h1, h2, h3, h4, h5, h6, h7, ⟨h8, h8'⟩, ⟨p, h9⟩, h10, ⟨-, f2, f3, f4⟩⟩ := h
    exact ⟨h1, h2, h3, h4, h5, h6, h7, ⟨PRG_cg h8 (pmE_o rfl rfl rfl) (pgE_o (fun n hn => ci_ne (by omega)) rfl), h8'⟩, ⟨p, h9⟩, I_bd_o (fun n hn => ci_ne (by omega)) rfl h10, ⟨rfl, by show 0 ≤ v; omega, c2⟩, f2, f3, f4⟩
  · rw [if_neg c2, if_neg c2]
    exact Or.inl ⟨rfl, rfl, INV_0 (INV_0 h)⟩
theorem C_steps {a b : Nat} {S : CSt} {M : MSt} (h : INV a b S M) : K6_steps S = (M_steps M).1 ∧ INV a b S (M_steps M).2 := ⟨h.2.2.2.2.2.2.2.2.2.2.2.1, INV_0 h⟩
theorem C_from {a b : Nat} {S : CSt} {M : MSt} {k : Int} (h : INV a b S M) : K6_from k S = (M_from k M).1 ∧ INV a b S (M_from k M).2 := by
  refine ⟨?_, INV_0 h⟩
  have h12 := INV_12 h
  obtain ⟨-, -, -, -, -, -, -, -, -, -, ⟨-, -, f3, f4⟩⟩ := h
  show K6_from k S = (if (M_isGroup k M) = 0 then (-1) else M.2 43 k.toNat : Int)
  unfold K6_from M_isGroup
  by_cases c1 : k < 0
  · rw [if_pos c1, if_pos c1]
    by_cases c : M.1 42 = 0
    · rw [if_pos c, if_pos rfl]
    · rw [if_neg c, if_pos rfl]
  rw [if_neg c1, if_neg c1]
  by_cases c2 : 10 ≤ k
  · rw [if_pos c2, if_pos (show M.1 12 < k by omega)]
    by_cases c : M.1 42 = 0
    · rw [if_pos c, if_pos rfl]
    · rw [if_neg c, if_pos rfl]
  rw [if_neg c2, (f4 k.toNat (by omega)).1, show ((k.toNat : Nat) : Int) = k by omega]
  by_cases c : M.1 42 = 0
  · rw [if_pos c, if_pos rfl, if_neg (by omega)]
  · rw [if_neg c]
    by_cases c3 : M.1 12 < k
    · rw [if_pos c3, if_pos rfl, if_neg (by omega)]
    · rw [if_neg c3, if_neg i10, if_pos (by omega)]
theorem C_to {a b : Nat} {S : CSt} {M : MSt} {k : Int} (h : INV a b S M) : K6_to k S = (M_to k M).1 ∧ INV a b S (M_to k M).2 := by
  refine ⟨?_, INV_0 h⟩
  have h12 := INV_12 h
  obtain ⟨-, -, -, -, -, -, -, -, -, -, ⟨-, -, f3, f4⟩⟩ := h
  show K6_to k S = (if (M_isGroup k M) = 0 then (-1) else M.2 44 k.toNat : Int)
  unfold K6_to M_isGroup
  by_cases c1 : k < 0
  · rw [if_pos c1, if_pos c1]
    by_cases c : M.1 42 = 0
    · rw [if_pos c, if_pos rfl]
    · rw [if_neg c, if_pos rfl]
  rw [if_neg c1, if_neg c1]
  by_cases c2 : 10 ≤ k
  · rw [if_pos c2, if_pos (show M.1 12 < k by omega)]
    by_cases c : M.1 42 = 0
    · rw [if_pos c, if_pos rfl]
    · rw [if_neg c, if_pos rfl]
  rw [if_neg c2, (f4 k.toNat (by omega)).2, show ((k.toNat : Nat) : Int) = k by omega]
  by_cases c : M.1 42 = 0
  · rw [if_pos c, if_pos rfl, if_neg (by omega)]
  · rw [if_neg c]
    by_cases c3 : M.1 12 < k
    · rw [if_pos c3, if_pos rfl, if_neg (by omega)]
    · rw [if_neg c3, if_neg i10, if_pos (by omega)]
theorem C_result {a b : Nat} {S : CSt} {M : MSt} {v : Int} (h : INV a b S M) : COK a b (K6_result v S) (K6_result v S).2.2 (M_result v M) := by
  have h' := h
  obtain ⟨-, -, -, -, -, -, ⟨r1, r2, r3, r4, -⟩, -⟩ := h'
  unfold K6_result M_result
  by_cases c1 : v < 0
  · have e : (if v < 0 then 1 else (if (M.1 47) ≤ v then 1 else 0 : Int) : Int) = 1 := if_pos c1
    rw [if_pos c1, e]
    exact Or.inl ⟨rfl, rfl, INV_0 h⟩
  rw [if_neg c1]
  by_cases c2 : v < S.1 4 1
  · have e : (if v < 0 then 1 else (if (M.1 47) ≤ v then 1 else 0 : Int) : Int) = 0 := (if_neg c1).trans (if_neg (by omega))
    rw [if_pos c2, e, if_pos rfl]
    refine Or.inr ⟨rfl, rfl, ?_, INV_0 h⟩
    show K4_at 4 v S = M.2 46 v.toNat
    unfold K4_at
    have l : ((cLen (11 + 4) : Nat) : Int) = 200 := rfl
    rw [if_neg c1, if_neg (by omega), l, if_neg (by omega)]
    exact r4 v.toNat (by omega)
  · have e : (if v < 0 then 1 else (if (M.1 47) ≤ v then 1 else 0 : Int) : Int) = 1 := (if_neg c1).trans (if_pos (by omega))
    rw [if_neg c2, e]
    exact Or.inl ⟨rfl, rfl, INV_0 h⟩
