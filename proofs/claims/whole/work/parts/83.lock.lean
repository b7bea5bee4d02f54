/-- how many of the first pending choices the class has, too: all but those of '(?=' -/
def phi (p : Nat → Nat → Int) (x : Nat → Int) : Nat → Nat
  | 0 => 0
  | i + 1 => phi p x i + (if x i % 4 = 2 ∧ p 1 (x i / 4 % 256).toNat = 1 then 0 else 1)
theorem phi_cong {p : Nat → Nat → Int} {x x' : Nat → Int} : ∀ n, (∀ i, i < n → x' i = x i) → phi p x' n = phi p x n
  | 0, _ => rfl
  | n + 1, h => by rw [phi, phi, phi_cong n (fun i hi => h i (by omega)), h n (by omega)]
theorem phi_le {p : Nat → Nat → Int} {x : Nat → Int} : ∀ n, phi p x n ≤ n
  | 0 => Nat.le_refl _
  | n + 1 => by
    rw [phi]
    have := phi_le (p := p) (x := x) n
    split <;> omega
theorem phi_mono {p : Nat → Nat → Int} {x : Nat → Int} {m : Nat} : ∀ n, m ≤ n → phi p x m ≤ phi p x n
  | 0, h => by rw [show m = 0 by omega]; exact Nat.le_refl _
  | n + 1, h => by
    by_cases e : m = n + 1
    · rw [e]; exact Nat.le_refl _
    · have := phi_mono (p := p) (x := x) n (show m ≤ n by omega)
      rw [phi]
      omega
theorem phi_lt {p : Nat → Nat → Int} {x : Nat → Int} {m n : Nat} (h : m < n) (hp : ¬ (x m % 4 = 2 ∧ p 1 (x m / 4 % 256).toNat = 1)) : phi p x m < phi p x n := by
  have := phi_mono (p := p) (x := x) n (show m + 1 ≤ n by omega)
  rw [phi, if_neg hp] at this
  omega
theorem phi_push {p : Nat → Nat → Int} {x : Nat → Int} {n : Nat} {v : Int} : phi p (zu x n v) (n + 1) = phi p x n + (if v % 4 = 2 ∧ p 1 (v / 4 % 256).toNat = 1 then 0 else 1) := by
  rw [phi, zu_eq, phi_cong n (fun i hi => zu_ne (by omega))]
/-- the looks around a place: where the class keeps what the reference keeps in its choice -/
def LKm (p : Nat → Nat → Int) (N : Nat) (x Q : Nat → Int) (pos : Nat) (mk : Nat → Int) : Prop :=
  ∀ k, k < N → p 0 k = 12 → inB p k pos → mk (70 + p 3 k).toNat = 3 * (phi p x (Q (p 3 k).toNat).toNat : Int) ∧ (p 1 k = 1 → mk (80 + p 3 k).toNat = x (Q (p 3 k).toNat).toNat / 1024 % 32)
/-- the class's marks against the reference's registers -/
def MRg (p : Nat → Nat → Int) (N : Nat) (pos : Nat) (rg mk : Nat → Int) : Prop :=
  (∀ g : Nat, 1 ≤ g → g ≤ 9 → mk (10 + g) = rg g ∧ mk (20 + g) = rg (10 + g) ∧ mk g = rg (20 + g)) ∧
  (∀ h, h < N → p 0 h = 14 → rg (reL p h) = mk (30 + p 3 h).toNat + pif (inB p h pos) 1 0 ∧ rg (rbL p h) = mk (50 + p 3 h).toNat)
def MR (p : Nat → Nat → Int) (N : Nat) (x Q : Nat → Int) (pos : Nat) (rg mk : Nat → Int) : Prop := MRg p N pos rg mk ∧ LKm p N x Q pos mk
theorem MRg_go {p : Nat → Nat → Int} {N pos pos' : Nat} {rg mk : Nat → Int} (hs : ∀ h, h < N → p 0 h = 14 → (inB p h pos ↔ inB p h pos')) (h : MRg p N pos rg mk) : MRg p N pos' rg mk := by
  refine ⟨h.1, fun k hk k14 => ?_⟩
  rw [pif_iff (P := inB p k pos') (Q := inB p k pos) (hs k hk k14).symm]
  exact h.2 k hk k14
theorem LKm_go {p : Nat → Nat → Int} {N pos pos' : Nat} {x Q mk : Nat → Int} (hs : ∀ h, h < N → p 0 h = 12 → inB p h pos' → inB p h pos) (h : LKm p N x Q pos mk) : LKm p N x Q pos' mk := fun k a b c => h k a b (hs k a b c)
theorem LKm_cong {p : Nat → Nat → Int} {N pos i : Nat} {x x' Q Q' mk : Nat → Int} (hm : ∀ k, k < N → p 0 k = 12 → inB p k pos → ∃ m : Nat, Q (p 3 k).toNat = m ∧ m < i) (hx : ∀ m, m < i → x' m = x m) (hQ : ∀ k, k < N → p 0 k = 12 → inB p k pos → Q' (p 3 k).toNat = Q (p 3 k).toNat) (h : LKm p N x Q pos mk) : LKm p N x' Q' pos mk := by
  intro k a b c
  obtain ⟨m, m1, m2⟩ := hm k a b c
  have e := h k a b c
  rw [hQ k a b c]
  rw [m1, show ((m : Int)).toNat = m by omega] at e ⊢
  rw [phi_cong m (fun i hi => hx i (by omega)), hx m m2]
  exact e
theorem LKm_cong2 {p : Nat → Nat → Int} {N pos i : Nat} {x x' Q Q' mk : Nat → Int} (hm : ∀ k, k < N → p 0 k = 12 → inB p k pos → ∃ m : Nat, Q (p 3 k).toNat = m ∧ m ≤ i ∧ (p 1 k = 1 → m < i)) (hx : ∀ m, m < i → x' m = x m) (hQ : ∀ k, k < N → p 0 k = 12 → inB p k pos → Q' (p 3 k).toNat = Q (p 3 k).toNat) (h : LKm p N x Q pos mk) : LKm p N x' Q' pos mk := by
  intro k a b c
  obtain ⟨m, m1, m2, m3⟩ := hm k a b c
  have e := h k a b c
  rw [hQ k a b c]
  rw [m1, show ((m : Int)).toNat = m by omega] at e ⊢
  rw [phi_cong m (fun i hi => hx i (by omega))]
  exact ⟨e.1, fun y => by rw [hx m (m3 y)]; exact e.2 y⟩
/-- the class's other way of the reference's choice -/
def wayL (p : Nat → Nat → Int) (F : Nat → Int) (v : Int) : Int := if v % 4 = 0 then F (v / 4 % 256).toNat else if v % 4 = 1 then F (enL p (v / 4 % 256).toNat) + 1 else F ((p 2 (v / 4 % 256).toNat).toNat + 1)
/-- the i-th pending choice, in the class -/
def LEn (p : Nat → Nat → Int) (F : Nat → Int) (N : Nat) (md : Int) (x Q : Nat → Int) (sn : Nat → Nat → Int) (y : Nat → Int) (sc : Nat → Nat → Int) (i : Nat) : Prop :=
  (x i % 4 = 2 ∧ p 1 (x i / 4 % 256).toNat = 1) ∨ ∃ c : Nat, y (3 * phi p x i) = wayL p F (x i) ∧ y (3 * phi p x i + 1) = x i / 1024 % 32 ∧ y (3 * phi p x i + 2) = 2 * (c : Int) ∧
    MR p N x Q (x i / 4 % 256).toNat (sn (x i / 32768).toNat) (sc c) ∧ (c : Int) + cntB p 14 (x i / 4 % 256).toNat N ≤ x i / 32768 + md + (if p 0 (x i / 4 % 256).toNat = 1 then 2 else 0)
def LSt (p : Nat → Nat → Int) (F : Nat → Int) (N : Nat) (md : Int) (x Q : Nat → Int) (sn : Nat → Nat → Int) (y : Nat → Int) (sc : Nat → Nat → Int) (cnt tc : Nat) : Prop :=
  (∀ i, i < cnt → LEn p F N md x Q sn y sc i) ∧ (∀ e e', e ≤ e' → e' < phi p x cnt → y (3 * e + 2) ≤ y (3 * e' + 2)) ∧ (∀ e, e < phi p x cnt → y (3 * e + 2) ≤ 2 * (tc : Int))
theorem LEn_cong {p : Nat → Nat → Int} {F : Nat → Int} {N : Nat} {md md' : Int} {x x' Q Q' : Nat → Int} {sn sn' : Nat → Nat → Int} {y y' : Nat → Int} {sc sc' : Nat → Nat → Int} {i : Nat} (hmd : md ≤ md') (hm : ∀ k, k < N → p 0 k = 12 → inB p k (x i / 4 % 256).toNat → ∃ m : Nat, Q (p 3 k).toNat = m ∧ m < i) (hx : ∀ m, m ≤ i → x' m = x m) (hQ : ∀ k, k < N → p 0 k = 12 → inB p k (x i / 4 % 256).toNat → Q' (p 3 k).toNat = Q (p 3 k).toNat) (hsn : sn' (x i / 32768).toNat = sn (x i / 32768).toNat) (hy : ∀ z, z < 3 * phi p x i + 3 → ¬ (x i % 4 = 2 ∧ p 1 (x i / 4 % 256).toNat = 1) → y' z = y z) (hsc : ∀ c : Nat, ¬ (x i % 4 = 2 ∧ p 1 (x i / 4 % 256).toNat = 1) → y (3 * phi p x i + 2) = 2 * (c : Int) → sc' c = sc c) (h : LEn p F N md x Q sn y sc i) : LEn p F N md' x' Q' sn' y' sc' i := by
  unfold LEn
  rw [hx i (Nat.le_refl _), phi_cong i (fun m hmi => hx m (by omega)), hsn]
  by_cases hP : x i % 4 = 2 ∧ p 1 (x i / 4 % 256).toNat = 1
  · exact Or.inl hP
  · rcases h with h | ⟨c, h1, h2, h3, ⟨h4, h5⟩, h6⟩
    · exact absurd h hP
    · refine Or.inr ⟨c, (hy _ (by omega) hP).trans h1, (hy _ (by omega) hP).trans h2, (hy _ (by omega) hP).trans h3, ?_, by omega⟩
      rw [hsc c hP h3]
      exact ⟨h4, LKm_cong hm (fun m hmi => hx m (by omega)) hQ h5⟩
theorem EntR_m {p : Nat → Nat → Int} {R : Nat → Int} {N : Nat} {len md : Int} {x Q : Nat → Int} {sn : Nat → Nat → Int} {i : Nat} (h : EntR p R N len md x Q sn i) : ∀ k, k < N → p 0 k = 12 → inB p k (x i / 4 % 256).toNat → ∃ m : Nat, Q (p 3 k).toNat = m ∧ m < i := fun k a b c => by
  obtain ⟨m, m1, m2, -⟩ := h.2.2.2.1.2.2.2.2.2.2.2.1 k a b c
  exact ⟨m, m1, m2⟩
theorem RSb_m {p : Nat → Nat → Int} {N : Nat} {len : Int} {x Q : Nat → Int} {sn : Nat → Nat → Int} {pos : Nat} {rg : Nat → Int} {pl : Int} {i : Nat} (h : RSb p N len x Q sn pos rg pl i) : ∀ k, k < N → p 0 k = 12 → inB p k pos → ∃ m : Nat, Q (p 3 k).toNat = m ∧ m < i := fun k a b c => by
  obtain ⟨m, m1, m2, -⟩ := h.2.2.2.2.2.2.2.1 k a b c
  exact ⟨m, m1, m2⟩
theorem LSt_cong {p : Nat → Nat → Int} {R : Nat → Int} {F : Nat → Int} {N : Nat} {len mz md md' : Int} {x x' Q Q' : Nat → Int} {sn sn' : Nat → Nat → Int} {y y' : Nat → Int} {sc sc' : Nat → Nat → Int} {cnt cnt' tc tc' tr : Nat} (hr : StR p R N len mz x Q sn cnt tr) (hmd : md ≤ md') (hc : cnt' ≤ cnt) (hx : ∀ m, m < cnt' → x' m = x m) (hQ : ∀ k, k < N → p 0 k = 12 → (∃ i, i < cnt' ∧ inB p k (x i / 4 % 256).toNat) → Q' (p 3 k).toNat = Q (p 3 k).toNat) (hsn : ∀ m, m < cnt' → 0 ≤ x m → x m / 32768 ≤ tr → sn' (x m / 32768).toNat = sn (x m / 32768).toNat) (hy : ∀ z, z < 3 * phi p x cnt' → y' z = y z) (htc : ∀ e, e < phi p x cnt' → y (3 * e + 2) ≤ 2 * (tc : Int) → y (3 * e + 2) ≤ 2 * (tc' : Int)) (hsc : ∀ (e c : Nat), e < phi p x cnt' → y (3 * e + 2) = 2 * (c : Int) → c ≤ tc → sc' c = sc c) (h : LSt p F N md x Q sn y sc cnt tc) : LSt p F N md' x' Q' sn' y' sc' cnt' tc' := by
  have ec : phi p x' cnt' = phi p x cnt' := phi_cong cnt' hx
  have mo := phi_mono (p := p) (x := x) cnt hc
  unfold LSt
  rw [ec]
  refine ⟨fun i hi => ?_, fun e e' h1 h2 => ?_, fun e h1 => ?_⟩
  · obtain ⟨he, ht⟩ := hr.1 i (by omega)
    have lt : ¬ (x i % 4 = 2 ∧ p 1 (x i / 4 % 256).toNat = 1) → phi p x i < phi p x cnt' := fun hP => phi_lt hi hP
    refine LEn_cong hmd (EntR_m he) (fun m hm => hx m (by omega)) (fun k a b c => hQ k a b ⟨i, hi, c⟩) (hsn i hi he.1 ht) (fun z hz hP => hy z (by have := lt hP; omega)) (fun c hP h2 => hsc _ c (lt hP) h2 ?_) (h.1 i (by omega))
    have := h.2.2 (phi p x i) (by have := lt hP; omega)
    omega
  · rw [hy _ (by omega), hy _ (by omega)]
    exact h.2.1 e e' h1 (by omega)
  · rw [hy _ (by omega)]
    exact htc e h1 (h.2.2 e (by omega))
/-- a choice that the class has, too -/
theorem LSt_push {p : Nat → Nat → Int} {R : Nat → Int} {F : Nat → Int} {N : Nat} {len mz md : Int} {x Q : Nat → Int} {sn : Nat → Nat → Int} {y y' : Nat → Int} {sc : Nat → Nat → Int} {cnt tc tr : Nat} {v : Int} (hr : StR p R N len mz x Q sn cnt tr) (hP : ¬ (v % 4 = 2 ∧ p 1 (v / 4 % 256).toNat = 1)) (hy : ∀ z, z < 3 * phi p x cnt → y' z = y z) (hn : LEn p F N md (zu x cnt v) Q sn y' sc cnt) (ht : y' (3 * phi p x cnt + 2) = 2 * (tc : Int)) (h : LSt p F N md x Q sn y sc cnt tc) : LSt p F N md (zu x cnt v) Q sn y' sc (cnt + 1) tc := by
  have h0 : LSt p F N md (zu x cnt v) Q sn y' sc cnt tc := LSt_cong hr (Int.le_refl _) (Nat.le_refl _) (fun m hm => zu_ne (by omega)) (fun _ _ _ _ => rfl) (fun _ _ _ _ => rfl) hy (fun _ _ q => q) (fun _ _ _ _ _ => rfl) h
  have ep : phi p (zu x cnt v) (cnt + 1) = phi p x cnt + 1 := by rw [phi_push, if_neg hP]
  have e0 : phi p (zu x cnt v) cnt = phi p x cnt := phi_cong cnt (fun m hm => zu_ne (by omega))
  unfold LSt at h0 ⊢
  rw [ep]
  rw [e0] at h0
  refine ⟨fun i hi => ?_, fun e e' h1 h2 => ?_, fun e h1 => ?_⟩
  · by_cases e : i = cnt
    · subst e; exact hn
    · exact h0.1 i (by omega)
  · by_cases e2 : e' = phi p x cnt
    · by_cases e3 : e = phi p x cnt
      · rw [e2, e3]; exact Int.le_refl _
      · rw [e2, ht]
        exact h0.2.2 e (by omega)
    · exact h0.2.1 e e' h1 (by omega)
  · by_cases e2 : e = phi p x cnt
    · rw [e2, ht]; exact Int.le_refl _
    · exact h0.2.2 e (by omega)
