/-- how heavy a row of n signs can be -/
def gN (n : Nat) : Nat := 3 * 8 ^ n / 5 ^ n - 2
theorem gN_s1 : ∀ n, n < 42 → gN n + 1 ≤ gN (n + 1) := by decide +kernel
theorem gN_s2 : ∀ n, n < 42 → gN n + 4 ≤ gN (n + 2) := by decide +kernel
theorem gN_s4 : ∀ n, n < 42 → gN n + 12 ≤ gN (n + 4) := by decide +kernel
theorem gN_c0 : ∀ p, p < 42 → ∀ c, c < 42 → gN p + (gN c + 1) ≤ gN (p + c + 2) := by decide +kernel
theorem gN_c1 : ∀ p, p < 42 → ∀ c, c < 42 → gN p + ((gN c + 1) * 2 + 2) ≤ gN (p + c + 3) := by decide +kernel
theorem gN_c3 : ∀ p, p < 42 → ∀ c, c < 42 → gN p + ((gN c + 1) * 10 + 2) ≤ gN (p + c + 5) := by decide +kernel
theorem gN_m : ∀ n, n < 200 → gN n ≤ gN (n + 1) := by decide +kernel
theorem gN_41 : gN 41 < 2000000000 := by decide +kernel
theorem gN_add (a : Nat) : ∀ d : Nat, a + d ≤ 200 → gN a ≤ gN (a + d)
  | 0, _ => Nat.le_refl _
  | d + 1, h => Nat.le_trans (gN_add a d (by omega)) (gN_m (a + d) (by omega))
theorem gN_le {a b : Nat} (h : a ≤ b) (hb : b ≤ 200) : gN a ≤ gN b := by
  have := gN_add a (b - a) (by omega)
  rw [show a + (b - a) = b by omega] at this
  exact this
/-- the weights of k open bodies fit to a signs -/
def WB (w : Nat → Int) : Nat → Nat → Prop
  | 0, _ => True
  | k + 1, a => ∃ n m : Nat, m + n + 1 ≤ a ∧ w k ≤ (gN n : Nat) ∧ WB w k m
theorem WB_cong {w w' : Nat → Int} : ∀ (k a : Nat), (∀ i, i < k → w' i = w i) → WB w k a → WB w' k a
  | 0, _, _, _ => True.intro
  | k + 1, a, h, ⟨n, m, h1, h2, h3⟩ => ⟨n, m, h1, by rw [h k (by omega)]; exact h2, WB_cong k m (fun i hi => h i (by omega)) h3⟩
theorem WB_mono {w : Nat → Int} : ∀ (k a b : Nat), a ≤ b → WB w k a → WB w k b
  | 0, _, _, _, _ => True.intro
  | k + 1, a, b, h, ⟨n, m, h1, h2, h3⟩ => ⟨n, m, by omega, h2, h3⟩
theorem WB_top {w : Nat → Int} {k a : Nat} {d : Int} {s : Nat} (h : WB w (k + 1) a) (hs : ∀ n, n < a → (gN n : Int) + d ≤ (gN (n + s) : Nat)) : WB (zu w k (w k + d)) (k + 1) (a + s) := by
  obtain ⟨n, m, h1, h2, h3⟩ := h
  refine ⟨n + s, m, by omega, ?_, WB_cong k m (fun i hi => zu_ne (by omega)) h3⟩
  rw [zu_eq]
  have := hs n (by omega)
  omega
theorem WB_open {w : Nat → Int} {k a : Nat} (h : WB w k a) : WB (zu w k 0) (k + 1) (a + 1) := by
  refine ⟨0, a, by omega, ?_, WB_cong k a (fun i hi => zu_ne (by omega)) h⟩
  rw [zu_eq]
  omega
theorem WB_close {w : Nat → Int} {k a : Nat} {d : Int} {s : Nat} (h : WB w (k + 2) a) (hs : ∀ p c : Nat, p + c + 2 ≤ a → w (k + 1) ≤ (gN c : Nat) → (gN p : Int) + d ≤ (gN (p + c + 1 + s) : Nat)) : WB (zu w k (w k + d)) (k + 1) (a + s) := by
  obtain ⟨c, m', h1, h2, p, m, h3, h4, h5⟩ := h
  refine ⟨p + c + 1 + s, m, by omega, ?_, WB_cong k m (fun i hi => zu_ne (by omega)) h5⟩
  rw [zu_eq]
  have := hs p c (by omega) h2
  omega
theorem WB_bd {w : Nat → Int} : ∀ (k a : Nat), a ≤ 41 → WB w k a → ∀ j, j < k → w j ≤ 2000000000
  | 0, _, _, _, j, hj => by omega
  | k + 1, a, ha, ⟨n, m, h1, h2, h3⟩, j, hj => by
    by_cases c : j = k
    · have := gN_le (a := n) (b := 41) (by omega) (by omega)
      have := gN_41
      rw [c]
      omega
    · exact WB_bd k m (by omega) h3 j (by omega)
/-- the chains of jumps of k open bodies, all below u -/
def CHs (a al go bf : Nat → Int) : Nat → Int → Prop
  | 0, _ => True
  | k + 1, u => (0 ≤ bf k ∧ bf k ≤ al k ∧ al k < u) ∧ (∃ gs : List Nat, CH a (al k).toNat gs (go k) ∧ ∀ x, x ∈ gs → bf k ≤ (x : Int)) ∧ CHs a al go bf k (bf k)
theorem CHs_mono {a al go bf : Nat → Int} {k : Nat} {u u' : Int} (hu : u ≤ u') (h : CHs a al go bf k u) : CHs a al go bf k u' := by
  cases k with
  | zero => exact True.intro
  | succ k => exact ⟨⟨h.1.1, h.1.2.1, by have := h.1.2.2; omega⟩, h.2⟩
theorem CHs_cong {a a' al al' go go' bf bf' : Nat → Int} : ∀ (k : Nat) (u : Int), (∀ (x i : Nat), i < k → (x : Int) < al i → a' x = a x) → (∀ i, i < k → al' i = al i ∧ go' i = go i ∧ bf' i = bf i) → CHs a al go bf k u → CHs a' al' go' bf' k u
  | 0, _, _, _, _ => True.intro
  | k + 1, u, ha, hi, ⟨h1, ⟨gs, h2, h3⟩, h4⟩ => by
    obtain ⟨e1, e2, e3⟩ := hi k (by omega)
    refine ⟨by rw [e1, e3]; exact h1, ⟨gs, ?_, fun x hx => by rw [e3]; exact h3 x hx⟩, by rw [e3]; exact CHs_cong k (bf k) (fun x i hx => ha x i (by omega)) (fun i hx => hi i (by omega)) h4⟩
    rw [e1, e2]
    exact CH_cong (fun x hx => ha x k (by omega) (by have := CH_mem h2 x hx; omega)) h2
theorem CHs_al {a al go bf : Nat → Int} : ∀ (k : Nat) (u : Int), CHs a al go bf k u → ∀ i, i < k → al i < u ∧ 0 ≤ al i ∧ 0 ≤ bf i ∧ bf i ≤ al i
  | 0, _, _, i, hi => by omega
  | k + 1, u, h, i, hi => by
    by_cases c : i = k
    · rw [c]; have := h.1; omega
    · have := CHs_al k (bf k) h.2.2 i (by omega)
      have := h.1
      omega
theorem ch_of : ∀ (gs : List Nat) (n m : Nat) (go : Int) (T : MSt), CH (T.2 16) m gs go → m ≤ 220 → gs.length < n → M_ch n go T
  | [], n, m, go, T, h, hm, hn => by
    have e : go = -1 := h
    cases n with
    | zero => exact absurd hn (by simp)
    | succ n => rw [M_ch]; exact ⟨by omega, by omega, fun y => by omega⟩
  | g :: gs, 0, m, go, T, h, hm, hn => absurd hn (by simp)
  | g :: gs, n + 1, m, go, T, h, hm, hn => by
    obtain ⟨e, h1, h2⟩ := h
    have en : go.toNat = g := by omega
    have e16 : (ma T 16 g (T.1 19)).2 16 = zu (T.2 16) g (T.1 19) := rfl
    have hne : ∀ x, x ∈ gs → x ≠ g := fun x hx => by have := CH_mem h2 x hx; omega
    rw [M_ch]
    refine ⟨by omega, by omega, fun _ => ?_⟩
    rw [en]
    refine ch_of gs n g (T.2 16 g) (ma T 16 g (T.1 19)) ?_ (by omega) (by have e : (g :: gs).length = gs.length + 1 := rfl; omega)
    rw [e16]
    exact CH_cong (fun x hx => zu_ne (hne x hx)) h2
/-- sets end before the pattern's end; no set stands where an open body begins -/
def SBf (T : MSt) : Prop := (∀ r : Nat, (r : Int) < T.1 19 → T.2 15 r = 6 → T.2 17 r < T.1 14) ∧ (∀ j : Nat, (j : Int) < T.1 32 → T.2 15 (T.2 31 j).toNat ≠ 6)
/-- what stands of the reference's reading, part by part -/
def RV0 (T : MSt) : Prop := (∀ j, 0 ≤ T.2 13 j ∧ T.2 13 j ≤ 126) ∧ 0 ≤ T.1 19 ∧ T.1 32 ≤ 9 ∧ (0 ≤ T.1 23 ∧ T.1 23 ≤ 9) ∧ (0 ≤ T.1 20 ∧ T.1 20 ≤ T.1 24) ∧ (∀ j : Nat, (j : Int) < T.1 32 → 0 ≤ T.2 26 j ∧ T.2 26 j ≤ 4) ∧ CHs (T.2 16) (T.2 28) (T.2 29) (T.2 31) (T.1 32).toNat (T.1 19) ∧ SBf T
def RV (T : MSt) : Prop := DMi T ∧ RV0 T ∧ T.1 19 ≤ 3 * T.1 24 + 1 ∧ WB (T.2 30) (T.1 32).toNat (T.1 24 + 1).toNat
theorem RV0_24 {T : MSt} {v : Int} (h : RV0 T) (hv : T.1 24 ≤ v) : RV0 (mi T 24 v) := by
  obtain ⟨a, b, c, d, e, f, g, i⟩ := h
  exact ⟨a, b, c, d, ⟨e.1, by show T.1 20 ≤ v; omega⟩, f, g, i⟩
theorem RV0_25 {T : MSt} {v : Int} (h : RV0 T) : RV0 (mi T 25 v) := h
theorem RV0_22 {T : MSt} {v : Int} (h : RV0 T) : RV0 (mi T 22 v) := h
theorem RV0_21 {T : MSt} {v : Int} (h : RV0 T) : RV0 (mi T 21 v) := h
theorem RV0_20 {T : MSt} {v : Int} (h : RV0 T) (h0 : 0 ≤ v) (h1 : v ≤ T.1 24) : RV0 (mi T 20 v) := by
  obtain ⟨a, b, c, d, e, f, g, i⟩ := h
  exact ⟨a, b, c, d, ⟨h0, h1⟩, f, g, i⟩
theorem RV0_23 {T : MSt} {v : Int} (h : RV0 T) (h0 : 0 ≤ v) (h1 : v ≤ 9) : RV0 (mi T 23 v) := by
  obtain ⟨a, b, c, d, e, f, g, i⟩ := h
  exact ⟨a, b, c, ⟨h0, h1⟩, e, f, g, i⟩
theorem RV0_weigh {T : MSt} {w : Int} (h : RV0 T) : RV0 (M_weigh w T) := h
theorem RV0_27 {T : MSt} {i : Nat} {w : Int} (h : RV0 T) : RV0 (ma T 27 i w) := h
theorem RV0_18 {T : MSt} {i : Nat} {w : Int} (h : RV0 T) : RV0 (ma T 18 i w) := h
theorem RV0_emit {T : MSt} {w x y z : Int} (h : RV0 T) (hw : w ≠ 6 ∨ y < T.1 14) : RV0 (M_emit w x y z T) := by
  obtain ⟨a, b, c, d, e, f, g, i1, i2⟩ := h
  have al := CHs_al _ _ g
  refine ⟨a, by show 0 ≤ T.1 19 + 1; omega, c, d, e, f, ?_, fun r hr h6 => ?_, fun j hj => ?_⟩
  · refine CHs_mono (u := T.1 19) (by show T.1 19 ≤ T.1 19 + 1; omega) (CHs_cong (a := T.2 16) _ _ (fun x i hi hx => ?_) (fun i hi => ⟨rfl, rfl, rfl⟩) g)
    have := al i hi
    have hx' : (x : Int) < T.2 28 i := hx
    exact zu_ne (by omega)
  · have hr' : (r : Int) < T.1 19 + 1 := hr
    have h6' : zu (T.2 15) (T.1 19).toNat w r = 6 := h6
    show zu (T.2 17) (T.1 19).toNat y r < T.1 14
    by_cases c : r = (T.1 19).toNat
    · rw [c, zu_eq] at h6'
      rw [c, zu_eq]
      omega
    · rw [zu_ne c] at h6' ⊢
      exact i1 r (by omega) h6'
  · have q := i2 j hj
    have := al j (by have hj' : (j : Int) < T.1 32 := hj; omega)
    show zu (T.2 15) (T.1 19).toNat w (T.2 31 j).toNat ≠ 6
    rw [zu_ne (by omega)]
    exact q
theorem RV0_15 {T : MSt} {a : Nat} (h : RV0 T) : RV0 (ma T 15 a 14) ∧ (ma T 15 a 14).2 15 a = 14 := by
  obtain ⟨x, b, c, d, e, f, g, i1, i2⟩ := h
  refine ⟨⟨x, b, c, d, e, f, g, fun r hr h6 => ?_, fun j hj => ?_⟩, zu_eq⟩
  · have h6' : zu (T.2 15) a 14 r = 6 := h6
    by_cases c : r = a
    · rw [c, zu_eq] at h6'; omega
    · rw [zu_ne c] at h6'
      exact i1 r hr h6'
  · show zu (T.2 15) a 14 (T.2 31 j).toNat ≠ 6
    by_cases c : (T.2 31 j).toNat = a
    · rw [c, zu_eq]; decide
    · rw [zu_ne c]; exact i2 j hj
theorem RV0_16 {T : MSt} {a : Nat} {v : Int} (h : RV0 T) (ha : ∀ i : Nat, (i : Int) < T.1 32 → T.2 28 i ≤ a) : RV0 (ma T 16 a v) := by
  obtain ⟨x, b, c, d, e, f, g, i⟩ := h
  refine ⟨x, b, c, d, e, f, ?_, i⟩
  refine CHs_cong (a := T.2 16) _ _ (fun x i hi hx => ?_) (fun i hi => ⟨rfl, rfl, rfl⟩) g
  have hi' : i < (T.1 32).toNat := hi
  have hx' : (x : Int) < T.2 28 i := hx
  have := ha i (by omega)
  exact zu_ne (by omega)
theorem RV0_17 {T : MSt} {a : Nat} {v : Int} (h : RV0 T) (ha : T.2 15 a ≠ 6) : RV0 (ma T 17 a v) := by
  obtain ⟨x, b, c, d, e, f, g, i1, i2⟩ := h
  refine ⟨x, b, c, d, e, f, g, fun r hr h6 => ?_, i2⟩
  have h6' : T.2 15 r = 6 := h6
  show zu (T.2 17) a v r < T.1 14
  by_cases c : r = a
  · rw [c] at h6'; exact absurd h6' ha
  · rw [zu_ne c]; exact i1 r hr h6'
theorem RV0_up {T U : MSt} {x y : Int} (hu : upAB T U x y) (h : RV0 T) (hx : T.1 24 ≤ x) : RV0 U := by
  obtain ⟨u1, u2, u3, u4⟩ := hu
  unfold RV0 SBf
  rw [u4, u3 19 (by decide) (by decide), u3 32 (by decide) (by decide), u3 23 (by decide) (by decide), u3 20 (by decide) (by decide), u3 14 (by decide) (by decide), u1]
  obtain ⟨a, b, c, d, e, f, g, i⟩ := h
  exact ⟨a, b, c, d, ⟨e.1, by omega⟩, f, g, i⟩
theorem RV0_cntt {T U : MSt} {a w l m z x y : Int} (hu : upAB T U x y) (h : RV0 T) (hx : T.1 24 ≤ x) (ha : ∀ i : Nat, (i : Int) < T.1 32 → T.2 28 i ≤ a) (h0 : 0 ≤ a) : RV0 (CNTT a w l m z U) := by
  have hU := RV0_up hu h hx
  have ha' : ∀ i : Nat, (i : Int) < U.1 32 → U.2 28 i ≤ (a.toNat : Nat) := fun i hi => by
    rw [hu.2.2.2]
    rw [hu.2.2.1 32 (by decide) (by decide)] at hi
    have := ha i hi
    omega
  unfold CNTT
  have q := RV0_15 (a := a.toNat) (RV0_weigh (w := (w * (if 1 ≤ (if m = 99 then l + 1 else m : Int) then (if m = 99 then l + 1 else m : Int) else 1 : Int) + 2)) hU)
  refine RV0_21 (RV0_emit (RV0_17 (RV0_18 (RV0_16 q.1 ?_)) ?_) (Or.inl (by decide)))
  · exact ha'
  · have e : (ma (M_weigh (w * (if 1 ≤ (if m = 99 then l + 1 else m : Int) then (if m = 99 then l + 1 else m : Int) else 1 : Int) + 2) U) 15 a.toNat 14).2 15 a.toNat = 14 := q.2
    show (ma (M_weigh (w * (if 1 ≤ (if m = 99 then l + 1 else m : Int) then (if m = 99 then l + 1 else m : Int) else 1 : Int) + 2) U) 15 a.toNat 14).2 15 a.toNat ≠ 6
    rw [e]
    decide
theorem RV0_open {U : MSt} {q ah : Int} (hU : RV0 U) (h32 : 0 ≤ U.1 32 ∧ U.1 32 ≤ 8) (hc : CHs (U.2 16) (U.2 28) (U.2 29) (U.2 31) (U.1 32).toNat ah) (a0 : 0 ≤ ah) (a1 : ah ≤ U.1 19) (h6 : (M_openBody q ah U).2 15 ah.toNat ≠ 6) (q0 : 0 ≤ q) (q4 : q ≤ 4) : RV0 (M_openBody q ah U) := by
  obtain ⟨a, b, c, d, e, f, g, i1, i2⟩ := hU
  have al := CHs_al _ _ g
  have top : (U.1 32 + 1 - 1).toNat = (U.1 32).toNat := by omega
  have r16 : (M_openBody q ah U).2 16 = zu (U.2 16) (U.1 19).toNat (-1) := rfl
  have r28 : (M_openBody q ah U).2 28 = zu (U.2 28) (U.1 32).toNat (U.1 19) := by
    show zu (U.2 28) (U.1 32 + 1 - 1).toNat (U.1 19) = _
    rw [top]
  have r29 : (M_openBody q ah U).2 29 = zu (U.2 29) (U.1 32).toNat (-1) := rfl
  have r31 : (M_openBody q ah U).2 31 = zu (U.2 31) (U.1 32).toNat ah := rfl
  have r26 : (M_openBody q ah U).2 26 = zu (U.2 26) (U.1 32).toNat q := rfl
  have r15 : (M_openBody q ah U).2 15 = zu (U.2 15) (U.1 19).toNat 1 := rfl
  have r17 : (M_openBody q ah U).2 17 = zu (U.2 17) (U.1 19).toNat 0 := rfl
  have r32 : (M_openBody q ah U).1 32 = U.1 32 + 1 := rfl
  have r19 : (M_openBody q ah U).1 19 = U.1 19 + 1 := rfl
  refine ⟨a, by rw [r19]; omega, by rw [r32]; omega, d, e, fun j hj => ?_, ?_, fun r hr h6 => ?_, fun j hj => ?_⟩
  · rw [r26]
    rw [r32] at hj
    by_cases c : j = (U.1 32).toNat
    · rw [c, zu_eq]; exact ⟨q0, q4⟩
    · rw [zu_ne c]; exact f j (by omega)
  · rw [r32, r19, show (U.1 32 + 1).toNat = (U.1 32).toNat + 1 by omega, r28, r29, r31]
    refine ⟨by rw [zu_eq, zu_eq]; omega, ⟨[], by rw [zu_eq, zu_eq]; exact rfl, fun x hx => absurd hx (by simp)⟩, ?_⟩
    rw [zu_eq]
    refine CHs_cong (a := U.2 16) _ _ (fun x i hi hx => ?_) (fun i hi => ⟨zu_ne (by omega), zu_ne (by omega), zu_ne (by omega)⟩) hc
    rw [r16]
    have := al i hi
    exact zu_ne (by omega)
  · rw [r15] at h6
    rw [r19] at hr
    rw [r17]
    show _ < U.1 14
    by_cases c : r = (U.1 19).toNat
    · rw [c, zu_eq] at h6; omega
    · rw [zu_ne c] at h6 ⊢
      exact i1 r (by omega) h6
  · rw [r32] at hj
    rw [r31]
    by_cases c : j = (U.1 32).toNat
    · rw [c, zu_eq]; exact h6
    · rw [zu_ne c, r15]
      have := al j (by omega)
      rw [zu_ne (by omega)]
      exact i2 j (by omega)
