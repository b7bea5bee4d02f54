/-- only at and the fitting signs have changed -/
def upM (S S' : CSt) (at' : Int) : Prop := S'.1 8 3 = at' ∧ (∀ j, j ≠ 3 → S'.1 8 j = S.1 8 j) ∧ (∀ n, n ≠ 8 → S'.1 n = S.1 n) ∧ (∀ n, n ≠ 9 → S'.2.1 n = S.2.1 n) ∧ S'.2.2 = S.2.2
theorem upM_trans {S S1 S2 : CSt} {a b : Int} (h : upM S S1 a) (h' : upM S1 S2 b) : upM S S2 b := by
  obtain ⟨a1, a2, a3, a4, a5⟩ := h
  obtain ⟨b1, b2, b3, b4, b5⟩ := h'
  exact ⟨b1, fun j hj => (b2 j hj).trans (a2 j hj), fun n hn => (b3 n hn).trans (a3 n hn), fun n hn => (b4 n hn).trans (a4 n hn), b5.trans a5⟩
theorem upM_8 {S : CSt} {v : Int} : upM S (ci S 8 3 v) v := ⟨rfl, fun j hj => by rw [ci_eq, zu_ne hj], fun n hn => ci_ne hn, fun _ _ => rfl, rfl⟩
theorem upM_k5 {S S' : CSt} (h1 : S'.1 = S.1) (h2 : S'.2.2 = S.2.2) (h3 : ∀ n, n ≠ 9 → S'.2.1 n = S.2.1 n) : upM S S' (S.1 8 3) := ⟨by rw [h1], fun j _ => by rw [h1], fun n _ => by rw [h1], h3, h2⟩
theorem upM_sg {S S' : CSt} {a : Int} (h : upM S S' a) (k : Int) : K4_at 2 k S' = K4_at 2 k S := by
  unfold K4_at
  rw [h.2.2.1 2 (by decide), h.2.2.1 (11 + 2) (by decide)]
/-- which signs a mark adds -/
def mkM (sg : Int → Int) (k z : Int) : Bool := if sg k = 92 then (if M_isClass (sg (k + 1)) then decide (¬ M_inClass (sg (k + 1)) z = 0) else decide (z = sg (k + 1))) else decide (z = sg k)
theorem mark_C {S : CSt} {sg : Int → Int} (hsg : ∀ k, 0 ≤ k → K4_at 2 k S = sg k) (h0 : 0 ≤ S.1 8 3) (hb : ∀ k, 0 ≤ sg k ∧ sg k ≤ 126) (h93 : ¬ sg (S.1 8 3) = 93) :
    (mkV sg (S.1 8 3) = 0 → (K3_readMark S).1 = 1) ∧ (¬ mkV sg (S.1 8 3) = 0 → ∃ S', K3_readMark S = (0, (if mkV sg (S.1 8 3) < 0 then -1 else mkV sg (S.1 8 3)), S') ∧ upM S S' (mkK sg (S.1 8 3)) ∧ ∀ z, 0 ≤ z → z ≤ 127 → sm S' z = (sm S z || mkM sg (S.1 8 3) z)) := by
  have g0 := hsg (S.1 8 3) h0
  have g1 : K4_at 2 (S.1 8 3 + 1) (ci S 8 3 (S.1 8 3 + 1)) = sg (S.1 8 3 + 1) := hsg _ (by omega)
  have b0 := hb (S.1 8 3)
  have b1 := hb (S.1 8 3 + 1)
  have u1 : upM S (ci S 8 3 (S.1 8 3 + 1)) (S.1 8 3 + 1) := upM_8
  have u2 : upM S (ci (ci S 8 3 (S.1 8 3 + 1)) 8 3 (S.1 8 3 + 1 + 1)) (S.1 8 3 + 2) := by
    have := upM_trans u1 (upM_8 (S := ci S 8 3 (S.1 8 3 + 1)) (v := S.1 8 3 + 1 + 1))
    rw [show S.1 8 3 + 1 + 1 = S.1 8 3 + 2 by omega] at this ⊢
    exact this
  have s2 : (ci (ci S 8 3 (S.1 8 3 + 1)) 8 3 (S.1 8 3 + 1 + 1)).1 8 3 = S.1 8 3 + 2 := u2.1
  unfold K3_readMark
  rw [g1, g0]
  by_cases c0 : sg (S.1 8 3) = 0
  · rw [if_pos c0]
    have v0 : mkV sg (S.1 8 3) = 0 := mkV_end c0
    exact ⟨fun _ => rfl, fun y => absurd v0 y⟩
  · rw [if_neg c0]
    by_cases c2 : sg (S.1 8 3) = 92
    · rw [if_pos c2]
      have eV : mkV sg (S.1 8 3) = (if M_isSpecial (sg (S.1 8 3 + 1)) ∨ sg (S.1 8 3 + 1) = 47 ∨ sg (S.1 8 3 + 1) = 45 then sg (S.1 8 3 + 1) else if M_isClass (sg (S.1 8 3 + 1)) then -(sg (S.1 8 3 + 1)) else 0) := by
        unfold mkV
        rw [if_neg c0, if_neg h93, if_pos c2]
      have eK : mkK sg (S.1 8 3) = S.1 8 3 + 2 := by
        unfold mkK
        rw [if_neg c0, if_neg h93, if_pos c2]
      have eM : ∀ z, mkM sg (S.1 8 3) z = (if M_isClass (sg (S.1 8 3 + 1)) then decide (¬ M_inClass (sg (S.1 8 3 + 1)) z = 0) else decide (z = sg (S.1 8 3 + 1))) := fun z => by
        unfold mkM
        rw [if_pos c2]
      have i1 := K_ix1_iff b1.1 b1.2
      have i2 := K_ix2_iff b1.1 b1.2
      generalize hy : sg (S.1 8 3 + 1) = y at *
      -- a sign that is added by itself
      have addy : (M_isSpecial y ∨ y = 47 ∨ y = 45) → ¬ M_isClass y → 0 < y → (¬ mkV sg (S.1 8 3) = 0 → ∃ S', ((0, y, K5_add y (ci (ci S 8 3 (S.1 8 3 + 1)) 8 3 (S.1 8 3 + 1 + 1))) : CR) = (0, (if mkV sg (S.1 8 3) < 0 then -1 else mkV sg (S.1 8 3)), S') ∧ upM S S' (mkK sg (S.1 8 3)) ∧ ∀ z, 0 ≤ z → z ≤ 127 → sm S' z = (sm S z || mkM sg (S.1 8 3) z)) := fun hc nc hy0 _ => by
        rw [eV, if_pos hc, if_neg (by omega), eK]
        refine ⟨_, rfl, ?_, fun z z0 z1 => ?_⟩
        · have u3 := upM_trans u2 (upM_k5 (S' := K5_add y (ci (ci S 8 3 (S.1 8 3 + 1)) 8 3 (S.1 8 3 + 1 + 1))) K5_add_1 K5_add_22 (fun n hn => K5_add_2 hn))
          rw [s2] at u3
          exact u3
        · rw [sm_add (by omega) (by omega) z0 z1, eM, if_neg nc]
          rfl
      have cl : M_isClass y → ¬ (M_isSpecial y ∨ y = 47 ∨ y = 45) := fun hc => by
        intro w
        have hc' : y = 100 ∨ y = 119 ∨ y = 115 ∨ y = 68 ∨ y = 87 ∨ y = 83 := hc
        rcases w with w | w | w
        · have w' : y = 94 ∨ y = 36 ∨ y = 92 ∨ y = 46 ∨ y = 42 ∨ y = 43 ∨ y = 63 ∨ y = 40 ∨ y = 41 ∨ y = 91 ∨ y = 93 ∨ y = 123 ∨ y = 125 ∨ y = 124 := w
          omega
        · omega
        · omega
      by_cases d1 : K_ix2 y < 0
      · have nc : ¬ M_isClass y := i2.mp d1
        rw [if_pos d1]
        by_cases d2 : y = 45
        · rw [if_pos d2]
          refine ⟨fun v => ?_, addy (Or.inr (Or.inr d2)) nc (by omega)⟩
          rw [eV, if_pos (Or.inr (Or.inr d2))] at v
          omega
        · rw [if_neg d2]
          by_cases d3 : y = 47
          · rw [if_pos d3]
            refine ⟨fun v => ?_, addy (Or.inr (Or.inl d3)) nc (by omega)⟩
            rw [eV, if_pos (Or.inr (Or.inl d3))] at v
            omega
          · rw [if_neg d3]
            by_cases d4 : 0 ≤ K_ix1 y
            · have sp : M_isSpecial y := Classical.byContradiction (fun w => by have := i1.mpr w; omega)
              have sp' : y = 94 ∨ y = 36 ∨ y = 92 ∨ y = 46 ∨ y = 42 ∨ y = 43 ∨ y = 63 ∨ y = 40 ∨ y = 41 ∨ y = 91 ∨ y = 93 ∨ y = 123 ∨ y = 125 ∨ y = 124 := sp
              rw [if_pos d4]
              refine ⟨fun v => ?_, addy (Or.inl sp) nc (by omega)⟩
              rw [eV, if_pos (Or.inl sp)] at v
              omega
            · have sp : ¬ M_isSpecial y := i1.mp (by omega)
              have ns : ¬ (M_isSpecial y ∨ y = 47 ∨ y = 45) := fun w => by rcases w with w | w | w; exact sp w; exact d3 w; exact d2 w
              rw [if_neg d4]
              refine ⟨fun _ => rfl, fun v => ?_⟩
              rw [eV, if_neg ns, if_neg nc] at v
              exact absurd rfl v
      · have hc : M_isClass y := Classical.byContradiction (fun w => d1 (i2.mpr w))
        have hc' : y = 100 ∨ y = 119 ∨ y = 115 ∨ y = 68 ∨ y = 87 ∨ y = 83 := hc
        rw [if_neg d1]
        refine ⟨fun v => ?_, fun _ => ?_⟩
        · rw [eV, if_neg (cl hc), if_pos hc] at v
          omega
        · rw [eV, if_neg (cl hc), if_pos hc, if_pos (by omega), eK]
          refine ⟨_, rfl, ?_, fun z z0 z1 => ?_⟩
          · have u3 := upM_trans u2 (upM_k5 (S' := K5_addKind y (ci (ci S 8 3 (S.1 8 3 + 1)) 8 3 (S.1 8 3 + 1 + 1))) K5_addKind_1 K5_addKind_22 (fun n hn => K5_addKind_2 hn))
            rw [s2] at u3
            exact u3
          · rw [sm_addKind hc z0 z1, eM, if_pos hc]
            rfl
    · rw [if_neg c2]
      have eV : mkV sg (S.1 8 3) = sg (S.1 8 3) := by
        unfold mkV
        rw [if_neg c0, if_neg h93, if_neg c2]
      have eK : mkK sg (S.1 8 3) = S.1 8 3 + 1 := by
        unfold mkK
        rw [if_neg c0, if_neg h93, if_neg c2]
      rw [eV, eK]
      refine ⟨fun y => absurd y c0, fun _ => ?_⟩
      rw [if_neg (by omega)]
      refine ⟨_, rfl, ?_, fun z z0 z1 => ?_⟩
      · exact upM_trans u1 (upM_k5 (S' := K5_add (sg (S.1 8 3)) (ci S 8 3 (S.1 8 3 + 1))) K5_add_1 K5_add_22 (fun n hn => K5_add_2 hn))
      · rw [sm_add b0.1 (by omega) z0 z1]
        unfold mkM
        rw [if_neg c2]
        rfl
/-- which signs a set has -/
def adA (sg : Int → Int) : Nat → Int → Int → Int → Bool
  | 0, _, _, _ => false
  | n + 1, alone, k, z => if sg k = 93 then false else
      if (alone = 1 ∧ sg k = 45) ∨ ¬ sg (mkK sg k) = 45 ∨ sg (mkK sg k + 1) = 93 then (mkM sg k z || adA sg n 0 (mkK sg k) z) else
      (decide (mkV sg k ≤ z ∧ z ≤ mkV sg (mkK sg k + 1)) || adA sg n 1 (mkK sg (mkK sg k + 1)) z)
theorem mkM_pos {sg : Int → Int} {k z : Int} (hb : ∀ k, 0 ≤ sg k ∧ sg k ≤ 126) (h : 0 < mkV sg k) : mkM sg k z = decide (z = mkV sg k) := by
  unfold mkV at h ⊢
  unfold mkM
  by_cases c0 : sg k = 0
  · rw [if_pos c0] at h; omega
  · rw [if_neg c0] at h ⊢
    by_cases c1 : sg k = 93
    · rw [if_pos c1] at h; omega
    · rw [if_neg c1] at h ⊢
      by_cases c2 : sg k = 92
      · rw [if_pos c2] at h ⊢
        rw [if_pos c2]
        by_cases c3 : M_isSpecial (sg (k + 1)) ∨ sg (k + 1) = 47 ∨ sg (k + 1) = 45
        · rw [if_pos c3]
          have nc : ¬ M_isClass (sg (k + 1)) := fun hc => by
            generalize sg (k + 1) = y at *
            have hc' : y = 100 ∨ y = 119 ∨ y = 115 ∨ y = 68 ∨ y = 87 ∨ y = 83 := hc
            rcases c3 with w | w | w
            · have w' : y = 94 ∨ y = 36 ∨ y = 92 ∨ y = 46 ∨ y = 42 ∨ y = 43 ∨ y = 63 ∨ y = 40 ∨ y = 41 ∨ y = 91 ∨ y = 93 ∨ y = 123 ∨ y = 125 ∨ y = 124 := w
              omega
            · omega
            · omega
          rw [if_neg nc]
        · rw [if_neg c3] at h
          have := hb (k + 1)
          by_cases c4 : M_isClass (sg (k + 1))
          · rw [if_pos c4] at h; omega
          · rw [if_neg c4] at h; omega
      · rw [if_neg c2] at h ⊢
        rw [if_neg c2]
