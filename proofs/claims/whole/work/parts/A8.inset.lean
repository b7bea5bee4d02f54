theorem mkK_92 {sg : Int → Int} {k : Int} (h0 : ¬ sg k = 0) (h1 : ¬ sg k = 93) (h2 : sg k = 92) : mkK sg k = k + 2 := by unfold mkK; rw [if_neg h0, if_neg h1, if_pos h2]
theorem mkK_o {sg : Int → Int} {k : Int} (h0 : ¬ sg k = 0) (h1 : ¬ sg k = 93) (h2 : ¬ sg k = 92) : mkK sg k = k + 1 := by unfold mkK; rw [if_neg h0, if_neg h1, if_neg h2]
theorem setA_ge {sg : Int → Int} : ∀ (n : Nat) (alone k to : Int), setA sg n alone k = some to → k ≤ to ∧ sg to = 93
  | 0, _, _, _, h => by rw [setA] at h; exact absurd h (by simp)
  | n + 1, alone, k, to, h => by
    rw [setA] at h
    by_cases c1 : sg k = 93
    · rw [if_pos c1] at h
      have e : k = to := Option.some.inj h
      subst e
      exact ⟨Int.le_refl _, c1⟩
    · rw [if_neg c1] at h
      by_cases c2 : mkV sg k = 0
      · rw [if_pos c2] at h; exact absurd h (by simp)
      · rw [if_neg c2] at h
        have g1 := mkK_ge sg k
        have g2 := mkK_ge sg (mkK sg k + 1)
        by_cases c3 : (alone = 1 ∧ sg k = 45) ∨ ¬ sg (mkK sg k) = 45 ∨ sg (mkK sg k + 1) = 93
        · rw [if_pos c3] at h
          have := setA_ge n 0 (mkK sg k) to h
          exact ⟨by omega, this.2⟩
        · rw [if_neg c3] at h
          by_cases c4 : mkV sg k < 0 ∨ mkV sg (mkK sg k + 1) ≤ 0 ∨ mkV sg (mkK sg k + 1) < mkV sg k
          · rw [if_pos c4] at h; exact absurd h (by simp)
          · rw [if_neg c4] at h
            have := setA_ge n 1 (mkK sg (mkK sg k + 1)) to h
            exact ⟨by omega, this.2⟩
/-- '-' right before the end -/
theorem setA_dash {sg : Int → Int} {n : Nat} {k to : Int} (h : setA sg n 0 k = some to) (h1 : sg k = 45) (h2 : sg (k + 1) = 93) : to = k + 1 := by
  have eV : mkV sg k = 45 := by unfold mkV; rw [if_neg (by omega), if_neg (by omega), if_neg (by omega)]; exact h1
  have eK : mkK sg k = k + 1 := by unfold mkK; rw [if_neg (by omega), if_neg (by omega), if_neg (by omega)]
  cases n with
  | zero => rw [setA] at h; exact absurd h (by simp)
  | succ n =>
    rw [setA, if_neg (by omega), if_neg (by omega), eK, if_pos (Or.inr (Or.inl (by omega)))] at h
    cases n with
    | zero => rw [setA] at h; exact absurd h (by simp)
    | succ n =>
      rw [setA, if_pos h2] at h
      exact (Option.some.inj h).symm
/-- THE REFERENCE looks a sign up in a set -/
theorem inSet_A {sg : Int → Int} {T : MSt} {fr to z : Int} (hb : ∀ k, 0 ≤ sg k ∧ sg k ≤ 126) (h7 : ∀ k, 0 ≤ k → k ≤ to → T.2 7 k.toNat = sg k) : ∀ (n m : Nat) (alone k inn : Int), setA sg n alone k = some to → 0 ≤ k → to - k ≤ m → (alone = 0 ∨ alone = 1) → (inn = 0 ∨ inn = 1) → M_inSetL fr to z T m inn alone k = (if inn = 1 ∨ adA sg n alone k z = true then 1 else 0)
  | 0, _, _, _, _, h, _, _, _, _ => by rw [setA] at h; exact absurd h (by simp)
  | n + 1, m, alone, k, inn, h, k0, hm, ha, hi => by
    have hge := setA_ge (n + 1) alone k to h
    have fini : ∀ a : Int, (a = 0 ∨ a = 1) → a = (if a = 1 ∨ false = true then 1 else 0) := fun a ha => by
      rcases ha with e | e <;> rw [e] <;> decide
    rw [setA] at h
    by_cases c1 : sg k = 93
    · rw [if_pos c1] at h
      have e : k = to := Option.some.inj h
      subst e
      rw [adA, if_pos c1]
      cases m with
      | zero => rw [M_inSetL]; exact fini inn hi
      | succ m => rw [M_inSetL, if_pos (Int.le_refl _)]; exact fini inn hi
    · rw [if_neg c1] at h
      by_cases c2 : mkV sg k = 0
      · rw [if_pos c2] at h; exact absurd h (by simp)
      · rw [if_neg c2] at h
        have c0 : ¬ sg k = 0 := fun y => c2 (mkV_end y)
        have g1 := mkK_gt c2
        have g2 := mkK_ge sg (mkK sg k + 1)
        have hkt : k < to := by
          have hne : k ≠ to := fun y => c1 (by rw [y]; exact hge.2)
          omega
        obtain ⟨m', em⟩ : ∃ m', m = m' + 1 := ⟨m - 1, by omega⟩
        subst em
        rw [adA, if_neg c1]
        -- what M_inSetL computes of the mark
        obtain ⟨e, he, hK, eE⟩ : ∃ e : Int, (e = 0 ∨ e = 1) ∧ mkK sg k = k + e + 1 ∧ (if ((if sg k = 92 then 1 else 0 : Int)) = 0 then 0 else 1 : Int) = e := by
          by_cases c : sg k = 92
          · refine ⟨1, Or.inr rfl, ?_, by rw [if_pos c]; rfl⟩
            unfold mkK
            rw [if_neg c0, if_neg c1, if_pos c]
            omega
          · refine ⟨0, Or.inl rfl, ?_, by rw [if_neg c]; rfl⟩
            unfold mkK
            rw [if_neg c0, if_neg c1, if_neg c]
            omega
        have kto : mkK sg k ≤ to := by
          by_cases c3 : (alone = 1 ∧ sg k = 45) ∨ ¬ sg (mkK sg k) = 45 ∨ sg (mkK sg k + 1) = 93
          · rw [if_pos c3] at h
            exact (setA_ge n 0 _ to h).1
          · rw [if_neg c3] at h
            by_cases c4 : mkV sg k < 0 ∨ mkV sg (mkK sg k + 1) ≤ 0 ∨ mkV sg (mkK sg k + 1) < mkV sg k
            · rw [if_pos c4] at h; exact absurd h (by simp)
            · rw [if_neg c4] at h
              have := (setA_ge n 1 _ to h).1
              omega
        have s0 := h7 k k0 (by omega)
        have sE := h7 (k + e) (by omega) (by omega)
        have sK := h7 (k + e + 1) (by omega) (by omega)
        -- is it a class
        have kd : ∃ d : Int, (d = 0 ∨ d = 1) ∧ (if ((if sg k = 92 then 1 else 0 : Int)) = 0 then 0 else (if (zb (M_isClass (sg (k + e)))) = 0 then 0 else 1 : Int) : Int) = d ∧ (d = 0 → 0 < mkV sg k ∧ mkV sg k = sg (k + e)) ∧ (d = 1 → mkV sg k < 0) ∧ (mkM sg k z = true ↔ ¬ (if d = 0 then (if z < sg (k + e) then 0 else (if sg (k + e) < z then 0 else 1 : Int) : Int) else (if M_inClass (sg (k + e)) z = 0 then 0 else 1 : Int) : Int) = 0) := by
          by_cases c : sg k = 92
          · have e1 : e = 1 := by rw [if_pos c] at eE; exact eE.symm
            subst e1
            have b1 := hb (k + 1)
            by_cases cc : M_isClass (sg (k + 1))
            · have ns : ¬ (M_isSpecial (sg (k + 1)) ∨ sg (k + 1) = 47 ∨ sg (k + 1) = 45) := fun w => by
                generalize sg (k + 1) = y at *
                have hc' : y = 100 ∨ y = 119 ∨ y = 115 ∨ y = 68 ∨ y = 87 ∨ y = 83 := cc
                rcases w with w | w | w
                · have w' : y = 94 ∨ y = 36 ∨ y = 92 ∨ y = 46 ∨ y = 42 ∨ y = 43 ∨ y = 63 ∨ y = 40 ∨ y = 41 ∨ y = 91 ∨ y = 93 ∨ y = 123 ∨ y = 125 ∨ y = 124 := w
                  omega
                · omega
                · omega
              have cc' : sg (k + 1) = 100 ∨ sg (k + 1) = 119 ∨ sg (k + 1) = 115 ∨ sg (k + 1) = 68 ∨ sg (k + 1) = 87 ∨ sg (k + 1) = 83 := cc
              have eV : mkV sg k = -(sg (k + 1)) := by unfold mkV; rw [if_neg c0, if_neg c1, if_pos c, if_neg ns, if_pos cc]
              refine ⟨1, Or.inr rfl, ?_, fun y => absurd y (by decide), fun _ => by omega, ?_⟩
              · rw [if_pos c, if_neg (by decide)]
                unfold zb
                rw [if_pos cc]
                rfl
              · unfold mkM
                rw [if_pos c, if_pos cc, if_neg (show ¬ (1 : Int) = 0 by decide), decide_eq_true_iff]
                by_cases q : M_inClass (sg (k + 1)) z = 0
                · rw [if_pos q]; exact ⟨fun y => absurd q y, fun y => absurd rfl y⟩
                · rw [if_neg q]; exact ⟨fun _ => by decide, fun _ => q⟩
            · have sp : M_isSpecial (sg (k + 1)) ∨ sg (k + 1) = 47 ∨ sg (k + 1) = 45 := Classical.byContradiction (fun w => c2 (by unfold mkV; rw [if_neg c0, if_neg c1, if_pos c, if_neg w, if_neg cc]))
              have eV : mkV sg k = sg (k + 1) := by unfold mkV; rw [if_neg c0, if_neg c1, if_pos c, if_pos sp]
              refine ⟨0, Or.inl rfl, ?_, fun _ => ⟨by omega, eV⟩, fun y => absurd y (by decide), ?_⟩
              · rw [if_pos c, if_neg (by decide)]
                unfold zb
                rw [if_neg cc]
                rfl
              · unfold mkM
                rw [if_pos c, if_neg cc, if_pos rfl, decide_eq_true_iff]
                (repeat' split) <;> omega
          · have e0 : e = 0 := by rw [if_neg c] at eE; exact eE.symm
            subst e0
            have b1 := hb k
            have eV : mkV sg k = sg k := by unfold mkV; rw [if_neg c0, if_neg c1, if_neg c]
            have ek : k + 0 = k := by omega
            rw [ek]
            refine ⟨0, Or.inl rfl, ?_, fun _ => ⟨by omega, eV⟩, fun y => absurd y (by decide), ?_⟩
            · rw [if_neg c, if_pos rfl]
            · unfold mkM
              rw [if_neg c, if_pos rfl, decide_eq_true_iff]
              (repeat' split) <;> omega
        obtain ⟨d, hd01, hd, hd0, hd1, hdm⟩ := kd
        have own : ∃ w : Int, (if alone = 0 then 0 else (if sg k = 45 then 1 else 0 : Int) : Int) = w ∧ (w = 0 ↔ ¬ (alone = 1 ∧ sg k = 45)) := by
          refine ⟨_, rfl, ?_⟩
          rcases ha with a | a <;> rw [a]
          · rw [if_pos rfl]; exact ⟨fun _ y => absurd y.1 (by decide), fun _ => rfl⟩
          · rw [if_neg (by decide)]
            by_cases q : sg k = 45
            · rw [if_pos q]; exact ⟨fun y => absurd y (by decide), fun y => absurd ⟨rfl, q⟩ y⟩
            · rw [if_neg q]; exact ⟨fun _ y => q y.2, fun _ => rfl⟩
        obtain ⟨w, hw, hw0⟩ := own
        rw [M_inSetL, if_neg (show ¬ to ≤ k by omega), s0, eE, sE, hd, hw, sK]
        have fin : ∀ (a : Int) (B C : Bool) (q : Int), (B = true ↔ ¬ q = 0) → ((if a = 0 then q else 1 : Int) = 0 ∨ (if a = 0 then q else 1 : Int) = 1) → (a = 0 ∨ a = 1) → (if (if a = 0 then q else 1 : Int) = 1 ∨ C = true then (1 : Int) else 0) = (if a = 1 ∨ (B || C) = true then 1 else 0) := by
          intro a B C q hB hq ha
          rcases ha with e | e
          · subst e
            rw [if_pos rfl] at hq ⊢
            cases B <;> cases C
            · have : q = 0 := Classical.byContradiction (fun y => by have := hB.mpr y; cases this)
              subst this; decide
            · rw [if_pos (Or.inr rfl)]; decide
            · have q0 : ¬ q = 0 := hB.mp rfl
              rw [if_pos (Or.inl (by omega))]; decide
            · rw [if_pos (Or.inr rfl)]; decide
          · subst e
            rw [if_neg (show ¬ (1 : Int) = 0 by decide), if_pos (Or.inl rfl), if_pos (Or.inl rfl)]
        have hq01 : ∀ (q : Int), (q = 0 ∨ q = 1) → ((if inn = 0 then q else 1 : Int) = 0 ∨ (if inn = 0 then q else 1 : Int) = 1) := fun q hq => by split; exact hq; exact Or.inr rfl
        by_cases c3 : (alone = 1 ∧ sg k = 45) ∨ ¬ sg (mkK sg k) = 45 ∨ sg (mkK sg k + 1) = 93
        · rw [if_pos c3] at h ⊢
          have al : (if w = 0 then (if d = 0 then (if to ≤ k + e + 1 + 1 then 0 else (if sg (k + e + 1) = 45 then 1 else 0 : Int) : Int) else 0 : Int) else 0 : Int) = 0 := by
            by_cases q1 : w = 0
            · rw [if_pos q1]
              by_cases q2 : d = 0
              · rw [if_pos q2]
                by_cases q3 : to ≤ k + e + 1 + 1
                · rw [if_pos q3]
                · rw [if_neg q3]
                  refine if_neg (fun q4 => ?_)
                  rcases c3 with y | y | y
                  · exact hw0.mp q1 y
                  · rw [hK] at y; exact y q4
                  · rw [hK] at y h
                    have := setA_dash h q4 y
                    omega
              · rw [if_neg q2]
            · rw [if_neg q1]
          rw [al, if_pos rfl]
          have q01 : (if d = 0 then (if z < sg (k + e) then 0 else (if sg (k + e) < z then 0 else 1 : Int) : Int) else (if M_inClass (sg (k + e)) z = 0 then 0 else 1 : Int) : Int) = 0 ∨ (if d = 0 then (if z < sg (k + e) then 0 else (if sg (k + e) < z then 0 else 1 : Int) : Int) else (if M_inClass (sg (k + e)) z = 0 then 0 else 1 : Int) : Int) = 1 := by (repeat' split) <;> omega
          have ih := inSet_A (fr := fr) (z := z) hb h7 n m' 0 (mkK sg k) (if inn = 0 then (if d = 0 then (if z < sg (k + e) then 0 else (if sg (k + e) < z then 0 else 1 : Int) : Int) else (if M_inClass (sg (k + e)) z = 0 then 0 else 1 : Int) : Int) else 1 : Int) h (by omega) (by omega) (Or.inl rfl) (hq01 _ q01)
          rw [hK] at ih
          rw [ih, hK]
          exact fin inn _ _ _ hdm (hq01 _ q01) hi
        · rw [if_neg c3] at h ⊢
          by_cases c4 : mkV sg k < 0 ∨ mkV sg (mkK sg k + 1) ≤ 0 ∨ mkV sg (mkK sg k + 1) < mkV sg k
          · rw [if_pos c4] at h; exact absurd h (by simp)
          · rw [if_neg c4] at h
            have c45 : sg (mkK sg k) = 45 := Classical.byContradiction (fun y => c3 (Or.inr (Or.inl y)))
            have c93 : ¬ sg (mkK sg k + 1) = 93 := fun y => c3 (Or.inr (Or.inr y))
            have nown : ¬ (alone = 1 ∧ sg k = 45) := fun y => c3 (Or.inl y)
            have nv2 : ¬ mkV sg (mkK sg k + 1) = 0 := by omega
            have gt2 := mkK_gt nv2
            have k2to := (setA_ge n 1 _ to h).1
            have d0 : d = 0 := by rcases hd01 with y | y; exact y; have := hd1 y; omega
            obtain ⟨p1, p2⟩ := hd0 d0
            have n0 : ¬ sg (mkK sg k + 1) = 0 := fun y => nv2 (mkV_end y)
            -- the second mark
            obtain ⟨e2, he2, hK2, hV2, hE2⟩ : ∃ e2 : Int, (e2 = 1 ∨ e2 = 2) ∧ mkK sg (mkK sg k + 1) = mkK sg k + e2 + 1 ∧ mkV sg (mkK sg k + 1) = sg (mkK sg k + e2) ∧ (if sg (mkK sg k + 1) = 92 then 2 else 1 : Int) = e2 := by
              by_cases c : sg (mkK sg k + 1) = 92
              · refine ⟨2, Or.inr rfl, ?_, ?_, if_pos c⟩
                · rw [mkK_92 n0 c93 c]
                  omega
                · have pos : 0 < mkV sg (mkK sg k + 1) := by omega
                  have b1 := hb (mkK sg k + 1 + 1)
                  rw [show mkK sg k + 2 = mkK sg k + 1 + 1 by omega]
                  generalize mkK sg k + 1 = kk at *
                  unfold mkV at pos ⊢
                  rw [if_neg n0, if_neg c93, if_pos c] at pos ⊢
                  by_cases sp : M_isSpecial (sg (kk + 1)) ∨ sg (kk + 1) = 47 ∨ sg (kk + 1) = 45
                  · rw [if_pos sp]
                  · rw [if_neg sp] at pos
                    by_cases cc : M_isClass (sg (kk + 1))
                    · rw [if_pos cc] at pos; omega
                    · rw [if_neg cc] at pos; omega
              · refine ⟨1, Or.inl rfl, ?_, ?_, if_neg c⟩
                · rw [mkK_o n0 c93 c]
                · unfold mkV
                  rw [if_neg n0, if_neg c93, if_neg c]
            have t1 := h7 (mkK sg k + 1) (by omega) (by omega)
            have t2 := h7 (mkK sg k + e2) (by omega) (by omega)
            rw [hK] at t1 t2
            have al : (if w = 0 then (if d = 0 then (if to ≤ k + e + 1 + 1 then 0 else (if sg (k + e + 1) = 45 then 1 else 0 : Int) : Int) else 0 : Int) else 0 : Int) = 1 := by
              rw [if_pos (hw0.mpr nown), if_pos d0, if_neg (by omega), if_pos (by rw [← hK]; exact c45)]
            rw [hK] at hE2
            rw [al, if_neg (show ¬ (1 : Int) = 0 by decide), if_pos d0, t1, hE2, t2]
            have q01 : (if z < sg (k + e) then 0 else (if sg (k + e + 1 + e2) < z then 0 else 1 : Int) : Int) = 0 ∨ (if z < sg (k + e) then 0 else (if sg (k + e + 1 + e2) < z then 0 else 1 : Int) : Int) = 1 := by (repeat' split) <;> omega
            have ih := inSet_A (fr := fr) (z := z) hb h7 n m' 1 (mkK sg (mkK sg k + 1)) (if inn = 0 then (if z < sg (k + e) then 0 else (if sg (k + e + 1 + e2) < z then 0 else 1 : Int) : Int) else 1 : Int) h (by omega) (by omega) (Or.inr rfl) (hq01 _ q01)
            rw [hK2, hK] at ih
            rw [ih, hV2, p2, hK2, hK]
            refine fin inn _ _ _ ?_ (hq01 _ q01) hi
            rw [decide_eq_true_iff]
            (repeat' split) <;> omega
