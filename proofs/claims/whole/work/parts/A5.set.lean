theorem mi_mi (S : MSt) (k : Nat) (a b : Int) : mi (mi S k a) k b = mi S k b := by
  unfold mi
  refine Prod.ext ?_ rfl
  funext j
  show (if j = k then b else if j = k then a else S.1 j) = if j = k then b else S.1 j
  split <;> rfl
theorem mi_same {S : MSt} {k : Nat} {a : Int} (h : S.1 k = a) : mi S k a = S := by
  unfold mi
  refine Prod.ext ?_ rfl
  funext j
  show (if j = k then a else S.1 j) = S.1 j
  split
  · rename_i e; rw [e, h]
  · rfl
/-- a mark of a set, by the signs alone: its sign (0 none, below 0 a class), and where it ends -/
def mkV (sg : Int → Int) (k : Int) : Int := if sg k = 0 then 0 else if sg k = 93 then 0 else if sg k = 92 then (if M_isSpecial (sg (k + 1)) ∨ sg (k + 1) = 47 ∨ sg (k + 1) = 45 then sg (k + 1) else if M_isClass (sg (k + 1)) then -(sg (k + 1)) else 0) else sg k
def mkK (sg : Int → Int) (k : Int) : Int := if sg k = 0 then k else if sg k = 93 then k else if sg k = 92 then k + 2 else k + 1
theorem M_mark_A (T : MSt) : M_mark T = (mkV (M_sign T) (T.1 24), mi T 24 (mkK (M_sign T) (T.1 24))) := by
  unfold M_mark mkV mkK
  by_cases c0 : M_sign T (T.1 24) = 0
  · rw [if_pos c0, if_pos c0, if_pos c0, mi_same rfl]
  · rw [if_neg c0, if_neg c0, if_neg c0]
    by_cases c1 : M_sign T (T.1 24) = 93
    · rw [if_pos c1, if_pos c1, if_pos c1, mi_same rfl]
    · rw [if_neg c1, if_neg c1, if_neg c1]
      by_cases c2 : M_sign T (T.1 24) = 92
      · rw [if_pos c2, if_pos c2, if_pos c2, mi_mi, show T.1 24 + 1 + 1 = T.1 24 + 2 by omega]
        generalize M_sign T (T.1 24 + 1) = y
        unfold zb
        by_cases d1 : M_isSpecial y
        · rw [if_pos d1, if_neg (by decide), if_pos (Or.inl d1)]
        · rw [if_neg d1, if_pos rfl]
          by_cases d2 : y = 47
          · rw [if_pos d2, if_pos (Or.inr (Or.inl d2))]
          · rw [if_neg d2]
            by_cases d3 : y = 45
            · rw [if_pos d3, if_pos (Or.inr (Or.inr d3))]
            · have nd : ¬ (M_isSpecial y ∨ y = 47 ∨ y = 45) := fun w => by rcases w with w | w | w; exact d1 w; exact d2 w; exact d3 w
              rw [if_neg d3, if_neg nd]
              by_cases d4 : M_isClass y
              · rw [if_pos d4, if_neg (by decide), if_pos d4]
              · rw [if_neg d4, if_pos rfl, if_neg d4]
      · rw [if_neg c2, if_neg c2, if_neg c2]
/-- where a set ends, if it is one -/
def setA (sg : Int → Int) : Nat → Int → Int → Option Int
  | 0, _, _ => none
  | n + 1, alone, k => if sg k = 93 then some k else if mkV sg k = 0 then none else
      if (alone = 1 ∧ sg k = 45) ∨ ¬ sg (mkK sg k) = 45 ∨ sg (mkK sg k + 1) = 93 then setA sg n 0 (mkK sg k) else
      if mkV sg k < 0 ∨ mkV sg (mkK sg k + 1) ≤ 0 ∨ mkV sg (mkK sg k + 1) < mkV sg k then none else setA sg n 1 (mkK sg (mkK sg k + 1))
theorem mkK_ge (sg : Int → Int) (k : Int) : k ≤ mkK sg k := by unfold mkK; (repeat' split) <;> omega
theorem mkK_gt {sg : Int → Int} {k : Int} (h : ¬ mkV sg k = 0) : k < mkK sg k := by
  unfold mkV at h
  unfold mkK
  by_cases c0 : sg k = 0
  · rw [if_pos c0] at h; exact absurd rfl h
  · rw [if_neg c0]
    rw [if_neg c0] at h
    by_cases c1 : sg k = 93
    · rw [if_pos c1] at h; exact absurd rfl h
    · rw [if_neg c1]
      split <;> omega
theorem mkV_end {sg : Int → Int} {k : Int} (h : sg k = 0) : mkV sg k = 0 := by unfold mkV; rw [if_pos h]
theorem mkK_le {sg : Int → Int} {len k : Int} (hl : ∀ k, len ≤ k → sg k = 0) (h : ¬ mkV sg k = 0) : mkK sg k ≤ len := by
  have k1 : k < len := Int.lt_of_not_ge (fun y => h (mkV_end (hl k y)))
  unfold mkV at h
  unfold mkK
  by_cases c0 : sg k = 0
  · rw [if_pos c0]; omega
  · rw [if_neg c0]
    rw [if_neg c0] at h
    by_cases c1 : sg k = 93
    · rw [if_pos c1]; omega
    · rw [if_neg c1]
      rw [if_neg c1] at h
      by_cases c2 : sg k = 92
      · rw [if_pos c2]
        rw [if_pos c2] at h
        have : k + 1 < len := Int.lt_of_not_ge (fun y => by
          rw [hl (k + 1) y, if_neg (by decide), if_neg (by decide)] at h
          exact h rfl)
        omega
      · rw [if_neg c2]; omega
/-- more turns than signs: the same -/
theorem setA_fuel {sg : Int → Int} {len : Int} (hl : ∀ k, len ≤ k → sg k = 0) : ∀ (n m : Nat) (alone k : Int), len - k < n → n ≤ m → setA sg m alone k = setA sg n alone k
  | 0, 0, _, _, _, _ => rfl
  | 0, m + 1, alone, k, h, _ => by
    have z := hl k (by omega)
    rw [setA, setA, if_neg (by omega), if_pos (mkV_end z)]
  | n + 1, 0, _, _, _, h => by omega
  | n + 1, m + 1, alone, k, h, hnm => by
    rw [setA, setA]
    by_cases c1 : sg k = 93
    · rw [if_pos c1, if_pos c1]
    · rw [if_neg c1, if_neg c1]
      by_cases c2 : mkV sg k = 0
      · rw [if_pos c2, if_pos c2]
      · rw [if_neg c2, if_neg c2]
        have g1 := mkK_gt c2
        have g2 := mkK_ge sg (mkK sg k + 1)
        rw [setA_fuel hl n m 0 (mkK sg k) (by omega) (by omega), setA_fuel hl n m 1 (mkK sg (mkK sg k + 1)) (by omega) (by omega)]
theorem sign_mi (T : MSt) (k : Nat) (v : Int) (hk : k ≠ 14) : M_sign (mi T k v) = M_sign T := by
  funext j
  show (if (if (14 : Nat) = k then v else T.1 14) ≤ j then 0 else T.2 13 j.toNat) = if T.1 14 ≤ j then 0 else T.2 13 j.toNat
  have e : (if (14 : Nat) = k then v else T.1 14) = T.1 14 := if_neg (fun y => hk y.symm)
  rw [e]
theorem setL_bad (nt fr : Int) (n : Nat) (alone : Int) (T : MSt) (h : T.1 25 = 1) : (M_setL nt fr n alone T).1 25 = 1 := by
  cases n with
  | zero => rw [M_setL]; exact h
  | succ n => rw [M_setL, if_neg (by omega)]; exact h
/-- THE REFERENCE reads a set -/
theorem setL_A (nt fr : Int) : ∀ (n : Nat) (alone : Int) (T : MSt), T.1 25 = 0 → (alone = 0 ∨ alone = 1) → T.1 24 ≤ T.1 14 → T.1 14 - T.1 24 < n →
    (∀ to, setA (M_sign T) n alone (T.1 24) = some to → M_setL nt fr n alone T = mi (M_emit 6 fr to (if nt = 0 then 0 else 1 : Int) (mi T 24 to)) 24 (to + 1)) ∧ (setA (M_sign T) n alone (T.1 24) = none → (M_setL nt fr n alone T).1 25 = 1)
  | 0, alone, T, hb, ha, hle, hn => by
    have e : M_sign T (T.1 24) = 0 := by unfold M_sign; rw [if_pos (by omega)]
    refine ⟨fun to h => by rw [setA] at h; exact absurd h (by simp), fun _ => ?_⟩
    exfalso
    omega
  | n + 1, alone, T, hb, ha, hle, hn => by
    have hz : ∀ k, T.1 14 ≤ k → M_sign T k = 0 := fun k hk => by unfold M_sign; rw [if_pos hk]
    have sgE : ∀ (k : Nat) (v : Int), k ≠ 14 → M_sign (mi T k v) = M_sign T := fun k v hk => sign_mi T k v hk
    have m1 : (M_mark T).1 = mkV (M_sign T) (T.1 24) := by rw [M_mark_A]
    have m2 : (M_mark T).2 = mi T 24 (mkK (M_sign T) (T.1 24)) := by rw [M_mark_A]
    have m3 : (mi T 24 (mkK (M_sign T) (T.1 24))).1 24 = mkK (M_sign T) (T.1 24) := rfl
    rw [M_setL, setA, if_pos hb, m1, m2, m3]
    by_cases c1 : M_sign T (T.1 24) = 93
    · rw [if_pos c1, if_pos c1]
      refine ⟨fun to h => ?_, fun h => absurd h (by simp)⟩
      have e : T.1 24 = to := Option.some.inj h
      subst e
      rw [mi_same (S := T) (k := 24) rfl]
    · rw [if_neg c1, if_neg c1]
      by_cases c2 : mkV (M_sign T) (T.1 24) = 0
      · have e1 : (if mkV (M_sign T) (T.1 24) = 0 then 1 else 0 : Int) = 1 := if_pos c2
        rw [if_pos c2, e1, if_neg (by decide)]
        refine ⟨fun to h => absurd h (by simp), fun _ => setL_bad nt fr n 0 _ rfl⟩
      · have e1 : (if mkV (M_sign T) (T.1 24) = 0 then 1 else 0 : Int) = 0 := if_neg c2
        rw [if_neg c2, e1, if_pos rfl, mi_same (S := mi T 24 (mkK (M_sign T) (T.1 24))) (k := 25) (a := 0) hb]
        have g1 := mkK_gt c2
        have i0 := setL_A nt fr n 0 (mi T 24 (mkK (M_sign T) (T.1 24))) hb (Or.inl rfl) (mkK_le hz c2) (by show T.1 14 - mkK (M_sign T) (T.1 24) < n; omega)
        rw [sgE 24 _ (by decide)] at i0
        have i0' : (∀ to, setA (M_sign T) n 0 (mkK (M_sign T) (T.1 24)) = some to → M_setL nt fr n 0 (mi T 24 (mkK (M_sign T) (T.1 24))) = mi (M_emit 6 fr to (if nt = 0 then 0 else 1 : Int) (mi T 24 to)) 24 (to + 1)) ∧ (setA (M_sign T) n 0 (mkK (M_sign T) (T.1 24)) = none → (M_setL nt fr n 0 (mi T 24 (mkK (M_sign T) (T.1 24)))).1 25 = 1) := by
          refine ⟨fun to h => ?_, i0.2⟩
          have := i0.1 to h
          rw [mi_mi] at this
          exact this
        by_cases c3 : alone = 1 ∧ M_sign T (T.1 24) = 45
        · have e3 : (if alone = 0 then 0 else (if M_sign T (T.1 24) = 45 then 1 else 0 : Int) : Int) = 1 := by rw [if_neg (by omega), if_pos c3.2]
          rw [e3, if_neg (show ¬ (1 : Int) = 0 by decide), if_pos (Or.inl c3)]
          exact i0'
        · have e3 : (if alone = 0 then 0 else (if M_sign T (T.1 24) = 45 then 1 else 0 : Int) : Int) = 0 := by
            rcases ha with ha | ha
            · rw [if_pos ha]
            · rw [if_neg (by omega), if_neg (fun y => c3 ⟨ha, y⟩)]
          rw [e3, if_pos rfl]
          by_cases c4 : M_sign T (mkK (M_sign T) (T.1 24)) = 45
          · rw [if_pos c4]
            by_cases c5 : M_sign T (mkK (M_sign T) (T.1 24) + 1) = 93
            · rw [if_pos c5, if_pos (Or.inr (Or.inr c5))]
              exact i0'
            · have nc : ¬ ((alone = 1 ∧ M_sign T (T.1 24) = 45) ∨ ¬ M_sign T (mkK (M_sign T) (T.1 24)) = 45 ∨ M_sign T (mkK (M_sign T) (T.1 24) + 1) = 93) := fun y => by
                rcases y with y | y | y
                · exact c3 y
                · exact y c4
                · exact c5 y
              rw [if_neg c5, if_neg nc, mi_mi]
              have n1 : (M_mark (mi T 24 (mkK (M_sign T) (T.1 24) + 1))).1 = mkV (M_sign T) (mkK (M_sign T) (T.1 24) + 1) := by rw [M_mark_A, sgE 24 _ (by decide)]; rfl
              have n2 : (M_mark (mi T 24 (mkK (M_sign T) (T.1 24) + 1))).2 = mi T 24 (mkK (M_sign T) (mkK (M_sign T) (T.1 24) + 1)) := by
                rw [M_mark_A, sgE 24 _ (by decide)]
                show mi (mi T 24 (mkK (M_sign T) (T.1 24) + 1)) 24 (mkK (M_sign T) (mkK (M_sign T) (T.1 24) + 1)) = _
                rw [mi_mi]
              rw [n1, n2]
              by_cases c6 : mkV (M_sign T) (T.1 24) < 0 ∨ mkV (M_sign T) (mkK (M_sign T) (T.1 24) + 1) ≤ 0 ∨ mkV (M_sign T) (mkK (M_sign T) (T.1 24) + 1) < mkV (M_sign T) (T.1 24)
              · have e6 : (if mkV (M_sign T) (T.1 24) < 0 then 1 else (if mkV (M_sign T) (mkK (M_sign T) (T.1 24) + 1) ≤ 0 then 1 else (if mkV (M_sign T) (T.1 24) ≤ mkV (M_sign T) (mkK (M_sign T) (T.1 24) + 1) then 0 else 1 : Int) : Int) : Int) = 1 := by (repeat' split) <;> omega
                rw [if_pos c6, e6]
                exact ⟨fun to h => absurd h (by simp), fun _ => setL_bad nt fr n 1 _ rfl⟩
              · have e6 : (if mkV (M_sign T) (T.1 24) < 0 then 1 else (if mkV (M_sign T) (mkK (M_sign T) (T.1 24) + 1) ≤ 0 then 1 else (if mkV (M_sign T) (T.1 24) ≤ mkV (M_sign T) (mkK (M_sign T) (T.1 24) + 1) then 0 else 1 : Int) : Int) : Int) = 0 := by (repeat' split) <;> omega
                have g2 := mkK_ge (M_sign T) (mkK (M_sign T) (T.1 24) + 1)
                rw [if_neg c6, e6, mi_same (S := mi T 24 (mkK (M_sign T) (mkK (M_sign T) (T.1 24) + 1))) (k := 25) (a := 0) hb]
                have i1 := setL_A nt fr n 1 (mi T 24 (mkK (M_sign T) (mkK (M_sign T) (T.1 24) + 1))) hb (Or.inr rfl) (mkK_le hz (by omega)) (by show T.1 14 - mkK (M_sign T) (mkK (M_sign T) (T.1 24) + 1) < n; omega)
                rw [sgE 24 _ (by decide)] at i1
                refine ⟨fun to h => ?_, i1.2⟩
                have := i1.1 to h
                rw [mi_mi] at this
                exact this
          · rw [if_neg c4, if_pos (Or.inr (Or.inl c4))]
            exact i0'
