/-- found: what both have then -/
def FNd (bg : Int) (T : MSt) (S : CSt) : Prop := S.1 10 3 = T.1 38 ∧ S.1 10 4 = T.1 40 ∧ 0 ≤ T.1 38 ∧ T.1 38 ≤ T.1 4 ∧ (∀ g : Nat, 1 ≤ g → g ≤ 9 → S.1 35 (10 + g) = T.2 33 g ∧ S.1 35 (20 + g) = T.2 33 (10 + g) ∧ -1 ≤ T.2 33 g ∧ T.2 33 g ≤ T.1 4 ∧ -1 ≤ T.2 33 (10 + g) ∧ T.2 33 (10 + g) ≤ T.1 4 ∧ (0 ≤ T.2 33 g → T.2 33 g ≤ T.2 33 (10 + g)) ∧ (0 ≤ T.2 33 (10 + g) → 0 ≤ T.2 33 g)) ∧ S.1 35 10 = bg ∧ S.1 35 20 = T.1 38
/-- what a try of both comes to -/
def RSt (a : Nat) (p : Nat → Nat → Int) (bg : Int) (r : Int × MSt) (c : CR) : Prop := CfT p r.2 ∧ CBd a c.2.2 ∧
  ((r.1 = 1 ∧ r.2.1 41 = 0 ∧ c.1 = 0 ∧ c.2.1 = 1 ∧ FNd bg r.2 c.2.2) ∨ (r.1 = 0 ∧ r.2.1 41 = 0 ∧ c.1 = 0 ∧ c.2.1 = 0 ∧ c.2.2.1 10 4 = r.2.1 40) ∨ (r.1 = 0 ∧ r.2.1 41 = 1 ∧ c.1 = 1))
theorem runL_over (pp : Int) (n : Nat) (T : MSt) (h : T.1 41 = 1) : M_runL pp n T = (0, T) := by
  cases n with
  | zero =>
    rw [M_runL, h]
    split <;> rfl
  | succ n =>
    rw [M_runL, h]
    split
    · rfl
    · rw [if_neg (show ¬ (1 : Int) = 0 by decide)]
theorem RUN_all {a : Nat} {p : Nat → Nat → Int} {R : Nat → Int} {N : Nat} {F : Nat → Int} {fit : Nat → Int → Int} {pp bg : Int} (hp : prR p R N) (b0 : 0 ≤ bg) (b1 : bg ≤ 1000) : ∀ (m n q : Nat) (T : MSt) (k tr : Int) (S : CSt), MU p N T ≤ m → LNo a p R N F fit T k S → MU p N T ≤ n → 2 * MU p N T + 2 ≤ q → RSt a p bg (M_runL pp n T) (K0_foundL bg q k tr S) := by
  intro m
  induction m with
  | zero =>
    intro n q T k tr S hm hT _ _
    have := MU_nn hT.1
    omega
  | succ m ih =>
    intro n q T k tr S hm hT hn hq
    have mu1 := MU_nn hT.1
    obtain ⟨n', en⟩ : ∃ n', n = n' + 1 := ⟨n - 1, by omega⟩
    obtain ⟨q', eq⟩ : ∃ q', q = q' + 1 := ⟨q - 1, by omega⟩
    subst en
    subst eq
    have hT' := hT
    obtain ⟨hR, h41, hB, hS, ek, hL⟩ := hT'
    have q8 := hR.1.1
    have rb := RI_RB hp hR
    have h40 : T.1 40 ≤ 500 := (CfT_step hR.1 h41).2
    obtain ⟨z4, z3⟩ := LKd_bd hL (RI_tr hR) h40 rb.2.2.2.1
    have cR := hS.1 _ hR.2.2.1.1
    have nx : ∀ v : Int, 0 ≤ v → ¬ v = -2 ∧ ¬ v = -1 := fun v hv => by omega
    -- after a turn that leaves both at a place
    have go : ∀ (T1 : MSt) (v tr' : Int) (S1 : CSt), MU p N T1 < MU p N T → (LNo a p R N F fit T1 v S1 ∨ LPd a p R N F fit T1 v S1) → RSt a p bg (M_runL pp n' T1) (K0_foundL bg q' v tr' S1) := by
      intro T1 v tr' S1 h1 h2
      rcases h2 with h2 | h2
      · exact ih n' q' T1 v tr' S1 (by omega) h2 (by omega) (by omega)
      · have mu2 := MU_nn h2.1
        obtain ⟨-, -, -, -, -, v2, S2, s1, s2, s3⟩ := LPd_turn hp h2
        obtain ⟨q2, eq2⟩ : ∃ q2, q' = q2 + 1 := ⟨q' - 1, by omega⟩
        subst eq2
        have e : K0_foundL bg (q2 + 1) v tr' S1 = K0_foundL bg q2 v2 (tr' + 1) S2 := by
          rw [K0_foundL, s1]
          exact (if_pos rfl).trans ((if_neg (nx v2 s2).1).trans (if_neg (nx v2 s2).2))
        rw [e]
        exact ih n' q2 T1 v2 (tr' + 1) S2 (by omega) s3 (by omega) (by omega)
    by_cases h16 : p 0 (T.1 39).toNat = 16
    · have k0 := cR.2.2.2.2.2.2.2.2.2.2.2.2.1 h16
      rw [← ek] at k0
      have eC := coo_0 k0
      have e1 : M_runL pp (n' + 1) T = (1, T) := by
        rw [M_runL, q8, if_pos h16, h41]
        rfl
      have e2 : K0_foundL bg (q' + 1) k tr S = (0, 1, (K1_set 20 (S.1 10 3) (K1_set 10 bg S).2.2).2.2) := by
        rw [K0_foundL, eC]
        exact (if_pos rfl).trans ((if_pos rfl).trans ((if_pos K1_set_0).trans (if_pos K1_set_0)))
      rw [e1, e2]
      have i1 := hR.2.2.1
      have w1 := i1.2.1
      have w2 := i1.2.2.1
      have q4 := hR.1.2.2.2.2.1
      have hu := K1_set_u (i := 10) (v := bg) hB.1 hB.2.1.1.2.2.2.1 hB.2.1.1.2.2.2.2.1
      have l1 := hL.1
      have cb := CBd_set (i := 20) (v := S.1 10 3) (CBd_set (i := 10) (v := bg) hB (by omega) (by omega) (by omega)) (by omega) (by omega) (by omega)
      obtain ⟨a1, a2, a3, tc, a4, ⟨⟨m1, m2⟩, m3⟩, a7, a8⟩ := hL
      have s1 := CAd_set (v := bg) (i := 10) a4 (by omega) (by omega)
      have s2 := CAd_set (v := S.1 10 3) (i := 20) s1.1 (by omega) (by omega)
      have e35 : (K1_set 20 (S.1 10 3) (K1_set 10 bg S).2.2).2.2.1 35 = zu (zu (S.1 35) 10 bg) 20 (S.1 10 3) := by
        rw [s2.2.2.1, s1.2.2.1]
        rfl
      have e10 : (K1_set 20 (S.1 10 3) (K1_set 10 bg S).2.2).2.2.1 10 = S.1 10 := s2.2.2.2.2.2.2.1.trans s1.2.2.2.2.2.2.1
      refine ⟨hR.1, cb, Or.inl ⟨rfl, h41, rfl, rfl, ?_, ?_, w1, w2, fun g g1 g9 => ?_, ?_, ?_⟩⟩
      · show (K1_set 20 (S.1 10 3) (K1_set 10 bg S).2.2).2.2.1 10 3 = _
        rw [e10]; exact a1
      · show (K1_set 20 (S.1 10 3) (K1_set 10 bg S).2.2).2.2.1 10 4 = _
        rw [e10]; exact a2
      · obtain ⟨n1, n2, -⟩ := m1 g g1 g9
        have b4 := i1.2.2.2.2.1 g g1 g9
        have b3 := i1.2.2.2.1 g (by omega)
        have b3' := i1.2.2.2.1 (10 + g) (by omega)
        rw [gT_at (show g < 130 by omega)] at n1 b4 b3
        rw [gT_at (show 10 + g < 130 by omega)] at n2 b4 b3'
        show (K1_set 20 (S.1 10 3) (K1_set 10 bg S).2.2).2.2.1 35 (10 + g) = T.2 33 g ∧ (K1_set 20 (S.1 10 3) (K1_set 10 bg S).2.2).2.2.1 35 (20 + g) = T.2 33 (10 + g) ∧ _
        rw [e35, zu_ne (show 10 + g ≠ 20 by omega), zu_ne (show 10 + g ≠ 10 by omega), zu_ne (show 20 + g ≠ 20 by omega), zu_ne (show 20 + g ≠ 10 by omega)]
        exact ⟨n1, n2, b3.1, b4.1, b3'.1, b4.2.1, b4.2.2.1, b4.2.2.2⟩
      · show (K1_set 20 (S.1 10 3) (K1_set 10 bg S).2.2).2.2.1 35 10 = bg
        rw [e35, zu_ne (by decide), zu_eq]
      · show (K1_set 20 (S.1 10 3) (K1_set 10 bg S).2.2).2.2.1 35 20 = T.1 38
        rw [e35, zu_eq]; exact a1
    · have e16 : ¬ T.2 8 (T.1 39).toNat = 16 := by rw [q8]; exact h16
      have oc := OC_order hp hR h41 h16
      rcases LNo_turn hp hT h16 with ⟨s1, s2, s3⟩ | ⟨v, S', s1, s2, s3, s4, s5⟩ | ⟨S', s1, s2, s3, s4, s5, s6, s7, s8⟩ | ⟨v, S', s1, s2, s3⟩
      · have e1 : M_runL pp (n' + 1) T = M_runL pp n' (M_order T).2 := by
          rw [M_runL, if_neg e16, if_pos h41, if_neg (by omega)]
        rw [e1]
        exact ih n' (q' + 1) _ k tr S (by omega) s3 (by omega) (by omega)
      · have e1 : M_runL pp (n' + 1) T = M_runL pp n' (M_order T).2 := by
          rw [M_runL, if_neg e16, if_pos h41, if_neg (by omega)]
        have e2 : K0_foundL bg (q' + 1) k tr S = K0_foundL bg q' v (tr + 1) S' := by
          rw [K0_foundL, s1]
          exact (if_pos rfl).trans ((if_neg (nx v s2).1).trans (if_neg (nx v s2).2))
        rw [e1, e2]
        exact go _ _ _ _ s4 s5
      · have q37 : 0 ≤ (M_order T).2.1 37 := s6.1.2.2.2.2.2.2.2.2.2.2.2.1
        have b4 := M_back_4 ((M_order T).2.1 37).toNat (M_order T).2
        have gb := GB_all hp ((M_order T).2.1 37).toNat (M_order T).2 s6 (by omega)
        rcases s8 with ⟨t1, t2⟩ | ⟨t1, t2, t3, t4, t5⟩
        · have e1 : M_runL pp (n' + 1) T = (0, (M_goBack (M_order T).2).2) := by
            rw [M_runL, if_neg e16, if_pos h41, if_pos s2, if_pos t1]
          have e2 : K0_foundL bg (q' + 1) k tr S = (0, 0, S') := by
            rw [K0_foundL, s1]
            refine (if_pos rfl).trans ((if_neg (show ¬ (-1 : Int) = -2 by decide)).trans ((if_pos rfl).trans ?_))
            show (if (K1_goBack S').1 = -1 then (0, 0, (K1_goBack S').2) else _) = _
            rw [t2]
            exact if_pos rfl
          rw [e1, e2]
          refine ⟨gb.2.2, s4, Or.inr (Or.inl ⟨rfl, b4.2.trans s3, rfl, rfl, ?_⟩)⟩
          show S'.1 10 4 = (M_goBackL ((M_order T).2.1 37).toNat (M_order T).2).2.1 40
          rw [b4.1]; exact s7
        · have e1 : M_runL pp (n' + 1) T = M_runL pp n' (M_goBack (M_order T).2).2 := by
            rw [M_runL, if_neg e16, if_pos h41, if_pos s2, if_neg (by omega)]
          have e2 : K0_foundL bg (q' + 1) k tr S = K0_foundL bg q' (K1_goBack S').1 (tr + 1) (ci (K1_goBack S').2 10 3 ((K1_goBack S').2.1 11 5)) := by
            rw [K0_foundL, s1]
            exact (if_pos rfl).trans ((if_neg (show ¬ (-1 : Int) = -2 by decide)).trans ((if_pos rfl).trans (if_neg t2)))
          rw [e1, e2]
          exact go _ _ _ _ t4 t5
      · have e2 : K0_foundL bg (q' + 1) k tr S = (1, 0, S') := by
          rw [K0_foundL, s1]
          exact if_neg (show ¬ (1 : Int) = 0 by decide)
        rw [e2]
        have fin : ∀ T2 : MSt, T2.1 41 = 1 → CfT p T2 → RSt a p bg (0, T2) (1, 0, S') := fun T2 h1 h2 => ⟨h2, s3, Or.inr (Or.inr ⟨rfl, h1, rfl⟩)⟩
        rw [M_runL, if_neg e16, if_pos h41]
        rcases oc.1 with o | o
        · rw [if_pos o]
          have s6 := (oc.2.2 o).1
          have q37 : 0 ≤ (M_order T).2.1 37 := s6.1.2.2.2.2.2.2.2.2.2.2.2.1
          have b4 := M_back_4 ((M_order T).2.1 37).toNat (M_order T).2
          have gb := GB_all hp ((M_order T).2.1 37).toNat (M_order T).2 s6 (by omega)
          have e41 : (M_goBack (M_order T).2).2.1 41 = 1 := b4.2.trans s2
          by_cases g0 : (M_goBack (M_order T).2).1 = 0
          · rw [if_pos g0]
            exact fin _ e41 gb.2.2
          · rw [if_neg g0, runL_over pp n' _ e41]
            exact fin _ e41 gb.2.2
        · rw [if_neg (by omega), runL_over pp n' _ s2]
          exact fin _ s2 (oc.2.1 (by omega)).1.1
/-- one try of both -/
theorem TRY_all {a : Nat} {p : Nat → Nat → Int} {R : Nat → Int} {N : Nat} {F : Nat → Int} {fit : Nat → Int → Int} {T : MSt} {S : CSt} {pp : Int} (hp : prR p R N) (h : CfT p T) (h41 : T.1 41 = 0) (h0 : 0 ≤ pp) (h1 : pp ≤ T.1 4) (hF0 : F 0 = 0) (hB : CBd a S) (hS : SK p F fit N T S) (h4 : S.1 10 4 = T.1 40) : RSt a p pp (M_tries pp T) (K0_isFoundAt pp S) := by
  have l := LNo_start hp h h41 h0 h1 hF0 hB hS h4
  have r := (RI_start (N := N) hp h h0 h1).2.1
  have q4 := h.2.2.2.2.1
  have e : K0_isFoundAt pp S = K0_foundL pp zM 0 0 (ci (K1_clear S) 10 3 pp) := rfl
  have e2 : M_tries pp T = M_runL pp 1000000 (M_triesS pp T) := rfl
  rw [e, e2]
  have mu1 := MU_nn l.1
  exact RUN_all hp h0 (by omega) (MU p N (M_triesS pp T)).toNat 1000000 zM _ 0 0 _ (by omega) l (by omega) (by rw [zM_eq]; omega)
