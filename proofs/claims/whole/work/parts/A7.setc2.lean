/-- the tail of a member: what stands behind its first mark -/
def membT (v : Int) (S5 : CSt) : CR := (if ((K4_at 2 (S5.1 8 3) S5)) = 45 then (if ((K4_at 2 ((S5.1 8 3) + 1) S5)) = 93 then (0, 0, S5) else (gBd (K3_readMark (ci S5 8 3 ((S5.1 8 3) + 1))) (fun v_20 S_21 => (if v = (-1) then (1, 0, S_21) else (if v_20 = (-1) then (1, 0, S_21) else (if v ≤ v_20 then (0, 1, (K5_addRange v v_20 S_21)) else (1, 0, S_21))))))) else (0, 0, S5))
theorem memb_0 (S : CSt) : K3_readMember 0 S = gBd (K3_readMark S) membT := rfl
theorem memb_1 {S : CSt} (h : ¬ K4_at 2 (S.1 8 3) S = 45) : K3_readMember 1 S = gBd (K3_readMark S) membT := by
  unfold K3_readMember
  rw [if_neg (show ¬ (1 : Int) = 0 by decide), take_n h]
  rfl
theorem memb_own {S : CSt} (h : K4_at 2 (S.1 8 3) S = 45) : K3_readMember 1 S = (0, 0, K5_add 45 (ci S 8 3 (S.1 8 3 + 1))) := by
  unfold K3_readMember
  rw [if_neg (show ¬ (1 : Int) = 0 by decide), take_y h]
  rfl
theorem memb_C {S : CSt} {sg : Int → Int} {dx : Int} (hd : dx = 0 ∨ dx = 1) (hsg : ∀ k, 0 ≤ k → K4_at 2 k S = sg k) (h0 : 0 ≤ S.1 8 3) (hb : ∀ k, 0 ≤ sg k ∧ sg k ≤ 126) (h93 : ¬ sg (S.1 8 3) = 93) :
    (mkV sg (S.1 8 3) = 0 → (K3_readMember dx S).1 = 1) ∧
    (¬ mkV sg (S.1 8 3) = 0 → (dx = 1 ∧ sg (S.1 8 3) = 45) ∨ ¬ sg (mkK sg (S.1 8 3)) = 45 ∨ sg (mkK sg (S.1 8 3) + 1) = 93 → ∃ S', K3_readMember dx S = (0, 0, S') ∧ upM S S' (mkK sg (S.1 8 3)) ∧ ∀ z, 0 ≤ z → z ≤ 127 → sm S' z = (sm S z || mkM sg (S.1 8 3) z)) ∧
    (¬ mkV sg (S.1 8 3) = 0 → ¬ ((dx = 1 ∧ sg (S.1 8 3) = 45) ∨ ¬ sg (mkK sg (S.1 8 3)) = 45 ∨ sg (mkK sg (S.1 8 3) + 1) = 93) → (mkV sg (S.1 8 3) < 0 ∨ mkV sg (mkK sg (S.1 8 3) + 1) ≤ 0 ∨ mkV sg (mkK sg (S.1 8 3) + 1) < mkV sg (S.1 8 3)) → (K3_readMember dx S).1 = 1) ∧
    (¬ mkV sg (S.1 8 3) = 0 → ¬ ((dx = 1 ∧ sg (S.1 8 3) = 45) ∨ ¬ sg (mkK sg (S.1 8 3)) = 45 ∨ sg (mkK sg (S.1 8 3) + 1) = 93) → ¬ (mkV sg (S.1 8 3) < 0 ∨ mkV sg (mkK sg (S.1 8 3) + 1) ≤ 0 ∨ mkV sg (mkK sg (S.1 8 3) + 1) < mkV sg (S.1 8 3)) → ∃ S', K3_readMember dx S = (0, 1, S') ∧ upM S S' (mkK sg (mkK sg (S.1 8 3) + 1)) ∧ ∀ z, 0 ≤ z → z ≤ 127 → sm S' z = (sm S z || decide (mkV sg (S.1 8 3) ≤ z ∧ z ≤ mkV sg (mkK sg (S.1 8 3) + 1)))) := by
  have g0 := hsg (S.1 8 3) h0
  obtain ⟨q1, q2⟩ := mark_C hsg h0 hb h93
  have kge := mkK_ge sg (S.1 8 3)
  by_cases own : dx = 1 ∧ sg (S.1 8 3) = 45
  · have h45 : K4_at 2 (S.1 8 3) S = 45 := by rw [g0]; exact own.2
    have eV : mkV sg (S.1 8 3) = 45 := by unfold mkV; rw [if_neg (by omega), if_neg (by omega), if_neg (by omega)]; exact own.2
    have eK : mkK sg (S.1 8 3) = S.1 8 3 + 1 := by unfold mkK; rw [if_neg (by omega), if_neg (by omega), if_neg (by omega)]
    have e := memb_own h45
    rw [own.1]
    refine ⟨fun y => by omega, fun _ _ => ?_, fun _ y => absurd (Or.inl ⟨rfl, own.2⟩) y, fun _ y => absurd (Or.inl ⟨rfl, own.2⟩) y⟩
    refine ⟨_, e, ?_, fun z z0 z1 => ?_⟩
    · rw [eK]
      exact upM_trans upM_8 (upM_k5 (S' := K5_add 45 (ci S 8 3 (S.1 8 3 + 1))) K5_add_1 K5_add_22 (fun n hn => K5_add_2 hn))
    · rw [sm_add (by omega) (by omega) z0 z1]
      unfold mkM
      rw [if_neg (by omega), own.2]
      rfl
  · have e : K3_readMember dx S = gBd (K3_readMark S) membT := by
      rcases hd with d | d
      · rw [d]; exact memb_0 S
      · rw [d]; exact memb_1 (by rw [g0]; exact fun y => own ⟨d, y⟩)
    rw [e]
    refine ⟨fun y => ?_, fun nv hc => ?_, fun nv hc hbad => ?_, fun nv hc hgood => ?_⟩
    · have := q1 y
      show (if (K3_readMark S).1 = 0 then _ else ((1, 0, (K3_readMark S).2.2) : CR)).1 = 1
      rw [if_neg (by omega)]
    all_goals obtain ⟨S5, m1, m2, m3⟩ := q2 nv
    all_goals have a5 := m2.1
    all_goals have t0 : K4_at 2 (S5.1 8 3) S5 = sg (mkK sg (S.1 8 3)) := by rw [upM_sg m2, a5]; exact hsg _ (by omega)
    all_goals have t1 : K4_at 2 (S5.1 8 3 + 1) S5 = sg (mkK sg (S.1 8 3) + 1) := by rw [upM_sg m2, a5]; exact hsg _ (by omega)
    all_goals rw [m1]
    · refine ⟨S5, ?_, m2, m3⟩
      refine (if_pos rfl).trans ?_
      unfold membT
      rw [t0, t1]
      by_cases c : sg (mkK sg (S.1 8 3)) = 45
      · rw [if_pos c, if_pos]
        rcases hc with y | y | y
        · exact absurd y own
        · exact absurd c y
        · exact y
      · rw [if_neg c]
    all_goals have c45 : sg (mkK sg (S.1 8 3)) = 45 := Classical.byContradiction (fun y => hc (Or.inr (Or.inl y)))
    all_goals have c93 : ¬ sg (mkK sg (S.1 8 3) + 1) = 93 := fun y => hc (Or.inr (Or.inr y))
    all_goals have u8 : upM S5 (ci S5 8 3 (S5.1 8 3 + 1)) (S5.1 8 3 + 1) := upM_8
    all_goals have hsg6 : ∀ k, 0 ≤ k → K4_at 2 k (ci S5 8 3 (S5.1 8 3 + 1)) = sg k := fun k hk => by rw [upM_sg u8, upM_sg m2]; exact hsg k hk
    all_goals have a6 : (ci S5 8 3 (S5.1 8 3 + 1)).1 8 3 = mkK sg (S.1 8 3) + 1 := by rw [u8.1, a5]
    all_goals obtain ⟨p1, p2⟩ := mark_C hsg6 (by rw [a6]; omega) hb (by rw [a6]; exact c93)
    all_goals rw [a6] at p1 p2
    · refine (show (membT (if mkV sg (S.1 8 3) < 0 then -1 else mkV sg (S.1 8 3)) S5).1 = 1 from ?_)
      unfold membT
      rw [t0, t1, if_pos c45, if_neg c93]
      by_cases nv2 : mkV sg (mkK sg (S.1 8 3) + 1) = 0
      · have := p1 nv2
        show (if (K3_readMark (ci S5 8 3 (S5.1 8 3 + 1))).1 = 0 then _ else ((1, 0, (K3_readMark (ci S5 8 3 (S5.1 8 3 + 1))).2.2) : CR)).1 = 1
        rw [if_neg (by omega)]
      · obtain ⟨S6, r1, r2, r3⟩ := p2 nv2
        rw [r1]
        show (if (if mkV sg (S.1 8 3) < 0 then -1 else mkV sg (S.1 8 3)) = -1 then ((1, 0, S6) : CR) else (if (if mkV sg (mkK sg (S.1 8 3) + 1) < 0 then -1 else mkV sg (mkK sg (S.1 8 3) + 1)) = -1 then (1, 0, S6) else (if (if mkV sg (S.1 8 3) < 0 then -1 else mkV sg (S.1 8 3)) ≤ (if mkV sg (mkK sg (S.1 8 3) + 1) < 0 then -1 else mkV sg (mkK sg (S.1 8 3) + 1)) then (0, 1, _) else (1, 0, S6)))).1 = 1
        by_cases d1 : mkV sg (S.1 8 3) < 0
        · rw [if_pos d1, if_pos rfl]
        · rw [if_neg d1, if_neg (by omega)]
          by_cases d2 : mkV sg (mkK sg (S.1 8 3) + 1) < 0
          · rw [if_pos d2, if_pos rfl]
          · rw [if_neg d2, if_neg (by omega), if_neg (by omega)]
    · have p : 0 < mkV sg (S.1 8 3) := by omega
      have pp : 0 < mkV sg (mkK sg (S.1 8 3) + 1) := by omega
      obtain ⟨S6, r1, r2, r3⟩ := p2 (by omega)
      have vb : mkV sg (mkK sg (S.1 8 3) + 1) ≤ 126 := by
        unfold mkV
        have := hb (mkK sg (S.1 8 3) + 1)
        have := hb (mkK sg (S.1 8 3) + 1 + 1)
        (repeat' split) <;> omega
      refine ⟨K5_addRange (mkV sg (S.1 8 3)) (mkV sg (mkK sg (S.1 8 3) + 1)) S6, ?_, ?_, fun z z0 z1 => ?_⟩
      · refine (if_pos rfl).trans ?_
        unfold membT
        rw [t0, t1, if_pos c45, if_neg c93, r1]
        refine (if_pos rfl).trans ?_
        show (if (if mkV sg (S.1 8 3) < 0 then -1 else mkV sg (S.1 8 3)) = -1 then ((1, 0, S6) : CR) else (if (if mkV sg (mkK sg (S.1 8 3) + 1) < 0 then -1 else mkV sg (mkK sg (S.1 8 3) + 1)) = -1 then (1, 0, S6) else (if (if mkV sg (S.1 8 3) < 0 then -1 else mkV sg (S.1 8 3)) ≤ (if mkV sg (mkK sg (S.1 8 3) + 1) < 0 then -1 else mkV sg (mkK sg (S.1 8 3) + 1)) then (0, 1, K5_addRange (if mkV sg (S.1 8 3) < 0 then -1 else mkV sg (S.1 8 3)) (if mkV sg (mkK sg (S.1 8 3) + 1) < 0 then -1 else mkV sg (mkK sg (S.1 8 3) + 1)) S6) else (1, 0, S6)))) = _
        have x1 : (if mkV sg (S.1 8 3) < 0 then -1 else mkV sg (S.1 8 3)) = mkV sg (S.1 8 3) := if_neg (by omega)
        have x2 : (if mkV sg (mkK sg (S.1 8 3) + 1) < 0 then -1 else mkV sg (mkK sg (S.1 8 3) + 1)) = mkV sg (mkK sg (S.1 8 3) + 1) := if_neg (by omega)
        rw [x1, x2, if_neg (by omega), if_neg (by omega), if_pos (by omega)]
      · have u3 := upM_k5 (S := S6) (S' := K5_addRange (mkV sg (S.1 8 3)) (mkV sg (mkK sg (S.1 8 3) + 1)) S6) K5_addRange_1 K5_addRange_22 (fun n hn => K5_addRange_2 hn)
        rw [r2.1] at u3
        exact upM_trans m2 (upM_trans u8 (upM_trans r2 u3))
      · rw [sm_addRange (by omega) (by omega) (by omega) z0 z1, r3 z z0 z1]
        have es : sm (ci S5 8 3 (S5.1 8 3 + 1)) z = sm S5 z := rfl
        rw [es, m3 z z0 z1, mkM_pos hb p, mkM_pos hb pp]
        by_cases c : mkV sg (S.1 8 3) ≤ z ∧ z ≤ mkV sg (mkK sg (S.1 8 3) + 1)
        · rw [decide_eq_true c]; simp
        · rw [decide_eq_false c, decide_eq_false (show ¬ z = mkV sg (S.1 8 3) by omega), decide_eq_false (show ¬ z = mkV sg (mkK sg (S.1 8 3) + 1) by omega)]; simp
/-- THE CLASS reads a set -/
theorem setL_C {tu : Int} {sg : Int → Int} {len : Int} (hb : ∀ k, 0 ≤ sg k ∧ sg k ≤ 126) (hz : ∀ k, len ≤ k → sg k = 0) : ∀ (n : Nat) (dx i : Int) (S : CSt), i + n = 40 → (dx = 0 ∨ dx = 1) → (∀ k, 0 ≤ k → K4_at 2 k S = sg k) → 0 ≤ S.1 8 3 → S.1 8 3 ≤ len → len - S.1 8 3 < n →
    (∀ to, setA sg n dx (S.1 8 3) = some to → ∃ S2, K3_setL tu n dx i S = gBd (K3_addOneSign tu S2) (fun v T => (0, v, T)) ∧ upM S S2 (to + 1) ∧ ∀ z, 0 ≤ z → z ≤ 127 → sm S2 z = (sm S z || adA sg n dx (S.1 8 3) z)) ∧ (setA sg n dx (S.1 8 3) = none → (K3_setL tu n dx i S).1 = 1)
  | 0, dx, i, S, hi, hd, hsg, h0, hl, hn => by exfalso; omega
  | n + 1, dx, i, S, hi, hd, hsg, h0, hl, hn => by
    have g0 := hsg (S.1 8 3) h0
    rw [K3_setL, setA, if_neg (show ¬ 40 ≤ i by omega)]
    by_cases c1 : sg (S.1 8 3) = 93
    · rw [if_pos c1, take_y (x := 93) (by rw [g0]; exact c1)]
      refine ⟨fun to h => ?_, fun h => absurd h (by simp)⟩
      have e : S.1 8 3 = to := Option.some.inj h
      subst e
      refine ⟨ci S 8 3 (S.1 8 3 + 1), if_neg (show ¬ (1 : Int) = 0 by decide), upM_8, fun z _ _ => ?_⟩
      rw [adA, if_pos c1]
      show sm S z = _
      simp
    · rw [if_neg c1, take_n (x := 93) (by rw [g0]; exact c1)]
      obtain ⟨m0, mA, mB, mC⟩ := memb_C hd hsg h0 hb c1
      have eL : gLt ((0 : Int), S) (fun v_10 S_11 => (if v_10 = 0 then (gBd (K3_readMember dx S_11) (fun v_19 S_20 => K3_setL tu n v_19 (i + 1) S_20)) else (gBd (K3_addOneSign tu S_11) (fun v_15 S_16 => (0, v_15, S_16))))) = gBd (K3_readMember dx S) (fun v_19 S_20 => K3_setL tu n v_19 (i + 1) S_20) := if_pos rfl
      rw [eL]
      have thr : (K3_readMember dx S).1 = 1 → (gBd (K3_readMember dx S) (fun v_19 S_20 => K3_setL tu n v_19 (i + 1) S_20)).1 = 1 := fun y => by
        show (if (K3_readMember dx S).1 = 0 then _ else ((1, 0, (K3_readMember dx S).2.2) : CR)).1 = 1
        rw [if_neg (by omega)]
      by_cases c2 : mkV sg (S.1 8 3) = 0
      · rw [if_pos c2]
        exact ⟨fun to h => absurd h (by simp), fun _ => thr (m0 c2)⟩
      · rw [if_neg c2]
        have gt := mkK_gt c2
        have le := mkK_le hz c2
        by_cases c3 : (dx = 1 ∧ sg (S.1 8 3) = 45) ∨ ¬ sg (mkK sg (S.1 8 3)) = 45 ∨ sg (mkK sg (S.1 8 3) + 1) = 93
        · rw [if_pos c3]
          obtain ⟨S', r1, r2, r3⟩ := mA c2 c3
          have e : gBd (K3_readMember dx S) (fun v_19 S_20 => K3_setL tu n v_19 (i + 1) S_20) = K3_setL tu n 0 (i + 1) S' := by rw [r1]; exact if_pos rfl
          rw [e]
          have ih := setL_C (tu := tu) hb hz n 0 (i + 1) S' (by omega) (Or.inl rfl) (fun k hk => by rw [upM_sg r2]; exact hsg k hk) (by rw [r2.1]; omega) (by rw [r2.1]; exact le) (by rw [r2.1]; omega)
          rw [r2.1] at ih
          refine ⟨fun to h => ?_, ih.2⟩
          obtain ⟨S2, s1, s2, s3⟩ := ih.1 to h
          refine ⟨S2, s1, upM_trans r2 s2, fun z z0 z1 => ?_⟩
          rw [s3 z z0 z1, r3 z z0 z1, adA, if_neg c1, if_pos c3, Bool.or_assoc]
        · rw [if_neg c3]
          by_cases c4 : mkV sg (S.1 8 3) < 0 ∨ mkV sg (mkK sg (S.1 8 3) + 1) ≤ 0 ∨ mkV sg (mkK sg (S.1 8 3) + 1) < mkV sg (S.1 8 3)
          · rw [if_pos c4]
            exact ⟨fun to h => absurd h (by simp), fun _ => thr (mB c2 c3 c4)⟩
          · rw [if_neg c4]
            obtain ⟨S', r1, r2, r3⟩ := mC c2 c3 c4
            have nv2 : ¬ mkV sg (mkK sg (S.1 8 3) + 1) = 0 := by omega
            have gt2 := mkK_gt nv2
            have le2 := mkK_le hz nv2
            have e : gBd (K3_readMember dx S) (fun v_19 S_20 => K3_setL tu n v_19 (i + 1) S_20) = K3_setL tu n 1 (i + 1) S' := by rw [r1]; exact if_pos rfl
            rw [e]
            have ih := setL_C (tu := tu) hb hz n 1 (i + 1) S' (by omega) (Or.inr rfl) (fun k hk => by rw [upM_sg r2]; exact hsg k hk) (by rw [r2.1]; omega) (by rw [r2.1]; exact le2) (by rw [r2.1]; omega)
            rw [r2.1] at ih
            refine ⟨fun to h => ?_, ih.2⟩
            obtain ⟨S2, s1, s2, s3⟩ := ih.1 to h
            refine ⟨S2, s1, upM_trans r2 s2, fun z z0 z1 => ?_⟩
            rw [s3 z z0 z1, r3 z z0 z1, adA, if_neg c1, if_neg c3, Bool.or_assoc]
