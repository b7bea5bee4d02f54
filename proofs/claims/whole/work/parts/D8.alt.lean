/-- '|' in the reference -/
theorem alt_f {T : MSt} {m : Nat} (h0 : 0 ≤ T.1 19) (h28 : T.2 28 (T.1 32 - 1).toNat = (m : Int)) (hm : (m : Int) < T.1 19) (c124 : M_sign T (T.1 24) = 124) :
    ((rdS T).1 19 = T.1 19 + 2 ∧ (rdS T).1 24 = T.1 24 + 1 ∧ (∀ k, k ≠ 19 → k ≠ 24 → (rdS T).1 k = T.1 k)) ∧ (∀ k, k < 15 ∨ (18 < k ∧ k ≠ 28 ∧ k ≠ 29 ∧ k ≠ 30) → (rdS T).2 k = T.2 k) ∧ ((rdS T).2 28 = zu (T.2 28) (T.1 32 - 1).toNat (T.1 19 + 1) ∧ (rdS T).2 29 = zu (T.2 29) (T.1 32 - 1).toNat (T.1 19) ∧ (rdS T).2 30 = zu (T.2 30) (T.1 32 - 1).toNat (T.2 30 (T.1 32 - 1).toNat + 1)) ∧
    (∀ j k : Nat, j < 4 → k ≠ (T.1 19).toNat → k ≠ (T.1 19).toNat + 1 → ¬ (j = 1 ∧ k = m) → np (rdS T) j k = np T j k) ∧ np (rdS T) 1 m = T.1 19 + 1 ∧ (np (rdS T) 0 (T.1 19).toNat = 2 ∧ np (rdS T) 1 (T.1 19).toNat = T.2 29 (T.1 32 - 1).toNat ∧ np (rdS T) 2 (T.1 19).toNat = 0 ∧ np (rdS T) 3 (T.1 19).toNat = 0) ∧ (np (rdS T) 0 ((T.1 19).toNat + 1) = 1 ∧ np (rdS T) 1 ((T.1 19).toNat + 1) = -1 ∧ np (rdS T) 2 ((T.1 19).toNat + 1) = 0 ∧ np (rdS T) 3 ((T.1 19).toNat + 1) = 0) := by
  have e0 : rdS T = mi (ma (M_emit 1 (-1) 0 0 (ma (ma (ma (M_emit 2 (T.2 29 (T.1 32 - 1).toNat) 0 0 T) 29 (T.1 32 - 1).toNat (T.1 19)) 30 (T.1 32 - 1).toNat (T.2 30 (T.1 32 - 1).toNat + 1)) 16 m (T.1 19 + 1))) 28 (T.1 32 - 1).toNat (T.1 19 + 1)) 24 (T.1 24 + 1) := by
    unfold rdS
    rw [if_pos c124]
    have e1 : M_endAlternative 1 T = ma (M_emit 1 (-1) 0 0 (ma (ma (ma (M_emit 2 (T.2 29 (T.1 32 - 1).toNat) 0 0 T) 29 (T.1 32 - 1).toNat (T.1 19)) 30 (T.1 32 - 1).toNat (T.2 30 (T.1 32 - 1).toNat + 1)) 16 (T.2 28 (T.1 32 - 1).toNat).toNat (T.1 19 + 1))) 28 (T.1 32 - 1).toNat (T.1 19 + 1) := if_neg i10
    rw [e1, h28, show ((m : Int)).toNat = m by omega]
    rfl
  rw [e0]
  have hA := np_emit0 (w := 2) (x := T.2 29 (T.1 32 - 1).toNat) (y := 0) (z := 0) (T := T)
  have hA' : ∀ j k : Nat, k ≠ (T.1 19).toNat → np (M_emit 2 (T.2 29 (T.1 32 - 1).toNat) 0 0 T) j k = np T j k := fun j k hk => np_emit hk
  have a19 : (M_emit 2 (T.2 29 (T.1 32 - 1).toNat) 0 0 T).1 19 = T.1 19 + 1 := rfl
  have aO := (emT (w := 2) (x := T.2 29 (T.1 32 - 1).toNat) (y := 0) (z := 0) (T := T)).2
  generalize M_emit 2 (T.2 29 (T.1 32 - 1).toNat) 0 0 T = A at hA hA' a19 aO
  have hC : ∀ j k : Nat, j < 4 → ¬ (j = 1 ∧ k = m) → np (ma (ma (ma A 29 (T.1 32 - 1).toNat (T.1 19)) 30 (T.1 32 - 1).toNat (T.2 30 (T.1 32 - 1).toNat + 1)) 16 m (T.1 19 + 1)) j k = np A j k := fun j k hj h => by
    show (if 15 + j = 16 then zu (A.2 16) m (T.1 19 + 1) else if 15 + j = 30 then _ else if 15 + j = 29 then _ else A.2 (15 + j)) k = A.2 (15 + j) k
    by_cases c : 15 + j = 16
    · rw [if_pos c, zu_ne (by omega), c]
    · rw [if_neg c, if_neg (by omega), if_neg (by omega)]
  have hCm : np (ma (ma (ma A 29 (T.1 32 - 1).toNat (T.1 19)) 30 (T.1 32 - 1).toNat (T.2 30 (T.1 32 - 1).toNat + 1)) 16 m (T.1 19 + 1)) 1 m = T.1 19 + 1 := by
    show zu (A.2 16) m (T.1 19 + 1) m = _
    exact zu_eq
  have c1 : (ma (ma (ma A 29 (T.1 32 - 1).toNat (T.1 19)) 30 (T.1 32 - 1).toNat (T.2 30 (T.1 32 - 1).toNat + 1)) 16 m (T.1 19 + 1)).1 = A.1 := rfl
  have c2 : ∀ k, k ≠ 16 → k ≠ 29 → k ≠ 30 → (ma (ma (ma A 29 (T.1 32 - 1).toNat (T.1 19)) 30 (T.1 32 - 1).toNat (T.2 30 (T.1 32 - 1).toNat + 1)) 16 m (T.1 19 + 1)).2 k = A.2 k := fun k x y z => by
    show (if k = 16 then _ else if k = 30 then _ else if k = 29 then _ else A.2 k) = A.2 k
    rw [if_neg x, if_neg z, if_neg y]
  have c29 : (ma (ma (ma A 29 (T.1 32 - 1).toNat (T.1 19)) 30 (T.1 32 - 1).toNat (T.2 30 (T.1 32 - 1).toNat + 1)) 16 m (T.1 19 + 1)).2 29 = zu (A.2 29) (T.1 32 - 1).toNat (T.1 19) := rfl
  have c30 : (ma (ma (ma A 29 (T.1 32 - 1).toNat (T.1 19)) 30 (T.1 32 - 1).toNat (T.2 30 (T.1 32 - 1).toNat + 1)) 16 m (T.1 19 + 1)).2 30 = zu (A.2 30) (T.1 32 - 1).toNat (T.2 30 (T.1 32 - 1).toNat + 1) := rfl
  generalize ma (ma (ma A 29 (T.1 32 - 1).toNat (T.1 19)) 30 (T.1 32 - 1).toNat (T.2 30 (T.1 32 - 1).toNat + 1)) 16 m (T.1 19 + 1) = C at hC hCm c1 c2 c29 c30
  have n1 : (C.1 19).toNat = (T.1 19).toNat + 1 := by rw [c1, a19]; omega
  have hD := np_emit0 (w := 1) (x := -1) (y := 0) (z := 0) (T := C)
  rw [n1] at hD
  have hD' : ∀ j k : Nat, k ≠ (T.1 19).toNat + 1 → np (M_emit 1 (-1) 0 0 C) j k = np C j k := fun j k hk => np_emit (by omega)
  have d19 : (M_emit 1 (-1) 0 0 C).1 19 = C.1 19 + 1 := rfl
  have dO := (emT (w := 1) (x := -1) (y := 0) (z := 0) (T := C)).2
  generalize M_emit 1 (-1) 0 0 C = D at hD hD' d19 dO
  have hX : ∀ j k : Nat, j < 4 → np (mi (ma D 28 (T.1 32 - 1).toNat (T.1 19 + 1)) 24 (T.1 24 + 1)) j k = np D j k := fun j k hj => by
    show (if 15 + j = 28 then _ else D.2 (15 + j)) k = _
    rw [if_neg (by omega)]; rfl
  have x2 : ∀ k, k ≠ 28 → (mi (ma D 28 (T.1 32 - 1).toNat (T.1 19 + 1)) 24 (T.1 24 + 1)).2 k = D.2 k := fun k hk => by
    show (if k = 28 then _ else D.2 k) = _
    rw [if_neg hk]
  refine ⟨⟨?_, rfl, fun k a b => ?_⟩, fun k hk => ?_, ⟨?_, ?_, ?_⟩, fun j k hj h1 h2 h3 => ?_, ?_, ⟨?_, ?_, ?_, ?_⟩, ⟨?_, ?_, ?_, ?_⟩⟩
  · show D.1 19 = _
    rw [d19, c1, a19]; omega
  · show (if k = 24 then _ else D.1 k) = _
    rw [if_neg b, dO.1 k a, c1, aO.1 k a]
  · rw [x2 k (by omega), dO.2 k (by omega), c2 k (by omega) (by omega) (by omega), aO.2 k (by omega)]
  · show zu (D.2 28) (T.1 32 - 1).toNat (T.1 19 + 1) = _
    rw [dO.2 28 (by omega), c2 28 (by decide) (by decide) (by decide), aO.2 28 (by omega)]
  · rw [x2 29 (by decide), dO.2 29 (by omega), c29, aO.2 29 (by omega)]
  · rw [x2 30 (by decide), dO.2 30 (by omega), c30, aO.2 30 (by omega)]
  · rw [hX j k hj, hD' j k h2, hC j k hj h3, hA' j k h1]
  · rw [hX 1 m (by omega), hD' 1 m (by omega)]; exact hCm
  · rw [hX 0 _ (by omega), hD' 0 _ (by omega), hC 0 _ (by omega) (by omega)]; exact hA.1
  · rw [hX 1 _ (by omega), hD' 1 _ (by omega), hC 1 _ (by omega) (by omega)]; exact hA.2.1
  · rw [hX 2 _ (by omega), hD' 2 _ (by omega), hC 2 _ (by omega) (by omega)]; exact hA.2.2.1
  · rw [hX 3 _ (by omega), hD' 3 _ (by omega), hC 3 _ (by omega) (by omega)]; exact hA.2.2.2
  · rw [hX 0 _ (by omega)]; exact hD.1
  · rw [hX 1 _ (by omega)]; exact hD.2.1
  · rw [hX 2 _ (by omega)]; exact hD.2.2.1
  · rw [hX 3 _ (by omega)]; exact hD.2.2.2
/-- an alternative has just begun at m; gs the jumps before it; T0 .. the body's begin -/
def ALTB (f d : Int) (T0 : MSt) (S0 : CSt) (F0 E0 : Nat → Nat) (R0 : Nat → Int) (b : Nat) (T : MSt) (S : CSt) (F E : Nat → Nat) (R : Nat → Int) (gs : List Nat) (m : Nat) (bg wt j : Int) : Prop :=
  RR f d T S F ∧ XB T0 S0 F0 E0 R0 b T S F E R ∧ (b ≤ m ∧ (m : Int) + 1 = T.1 19) ∧ PRE f T S F E R gs b m (T0.1 21) (T.1 21) (T0.1 22) (T.1 22) (T0.1 20) (T.1 20) ∧ (np T 0 m = 1 ∧ np T 1 m = -1 ∧ np T 2 m = 0 ∧ np T 3 m = 0) ∧ (F (m + 1) = F m + 1 ∧ R (m + 1) = R m) ∧ (cqR S 0 (F m) = 5 ∧ cqR S 1 (F m) = -1) ∧ bg = (F m : Int) ∧ CH (T.2 16) m gs (T.2 29 (T.1 32 - 1).toNat) ∧ CH (S.1 27) (F m) (gs.map F) j ∧ T.2 28 (T.1 32 - 1).toNat = (m : Int) ∧ T.2 30 (T.1 32 - 1).toNat = wt ∧ 3 * (R (T.1 19).toNat - R b) ≤ wt ∧ 0 ≤ wt ∧ np T 0 b = 1
/-- an alternative has been read up to its end -/
def ALTI (f d : Int) (T0 : MSt) (S0 : CSt) (F0 E0 : Nat → Nat) (R0 : Nat → Int) (b : Nat) (T : MSt) (S : CSt) (F E : Nat → Nat) (R : Nat → Int) (gs : List Nat) (m : Nat) (bg wt j : Int) : Prop :=
  RR f d T S F ∧ XB T0 S0 F0 E0 R0 b T S F E R ∧ (b ≤ m ∧ (m : Int) + 1 ≤ T.1 19) ∧ (∃ li kk gm, PRE f T S F E R gs b m (T0.1 21) li (T0.1 22) kk (T0.1 20) gm ∧ (li ≤ T.1 21 ∧ kk ≤ T.1 22 ∧ gm ≤ T.1 20) ∧ SEG f T S F E R (m + 1) (T.1 19).toNat li (T.1 21) kk (T.1 22) gm (T.1 20)) ∧ (np T 0 m = 1 ∧ np T 1 m = -1 ∧ np T 2 m = 0 ∧ np T 3 m = 0) ∧ (F (m + 1) = F m + 1 ∧ R (m + 1) = R m) ∧ (cqR S 0 (F m) = 5 ∧ cqR S 1 (F m) = -1) ∧ bg = (F m : Int) ∧ CH (T.2 16) m gs (T.2 29 (T.1 32 - 1).toNat) ∧ CH (S.1 27) (F m) (gs.map F) j ∧ T.2 28 (T.1 32 - 1).toNat = (m : Int) ∧ T.2 30 (T.1 32 - 1).toNat = wt ∧ 3 * (R (T.1 19).toNat - R b) ≤ wt ∧ 0 ≤ wt ∧ np T 0 b = 1
theorem XB_XT {T0 T T' : MSt} {S0 S S' : CSt} {F0 F F' E0 E E' : Nat → Nat} {R0 R R' : Nat → Int} {b : Nat} {w : Int} (hb : (b : Int) < T.1 19) (hF : (F b : Int) ≤ S.1 7 5) (h : XB T0 S0 F0 E0 R0 b T S F E R) (hx : XT T S F E R T' S' F' E' R') (hf : frB T T' w) : XB T0 S0 F0 E0 R0 b T' S' F' E' R' := by
  obtain ⟨⟨a1, a2, a3, a4⟩, ⟨b1, b2, b3, b4, b5⟩, ⟨c1, c2, c3⟩, d1, d2, d3, d4, d5⟩ := h
  obtain ⟨x1, x2, x3, x4, x5, x6, x7, x8, x9, x10, x11, x12⟩ := hx
  obtain ⟨f1, f2, f3, f4, f5, f6⟩ := hf
  have eb := (a3 b (Nat.le_refl _)).1
  refine ⟨⟨by omega, fun j k hj hk => (x2 j k hj (by omega)).trans (a2 j k hj hk), fun k hk => ⟨(x3 k (by omega)).1.trans (a3 k hk).1, (x3 k (by omega)).2.trans (a3 k hk).2⟩, fun k hk => (x4 k (by omega)).trans (a4 k hk)⟩, ⟨by omega, fun j k hj hk => (x6 j k hj (by omega)).trans (b2 j k hj hk), fun j k hj hk => (x7 j k hj (by omega)).trans (b3 j k hj hk), by omega, fun j c hc h5 h8 => (x9 j c (by omega) h5 h8).trans (b5 j c hc h5 h8)⟩, ⟨by omega, by omega, by omega⟩, by omega, fun i hi => ?_, fun i hi => ?_, fun k hk => (f5 k hk).trans (d4 k hk), fun k hk => (f6 k hk).trans (d5 k hk)⟩
  · obtain ⟨y1, y2, y3, y4, y5⟩ := f2 i (by omega)
    obtain ⟨z1, z2, z3⟩ := d2 i hi
    exact ⟨y1.trans z1, y2.trans z2, y5.trans z3⟩
  · obtain ⟨y1, y2, y3, y4, y5⟩ := f2 i (by omega)
    obtain ⟨z1, z2, z3⟩ := d3 i hi
    exact ⟨y3.trans z1, y4.trans z2, (f3 i (by omega)).trans z3⟩
theorem map_cg {F F' : Nat → Nat} : ∀ (gs : List Nat), (∀ x, x ∈ gs → F' x = F x) → gs.map F' = gs.map F
  | [], _ => rfl
  | g :: gs, h => by
    rw [List.map_cons, List.map_cons, h g (List.mem_cons_self ..), map_cg gs (fun x hx => h x (List.mem_cons_of_mem _ hx))]
/-- a row behind the begin of an alternative -/
theorem ALT_row {f d : Int} {T0 T : MSt} {S0 S : CSt} {F0 F E0 E : Nat → Nat} {R0 R : Nat → Int} {b m : Nat} {gs : List Nat} {bg wt j : Int} {r : CR} (h : ALTB f d T0 S0 F0 E0 R0 b T S F E R gs m bg wt j) (hr : ROWO f d T S F E R 0 r) : (r.1 = 1 ∧ ∃ T1, goR T T1 ∧ dmR T1) ∨ (r.1 = 0 ∧ ∃ T' F' E' R', goR T T' ∧ ALTI f d T0 S0 F0 E0 R0 b T' r.2.2 F' E' R' gs m bg (wt + r.2.1) j ∧ (M_sign T' (T'.1 24) = 0 ∨ M_sign T' (T'.1 24) = 124 ∨ M_sign T' (T'.1 24) = 41)) := by
  obtain ⟨a1, a2, a3, a4, a5, a6, a7, a8, a9, a10, a11, a12, a13, a14, a15⟩ := h
  rcases hr with q | ⟨q1, T', F', E', R', q2, q3, q4, q5, q6, q7, q8, q9⟩
  · exact Or.inl q
  · right
    refine ⟨q1, T', F', E', R', q2, ?_, q9⟩
    have hsz := a1.2.2.2.2.2.2.2.2.2.1.1
    have hlp := a1.2.2.2.2.2.2.1
    have en : (T.1 19).toNat = m + 1 := by omega
    rw [en] at hsz q6 q7 a13
    have pre := a4
    obtain ⟨p1, p2, p3, -⟩ := a4
    have hx := q5
    obtain ⟨x1, x2, x3, x4, x5, x6, x7, x8, x9, x10, x11, x12⟩ := q5
    have hf := q4
    obtain ⟨f1, f2, f3, f4, f5, f6⟩ := q4
    have eb := (x3 b (by omega))
    have em := (x3 m (by omega))
    have em1 := (x3 (m + 1) (by omega))
    have h32 := a1.2.2.1.1
    obtain ⟨y1, y2, y3, y4, y5⟩ := f2 (T.1 32 - 1).toNat (by omega)
    have a6' := a6
    refine ⟨q3, XB_XT (by omega) (by omega) a2 hx hf, ⟨a3.1, by omega⟩, ⟨T.1 21, T.1 22, T.1 20, PRE_cong (f6 13 (by omega)) (fun j k hj _ hk => x2 j k hj (by omega)) (fun k _ hk => x3 k (by omega)) (fun k _ hk => x4 k (by omega)) (fun j k hj _ hk => x6 j k hj (by omega)) (fun j k hj _ hk => x7 j k hj (by omega)) (fun j c _ hc h5 h8 => x9 j c (by omega) h5 h8) pre, ⟨x11, x12, x10⟩, q6⟩, ⟨?_, ?_, ?_, ?_⟩, ⟨by omega, by omega⟩, ⟨?_, ?_⟩, by omega, ?_, ?_, ?_, ?_, by omega, by omega, ?_⟩
    · rw [x2 0 m (by omega) (by omega)]; exact a5.1
    · rw [x2 1 m (by omega) (by omega)]; exact a5.2.1
    · rw [x2 2 m (by omega) (by omega)]; exact a5.2.2.1
    · rw [x2 3 m (by omega) (by omega)]; exact a5.2.2.2
    · rw [em.1, x6 0 (F m) (by omega) (by omega)]; exact a7.1
    · rw [em.1, x6 1 (F m) (by omega) (by omega)]; exact a7.2
    · rw [f1, y4]
      exact CH_cong (fun x hx => x2 1 x (by omega) (by have := CH_mem a9 x hx; omega)) a9
    · rw [em.1, map_cg gs (fun x hx => (x3 x (by have := CH_mem a9 x hx; omega)).1)]
      exact CH_cong (fun x hx => x6 1 x (by omega) (by have := CH_mem a10 x hx; omega)) a10
    · rw [f1, y3]; exact a11
    · rw [f1, f4, a12]; omega
    · rw [x2 0 b (by omega) (by omega)]; exact a15
/-- the body's begin is the begin of its first alternative -/
theorem ALT_bin {f d : Int} {T : MSt} {S : CSt} {F E : Nat → Nat} {R : Nat → Int} {b : Nat} (h : BIN f d T S F R b) : ALTB f d T S F E R b T S F E R [] b (F b) 0 (-1) := by
  obtain ⟨h1, h2, h3, h4, h5, h6⟩ := h
  have hlp := h1.2.2.2.2.2.2.1
  refine ⟨h1, ⟨⟨Int.le_refl _, fun _ _ _ _ => rfl, fun _ _ => ⟨rfl, rfl⟩, fun _ _ => rfl⟩, ⟨Int.le_refl _, fun _ _ _ _ => rfl, fun _ _ _ _ => rfl, Int.le_refl _, fun _ _ _ _ _ => rfl⟩, ⟨Int.le_refl _, Int.le_refl _, Int.le_refl _⟩, rfl, fun _ _ => ⟨rfl, rfl, rfl⟩, fun _ _ => ⟨rfl, rfl, rfl⟩, fun _ _ => rfl, fun _ _ => rfl⟩, ⟨Nat.le_refl _, by omega⟩, PRE_nil hlp.2.1, h3, h4, h5, rfl, h6.2.1, rfl, h6.1, h6.2.2, ?_, Int.le_refl _, h3.1⟩
  rw [show (T.1 19).toNat = b + 1 by omega, h4.2]
  omega
