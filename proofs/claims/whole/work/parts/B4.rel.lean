/-- what both have while they read: at depth d, flags f; F codes = size -/
def RR (f d : Int) (T : MSt) (S : CSt) (F : Nat → Nat) : Prop :=
  sgE T S ∧ T.1 25 = 0 ∧ DMi T ∧ (∀ k, 0 ≤ M_sign T k ∧ M_sign T k ≤ 126) ∧ S.1 2 1 = T.1 14 ∧ (S.1 7 12 = T.1 20 ∧ 0 ≤ T.1 20 ∧ T.1 20 ≤ 9) ∧ (S.1 7 10 = T.1 21 ∧ 0 ≤ T.1 21 ∧ 2 * T.1 21 ≤ T.1 24) ∧ (S.1 7 11 = T.1 22 ∧ 0 ≤ T.1 22 ∧ 4 * T.1 22 ≤ T.1 24 + d) ∧ S.1 8 4 = T.1 23 ∧ (S.1 7 5 = (F (T.1 19).toNat : Int) ∧ S.1 7 5 ≤ 2 * T.1 24 + 1 + d) ∧ (0 ≤ T.1 19 ∧ T.1 19 ≤ 3 * T.1 24 + 1) ∧ (T.1 32 = d + 1 ∧ 0 ≤ d ∧ d ≤ 8) ∧ S.1 7 13 = f ∧ rV S
/-- what was there stays: places, cells, ghosts -/
def XT (T : MSt) (S : CSt) (F E : Nat → Nat) (R : Nat → Int) (T' : MSt) (S' : CSt) (F' E' : Nat → Nat) (R' : Nat → Int) : Prop :=
  T.1 19 ≤ T'.1 19 ∧ (∀ j k : Nat, j < 4 → (k : Int) < T.1 19 → np T' j k = np T j k) ∧ (∀ k : Nat, (k : Int) ≤ T.1 19 → F' k = F k ∧ R' k = R k) ∧ (∀ k : Nat, (k : Int) < T.1 19 → E' k = E k) ∧
  S.1 7 5 ≤ S'.1 7 5 ∧ (∀ j k : Nat, j < 3 → (k : Int) < S.1 7 5 → cqR S' j k = cqR S j k) ∧ (∀ j k : Nat, j = 3 ∨ j = 4 → (k : Int) < S.1 7 5 → cwR S' j k = cwR S j k) ∧ S.1 7 10 ≤ S'.1 7 10 ∧ (∀ j c : Nat, (c : Int) < S.1 7 10 → 5 ≤ j → j ≤ 8 → cqR S' j c = cqR S j c) ∧
  T.1 20 ≤ T'.1 20 ∧ T.1 21 ≤ T'.1 21 ∧ T.1 22 ≤ T'.1 22
theorem XT_refl {T : MSt} {S : CSt} {F E : Nat → Nat} {R : Nat → Int} : XT T S F E R T S F E R := ⟨Int.le_refl _, fun _ _ _ _ => rfl, fun _ _ => ⟨rfl, rfl⟩, fun _ _ => rfl, Int.le_refl _, fun _ _ _ _ => rfl, fun _ _ _ _ => rfl, Int.le_refl _, fun _ _ _ _ _ => rfl, Int.le_refl _, Int.le_refl _, Int.le_refl _⟩
theorem XT_trans {T T1 T2 : MSt} {S S1 S2 : CSt} {F F1 F2 E E1 E2 : Nat → Nat} {R R1 R2 : Nat → Int} (h : XT T S F E R T1 S1 F1 E1 R1) (h' : XT T1 S1 F1 E1 R1 T2 S2 F2 E2 R2) : XT T S F E R T2 S2 F2 E2 R2 := by
  obtain ⟨a1, a2, a3, a4, a5, a6, a7, a8, a9, a10, a11, a12⟩ := h
  obtain ⟨b1, b2, b3, b4, b5, b6, b7, b8, b9, b10, b11, b12⟩ := h'
  refine ⟨by omega, fun j k x y => (b2 j k x (by omega)).trans (a2 j k x y), fun k y => ⟨(b3 k (by omega)).1.trans (a3 k y).1, (b3 k (by omega)).2.trans (a3 k y).2⟩, fun k y => (b4 k (by omega)).trans (a4 k y), by omega, fun j k x y => (b6 j k x (by omega)).trans (a6 j k x y), fun j k x y => (b7 j k x (by omega)).trans (a7 j k x y), by omega, fun j c x y z => (b9 j c (by omega) y z).trans (a9 j c x y z), by omega, by omega, by omega⟩
/-- a closed segment stays one -/
theorem SEG_X {f : Int} {T T' : MSt} {S S' : CSt} {F F' E E' : Nat → Nat} {R R' : Nat → Int} {b e : Nat} {lo hi ko ki go gi : Int} (l0 : 0 ≤ lo) (h13 : T'.2 13 = T.2 13) (he : (e : Int) = T.1 19) (hz : S.1 7 5 = (F e : Int)) (hh : hi = S.1 7 10) (hx : XT T S F E R T' S' F' E' R') (h : SEG f T S F E R b e lo hi ko ki go gi) : SEG f T' S' F' E' R' b e lo hi ko ki go gi := by
  obtain ⟨a1, a2, a3, a4, a5, a6, a7, a8, a9, -⟩ := hx
  exact SEG_cong l0 h13 (fun j k x _ y => a2 j k x (by omega)) (fun k _ y => (a3 k (by omega)).1) (fun k _ y => a4 k (by omega)) (fun k _ y => (a3 k (by omega)).2) (fun j k _ y x => a6 j k x (by omega)) (fun j k x _ y => a7 j k x (by omega)) (fun j c _ y x z => a9 j c (by omega) x z) h
/-- the open bodies stay as they were; the top one weighs w more -/
def frB (T T' : MSt) (w : Int) : Prop := T'.1 32 = T.1 32 ∧ (∀ i : Nat, (i : Int) < T.1 32 → T'.2 26 i = T.2 26 i ∧ T'.2 27 i = T.2 27 i ∧ T'.2 28 i = T.2 28 i ∧ T'.2 29 i = T.2 29 i ∧ T'.2 31 i = T.2 31 i) ∧ (∀ i : Nat, (i : Int) < T.1 32 - 1 → T'.2 30 i = T.2 30 i) ∧ T'.2 30 (T.1 32 - 1).toNat = T.2 30 (T.1 32 - 1).toNat + w ∧ (∀ k, k < 15 ∨ 32 < k → T'.1 k = T.1 k) ∧ (∀ k, k < 15 ∨ 31 < k → T'.2 k = T.2 k)
theorem frB_trans {T T1 T2 : MSt} {w w' : Int} (h0 : 1 ≤ T.1 32) (h : frB T T1 w) (h' : frB T1 T2 w') : frB T T2 (w + w') := by
  obtain ⟨a1, a2, a3, a4, a5, a6⟩ := h
  obtain ⟨b1, b2, b3, b4, b5, b6⟩ := h'
  rw [a1] at b1 b2 b3 b4
  refine ⟨b1, fun i hi => ?_, fun i hi => (b3 i hi).trans (a3 i hi), by omega, fun k hk => (b5 k hk).trans (a5 k hk), fun k hk => (b6 k hk).trans (a6 k hk)⟩
  obtain ⟨x1, x2, x3, x4, x5⟩ := b2 i hi
  obtain ⟨y1, y2, y3, y4, y5⟩ := a2 i hi
  exact ⟨x1.trans y1, x2.trans y2, x3.trans y3, x4.trans y4, x5.trans y5⟩
theorem frB_refl {T : MSt} : frB T T 0 := ⟨rfl, fun _ _ => ⟨rfl, rfl, rfl, rfl, rfl⟩, fun _ _ => rfl, by omega, fun _ _ => rfl, fun _ _ => rfl⟩
/-- the reference reads on from T to T' -/
def goR (T T' : MSt) : Prop := ∃ j : Nat, (j : Int) ≤ T'.1 24 - T.1 24 ∧ ∀ n, M_readsL (n + j) T = M_readsL n T'
theorem goR_refl {T : MSt} : goR T T := ⟨0, by omega, fun _ => rfl⟩
theorem goR_trans {T T1 T2 : MSt} (h : goR T T1) (h' : goR T1 T2) : goR T T2 := by
  obtain ⟨j, a, b⟩ := h
  obtain ⟨k, c, d⟩ := h'
  refine ⟨k + j, by omega, fun n => ?_⟩
  rw [show n + (k + j) = n + k + j by omega, b, d]
theorem goR_one {T : MSt} (hb : T.1 25 = 0) (h : T.1 24 < T.1 14) (h' : T.1 24 < (rdS T).1 24) : goR T (rdS T) := ⟨1, by omega, fun n => readsL_S hb h⟩
/-- refused whatever comes -/
def dmR (T : MSt) : Prop := ∀ n, (M_readsL n T).1 = 0
/-- what a part of the class's reading is to the reference -/
def OUT (f d : Int) (T : MSt) (S : CSt) (F E : Nat → Nat) (R : Nat → Int) (r : CR) : Prop :=
  (r.1 = 1 ∧ ∃ T1, goR T T1 ∧ dmR T1) ∨
  (r.1 = 0 ∧ ∃ T' F' E' R', goR T T' ∧ RR f d T' r.2.2 F' ∧ frB T T' r.2.1 ∧ XT T S F E R T' r.2.2 F' E' R' ∧ SEG f T' r.2.2 F' E' R' (T.1 19).toNat (T'.1 19).toNat (T.1 21) (T'.1 21) (T.1 22) (T'.1 22) (T.1 20) (T'.1 20) ∧ 3 * (R' (T'.1 19).toNat - R' (T.1 19).toNat) ≤ r.2.1 ∧ 0 ≤ r.2.1)
theorem OUT_nil {f d : Int} {T : MSt} {S : CSt} {F E : Nat → Nat} {R : Nat → Int} (h : RR f d T S F) : OUT f d T S F E R (0, 0, S) :=
  Or.inr ⟨rfl, T, F, E, R, goR_refl, h, frB_refl, XT_refl, SEG_nil, by show 3 * (R (T.1 19).toNat - R (T.1 19).toNat) ≤ 0; omega, Int.le_refl _⟩
/-- one part behind the other -/
theorem OUT_seq {f d : Int} {T : MSt} {S : CSt} {F E : Nat → Nat} {R : Nat → Int} {r : CR} {k : Int → CSt → CR} (h0 : RR f d T S F) (h : OUT f d T S F E R r) (hk : ∀ (T1 : MSt) (F1 E1 : Nat → Nat) (R1 : Nat → Int), goR T T1 → RR f d T1 r.2.2 F1 → OUT f d T1 r.2.2 F1 E1 R1 (k r.2.1 r.2.2)) : (r.1 = 1 ∧ OUT f d T S F E R (gBd r k)) ∨ (r.1 = 0 ∧ (((k r.2.1 r.2.2).1 = 1 ∧ OUT f d T S F E R (gBd r k)) ∨ ((k r.2.1 r.2.2).1 = 0 ∧ OUT f d T S F E R (0, r.2.1 + (k r.2.1 r.2.2).2.1, (k r.2.1 r.2.2).2.2)))) := by
  rcases h with ⟨h1, T1, g1, g2⟩ | ⟨h1, T1, F1, E1, R1, g1, g2, g3, g4, g5, g6, g7⟩
  · left
    refine ⟨h1, Or.inl ⟨?_, T1, g1, g2⟩⟩
    show (if r.1 = 0 then k r.2.1 r.2.2 else (1, 0, r.2.2)).1 = 1
    rw [if_neg (by omega)]
  · right
    refine ⟨h1, ?_⟩
    have e : gBd r k = k r.2.1 r.2.2 := if_pos h1
    rcases hk T1 F1 E1 R1 g1 g2 with ⟨q1, T2, q2, q3⟩ | ⟨q1, T2, F2, E2, R2, q2, q3, q4, q5, q6, q7, q8⟩
    · left
      exact ⟨q1, by rw [e]; exact Or.inl ⟨q1, T2, goR_trans g1 q2, q3⟩⟩
    · right
      refine ⟨q1, Or.inr ⟨rfl, T2, F2, E2, R2, goR_trans g1 q2, q3, frB_trans h0.2.2.1.1 g3 q4, XT_trans g4 q5, ?_, ?_, ?_⟩⟩
      · obtain ⟨r1, r2, r3, r4, r5, r6, r7, r8, r9, r10, r11, -⟩ := g2
        obtain ⟨p1, p2, p3, p4, p5, p6, p7, p8, p9, p10, p11, -⟩ := h0
        have hx := q5
        obtain ⟨x1, x2, x3, x4, x5, x6, x7, x8, x9, x10, x11, x12⟩ := g4
        obtain ⟨y1, y2, y3, y4, y5, y6, y7, y8, y9, y10, y11, y12⟩ := q5
        exact SEG_app x11 y11 x12 y12 x10 y10 (SEG_X p7.2.1 (q4.2.2.2.2.2 13 (by omega)) (by omega) (by rw [r10.1]) r7.1.symm hx g5) q6
      · show 3 * (R2 (T2.1 19).toNat - R2 (T.1 19).toNat) ≤ r.2.1 + (k r.2.1 r.2.2).2.1
        have z1 := (q5.2.2.1 (T1.1 19).toNat (by have := g2.2.2.2.2.2.2.2.2.2.2.1.1; omega)).2
        have z2 := (q5.2.2.1 (T.1 19).toNat (by have := g4.1; have := h0.2.2.2.2.2.2.2.2.2.2.1.1; omega)).2
        omega
      · show 0 ≤ r.2.1 + (k r.2.1 r.2.2).2.1
        omega
