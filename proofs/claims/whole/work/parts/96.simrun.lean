theorem CBd_set {a : Nat} {S : CSt} {i v : Int} (h : CBd a S) (h4 : S.1 11 4 ≤ 12000) (v0 : -1 ≤ v) (v1 : v ≤ 90000) : CBd a (K1_set i v S).2.2 := by
  obtain ⟨hF, hX, hB⟩ := h
  obtain ⟨hX1, hX2, x1, x2, x3, x4, x5, x6, x7, x8, x9, x10, x11⟩ := hX
  have hm := mkB_set (i := i) hB v1
  have e : ∀ n, n ≠ 37 → n ≠ 11 → n ≠ 35 → (K1_set i v S).2.2.1 n = S.1 n := fun n a b c => K1_set_1 a b c
  refine ⟨(K1_set_F hF hX1.2.2.2.1 h4).1, ⟨sV_set hF hX1 v0 (by omega), pB_set hX2, ?_, ?_, ?_, ?_, ?_, ?_, ?_, ?_, ?_, ?_, hm.1⟩, hm⟩
  · rw [e 3 (by decide) (by decide) (by decide)]; exact x1
  · rw [e 3 (by decide) (by decide) (by decide)]; exact x2
  · rw [e 14 (by decide) (by decide) (by decide)]; exact x3
  · rw [e 10 (by decide) (by decide) (by decide)]; exact x4
  · rw [e 10 (by decide) (by decide) (by decide)]; exact x5
  · rw [e 10 (by decide) (by decide) (by decide)]; exact x6
  · rw [e 10 (by decide) (by decide) (by decide)]; exact x7
  · rw [e 18 (by decide) (by decide) (by decide)]; exact x8
  · rw [e 24 (by decide) (by decide) (by decide)]; exact x9
  · rw [e 25 (by decide) (by decide) (by decide)]; exact x10
/-- both at a place, the class at its place k -/
def LNo (a : Nat) (p : Nat → Nat → Int) (R : Nat → Int) (N : Nat) (F : Nat → Int) (fit : Nat → Int → Int) (T : MSt) (k : Int) (S : CSt) : Prop := RI p R N T ∧ T.1 41 = 0 ∧ CBd a S ∧ SK p F fit N T S ∧ k = F (T.1 39).toNat ∧ LKd p F N T S (T.1 39).toNat
def LPd (a : Nat) (p : Nat → Nat → Int) (R : Nat → Int) (N : Nat) (F : Nat → Int) (fit : Nat → Int → Int) (T : MSt) (k : Int) (S : CSt) : Prop := RI p R N T ∧ T.1 41 = 0 ∧ CBd a S ∧ SK p F fit N T S ∧ PD p R N F T k S
theorem MU_nn {p : Nat → Nat → Int} {R : Nat → Int} {N : Nat} {T : MSt} (h : RI p R N T) : 1 ≤ MU p N T := by
  have q41 := h.1.2.2.2.2.2.2.2.2.2.2.2.2.2.1
  have hN := h.2.2.1.1
  have := h.2.1
  unfold MU
  have := stp_nn (p 0 (T.1 39).toNat)
  have := nzE_nn (x := T.2 36) (T.1 37).toNat
  omega
/-- a turn that only begins a pass -/
theorem LPd_turn {a : Nat} {p : Nat → Nat → Int} {R : Nat → Int} {N : Nat} {F : Nat → Int} {fit : Nat → Int → Int} {T : MSt} {k : Int} {S : CSt} (hp : prR p R N) (h : LPd a p R N F fit T k S) : xV S ∧ S.1 11 4 ≤ 11900 ∧ S.1 11 3 ≤ 8990 ∧ 0 ≤ k ∧ k ≤ 1000 ∧ ∃ v S', K0_carryOut k S = (0, v, S') ∧ 0 ≤ v ∧ LNo a p R N F fit T v S' := by
  obtain ⟨hR, h41, hB, hS, kk, T0, lp, t0, t1, eT, ek, hL, h40⟩ := h
  have rb := RI_RB hp hR
  have e37 : T.1 37 = T0.1 37 := by
    rw [eT]
    show (M_clr _ _ _).1 37 = _
    rw [M_clr_i37, M_put_i37, M_put_i37]
  have b37 : T0.1 37 ≤ 2990 := by have := rb.2.2.2.1; omega
  obtain ⟨S', c1, c2, c3⟩ := PD_turn (a := a) (F := F) (fit := fit) hp lp t0 t1 h40 b37 hL hB hS
  have hk := lp.2.1
  have l := loop_in hp hk lp.2.2.1
  obtain ⟨⟨g0, g1⟩, -⟩ := hS.1 (enL p kk) l.2.2.2.2.2.2.2.2.2.1
  obtain ⟨⟨g2, g3⟩, -⟩ := hS.1 (kk + 1) l.2.2.2.2.2.2.2.2.1
  have wn := Wr_nn (gT T0) 130
  have cn := cntB_nn (p := p) (q := 10) (r := kk) N
  obtain ⟨z4, z3⟩ := LKd_bd hL (by have := lp.2.2.2.2.1; omega) h40 b37
  have e39 : (T.1 39).toNat = kk + 1 := by
    rw [eT]
    show ((kk : Int) + 1).toNat = _
    omega
  subst ek
  refine ⟨hB.2.1, z4, z3, by omega, by omega, _, _, c1, g2, hR, h41, c2, ?_, ?_, ?_⟩
  · have m : mK S (K0_carryOut (F (enL p kk) + 1) S).2.2 := mK.carryOut
    rw [c1] at m
    exact SK_cong (frM_refl T) m hS
  · rw [e39]
  · rw [e39, eT]; exact c3
/-- one order of the reference: what the class does at it -/
theorem LNo_turn {a : Nat} {p : Nat → Nat → Int} {R : Nat → Int} {N : Nat} {F : Nat → Int} {fit : Nat → Int → Int} {T : MSt} {k : Int} {S : CSt} (hp : prR p R N) (h : LNo a p R N F fit T k S) (h16 : p 0 (T.1 39).toNat ≠ 16) :
    ((M_order T).1 = 1 ∧ MU p N (M_order T).2 < MU p N T ∧ LNo a p R N F fit (M_order T).2 k S) ∨
    (∃ v S', K0_carryOut k S = (0, v, S') ∧ 0 ≤ v ∧ (M_order T).1 = 1 ∧ MU p N (M_order T).2 < MU p N T ∧ (LNo a p R N F fit (M_order T).2 v S' ∨ LPd a p R N F fit (M_order T).2 v S')) ∨
    (∃ S', K0_carryOut k S = (0, -1, S') ∧ (M_order T).1 = 0 ∧ (M_order T).2.1 41 = 0 ∧ CBd a S' ∧ SK p F fit N (M_order T).2 S' ∧ RB p R N (M_order T).2 ∧ S'.1 10 4 = (M_order T).2.1 40 ∧ (((M_goBack (M_order T).2).1 = 0 ∧ K1_goBack S' = (-1, S')) ∨ ((M_goBack (M_order T).2).1 = 1 ∧ ¬ (K1_goBack S').1 = -1 ∧ 0 ≤ (K1_goBack S').1 ∧ MU p N (M_goBack (M_order T).2).2 < MU p N T ∧ (LNo a p R N F fit (M_goBack (M_order T).2).2 (K1_goBack S').1 (ci (K1_goBack S').2 10 3 ((K1_goBack S').2.1 11 5)) ∨ LPd a p R N F fit (M_goBack (M_order T).2).2 (K1_goBack S').1 (ci (K1_goBack S').2 10 3 ((K1_goBack S').2.1 11 5)))))) ∨
    (∃ v S', K0_carryOut k S = (1, v, S') ∧ (M_order T).2.1 41 = 1 ∧ CBd a S') := by
  obtain ⟨hR, h41, hB, hS, ek, hL⟩ := h
  have oc := OC_order hp hR h41 h16
  have so := SO_order hp hR h41 hB hS hL h16
  rw [← ek] at so
  have fo := frM_order T
  rcases so with ⟨s1, s2, s3, s4⟩ | ⟨v, S', s1, s2, s3, s4, s5, s6⟩ | ⟨S', s1, s2, s3, s4, s5⟩ | ⟨v, S', s1, s2, s3⟩
  · left
    obtain ⟨o1, o2⟩ := oc.2.1 (by omega)
    exact ⟨s1, o2, o1, s4, hB, SK_cong fo mK.rf hS, s2.symm, s3⟩
  · right; left
    obtain ⟨o1, o2⟩ := oc.2.1 (by omega)
    have m : mK S (K0_carryOut k S).2.2 := mK.carryOut
    rw [s1] at m
    have sk := SK_cong fo m hS
    refine ⟨v, S', s1, s5, s2, o2, ?_⟩
    rcases s6 with ⟨e1, e2⟩ | e
    · exact Or.inl ⟨o1, s3, s4, sk, e1, e2⟩
    · exact Or.inr ⟨o1, s3, s4, sk, e⟩
  · right; right; left
    obtain ⟨o1, o2⟩ := oc.2.2 s2
    have m : mK S (K0_carryOut k S).2.2 := mK.carryOut
    rw [s1] at m
    have sk := SK_cong fo m hS
    have h40 : (M_order T).2.1 40 ≤ 500 := (CfT_step o1.1 s3).2
    have q37 : 0 ≤ (M_order T).2.1 37 := o1.1.2.2.2.2.2.2.2.2.2.2.2.1
    have gb := GB_all hp ((M_order T).2.1 37).toNat (M_order T).2 o1 (by omega)
    have gs := GBsim (fit := fit) hp s4 sk ((M_order T).2.1 37).toNat (M_order T).2 o1 (by omega) h40 s5
    have b4 := M_back_4 ((M_order T).2.1 37).toNat (M_order T).2
    refine ⟨S', s1, s2, s3, s4, sk, o1, s5.1, ?_⟩
    rcases gs with ⟨g1, g2⟩ | ⟨g1, g2, g3, g4, g5⟩
    · exact Or.inl ⟨g1, g2⟩
    · right
      obtain ⟨r1, r2⟩ := gb.2.1 (by omega)
      have fb := frM_backL ((M_order T).2.1 37).toNat (M_order T).2
      have mb : mK S' (ci (K1_goBack S').2 10 3 ((K1_goBack S').2.1 11 5)) := mK.back.tr mK.c10
      have sk2 := SK_cong fb mb sk
      have e41 : (M_goBackL ((M_order T).2.1 37).toNat (M_order T).2).2.1 41 = 0 := by rw [b4.2]; exact s3
      refine ⟨g1, g2, g3, ?_, ?_⟩
      · have r2' : MU p N (M_goBack (M_order T).2).2 ≤ 376 * (501 - (M_order T).2.1 40) + 250 + 125 * nzE ((M_order T).2.2 36) ((M_order T).2.1 37).toNat := r2
        omega
      · rcases g5 with ⟨e1, e2⟩ | e
        · exact Or.inl ⟨r1, e41, g4, sk2, e1, e2⟩
        · exact Or.inr ⟨r1, e41, g4, sk2, e⟩
  · right; right; right
    exact ⟨v, S', s1, s2, s3⟩
/-- THE CLASS TRIES: what its loop needs -/
def VC (a : Nat) (p : Nat → Nat → Int) (R : Nat → Int) (N : Nat) (F : Nat → Int) (fit : Nat → Int → Int) (n : Nat) (k : Int) (S : CSt) : Prop :=
  (∃ T, LNo a p R N F fit T k S ∧ 2 * MU p N T + 2 ≤ n) ∨ (∃ T, LPd a p R N F fit T k S ∧ 2 * MU p N T + 3 ≤ n)
theorem VC_turn {a : Nat} {p : Nat → Nat → Int} {R : Nat → Int} {N : Nat} {F : Nat → Int} {fit : Nat → Int → Int} (hp : prR p R N) (n : Nat) (k : Int) (S : CSt) (h : VC a p R N F fit (n + 1) k S) : K0_turnOK (VC a p R N F fit) n k S := by
  have nrm : ∀ (m : Nat) (T : MSt), MU p N T ≤ m → LNo a p R N F fit T k S → 2 * MU p N T + 2 ≤ ((n + 1 : Nat) : Int) → K0_turnOK (VC a p R N F fit) n k S := by
    intro m
    induction m with
    | zero =>
      intro T hm hT _
      have := MU_nn hT.1
      omega
    | succ m ih =>
      intro T hm hT hn
      have hT' := hT
      obtain ⟨hR, h41, hB, hS, ek, hL⟩ := hT'
      have rb := RI_RB hp hR
      have h40 : T.1 40 ≤ 500 := (CfT_step hR.1 h41).2
      obtain ⟨z4, z3⟩ := LKd_bd hL (RI_tr hR) h40 rb.2.2.2.1
      have cR := hS.1 _ hR.2.2.1.1
      obtain ⟨g0, g1⟩ := cR.1
      have w1 := hR.2.2.1.2.1
      have w2 := hR.2.2.1.2.2.1
      have q4 := hR.1.2.2.2.2.1
      by_cases h16 : p 0 (T.1 39).toNat = 16
      · have k0 := cR.2.2.2.2.2.2.2.2.2.2.2.2.1 h16
        rw [← ek] at k0
        have eC := coo_0 k0
        refine ⟨hB.2.1, z4, z3, by omega, by omega, fun _ c _ => ?_, fun _ c => ?_, fun _ _ => ?_⟩
        · rw [eC] at c; exact absurd rfl c
        · rw [eC] at c; exact absurd (show (-2 : Int) = -1 from c) (by decide)
        · rw [eC]
          have := hL.1
          show 0 ≤ S.1 10 3 ∧ S.1 10 3 ≤ 1000
          omega
      · rcases LNo_turn hp hT h16 with ⟨-, s2, s3⟩ | ⟨v, S', s1, s2, s3, s4, s5⟩ | ⟨S', s1, s2, s3, s4, s5, s6, s7, s8⟩ | ⟨v, S', s1, s2, s3⟩
        · exact ih _ (by omega) s3 (by omega)
        · refine ⟨hB.2.1, z4, z3, by omega, by omega, fun _ _ _ => ?_, fun _ c => ?_, fun _ c => ?_⟩
          · rw [s1]
            rcases s5 with s5 | s5
            · exact Or.inl ⟨_, s5, by omega⟩
            · exact Or.inr ⟨_, s5, by omega⟩
          · rw [s1] at c; have c' : v = -1 := c; omega
          · rw [s1] at c; have c' : v = -2 := c; omega
        · refine ⟨hB.2.1, z4, z3, by omega, by omega, fun _ _ c => ?_, fun _ _ c => ?_, fun _ c => ?_⟩
          · rw [s1] at c; exact absurd rfl c
          · rw [s1] at c ⊢
            rcases s8 with ⟨t1, t2⟩ | ⟨t1, t2, t3, t4, t5⟩
            · have c' : ¬ (K1_goBack S').1 = -1 := c
              rw [t2] at c'
              exact absurd rfl c'
            · rcases t5 with t5 | t5
              · exact Or.inl ⟨_, t5, by omega⟩
              · exact Or.inr ⟨_, t5, by omega⟩
          · rw [s1] at c; exact absurd (show (-1 : Int) = -2 from c) (by decide)
        · refine ⟨hB.2.1, z4, z3, by omega, by omega, fun c => ?_, fun c => ?_, fun c => ?_⟩
          all_goals (rw [s1] at c; exact absurd (show (1 : Int) = 0 from c) (by decide))
  rcases h with ⟨T, hT, hn⟩ | ⟨T, hT, hn⟩
  · have := MU_nn hT.1
    exact nrm (MU p N T).toNat T (by omega) hT hn
  · obtain ⟨x1, x2, x3, x4, x5, v, S', s1, s2, s3⟩ := LPd_turn hp hT
    refine ⟨x1, x2, x3, x4, x5, fun _ _ _ => ?_, fun _ c => ?_, fun _ c => ?_⟩
    · rw [s1]
      exact Or.inl ⟨T, s3, by omega⟩
    · rw [s1] at c; have c' : v = -1 := c; omega
    · rw [s1] at c; have c' : v = -2 := c; omega
