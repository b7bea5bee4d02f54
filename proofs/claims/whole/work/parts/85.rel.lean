/-- the class's state is in bounds -/
def CBd (a : Nat) (S : CSt) : Prop := cFx a 6 S ∧ xV S ∧ mkB S
theorem CBd_co {a : Nat} {S S' : CSt} {k v e : Int} (h : CBd a S) (h4 : S.1 11 4 ≤ 11900) (h3 : S.1 11 3 ≤ 8990) (k0 : 0 ≤ k) (k1 : k ≤ 1000) (hr : K0_carryOut k S = (e, v, S')) (b0 : 0 ≤ S'.1 10 3) (b1 : S'.1 10 3 ≤ 1000) (d0 : 0 ≤ S'.1 10 4) (d1 : S'.1 10 4 ≤ 500) (hm : mkB S') : CBd a S' := by
  obtain ⟨hF, hX, -⟩ := h
  have t := K0_carryOut_ok (a := a) ⟨hF, hX.1, hX.2.1, h4, h3⟩ hX k0 k1
  have m : mK S (K0_carryOut k S).2.2 := mK.carryOut
  rw [hr] at t m
  obtain ⟨hX1, hX2, x1, x2, x3, x4, x5, x6, x7, x8, x9, x10, x11⟩ := hX
  refine ⟨t.1.1, ⟨t.1.2.1, t.1.2.2.1, ?_, ?_, ?_, b0, b1, d0, d1, ?_, ?_, ?_, hm.1⟩, hm⟩
  · have e := m.1 3 (by decide) (by decide) (by decide) (by decide) (by decide)
    show 0 ≤ S'.1 3 1
    rw [show S'.1 3 = S.1 3 from e]; exact x1
  · have e := m.1 3 (by decide) (by decide) (by decide) (by decide) (by decide)
    show S'.1 3 1 ≤ 24
    rw [show S'.1 3 = S.1 3 from e]; exact x2
  · have e := m.1 14 (by decide) (by decide) (by decide) (by decide) (by decide)
    show ∀ j, 0 ≤ S'.1 14 j ∧ S'.1 14 j < 65536
    rw [show S'.1 14 = S.1 14 from e]; exact x3
  · have e := m.1 18 (by decide) (by decide) (by decide) (by decide) (by decide)
    show ∀ j, S'.1 18 j ≤ 1000
    rw [show S'.1 18 = S.1 18 from e]; exact x8
  · have e := m.1 24 (by decide) (by decide) (by decide) (by decide) (by decide)
    show ∀ j, 0 ≤ S'.1 24 j
    rw [show S'.1 24 = S.1 24 from e]; exact x9
  · have e := m.1 25 (by decide) (by decide) (by decide) (by decide) (by decide)
    show ∀ j, S'.1 25 j ≤ 9
    rw [show S'.1 25 = S.1 25 from e]; exact x10
def cw (r : CR) : CR := if r.1 = 0 then (0, r.2.1, r.2.2) else (1, 0, r.2.2)
theorem cw_0 (v : Int) (S : CSt) : cw (0, v, S) = (0, v, S) := rfl
theorem cw_1 (v : Int) (S : CSt) : cw (1, v, S) = (1, 0, S) := rfl
theorem coo_0 {k : Int} {S : CSt} (h : K2_kind 6 k S = 0) : K0_carryOut k S = (0, -2, S) := by unfold K0_carryOut; rw [h]; rfl
theorem coo_1 {k : Int} {S : CSt} (h : K2_kind 6 k S = 1) : K0_carryOut k S = cw (K0_passSign k S) := by unfold K0_carryOut; rw [h]; rfl
theorem coo_2 {k : Int} {S : CSt} (h : K2_kind 6 k S = 2) : K0_carryOut k S = (0, (if ((K0_isLineBegin S)) = 0 then (-1) else k + 1 : Int), S) := by unfold K0_carryOut; rw [h]; rfl
theorem coo_3 {k : Int} {S : CSt} (h : K2_kind 6 k S = 3) : K0_carryOut k S = (0, (if ((K0_isLineEnd S)) = 0 then (-1) else k + 1 : Int), S) := by unfold K0_carryOut; rw [h]; rfl
theorem coo_4 {k : Int} {S : CSt} (h : K2_kind 6 k S = 4) : K0_carryOut k S = cw (K0_passReference k S) := by unfold K0_carryOut; rw [h]; rfl
theorem coo_5 {k : Int} {S : CSt} (h : K2_kind 6 k S = 5) : K0_carryOut k S = cw (K0_beginAlternative k S) := by unfold K0_carryOut; rw [h]; rfl
theorem coo_6 {k : Int} {S : CSt} (h : K2_kind 6 k S = 6) : K0_carryOut k S = (0, K2_aim 6 k S, S) := by unfold K0_carryOut; rw [h]; rfl
theorem coo_7 {k : Int} {S : CSt} (h : K2_kind 6 k S = 7) : K0_carryOut k S = cw (K0_beginGroup k S) := by unfold K0_carryOut; rw [h]; rfl
theorem coo_8 {k : Int} {S : CSt} (h : K2_kind 6 k S = 8) : K0_carryOut k S = cw (K0_endGroup k S) := by unfold K0_carryOut; rw [h]; rfl
theorem coo_9 {k : Int} {S : CSt} (h : K2_kind 6 k S = 9) : K0_carryOut k S = cw (K0_enterLoop k S) := by unfold K0_carryOut; rw [h]; rfl
theorem coo_10 {k : Int} {S : CSt} (h : K2_kind 6 k S = 10) : K0_carryOut k S = cw (K0_endPass k S) := by unfold K0_carryOut; rw [h]; rfl
theorem coo_11 {k : Int} {S : CSt} (h : K2_kind 6 k S = 11) : K0_carryOut k S = cw (K0_endPass k S) := by unfold K0_carryOut; rw [h]; rfl
theorem coo_12 {k : Int} {S : CSt} (h : K2_kind 6 k S = 12) : K0_carryOut k S = cw (K0_beginPass k S) := by unfold K0_carryOut; rw [h]; rfl
theorem coo_13 {k : Int} {S : CSt} (h : K2_kind 6 k S = 13) : K0_carryOut k S = cw (K0_beginLook k S) := by unfold K0_carryOut; rw [h]; rfl
theorem coo_14 {k : Int} {S : CSt} (h : K2_kind 6 k S = 14) : K0_carryOut k S = cw (K0_endLook k S) := by unfold K0_carryOut; rw [h]; rfl
theorem coo_15 {k : Int} {S : CSt} (h : K2_kind 6 k S = 15) : K0_carryOut k S = cw (K0_beginLookNot k S) := by unfold K0_carryOut; rw [h]; rfl
theorem coo_16 {k : Int} {S : CSt} (h : K2_kind 6 k S = 16) : K0_carryOut k S = cw (K0_endLookNot k S) := by unfold K0_carryOut; rw [h]; rfl
theorem K0_alt_eq {i : Int} {S : CSt} : K0_beginAlternative i S = if S.1 10 4 < 500 then (if K2_aim 6 i S = -1 then (0, i + 1, ci S 10 4 (S.1 10 4 + 1)) else (0, i + 1, (K1_choose (K2_aim 6 i S) (S.1 10 3) (ci S 10 4 (S.1 10 4 + 1))).2.2)) else (1, 0, S) := by
  have e : K2_aim 6 i (ci S 10 4 (S.1 10 4 + 1)) = K2_aim 6 i S := (mK_prog (mK.c10 (k := 4) (v := S.1 10 4 + 1) (S := S))).2.1 i
  unfold K0_beginAlternative K0_countStep
  rw [e]
  by_cases c : S.1 10 4 < 500
  · rw [if_pos c, if_pos c, if_pos rfl]
    by_cases c2 : K2_aim 6 i S = -1
    · rw [if_pos c2, if_pos c2]
    · rw [if_neg c2, if_neg c2, if_pos K1_choose_0]
  · rw [if_neg c, if_neg c, if_neg (show ¬ (1 : Int) = 0 by decide)]
theorem K0_sign_eq {i : Int} {S : CSt} : K0_passSign i S = if S.1 10 4 < 500 then (if S.1 3 1 ≤ S.1 10 3 then (0, -1, ci S 10 4 (S.1 10 4 + 1)) else if K2_fits 6 i (K4_at 3 (S.1 10 3) S) S = 0 then (0, -1, ci S 10 4 (S.1 10 4 + 1)) else (0, i + 1, ci (ci S 10 4 (S.1 10 4 + 1)) 10 3 (S.1 10 3 + 1))) else (1, 0, S) := by
  have e : ∀ z, K2_fits 6 i z (ci S 10 4 (S.1 10 4 + 1)) = K2_fits 6 i z S := fun z => (mK_prog (mK.c10 (k := 4) (v := S.1 10 4 + 1) (S := S))).2.2.2.2.2.2.2.1 i z
  have e2 : K4_at 3 (S.1 10 3) (ci S 10 4 (S.1 10 4 + 1)) = K4_at 3 (S.1 10 3) S := rfl
  unfold K0_passSign
  rw [e, e2]
  unfold K0_countStep
  by_cases c : S.1 10 4 < 500
  · rw [if_pos c, if_pos c, if_pos rfl]
  · rw [if_neg c, if_neg c, if_neg (show ¬ (1 : Int) = 0 by decide)]
/-- the two machines at one place -/
def LKd (p : Nat → Nat → Int) (F : Nat → Int) (N : Nat) (T : MSt) (S : CSt) (pos : Nat) : Prop :=
  S.1 10 3 = T.1 38 ∧ S.1 10 4 = T.1 40 ∧ S.1 11 3 = 3 * (phi p (T.2 36) (T.1 37).toNat : Int) ∧ ∃ tc : Nat, cX tc S ∧ MR p N (T.2 36) (qT T) pos (gT T) (S.1 35) ∧ LSt p F N (2 * T.1 40 + (if p 0 pos = 1 then 2 else 0)) (T.2 36) (qT T) (snT T) (S.1 36) (sC S) (T.1 37).toNat tc ∧ (tc : Int) + cntB p 14 pos N ≤ T.1 35 + 2 * T.1 40 + (if p 0 pos = 1 then 2 else 0)
/-- what is known when both go back -/
def BKr (p : Nat → Nat → Int) (F : Nat → Int) (N : Nat) (T : MSt) (S : CSt) : Prop :=
  S.1 10 4 = T.1 40 ∧ S.1 11 3 = 3 * (phi p (T.2 36) (T.1 37).toNat : Int) ∧ ∃ tc : Nat, cX tc S ∧ LSt p F N (2 * T.1 40) (T.2 36) (qT T) (snT T) (S.1 36) (sC S) (T.1 37).toNat tc
/-- the reference has begun a pass, the class has still to -/
def PD (p : Nat → Nat → Int) (R : Nat → Int) (N : Nat) (F : Nat → Int) (T : MSt) (v : Int) (S : CSt) : Prop :=
  ∃ (k : Nat) (T0 : MSt), LpT p R N k T0 ∧ 0 ≤ gT T0 (reL p k) ∧ gT T0 (reL p k) ≤ leL p k + T0.1 38 ∧ T = M_pass k T0 ∧ v = F (enL p k) + 1 ∧ LKd p F N T0 S k ∧ T0.1 40 ≤ 500
/-- what one order of the reference is in the class -/
def SO (a : Nat) (p : Nat → Nat → Int) (R : Nat → Int) (N : Nat) (F : Nat → Int) (k : Int) (S : CSt) (r : Int × MSt) : Prop :=
  (r.1 = 1 ∧ F (r.2.1 39).toNat = k ∧ LKd p F N r.2 S (r.2.1 39).toNat ∧ r.2.1 41 = 0) ∨
  (∃ v S', K0_carryOut k S = (0, v, S') ∧ r.1 = 1 ∧ r.2.1 41 = 0 ∧ CBd a S' ∧ 0 ≤ v ∧ ((v = F (r.2.1 39).toNat ∧ LKd p F N r.2 S' (r.2.1 39).toNat) ∨ PD p R N F r.2 v S')) ∨
  (∃ S', K0_carryOut k S = (0, -1, S') ∧ r.1 = 0 ∧ r.2.1 41 = 0 ∧ CBd a S' ∧ BKr p F N r.2 S') ∨
  (∃ v S', K0_carryOut k S = (1, v, S') ∧ r.2.1 41 = 1 ∧ CBd a S')
theorem LKd_BK {p : Nat → Nat → Int} {F : Nat → Int} {N : Nat} {T : MSt} {S : CSt} {pos : Nat} (hn : p 0 pos ≠ 1) (h : LKd p F N T S pos) : BKr p F N T S := by
  obtain ⟨-, h2, h3, tc, h4, -, h5, -⟩ := h
  rw [if_neg hn, Int.add_zero] at h5
  exact ⟨h2, h3, tc, h4, h5⟩
theorem RI_tr {p : Nat → Nat → Int} {R : Nat → Int} {N : Nat} {T : MSt} (h : RI p R N T) : T.1 35 ≤ 8 * T.1 40 + 48 := by
  obtain ⟨c, h39, i1, i2, -⟩ := h
  have := Wr_nn (gT T) 130
  have := cntB_nn (p := p) (q := 10) (r := (T.1 39).toNat) N
  have := dcp_nn (p 0 (T.1 39).toNat)
  omega
/-- the class's bounds from the reference's -/
theorem LKd_bd {p : Nat → Nat → Int} {F : Nat → Int} {N : Nat} {T : MSt} {S : CSt} {pos : Nat} (h : LKd p F N T S pos) (h1 : T.1 35 ≤ 8 * T.1 40 + 48) (h2 : T.1 40 ≤ 500) (h3 : T.1 37 ≤ 2990) : S.1 11 4 ≤ 11900 ∧ S.1 11 3 ≤ 8990 := by
  obtain ⟨a1, a2, a3, tc, a4, a5, a6, a7⟩ := h
  have := cntB_nn (p := p) (q := 14) (r := pos) N
  have := phi_le (p := p) (x := T.2 36) (T.1 37).toNat
  have := a4.1
  split at a7 <;> omega
