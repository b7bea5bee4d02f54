theorem LSt_pushP {p : Nat → Nat → Int} {F : Nat → Int} {N : Nat} {md : Int} {x Q : Nat → Int} {sn : Nat → Nat → Int} {y : Nat → Int} {sc : Nat → Nat → Int} {cnt tc : Nat} {v : Int} (hP : v % 4 = 2 ∧ p 1 (v / 4 % 256).toNat = 1) (h : LSt p F N md (zu x cnt v) Q sn y sc cnt tc) : LSt p F N md (zu x cnt v) Q sn y sc (cnt + 1) tc := by
  have e : phi p (zu x cnt v) (cnt + 1) = phi p (zu x cnt v) cnt := by rw [phi, zu_eq, if_pos hP, Nat.add_zero]
  unfold LSt at h ⊢
  rw [e]
  refine ⟨fun i hi => ?_, h.2⟩
  by_cases c : i = cnt
  · subst c
    left
    rw [zu_eq]
    exact hP
  · exact h.1 i (by omega)
/-- a look's mark is written over by no one who needs it -/
theorem look_Q {p : Nat → Nat → Int} {R : Nat → Int} {N : Nat} {len : Int} {x : Nat → Int} {Q : Nat → Int} {sn : Nat → Nat → Int} {rg : Nat → Int} {tr cnt k : Nat} {pl md v : Int} (hp : prR p R N) (k12 : p 0 k = 12) (h : RIc p R N len x Q sn rg tr cnt k pl md) : (∀ k', k' < N → p 0 k' = 12 → k' ≠ k → zu Q (p 3 k).toNat v (p 3 k').toNat = Q (p 3 k').toNat) ∧ (∀ k', k' < N → p 0 k' = 12 → (∃ i, i < cnt ∧ inB p k' (x i / 4 % 256).toNat) → zu Q (p 3 k).toNat v (p 3 k').toNat = Q (p 3 k').toNat) := by
  obtain ⟨i1, i2, i3, i4, i5⟩ := h
  have hk := i1.1
  have l := look_in hp hk k12
  have qz : ∀ k', k' < N → p 0 k' = 12 → k' ≠ k → zu Q (p 3 k).toNat v (p 3 k').toNat = Q (p 3 k').toNat := fun k' a b ne => by
    have o := look_in hp a b
    exact zu_ne (fun y => ne (hp.2.2.2.2.1 k' k a hk b k12 (by omega)))
  refine ⟨qz, fun k' a b c => qz k' a b (fun y => ?_)⟩
  subst y
  obtain ⟨i, hi, hb⟩ := c
  obtain ⟨m, m1, m2, m3, m4, -⟩ := (i4.1 i hi).1.2.2.2.1.2.2.2.2.2.2.2.1 k' a b hb
  have hx := i1.2.2.2.2.2.2.2.2 m (by omega) m3
  rw [m4] at hx
  exact inB_not_self hx
theorem SO_look {a : Nat} {p : Nat → Nat → Int} {R : Nat → Int} {N : Nat} {F : Nat → Int} {fit : Nat → Int → Int} {T : MSt} {S : CSt} (hp : prR p R N) (h : RI p R N T) (h0 : T.1 41 = 0) (h40 : T.1 40 ≤ 500) (hB : CBd a S) (hS : SK p F fit N T S) (hL : LKd p F N T S (T.1 39).toNat) (hop : p 0 (T.1 39).toNat = 12) : SO a p R N F (F (T.1 39).toNat) S (M_order T) := by
  have hrb := RI_RB hp h
  have htr := RI_tr h
  obtain ⟨c, h39, hc⟩ := h
  obtain ⟨q8, q9, q10, q11, q4, q6, q6', q3, q7, q34, q35, q37, q40, q41, q41', q33⟩ := c
  have eM : M_order T = (1, M_choose 2 (T.1 39) (ma (mi T 39 (T.1 39 + 1)) 33 (130 + T.2 11 (T.1 39).toNat).toNat (T.1 37))) := by
    unfold M_order
    rw [q8, hop]
    rfl
  have hk := hc.1.1
  have hN2 := hp.2.1
  obtain ⟨l0, ⟨l1, l2⟩, l3, l4, l5, l6, l7, l8⟩ := look_in hp hk hop
  obtain ⟨-, -, -, sB, b1, b2⟩ := hp.1.2.2.2.2.2 _ hk hop
  obtain ⟨qz, qy⟩ := look_Q (v := T.1 37) hp hop hc
  have pl0 := hc.1.2.1
  have pl1 := hc.1.2.2.1
  have cR := hS.1 _ hk
  obtain ⟨f0, f1⟩ := cR.1
  obtain ⟨fn, nu, kp, kn⟩ := cR.2.2.2.2.2.2.2.2.2.1 hop
  obtain ⟨z4, z3⟩ := LKd_bd hL htr h40 hrb.2.2.2.1
  have hLL := hL
  obtain ⟨a1, a2, a3, tc, a4, ⟨⟨m1, m2⟩, m3⟩, a7, a8⟩ := hLL
  rw [if_neg (show ¬ p 0 (T.1 39).toNat = 1 by omega), Int.add_zero] at a7 a8
  have ep : (T.1 39 + 1).toNat = (T.1 39).toNat + 1 := by omega
  have e39 : T.1 39 = (((T.1 39).toNat : Nat) : Int) := by omega
  rw [eM, q11]
  generalize hkk : (T.1 39).toNat = k at *
  have ei : (130 + p 3 k).toNat = 130 + (p 3 k).toNat := by omega
  rw [ei, e39]
  rw [e39] at ep
  have en : ∀ y, y < 130 → zu (T.2 33) (130 + (p 3 k).toNat) (T.1 37) y = T.2 33 y := fun y hy => zu_ne (by omega)
  -- the state whose mark is written, its choice not yet
  have gG : gT (ma (mi T 39 ((k : Int) + 1)) 33 (130 + (p 3 k).toNat) (T.1 37)) = gT T := gT_cong en
  have gS : snT (ma (mi T 39 ((k : Int) + 1)) 33 (130 + (p 3 k).toNat) (T.1 37)) = snT T := snT_cong en rfl rfl
  have gQ : qT (ma (mi T 39 ((k : Int) + 1)) 33 (130 + (p 3 k).toNat) (T.1 37)) = zu (qT T) (p 3 k).toNat (T.1 37) := by
    funext y
    show zu (T.2 33) (130 + (p 3 k).toNat) (T.1 37) (130 + y) = zu (qT T) (p 3 k).toNat (T.1 37) y
    by_cases e : y = (p 3 k).toNat
    · rw [e, zu_eq, zu_eq]
    · rw [zu_ne e, zu_ne (by omega)]
      rfl
  generalize hT1 : ma (mi T 39 ((k : Int) + 1)) 33 (130 + (p 3 k).toNat) (T.1 37) = T1 at gG gS gQ ⊢
  have u4 : T1.1 4 = T.1 4 := by rw [← hT1]; rfl
  have u35 : T1.1 35 = T.1 35 := by rw [← hT1]; rfl
  have u37 : T1.1 37 = T.1 37 := by rw [← hT1]; rfl
  have u38 : T1.1 38 = T.1 38 := by rw [← hT1]; rfl
  have u39 : T1.1 39 = (k : Int) + 1 := by rw [← hT1]; rfl
  have u40 : T1.1 40 = T.1 40 := by rw [← hT1]; rfl
  have u41 : T1.1 41 = T.1 41 := by rw [← hT1]; rfl
  have u36 : T1.2 36 = T.2 36 := by rw [← hT1]; rfl
  have st1 : StR p R N (T1.1 4) (T1.1 40) (T1.2 36) (qT T1) (snT T1) (T1.1 37).toNat (T1.1 35).toNat := by
    rw [u4, u40, u36, gQ, gS, u37, u35]
    exact StR_cong (Int.le_refl _) (Nat.le_refl _) (fun _ _ y => y) (fun _ _ => rfl) qy (fun _ _ _ _ => rfl) hc.2.2.2.1
  have ls1 : LSt p F N (2 * T1.1 40 + 2) (T1.2 36) (qT T1) (snT T1) (S.1 36) (sC S) (T1.1 37).toNat tc := by
    rw [u40, u36, gQ, gS, u37]
    exact LSt_cong hc.2.2.2.1 (by omega) (Nat.le_refl _) (fun _ _ => rfl) qy (fun _ _ _ _ => rfl) (fun _ _ => rfl) (fun _ _ y => y) (fun _ _ _ _ _ => rfl) a7
  have s1 := CAd_set (v := S.1 11 3) (i := 70 + p 3 k) a4 (by omega) (by omega)
  have mk1 : mkB (K1_set (70 + p 3 k) (S.1 11 3) S).2.2 := mkB_set hB.2.2 (by omega)
  have cb := cntB_but (q := 14) b1 inB_not_self l3 N
  rw [if_neg (fun y => by rw [hop] at y; exact absurd y.2 (by decide))] at cb
  have mrg : ∀ mk : Nat → Int, (∀ y, y < 70 → mk y = S.1 35 y) → MRg p N (k + 1) (gT T1) mk := by
    intro mk hmk
    rw [gG]
    refine ⟨fun g g1 g9 => ?_, fun j hj j14 => ?_⟩
    · rw [hmk _ (by omega), hmk _ (by omega), hmk _ (by omega)]
      exact m1 g g1 g9
    · obtain ⟨-, -, -, l3', l4', -⟩ := loop_in hp hj j14
      rw [hmk _ (by omega), hmk _ (by omega), pif_iff (P := inB p j (k + 1)) (Q := inB p j k) (b1 j (fun y => by rw [y, hop] at j14; exact absurd j14 (by decide))).symm]
      exact m2 j hj j14
  have bp : p 0 (k + 1) = 1 := l7
  have fin : ∀ S' : CSt, S'.1 10 = S.1 10 → mkB S' → K0_carryOut (F k) S = (0, F k + 1, S') → LKd p F N (M_choose 2 k T1) S' (k + 1) → SO a p R N F (F k) S (1, M_choose 2 k T1) := by
    intro S' s10 hmk eC hL'
    right; left
    refine ⟨_, _, eC, rfl, by show T1.1 41 = 0; omega, CBd_co hB z4 z3 f0 (by omega) eC (by rw [s10]; omega) (by rw [s10]; omega) (by rw [s10]; omega) (by rw [s10]; omega) hmk, by omega, Or.inl ⟨?_, ?_⟩⟩
    · show F k + 1 = F (T1.1 39).toNat
      rw [u39, ep, fn]
    · show LKd p F N (M_choose 2 k T1) S' (T1.1 39).toNat
      rw [u39, ep]; exact hL'
  have hko : ∀ j, j < N → p 0 j = 12 → inB p j (k + 1) → j ≠ k → inB p j k ∧ zu (qT T) (p 3 k).toNat (T.1 37) (p 3 j).toNat = qT T (p 3 j).toNat ∧ p 3 j ≠ p 3 k := fun j a b c ne => ⟨(b1 j ne).mpr c, qz j a b ne, fun y => ne (hp.2.2.2.2.1 j k a hk b hop y)⟩
  by_cases hpos : p 1 k = 1
  · -- (?= : the class has no choice of it
    have s2 := CAd_set (v := T.1 38) (i := 80 + p 3 k) s1.1 (by omega) (by omega)
    have mk2 : mkB (K1_set (80 + p 3 k) (T.1 38) (K1_set (70 + p 3 k) (S.1 11 3) S).2.2).2.2 := mkB_set mk1 (by omega)
    have aC := CAd_trans s1 s2 (fun _ => by rw [← s1.2.2.1]; exact mk1.1)
    have eC : K0_carryOut (F k) S = (0, F k + 1, (K1_set (80 + p 3 k) (T.1 38) (K1_set (70 + p 3 k) (S.1 11 3) S).2.2).2.2) := by
      rw [coo_13 (kp hpos), K0_beginLook_eq, nu, a1, cw_0]
    refine fin _ aC.2.2.2.2.2.2.1 mk2 eC ?_
    have tcb : ((if (K1_set (70 + p 3 k) (S.1 11 3) S).2.2.1 35 (80 + p 3 k).toNat = T.1 38 then (if S.1 35 (70 + p 3 k).toNat = S.1 11 3 then tc else tc + 1) else (if S.1 35 (70 + p 3 k).toNat = S.1 11 3 then tc else tc + 1) + 1 : Nat) : Int) ≤ tc + 2 := by
      (repeat' split) <;> omega
    generalize (if (K1_set (70 + p 3 k) (S.1 11 3) S).2.2.1 35 (80 + p 3 k).toNat = T.1 38 then (if S.1 35 (70 + p 3 k).toNat = S.1 11 3 then tc else tc + 1) else (if S.1 35 (70 + p 3 k).toNat = S.1 11 3 then tc else tc + 1) + 1 : Nat) = tc2 at aC tcb
    rw [s1.2.2.1] at aC
    obtain ⟨g1, g2, g3, g4, g5, g6, g7, g8, -⟩ := aC
    obtain ⟨d1, d2, d3, d4, d5⟩ := dec4 (kd := 2) (w := k) (pl := T1.1 38) (tr := T1.1 35) (by omega) (by omega) (by omega) (by omega) (by omega) (by omega) (by omega)
    have hP : (2 + 4 * ((k : Int) + 256 * (T1.1 38 + 32 * T1.1 35))) % 4 = 2 ∧ p 1 ((2 + 4 * ((k : Int) + 256 * (T1.1 38 + 32 * T1.1 35))) / 4 % 256).toNat = 1 := by
      rw [d1, d2, show ((k : Int)).toNat = k by omega]
      exact ⟨rfl, hpos⟩
    have e37 : (T1.1 37 + 1).toNat = (T1.1 37).toNat + 1 := by omega
    have hx : (M_choose 2 k T1).2 36 = zu (T1.2 36) (T1.1 37).toNat (2 + 4 * ((k : Int) + 256 * (T1.1 38 + 32 * T1.1 35))) := rfl
    have hcc : (M_choose 2 k T1).1 37 = T1.1 37 + 1 := rfl
    generalize 2 + 4 * ((k : Int) + 256 * (T1.1 38 + 32 * T1.1 35)) = v at *
    have ez : ∀ m, m < (T1.1 37).toNat → zu (T1.2 36) (T1.1 37).toNat v m = T1.2 36 m := fun m hm => zu_ne (by omega)
    have pv : phi p (zu (T1.2 36) (T1.1 37).toNat v) ((T1.1 37).toNat + 1) = phi p (T.2 36) (T.1 37).toNat := by
      rw [phi_push, if_pos hP, u36, u37, Nat.add_zero]
    refine ⟨?_, ?_, ?_, tc2, g1, ⟨?_, ?_⟩, ?_, ?_⟩
    · show _ = T1.1 38
      rw [g7, u38]; exact a1
    · show _ = T1.1 40
      rw [g7, u40]; exact a2
    · rw [hx, hcc, e37, pv, g6]; exact a3
    · show MRg p N (k + 1) (gT T1) _
      rw [g3]
      exact mrg _ (fun y hy => by rw [zu_ne (show y ≠ (80 + p 3 k).toNat by omega), zu_ne (show y ≠ (70 + p 3 k).toNat by omega)])
    · rw [hx, g3]
      show LKm p N _ (qT T1) (k + 1) _
      intro j hj j12 jb
      have oj := look_in hp hj j12
      by_cases e : j = k
      · subst e
        rw [gQ, zu_eq, show ((T.1 37)).toNat = (T1.1 37).toNat by rw [u37], zu_eq, zu_eq, zu_ne (show (70 + p 3 j).toNat ≠ (80 + p 3 j).toNat by omega), zu_eq, phi_cong _ ez, u36, u37]
        exact ⟨a3, fun _ => by rw [d3, u38]⟩
      · obtain ⟨o1, o2, o3⟩ := hko j hj j12 jb e
        obtain ⟨m, n1, n2⟩ := RSb_m hc.1 j hj j12 o1
        rw [gQ, o2, zu_ne (show (70 + p 3 j).toNat ≠ (80 + p 3 k).toNat by omega), zu_ne (show (70 + p 3 j).toNat ≠ (70 + p 3 k).toNat by omega), zu_ne (show (80 + p 3 j).toNat ≠ (80 + p 3 k).toNat by omega), zu_ne (show (80 + p 3 j).toNat ≠ (70 + p 3 k).toNat by omega)]
        have e1 := m3 j hj j12 o1
        rw [n1, show ((m : Int)).toNat = m by omega] at e1 ⊢
        rw [phi_cong m (fun i hi => ez i (by omega)), ez m (by omega), u36]
        exact e1
    · rw [hx, hcc, e37]
      show LSt p F N (2 * T1.1 40 + (if p 0 (k + 1) = 1 then 2 else 0)) _ (qT T1) (snT T1) _ _ _ tc2
      rw [if_pos bp, g5]
      refine LSt_pushP hP (LSt_cong st1 (Int.le_refl _) (Nat.le_refl _) ez (fun _ _ _ _ => rfl) (fun _ _ _ _ => rfl) (fun _ _ => rfl) (fun e _ y => by omega) (fun _ c _ _ hcx => g4 c hcx) ls1)
    · show (tc2 : Int) + cntB p 14 (k + 1) N ≤ T1.1 35 + 2 * T1.1 40 + _
      rw [if_pos bp, u35, u40]
      omega
  · -- (?! : a choice in both
    have hneg : p 1 k = 0 := by omega
    obtain ⟨k15, am⟩ := kn hneg
    have eC : K0_carryOut (F k) S = (0, F k + 1, (K1_choose (F ((p 2 k).toNat + 1)) (T1.1 38) (K1_set (70 + p 3 k) (S.1 11 3) S).2.2).2.2) := by
      have ea : K2_aim 6 (F k) (K1_set (70 + p 3 k) (S.1 11 3) S).2.2 = F ((p 2 k).toNat + 1) := by
        rw [(mK_prog s1.2.2.2.2.2.2.2.1).2.1, am]
      rw [coo_15 k15, K0_beginLookNot_eq, nu, a1, ea, u38, cw_0]
    have tcb : ((if S.1 35 (70 + p 3 k).toNat = S.1 11 3 then tc else tc + 1 : Nat) : Int) ≤ tc + 1 := by split <;> omega
    have oko := oK_set (i := 70 + p 3 k) (v := S.1 11 3) (a := a) ⟨hB.1, hB.2.1.1, hB.2.1.2.1, z4, z3⟩ (by omega) (by have := hB.2.1.1.2.1; omega) (by omega)
    generalize hS1 : (K1_set (70 + p 3 k) (S.1 11 3) S).2.2 = S1 at *
    generalize (if S.1 35 (70 + p 3 k).toNat = S.1 11 3 then tc else tc + 1 : Nat) = tc1 at *
    obtain ⟨g1, g2, g3, g4, g5, g6, g7, g8, g9, -⟩ := s1
    have lk1 : LKd p F N T1 S1 (k + 1) := by
      refine ⟨by rw [g7, u38]; exact a1, by rw [g7, u40]; exact a2, by rw [g6, u36, u37]; exact a3, tc1, g1, ⟨?_, ?_⟩, ?_, by rw [if_pos bp, u35, u40]; omega⟩
      · rw [g3]
        exact mrg _ (fun y hy => zu_ne (by omega))
      · rw [g3]
        intro j hj j12 jb
        have oj := look_in hp hj j12
        by_cases e : j = k
        · subst e
          rw [gQ, zu_eq, zu_eq, u36]
          exact ⟨a3, fun y => by omega⟩
        · obtain ⟨o1, o2, o3⟩ := hko j hj j12 jb e
          rw [gQ, o2, zu_ne (show (70 + p 3 j).toNat ≠ (70 + p 3 k).toNat by omega), zu_ne (show (80 + p 3 j).toNat ≠ (70 + p 3 k).toNat by omega), u36]
          exact m3 j hj j12 o1
      · rw [if_pos bp, g5]
        exact LSt_cong st1 (Int.le_refl _) (Nat.le_refl _) (fun _ _ => rfl) (fun _ _ _ _ => rfl) (fun _ _ _ _ => rfl) (fun _ _ => rfl) (fun e _ y => by omega) (fun _ c _ _ hcx => g4 c hcx) ls1
    refine fin _ ?_ ?_ eC ?_
    · rw [K1_choose_1 (by decide) (by decide)]; exact g7
    · exact mkB_of (K1_choose_1 (by decide) (by decide)) (K1_choose_1 (by decide) (by decide)) mk1
    · refine LKd_push (R := R) (by omega) (by omega) (by omega) (by omega) (by omega) (fun _ => hneg) (by omega) (by omega) (fun j hj j12 jb => ?_) (fun j hj j12 jb => ?_) st1 oko.2.1 (by rw [g9]; exact hB.1.2.2.1) lk1 ⟨?_, ?_⟩ ?_ ?_
      · by_cases e : j = k
        · subst e
          exact ⟨(T1.1 37).toNat, by rw [gQ, zu_eq, u37]; omega, Nat.le_refl _, fun y => by omega⟩
        · obtain ⟨o1, o2, o3⟩ := hko j hj j12 jb e
          obtain ⟨m, n1, n2⟩ := RSb_m hc.1 j hj j12 o1
          exact ⟨m, by rw [gQ, o2]; exact n1, by rw [u37]; omega, fun _ => by rw [u37]; omega⟩
      · have ne : j ≠ k := fun y => by subst y; exact inB_not_self jb
        obtain ⟨m, n1, n2⟩ := RSb_m hc.1 j hj j12 jb
        exact ⟨m, by rw [gQ, qz j hj j12 ne]; exact n1, by rw [u37]; omega⟩
      · exact MRg_go (fun j hj j14 => (b1 j (fun y => by rw [y, hop] at j14; exact absurd j14 (by decide))).symm) (by rw [g3]; exact mrg _ (fun y hy => zu_ne (by omega)))
      · rw [g3]
        intro j hj j12 jb
        have oj := look_in hp hj j12
        have ne : j ≠ k := fun y => by subst y; exact inB_not_self jb
        have n3 : p 3 j ≠ p 3 k := fun y => ne (hp.2.2.2.2.1 j k hj hk j12 hop y)
        rw [gQ, qz j hj j12 ne, zu_ne (show (70 + p 3 j).toNat ≠ (70 + p 3 k).toNat by omega), zu_ne (show (80 + p 3 j).toNat ≠ (70 + p 3 k).toNat by omega), u36]
        exact m3 j hj j12 jb
      · rw [if_pos bp, u35, u40]
        have := g1.1
        split <;> omega
      · rw [if_neg (by omega), if_neg (by omega)]
