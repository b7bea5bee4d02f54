theorem und_hi {e : Nat → Nat × Int} {j y : Nat} : ∀ (c : Nat) (g : Nat → Int), (∀ i, i < c → (e i).1 ≠ y) → und e j c g y = g y
  | 0, _, _ => rfl
  | c + 1, g, h => by
    rw [und]
    split
    · rfl
    · rw [und_hi c _ (fun i hi => h i (by omega)), zu_ne (fun w => h c (by omega) w.symm)]
/-- what stands once the last choice is taken back -/
def UnT (T : MSt) : MSt := M_undo (T.2 36 (T.1 37 - 1).toNat / 32768) (mi (mi T 37 (T.1 37 - 1)) 38 (T.2 36 (T.1 37 - 1).toNat / 1024 % 32))
theorem UnT_all {p : Nat → Nat → Int} {R : Nat → Int} {N n : Nat} {T : MSt} (h : RB p R N T) (hn : T.1 37 = (n : Int) + 1) : RB p R N (UnT T) ∧ (UnT T).1 37 = n ∧ (UnT T).1 38 = T.2 36 n / 1024 % 32 ∧ (UnT T).1 4 = T.1 4 ∧ (UnT T).1 40 = T.1 40 ∧ (UnT T).1 35 = T.2 36 n / 32768 ∧ (UnT T).2 36 = T.2 36 ∧ qT (UnT T) = qT T ∧ gT (UnT T) = snT T (T.2 36 n / 32768).toNat ∧ (UnT T).1 41 = T.1 41 ∧ StR p R N (T.1 4) (T.1 40) (T.2 36) (qT T) (snT (UnT T)) n (T.2 36 n / 32768).toNat ∧ (∀ pos g pl, RSb p N (T.1 4) (T.2 36) (qT T) (snT T) pos g pl n → RSb p N (T.1 4) (T.2 36) (qT T) (snT (UnT T)) pos g pl n) ∧ (∀ i, i ≤ (T.2 36 n / 32768).toNat → snT (UnT T) i = snT T i) := by
  obtain ⟨c, h1, h2, h3, h4⟩ := h
  obtain ⟨q8, q9, q10, q11, q4, q6, q6', q3, q7, q34, q35, q37, q40, q41, q41', q33⟩ := c
  have en : (T.1 37 - 1).toNat = n := by omega
  have en2 : (T.1 37).toNat = n + 1 := by omega
  rw [en2] at h1
  obtain ⟨⟨e1, e2, e3, e4, e5, e6, e7, e8⟩, e9⟩ := h1.1 n (by omega)
  obtain ⟨j, hj⟩ : ∃ j : Nat, T.2 36 n / 32768 = j := ⟨(T.2 36 n / 32768).toNat, by omega⟩
  have eU : UnT T = M_undo j (mi (mi T 37 (T.1 37 - 1)) 38 (T.2 36 n / 1024 % 32)) := by unfold UnT; rw [en, hj]
  have hj5 : (j : Int) ≤ (mi (mi T 37 (T.1 37 - 1)) 38 (T.2 36 n / 1024 % 32)).1 35 := by show (j : Int) ≤ T.1 35; omega
  have u35 : (UnT T).1 35 = j := by rw [eU]; exact M_undo_35 hj5
  have u33 : (UnT T).2 33 = sR T j := by rw [eU, M_undo_s hj5]; rfl
  have u36 : (UnT T).2 36 = T.2 36 := by rw [eU, M_undo_a36]; rfl
  have u37 : (UnT T).1 37 = n := by rw [eU, M_undo_i37]; show T.1 37 - 1 = n; omega
  have u38 : (UnT T).1 38 = T.2 36 n / 1024 % 32 := by rw [eU, M_undo_i38]; rfl
  have u4 : (UnT T).1 4 = T.1 4 := by rw [eU, M_undo_i4]; rfl
  have u40 : (UnT T).1 40 = T.1 40 := by rw [eU, M_undo_i40]; rfl
  have u41 : (UnT T).1 41 = T.1 41 := by rw [eU, M_undo_i41]; rfl
  have hi : ∀ y, 130 ≤ y → (UnT T).2 33 y = T.2 33 y := fun y hy => by
    rw [u33]
    unfold sR
    exact und_hi _ _ (fun i _ w => by have := q34 i; unfold eR at w; have w' : (T.2 34 i / 64).toNat = y := w; omega)
  have eq : qT (UnT T) = qT T := by funext y; exact hi _ (by omega)
  have eg : gT (UnT T) = snT T j := by funext y; unfold gT snT; rw [u33]
  have es : ∀ i, i ≤ j → snT (UnT T) i = snT T i := fun i hij => by
    funext y
    unfold snT
    rw [eU, sR_undo hj5 hij]
    rfl
  have cf : CfT p (UnT T) := by
    unfold CfT
    rw [u35, u37, u4, u40, u41, eU, M_undo_a8, M_undo_a9, M_undo_a10, M_undo_a11, M_undo_i6, M_undo_a3, M_undo_a7, M_undo_a34, ← eU]
    exact ⟨q8, q9, q10, q11, q4, q6, q6', q3, q7, q34, by omega, by omega, q40, q41, q41', fun y hy => by rw [hi y hy]; exact q33 y hy⟩
  have xm : ∀ m, m < n → 0 ≤ T.2 36 m → (T.2 36 m / 32768).toNat ≤ j := fun m hm _ => by have := h1.2 m n (by omega) (by omega); omega
  have st : StR p R N (T.1 4) (T.1 40) (T.2 36) (qT T) (snT (UnT T)) n j := StR_cong (Int.le_refl _) (by omega) (fun i hi _ => by have := h1.2 i n (by omega) (by omega); omega) (fun _ _ => rfl) (fun _ _ _ _ => rfl) (fun m hm a b => es _ (xm m hm a)) h1
  have rs : ∀ pos g pl, RSb p N (T.1 4) (T.2 36) (qT T) (snT T) pos g pl n → RSb p N (T.1 4) (T.2 36) (qT T) (snT (UnT T)) pos g pl n := fun pos g pl hh => RSb_cong (fun _ _ => rfl) (fun _ _ _ _ => rfl) (fun m hm => es _ (xm m hm (h1.1 m (by omega)).1.1)) hh
  rw [hj] at e4
  rw [hj, show ((j : Int)).toNat = j by omega]
  refine ⟨⟨cf, ?_, by rw [u35]; omega, by rw [u37]; omega, ?_⟩, u37, u38, u4, u40, u35, u36, eq, eg, u41, st, rs, es⟩
  · rw [u4, u40, u36, eq, u37, u35, show ((n : Int)).toNat = n by omega, show ((j : Int)).toNat = j by omega]
    exact st
  · rw [eg]
    exact e4.2.2.2.1
theorem GB_all {p : Nat → Nat → Int} {R : Nat → Int} {N : Nat} (hp : prR p R N) : ∀ (n : Nat) (T : MSt), RB p R N T → T.1 37 = n → ((M_goBackL n T).1 = 0 ∨ (M_goBackL n T).1 = 1) ∧ (¬ (M_goBackL n T).1 = 0 → RI p R N (M_goBackL n T).2 ∧ MU p N (M_goBackL n T).2 ≤ 376 * (501 - T.1 40) + 250 + 125 * nzE (T.2 36) n) ∧ CfT p (M_goBackL n T).2
  | 0, T, h, _ => ⟨Or.inl rfl, fun y => absurd rfl y, h.1⟩
  | n + 1, T, h, hn => by
    have h' := h
    obtain ⟨c, h1, h2, h3, h4⟩ := h'
    obtain ⟨hU, u37, u38, u4, u40, u35, u36, uq, ug, u41, st, rs, -⟩ := UnT_all h (n := n) (by omega)
    have en2 : (T.1 37).toNat = n + 1 := by omega
    rw [en2] at h1
    obtain ⟨⟨e1, e2, e3, e4, e5, e6, e7, e8⟩, e9⟩ := h1.1 n (by omega)
    have en : (T.1 37 - 1).toNat = n := by omega
    have hw := e4.1
    have hN := hp.2.1
    have q9 := c.2.1
    have q10 := c.2.2.1
    have e4' := rs _ _ _ e4
    have nz : nzE (T.2 36) (n + 1) = nzE (T.2 36) n + (if T.2 36 n % 4 = 1 then 0 else 1) := rfl
    have q35 : 0 ≤ (UnT T).1 35 := hU.1.2.2.2.2.2.2.2.2.2.2.1
    obtain ⟨w, hww⟩ : ∃ w : Nat, T.2 36 n / 4 % 256 = w := ⟨(T.2 36 n / 4 % 256).toNat, by omega⟩
    rw [hww, show ((w : Int)).toNat = w by omega] at e4 e4' e5 e6 e7 e8 hw
    have hnow := snT_now q35
    have e35 : (((UnT T).1 35).toNat : Int) = T.2 36 n / 32768 := by omega
    have hat : T.2 36 n % 4 ≠ 1 → RIc p R N ((UnT T).1 4) ((UnT T).2 36) (qT (UnT T)) (snT (UnT T)) (gT (UnT T)) ((UnT T).1 35).toNat ((UnT T).1 37).toNat w ((UnT T).1 38) ((UnT T).1 40) := by
      intro hk
      rw [u37, u38, u4, u40, u35, u36, uq, ug, show ((n : Int)).toNat = n by omega]
      rw [u35, ug] at hnow
      exact ⟨e4', by omega, e6 hk, st, hnow⟩
    rw [M_goBackL, if_neg (show ¬ T.1 37 ≤ 0 by omega), en, hww]
    have eU : M_undo (T.2 36 n / 32768) (mi (mi T 37 (T.1 37 - 1)) 38 (T.2 36 n / 1024 % 32)) = UnT T := by unfold UnT; rw [en]
    rw [eU]
    by_cases k0 : T.2 36 n % 4 = 0
    · rw [if_pos k0]
      refine ⟨Or.inr rfl, fun _ => ⟨RI_39 hU.1 (hat (by omega)), ?_⟩, CfT_39 hU.1⟩
      show 376 * (501 - (UnT T).1 40) + 250 - 250 * stp (p 0 ((w : Int)).toNat) + 125 * nzE ((UnT T).2 36) ((UnT T).1 37).toNat + ((N : Int) - w) ≤ _
      rw [u40, u36, u37, show ((n : Int)).toNat = n by omega, nz, if_neg (by omega)]
      have := stp_nn (p 0 ((w : Int)).toNat)
      omega
    · rw [if_neg k0]
      by_cases k1 : T.2 36 n % 4 = 1
      · rw [if_pos k1]
        obtain ⟨w14, t0, t1, t2, t3⟩ := e8 k1
        have dO : dcp (p 0 w) = 0 := by rw [w14]; rfl
        have lp : LpT p R N w (UnT T) := by
          refine ⟨hU.1, hw, w14, ?_, ?_, hU.2.1⟩
          · rw [u37, u38, u4, u36, uq, ug, show ((n : Int)).toNat = n by omega]
            exact e4'
          · rw [u35, u40, ug]; omega
        have ps := Ps_pass (rg := gT (UnT T)) (pl := (UnT T).1 38) hp hw w14
        rw [ug, if_pos t2, u38] at ps
        have r := RI_passT hp lp (by rw [ug]; exact t0) (by rw [ug, u38]; exact t1) (by rw [ug, u37, u38, u40, ps]; omega)
        refine ⟨Or.inr rfl, fun _ => ⟨r.1, ?_⟩, r.1.1⟩
        rw [r.2, u36, u37, u40, show ((n : Int)).toNat = n by omega, nz, if_pos k1]
        omega
      · rw [if_neg k1]
        have w12 := e7 (by omega)
        obtain ⟨l0, ⟨l1, l2⟩, l3, l4, l5, l6, l7, l8⟩ := look_in hp hw w12
        rw [q9, show ((w : Int)).toNat = w by omega]
        by_cases k2 : p 1 w = 0
        · rw [if_pos k2, q10]
          have sB := (hp.1.2.2.2.2.2 w hw w12).2.2.2.1
          have hh := hat k1
          have dO : dcp (p 0 w) = 0 := by rw [w12]; rfl
          have cO : crp (p 0 w) = 0 := by rw [w12]; rfl
          have d1 := dcp_nn (p 0 ((p 2 w).toNat + 1))
          have c1 := crp_nn (p 0 ((p 2 w).toNat + 1))
          have mv := RI_move hp sB (by omega) l2 (Int.le_refl _) hh.1.2.2.1 (Int.le_refl _) (by omega) (by omega) hh
          have ei : p 2 w + 1 = (((p 2 w).toNat + 1 : Nat) : Int) := by omega
          rw [ei]
          refine ⟨Or.inr rfl, fun _ => ⟨RI_39 hU.1 mv, ?_⟩, CfT_39 hU.1⟩
          show 376 * (501 - (UnT T).1 40) + 250 - 250 * stp (p 0 ((((p 2 w).toNat + 1 : Nat) : Int)).toNat) + 125 * nzE ((UnT T).2 36) ((UnT T).1 37).toNat + ((N : Int) - (((p 2 w).toNat + 1 : Nat) : Int)) ≤ _
          rw [u40, u36, u37, show ((n : Int)).toNat = n by omega, nz, if_neg (by omega)]
          have := stp_nn (p 0 ((((p 2 w).toNat + 1 : Nat) : Int)).toNat)
          omega
        · rw [if_neg k2]
          obtain ⟨r1, r2, r3⟩ := GB_all hp n (UnT T) hU u37
          refine ⟨r1, fun y => ⟨(r2 y).1, ?_⟩, r3⟩
          have := (r2 y).2
          rw [u40, u36] at this
          rw [nz, if_neg k1]
          omega
/-- THE REFERENCE TRIES: it ends, and all its indices are right -/
def VR (p : Nat → Nat → Int) (R : Nat → Int) (N : Nat) (n : Nat) (T : MSt) : Prop := RI p R N T ∧ (T.1 41 = 0 → MU p N T ≤ n)
theorem VR_run {p : Nat → Nat → Int} {R : Nat → Int} {N : Nat} (hp : prR p R N) (n : Nat) (T : MSt) (h : VR p R N n T) : M_runOK (VR p R N) n T := by
  obtain ⟨hi, hm⟩ := h
  have hi' := hi
  obtain ⟨c, h39, hc⟩ := hi'
  have c' := c
  obtain ⟨q8, q9, q10, q11, q4, q6, q6', q3, q7, q34, q35, q37, q40, q41, q41', q33⟩ := c'
  have hN := hc.1.1
  have hN2 := hp.2.1
  have o := (hp.2.2.1 _ hN).1
  have v41 : 0 ≤ T.1 41 ∧ T.1 41 ≤ 1 := by rw [q41']; split <;> omega
  refine ⟨h39, by omega, by rw [q8]; omega, by rw [q8]; omega, v41.1, v41.2, fun h16 h0 => ?_⟩
  have oc := OC_order hp hi h0 (by rw [q8] at h16; exact h16)
  have hm0 := hm h0
  have mu1 : 1 ≤ MU p N T := by
    unfold MU
    have := stp_nn (p 0 (T.1 39).toNat)
    have := nzE_nn (x := T.2 36) (T.1 37).toNat
    omega
  refine ⟨n - 1, by omega, RI_orderOK hp hi h16, oc.1, fun y => ?_, fun y => ?_⟩
  · obtain ⟨r1, r2⟩ := oc.2.1 y
    exact ⟨r1, fun _ => by omega⟩
  · obtain ⟨r1, r2⟩ := oc.2.2 y
    have q37' : 0 ≤ (M_order T).2.1 37 := r1.1.2.2.2.2.2.2.2.2.2.2.2.1
    have g := GB_all hp ((M_order T).2.1 37).toNat (M_order T).2 r1 (by omega)
    refine ⟨RB_goBackOK hp r1, g.1, fun z => ?_⟩
    obtain ⟨s1, s2⟩ := g.2.1 z
    refine ⟨s1, fun _ => ?_⟩
    have s2' : MU p N (M_goBack (M_order T).2).2 ≤ 376 * (501 - (M_order T).2.1 40) + 250 + 125 * nzE ((M_order T).2.2 36) ((M_order T).2.1 37).toNat := s2
    omega
