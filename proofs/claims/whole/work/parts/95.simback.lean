theorem M_clr_40 : ∀ (n : Nat) (g : Int) (T : MSt), (M_clr n g T).1 40 = T.1 40
  | 0, _, _ => rfl
  | n + 1, g, T => by rw [M_clr, M_clr_40 n, M_put_i40, M_put_i40]
theorem M_pass_40 (k : Int) (T : MSt) : (M_pass k T).1 40 = T.1 40 := by
  show (M_clr _ _ _).1 40 = _
  rw [M_clr_40, M_put_i40, M_put_i40]
theorem UnT_4 (T : MSt) : (UnT T).1 40 = T.1 40 ∧ (UnT T).1 41 = T.1 41 := by
  unfold UnT
  rw [M_undo_i40, M_undo_i41]
  exact ⟨rfl, rfl⟩
theorem M_back_4 : ∀ (n : Nat) (T : MSt), (M_goBackL n T).2.1 40 = T.1 40 ∧ (M_goBackL n T).2.1 41 = T.1 41
  | 0, T => ⟨rfl, rfl⟩
  | n + 1, T => by
    have u := UnT_4 T
    have h1 : ∀ v, ((1, mi (UnT T) 39 v) : Int × MSt).2.1 40 = T.1 40 ∧ ((1, mi (UnT T) 39 v) : Int × MSt).2.1 41 = T.1 41 := fun v => u
    have h2 : ∀ v, ((1, M_pass v (UnT T)) : Int × MSt).2.1 40 = T.1 40 ∧ ((1, M_pass v (UnT T)) : Int × MSt).2.1 41 = T.1 41 := fun v => by
      show (M_pass v (UnT T)).1 40 = _ ∧ (M_pass v (UnT T)).1 41 = _
      rw [M_pass_40, M_pass_41]; exact u
    have h3 := M_back_4 n (UnT T)
    rw [u.1, u.2] at h3
    rw [M_goBackL]
    split
    · exact ⟨rfl, rfl⟩
    · split
      · exact h1 _
      · split
        · exact h2 _
        · split
          · exact h1 _
          · exact h3
theorem und_bd {e : Nat → Nat × Int} {j : Nat} {B : Int} : ∀ (c : Nat) (g : Nat → Int), (∀ i, i < c → (e i).2 ≤ B) → (∀ y, g y ≤ B) → ∀ y, und e j c g y ≤ B
  | 0, _, _, h => h
  | c + 1, g, h1, h2 => by
    rw [und]
    split
    · exact h2
    · refine und_bd c _ (fun i hi => h1 i (by omega)) (fun y => ?_)
      unfold zu
      split
      · exact h1 c (by omega)
      · exact h2 y
/-- what the class's going back leaves, when it has a choice left -/
theorem CB_back {a : Nat} {S : CSt} (h : CBd a S) (h3 : ¬ (S.1 11 3 < 3 ∨ ((S.2.2.2 36 : Nat) : Int) < S.1 11 3)) (b0 : 0 ≤ (K1_goBack S).2.1 11 5) (b1 : (K1_goBack S).2.1 11 5 ≤ 1000) (hm : ∀ y, (K1_goBack S).2.1 35 y ≤ 90000) : CBd a (ci (K1_goBack S).2 10 3 ((K1_goBack S).2.1 11 5)) := by
  obtain ⟨hF, hX, hB⟩ := h
  obtain ⟨hX1, hX2, x1, x2, x3, x4, x5, x6, x7, x8, x9, x10, x11⟩ := hX
  have sv := sV_goBack hX1
  have e : ∀ n, n ≠ 11 → n ≠ 35 → (K1_goBack S).2.1 n = S.1 n := fun n a b => K1_goBack_1 a b
  have pb : pB 6 (K1_goBack S).2 := pB_of (e 6 (by decide) (by decide)) (fun j hj => e _ (by unfold pA; omega) (by unfold pA; omega)) hX2
  have hF2 : cFx a 6 (K1_goBack S).2 := cFx_of (congrArg Prod.snd K1_goBack_2) hF
  refine ⟨hF2, ⟨sV_ci sv (by decide), pB_ci (by decide) (by decide) pb, ?_, ?_, ?_, b0, b1, ?_, ?_, ?_, ?_, ?_, hm⟩, hm, ?_⟩
  · show 0 ≤ (K1_goBack S).2.1 3 1
    rw [e 3 (by decide) (by decide)]; exact x1
  · show (K1_goBack S).2.1 3 1 ≤ 24
    rw [e 3 (by decide) (by decide)]; exact x2
  · show ∀ j, 0 ≤ (K1_goBack S).2.1 14 j ∧ (K1_goBack S).2.1 14 j < 65536
    rw [e 14 (by decide) (by decide)]; exact x3
  · show 0 ≤ (K1_goBack S).2.1 10 4
    rw [e 10 (by decide) (by decide)]; exact x6
  · show (K1_goBack S).2.1 10 4 ≤ 500
    rw [e 10 (by decide) (by decide)]; exact x7
  · show ∀ j, (K1_goBack S).2.1 18 j ≤ 1000
    rw [e 18 (by decide) (by decide)]; exact x8
  · show ∀ j, 0 ≤ (K1_goBack S).2.1 24 j
    rw [e 24 (by decide) (by decide)]; exact x9
  · show ∀ j, (K1_goBack S).2.1 25 j ≤ 9
    rw [e 25 (by decide) (by decide)]; exact x10
  · show ∀ j, (K1_goBack S).2.1 37 j ≤ 90000
    rw [e 37 (by decide) (by decide)]; exact hB.2
/-- both go back -/
def GO2 (a : Nat) (p : Nat → Nat → Int) (R : Nat → Int) (N : Nat) (F : Nat → Int) (S : CSt) (r : Int × MSt) : Prop :=
  (r.1 = 0 ∧ K1_goBack S = (-1, S)) ∨
  (r.1 = 1 ∧ ¬ (K1_goBack S).1 = -1 ∧ 0 ≤ (K1_goBack S).1 ∧ CBd a (ci (K1_goBack S).2 10 3 ((K1_goBack S).2.1 11 5)) ∧ (((K1_goBack S).1 = F (r.2.1 39).toNat ∧ LKd p F N r.2 (ci (K1_goBack S).2 10 3 ((K1_goBack S).2.1 11 5)) (r.2.1 39).toNat) ∨ PD p R N F r.2 (K1_goBack S).1 (ci (K1_goBack S).2 10 3 ((K1_goBack S).2.1 11 5))))
theorem GBsim {a : Nat} {p : Nat → Nat → Int} {R : Nat → Int} {N : Nat} {F : Nat → Int} {fit : Nat → Int → Int} {T1 : MSt} {S : CSt} (hp : prR p R N) (hB : CBd a S) (hS : SK p F fit N T1 S) : ∀ (n : Nat) (T : MSt), RB p R N T → T.1 37 = n → T.1 40 ≤ 500 → BKr p F N T S → GO2 a p R N F S (M_goBackL n T)
  | 0, T, h, hn, h40, hK => by
    left
    refine ⟨rfl, ?_⟩
    obtain ⟨-, h3, -⟩ := hK
    rw [hn] at h3
    have e : (phi p (T.2 36) ((0 : Nat) : Int).toNat : Int) = 0 := rfl
    rw [e] at h3
    rw [K1_goBack_v, if_pos (Or.inl (by omega))]
  | n + 1, T, h, hn, h40, hK => by
    have h' := h
    obtain ⟨c, h1, h2, h3, h4⟩ := h'
    obtain ⟨hU, u37, u38, u4, u40, u35, u36, uq, ug, u41, st, rs, es⟩ := UnT_all h (n := n) (by omega)
    have en2 : (T.1 37).toNat = n + 1 := by omega
    rw [en2] at h1
    obtain ⟨⟨e1, e2, e3, e4, e5, e6, e7, e8⟩, e9⟩ := h1.1 n (by omega)
    have en : (T.1 37 - 1).toNat = n := by omega
    have hN := hp.2.1
    have q9 := c.2.1
    have q10 := c.2.2.1
    have e4' := rs _ _ _ e4
    have q35 : 0 ≤ (UnT T).1 35 := hU.1.2.2.2.2.2.2.2.2.2.2.1
    obtain ⟨k4, k3, tc, kX, kL⟩ := hK
    rw [en2] at k3 kL
    have xm : ∀ m, m < n → 0 ≤ T.2 36 m → (T.2 36 m / 32768).toNat ≤ (T.2 36 n / 32768).toNat := fun m hm _ => by have := h1.2 m n (by omega) (by omega); omega
    rw [M_goBackL, if_neg (show ¬ T.1 37 ≤ 0 by omega), en]
    have eU : M_undo (T.2 36 n / 32768) (mi (mi T 37 (T.1 37 - 1)) 38 (T.2 36 n / 1024 % 32)) = UnT T := by unfold UnT; rw [en]
    rw [eU]
    by_cases hP : T.2 36 n % 4 = 2 ∧ p 1 (T.2 36 n / 4 % 256).toNat = 1
    · -- '(?=': the class has no such choice
      rw [if_neg (by omega), if_neg (by omega), q9, if_neg (by omega)]
      refine GBsim hp hB hS n (UnT T) hU u37 (by omega) ⟨by rw [u40]; exact k4, ?_, tc, kX, ?_⟩
      · rw [u36, u37, show ((n : Int)).toNat = n by omega]
        rw [phi, if_pos hP, Nat.add_zero] at k3
        exact k3
      · rw [u40, u36, uq, u37, show ((n : Int)).toNat = n by omega]
        exact LSt_cong h1 (Int.le_refl _) (by omega) (fun _ _ => rfl) (fun _ _ _ _ => rfl) (fun m hm b _ => es _ (xm m hm b)) (fun _ _ => rfl) (fun _ _ y => y) (fun _ _ _ _ _ => rfl) kL
    · rw [phi, if_neg hP] at k3
      obtain ⟨w, hww⟩ : ∃ w : Nat, T.2 36 n / 4 % 256 = w := ⟨(T.2 36 n / 4 % 256).toNat, by omega⟩
      have ew : (T.2 36 n / 4 % 256).toNat = w := by omega
      have ln := kL.1 n (by omega)
      rcases ln with ln | ⟨cc, y1, y2, y3, y4, y5⟩
      · exact absurd ln hP
      have tcb := kL.2.2 (phi p (T.2 36) n) (by rw [phi, if_neg hP]; omega)
      rw [y3] at tcb
      rw [ew] at e4 e4' e5 e6 e7 e8 y4 y5 hP
      have hw := e4.1
      obtain ⟨⟨fw0, fw1⟩, -⟩ := hS.1 w hw
      -- the class
      have len : S.1 11 3 ≤ ((S.2.2.2 36 : Nat) : Int) := hB.2.1.1.2.2.1
      have nb : ¬ (S.1 11 3 < 3 ∨ ((S.2.2.2 36 : Nat) : Int) < S.1 11 3) := by omega
      have g := K1_goBack_v (S := S)
      rw [if_neg nb, show (S.1 11 3 - 3).toNat = 3 * phi p (T.2 36) n by omega, show (S.1 11 3 - 1).toNat = 3 * phi p (T.2 36) n + 2 by omega, show (S.1 11 3 - 2).toNat = 3 * phi p (T.2 36) n + 1 by omega, y1, y2, y3] at g
      have cx0 : cX tc (ci S 11 3 (S.1 11 3 - 3)) := cX_of rfl rfl rfl kX
      obtain ⟨v1, v2, v3⟩ := K1_undo_s (j := cc) cx0 (by omega)
      have s0 : ∀ i, sC (ci S 11 3 (S.1 11 3 - 3)) i = sC S i := fun i => sC_of rfl rfl rfl i
      have f3 : (K1_undoDownTo (2 * (cc : Int)) (ci S 11 3 (S.1 11 3 - 3))).1 11 3 = S.1 11 3 - 3 := by
        rw [K1_undoDownTo_3 (by decide)]
        rfl
      have fo : ∀ m, m ≠ 11 → m ≠ 35 → (K1_undoDownTo (2 * (cc : Int)) (ci S 11 3 (S.1 11 3 - 3))).1 m = S.1 m := fun m z1 z2 => by
        rw [K1_undoDownTo_1 z1 z2, ci_ne z1]
      have eb : (K1_goBack S).2 = ci (K1_undoDownTo (2 * (cc : Int)) (ci S 11 3 (S.1 11 3 - 3))) 11 5 (T.2 36 n / 1024 % 32) := congrArg Prod.snd g
      have ev : (K1_goBack S).1 = wayL p F (T.2 36 n) := congrArg Prod.fst g
      generalize hS2 : K1_undoDownTo (2 * (cc : Int)) (ci S 11 3 (S.1 11 3 - 3)) = S2 at *
      have e115 : (K1_goBack S).2.1 11 5 = T.2 36 n / 1024 % 32 := by rw [eb, ci_eq, zu_eq]
      have e35 : (K1_goBack S).2.1 35 = sC S cc := by rw [eb, ci_ne (by decide), v1, s0]
      have cb : CBd a (ci (K1_goBack S).2 10 3 ((K1_goBack S).2.1 11 5)) := by
        refine CB_back hB nb (by rw [e115]; omega) (by rw [e115]; omega) ?_
        rw [e35, sC_def kX]
        exact und_bd _ _ (fun i _ => hB.2.2.2 _) hB.2.2.1
      have e37n : ((UnT T).1 37).toNat = n := by omega
      have base : LKd p F N (UnT T) (ci (K1_goBack S).2 10 3 ((K1_goBack S).2.1 11 5)) w := by
        rw [e115, eb]
        refine ⟨?_, ?_, ?_, cc, ?_, ?_, ?_, ?_⟩
        · rw [u38, ci_eq, zu_eq]
        · rw [u40, ci_eq, zu_ne (by decide), ci_ne (by decide), fo 10 (by decide) (by decide)]; exact k4
        · rw [u36, e37n, ci_ne (by decide), ci_eq, zu_ne (by decide), f3, k3]
          omega
        · exact cX_of (S := S2) rfl rfl rfl v2
        · rw [u36, uq, ug, ci_ne (by decide), ci_ne (by decide), v1, s0]
          exact y4
        · rw [u40, u36, uq, e37n, ci_ne (by decide), ci_ne (by decide), fo 36 (by decide) (by decide), show sC (ci (ci S2 11 5 (T.2 36 n / 1024 % 32)) 10 3 (T.2 36 n / 1024 % 32)) = sC S2 from funext (fun i => sC_of rfl rfl rfl i)]
          have lt : phi p (T.2 36) n < phi p (T.2 36) (n + 1) := by rw [phi, if_neg (by rw [ew]; exact hP)]; omega
          refine LSt_cong h1 (by split <;> omega) (by omega) (fun _ _ => rfl) (fun _ _ _ _ => rfl) (fun m hm b _ => es _ (xm m hm b)) (fun _ _ => rfl) (fun e he _ => ?_) (fun e c2 he h2c _ => ?_) kL
          · have := kL.2.1 e (phi p (T.2 36) n) (by omega) lt
            omega
          · have := kL.2.1 e (phi p (T.2 36) n) (by omega) lt
            rw [v3 c2 (by omega), s0]
        · rw [u35, u40]
          omega
      have nm : ∀ v : Int, 0 ≤ v → ¬ v = -1 := fun v hv => by omega
      rw [hww]
      right
      by_cases q0 : T.2 36 n % 4 = 0
      · rw [if_pos q0]
        have evv : (K1_goBack S).1 = F w := by rw [ev]; unfold wayL; rw [if_pos q0, ew]
        refine ⟨rfl, by rw [evv]; exact nm _ fw0, by rw [evv]; exact fw0, cb, Or.inl ⟨?_, ?_⟩⟩
        · rw [evv]
          show F w = F ((w : Int)).toNat
          rw [show ((w : Int)).toNat = w by omega]
        · show LKd p F N (mi (UnT T) 39 w) _ ((w : Int)).toNat
          rw [show ((w : Int)).toNat = w by omega]
          exact LKd_cong39 base
      · rw [if_neg q0]
        by_cases q1 : T.2 36 n % 4 = 1
        · rw [if_pos q1]
          obtain ⟨w14, t0, t1, t2, t3⟩ := e8 q1
          obtain ⟨-, -, -, -, -, -, -, -, -, l9, -⟩ := loop_in hp hw w14
          obtain ⟨⟨fe0, fe1⟩, -⟩ := hS.1 (enL p w) l9
          have evv : (K1_goBack S).1 = F (enL p w) + 1 := by rw [ev]; unfold wayL; rw [if_neg q0, if_pos q1, ew]
          have dO : dcp (p 0 w) = 0 := by rw [w14]; rfl
          refine ⟨rfl, by rw [evv]; exact nm _ (by omega), by rw [evv]; omega, cb, Or.inr ⟨w, UnT T, ⟨hU.1, hw, w14, ?_, ?_, hU.2.1⟩, by rw [ug]; exact t0, by rw [ug, u38]; exact t1, rfl, evv, base, by omega⟩⟩
          · rw [e37n, u38, u4, u36, uq, ug]
            exact e4'
          · rw [u35, u40, ug]; omega
        · rw [if_neg q1]
          have w12 := e7 (by omega)
          obtain ⟨l0, ⟨l1, l2⟩, l3, l4, l5, l6, l7, l8⟩ := look_in hp hw w12
          obtain ⟨⟨fe0, fe1⟩, -⟩ := hS.1 _ l2
          have k2 : p 1 w = 0 := by
            rcases l8 with z | z
            · exact z
            · exact absurd ⟨by omega, z⟩ hP
          rw [q9, show ((w : Int)).toNat = w by omega, if_pos k2, q10]
          have sB := (hp.1.2.2.2.2.2 w hw w12).2.2.2.1
          have evv : (K1_goBack S).1 = F ((p 2 w).toNat + 1) := by rw [ev]; unfold wayL; rw [if_neg q0, if_neg q1, ew]
          have e39 : (p 2 w + 1).toNat = (p 2 w).toNat + 1 := by omega
          refine ⟨rfl, by rw [evv]; exact nm _ fe0, by rw [evv]; exact fe0, cb, Or.inl ⟨?_, ?_⟩⟩
          · rw [evv]
            show F ((p 2 w).toNat + 1) = F (p 2 w + 1).toNat
            rw [e39]
          · show LKd p F N (mi (UnT T) 39 (p 2 w + 1)) _ (p 2 w + 1).toNat
            rw [e39]
            exact LKd_cong39 (LKd_go hU.2.1 sB (by omega) base)
