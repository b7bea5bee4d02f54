theorem small_other (x z : Int) : K0_small x = K0_small z ↔ x = z ∨ M_other x = z := by
  unfold K0_small M_other
  (repeat' split) <;> omega
theorem K1_mk {i : Int} {S : CSt} (h0 : 0 ≤ i) (h1 : i < 90) : K1_mark i S = S.1 35 i.toNat := by
  unfold K1_mark
  rw [if_neg (by omega), if_neg (by omega)]
theorem K0_ref_eq {i : Int} {S : CSt} : K0_passReference i S = if S.1 10 4 < 500 then (if K1_mark (10 + K2_number 6 i S) S = -1 then (0, i + 1, ci S 10 4 (S.1 10 4 + 1)) else K0_prL i (K1_mark (10 + K2_number 6 i S) S) (K1_mark (20 + K2_number 6 i S) S) (K1_mark (20 + K2_number 6 i S) S - K1_mark (10 + K2_number 6 i S) S).toNat (K1_mark (10 + K2_number 6 i S) S) (ci S 10 4 (S.1 10 4 + 1))) else (1, 0, S) := by
  have e : K2_number 6 i (ci S 10 4 (S.1 10 4 + 1)) = K2_number 6 i S := (mK_prog (mK.c10 (k := 4) (v := S.1 10 4 + 1) (S := S))).2.2.1 i
  have e1 : ∀ g, K1_mark g (ci S 10 4 (S.1 10 4 + 1)) = K1_mark g S := fun g => rfl
  unfold K0_passReference K0_tookFrom K0_tookTo
  rw [e, e1, e1]
  unfold K0_countStep
  by_cases c : S.1 10 4 < 500
  · rw [if_pos c, if_pos c, if_pos rfl]
  · rw [if_neg c, if_neg c, if_neg (show ¬ (1 : Int) = 0 by decide)]
theorem prL_ok {i bg en : Int} {T : CSt} : ∀ (n : Nat) (k : Int), en - k ≤ n → (∀ j, k ≤ j → j < en → ¬ K0_isSame (K4_at 3 j T) (K4_at 3 (T.1 10 3 + j - bg) T) T = 0) → K0_prL i bg en n k T = (0, i + 1, ci T 10 3 (T.1 10 3 + (en - bg)))
  | 0, k, _, _ => by rw [K0_prL]
  | n + 1, k, hn, h => by
    rw [K0_prL]
    by_cases c : en ≤ k
    · rw [if_pos c]
    · rw [if_neg c, if_neg (h k (by omega) (by omega)), prL_ok n (k + 1) (by omega) (fun j a b => h j (by omega) b)]
theorem prL_no {i bg en : Int} {T : CSt} : ∀ (n : Nat) (k : Int), en - k ≤ n → (∃ j, k ≤ j ∧ j < en ∧ K0_isSame (K4_at 3 j T) (K4_at 3 (T.1 10 3 + j - bg) T) T = 0) → K0_prL i bg en n k T = (0, -1, T)
  | 0, k, hn, ⟨j, a, b, _⟩ => by omega
  | n + 1, k, hn, ⟨j, a, b, d⟩ => by
    rw [K0_prL, if_neg (by omega)]
    by_cases c : K0_isSame (K4_at 3 k T) (K4_at 3 (T.1 10 3 + k - bg) T) T = 0
    · rw [if_pos c]
    · rw [if_neg c]
      refine prL_no n (k + 1) (by omega) ⟨j, ?_, b, d⟩
      by_cases e : j = k
      · subst e; exact absurd d c
      · omega
theorem sameL_ok {g fr n3 : Int} {T : MSt} : ∀ (n : Nat) (k : Int), n3 - k ≤ n → (∀ j, k ≤ j → j < n3 → T.2 3 (fr + j).toNat = T.2 3 (T.1 38 + j).toNat ∨ (¬ M_has 4 T = 0 ∧ M_other (T.2 3 (fr + j).toNat) = T.2 3 (T.1 38 + j).toNat)) → M_isSameL g fr n3 T n 1 k = (1, mi T 38 (T.1 38 + n3))
  | 0, k, _, _ => rfl
  | n + 1, k, hn, h => by
    rw [M_isSameL]
    by_cases c : n3 ≤ k
    · rw [if_pos c]; rfl
    · rw [if_neg c, if_neg (show ¬ (1 : Int) = 0 by decide)]
      have e : (if T.2 3 (fr + k).toNat = T.2 3 (T.1 38 + k).toNat then 1 else (if M_has 4 T = 0 then 0 else (if M_other (T.2 3 (fr + k).toNat) = T.2 3 (T.1 38 + k).toNat then 1 else 0 : Int) : Int) : Int) = 1 := by
        rcases h k (by omega) (by omega) with e | ⟨e1, e2⟩
        · rw [if_pos e]
        · rw [if_neg e1, if_pos e2]; split <;> rfl
      rw [e]
      exact sameL_ok n (k + 1) (by omega) (fun j a b => h j (by omega) b)
theorem sameL_0 {g fr n3 : Int} {T : MSt} : ∀ (n : Nat) (k : Int), M_isSameL g fr n3 T n 0 k = (0, T)
  | 0, k => rfl
  | n + 1, k => by
    rw [M_isSameL]
    by_cases c : n3 ≤ k
    · rw [if_pos c]; rfl
    · rw [if_neg c]
      exact sameL_0 n (k + 1)
theorem sameL_no {g fr n3 : Int} {T : MSt} : ∀ (n : Nat) (k : Int), n3 - k ≤ n → (∃ j, k ≤ j ∧ j < n3 ∧ ¬ (T.2 3 (fr + j).toNat = T.2 3 (T.1 38 + j).toNat ∨ (¬ M_has 4 T = 0 ∧ M_other (T.2 3 (fr + j).toNat) = T.2 3 (T.1 38 + j).toNat))) → M_isSameL g fr n3 T n 1 k = (0, T)
  | 0, k, hn, ⟨j, a, b, _⟩ => by omega
  | n + 1, k, hn, ⟨j, a, b, d⟩ => by
    rw [M_isSameL, if_neg (show ¬ n3 ≤ k by omega), if_neg (show ¬ (1 : Int) = 0 by decide)]
    by_cases c : T.2 3 (fr + k).toNat = T.2 3 (T.1 38 + k).toNat ∨ (¬ M_has 4 T = 0 ∧ M_other (T.2 3 (fr + k).toNat) = T.2 3 (T.1 38 + k).toNat)
    · have e : (if T.2 3 (fr + k).toNat = T.2 3 (T.1 38 + k).toNat then 1 else (if M_has 4 T = 0 then 0 else (if M_other (T.2 3 (fr + k).toNat) = T.2 3 (T.1 38 + k).toNat then 1 else 0 : Int) : Int) : Int) = 1 := by
        rcases c with e | ⟨e1, e2⟩
        · rw [if_pos e]
        · rw [if_neg e1, if_pos e2]; split <;> rfl
      rw [e]
      refine sameL_no n (k + 1) (by omega) ⟨j, ?_, b, d⟩
      by_cases e : j = k
      · subst e; exact absurd c d
      · omega
    · have e : (if T.2 3 (fr + k).toNat = T.2 3 (T.1 38 + k).toNat then 1 else (if M_has 4 T = 0 then 0 else (if M_other (T.2 3 (fr + k).toNat) = T.2 3 (T.1 38 + k).toNat then 1 else 0 : Int) : Int) : Int) = 0 := by
        rw [if_neg (fun y => c (Or.inl y))]
        by_cases e1 : M_has 4 T = 0
        · rw [if_pos e1]
        · rw [if_neg e1, if_neg (fun y => c (Or.inr ⟨e1, y⟩))]
      rw [e]
      exact sameL_0 n (k + 1)
theorem isSame_iff {p : Nat → Nat → Int} {F : Nat → Int} {fit : Nat → Int → Int} {N : Nat} {T : MSt} {S : CSt} (h : SK p F fit N T S) (x z : Int) : ¬ K0_isSame x z S = 0 ↔ (x = z ∨ (¬ M_has 4 T = 0 ∧ M_other x = z)) := by
  unfold K0_isSame
  rw [has_eq h]
  by_cases e : x = z
  · rw [if_pos e]; exact ⟨fun _ => Or.inl e, fun _ => by decide⟩
  · rw [if_neg e]
    by_cases e1 : M_has 4 T = 0
    · rw [if_pos e1]
      exact ⟨fun y => absurd rfl y, fun y => by rcases y with y | y; exact absurd y e; exact absurd e1 y.1⟩
    · rw [if_neg e1]
      by_cases e2 : K0_small x = K0_small z
      · rw [if_pos e2]
        refine ⟨fun _ => ?_, fun _ => by decide⟩
        rcases (small_other x z).mp e2 with y | y
        · exact absurd y e
        · exact Or.inr ⟨e1, y⟩
      · rw [if_neg e2]
        refine ⟨fun y => absurd rfl y, fun y => ?_⟩
        rcases y with y | y
        · exact absurd y e
        · exact absurd ((small_other x z).mpr (Or.inr y.2)) e2
theorem SO_same {a : Nat} {p : Nat → Nat → Int} {R : Nat → Int} {N : Nat} {F : Nat → Int} {fit : Nat → Int → Int} {T : MSt} {S : CSt} (hp : prR p R N) (h : RI p R N T) (h0 : T.1 41 = 0) (hB : CBd a S) (hS : SK p F fit N T S) (hL : LKd p F N T S (T.1 39).toNat) (hop : p 0 (T.1 39).toNat = 7) : SO a p R N F (F (T.1 39).toNat) S (M_order T) := by
  have hh := h
  obtain ⟨c, h39, hc⟩ := hh
  obtain ⟨q8, q9, q10, q11, q4, -⟩ := c
  have hN := hc.1.1
  have g := (hp.2.2.1 _ hN).2.2.2.1 (by omega) (by omega)
  have g6 := (hp.2.2.1 _ hN).2.2.2.2.2.2.1 hop
  obtain ⟨k4, fn, nu⟩ := (hS.1 _ hN).2.2.2.2.1 hop
  have pl0 := hc.1.2.1
  have pl1 := hc.1.2.2.1
  have l1 := hL.1
  have l2 := hL.2.1
  have t1 := hS.2.2.1
  have hLL := hL
  obtain ⟨-, -, -, tc, -, ⟨⟨mg, -⟩, -⟩, -⟩ := hL
  obtain ⟨m1, m2, -⟩ := mg (p 1 (T.1 39).toNat).toNat (by omega) (by omega)
  have b4 := hc.1.2.2.2.2.1 (p 1 (T.1 39).toNat).toNat (by omega) (by omega)
  have b3 := hc.1.2.2.2.1 (p 1 (T.1 39).toNat).toNat (by omega)
  have eM : M_order T = M_isSame (p 1 (T.1 39).toNat) (M_step (mi T 39 (T.1 39 + 1))) := by
    unfold M_order
    rw [q8, hop, ← q9]
    rfl
  have k1 : K1_mark (10 + K2_number 6 (F (T.1 39).toNat) S) S = gT T (p 1 (T.1 39).toNat).toNat := by
    rw [nu, K1_mk (by omega) (by omega), show (10 + p 1 (T.1 39).toNat).toNat = 10 + (p 1 (T.1 39).toNat).toNat by omega]
    exact m1
  have k2 : K1_mark (20 + K2_number 6 (F (T.1 39).toNat) S) S = gT T (10 + (p 1 (T.1 39).toNat).toNat) := by
    rw [nu, K1_mk (by omega) (by omega), show (20 + p 1 (T.1 39).toNat).toNat = 20 + (p 1 (T.1 39).toNat).toNat by omega]
    exact m2
  have x1 : (M_step (mi T 39 (T.1 39 + 1))).2 33 (p 1 (T.1 39).toNat).toNat = gT T (p 1 (T.1 39).toNat).toNat := (gT_at (by omega)).symm
  have x2 : (M_step (mi T 39 (T.1 39 + 1))).2 33 (10 + p 1 (T.1 39).toNat).toNat = gT T (10 + (p 1 (T.1 39).toNat).toNat) := by
    rw [show (10 + p 1 (T.1 39).toNat).toNat = 10 + (p 1 (T.1 39).toNat).toNat by omega]
    exact (gT_at (by omega)).symm
  rw [eM]
  have hsm : SK p F fit N T (ci S 10 4 (S.1 10 4 + 1)) := SK_cong (frM_refl T) mK.c10 hS
  refine SO_st hp h h0 hB hS hLL g.2 g.1 fn (fun e5 => ⟨?_, ?_⟩) (fun e5 => ?_)
  · rw [coo_4 k4, K0_ref_eq, if_neg (by omega)]; rfl
  · rcases M_isSame_by (p 1 (T.1 39).toNat) (M_step (mi T 39 (T.1 39 + 1))) with e | ⟨-, e⟩ | ⟨-, -, e⟩
    · exact Or.inl e
    · refine Or.inr ⟨T.1 38, e.trans ?_⟩
      refine Prod.ext rfl ?_
      refine Prod.ext ?_ rfl
      funext j
      show _ = if j = 38 then T.1 38 else (M_step (mi T 39 (T.1 39 + 1))).1 j
      split
      · rename_i e; rw [e]; rfl
      · rfl
    · exact Or.inr ⟨_, e⟩
  · have hlt : S.1 10 4 < 500 := by omega
    rw [coo_4 k4, K0_ref_eq, if_pos hlt, k1, k2]
    unfold M_isSame
    rw [x1, x2]
    generalize hfr : gT T (p 1 (T.1 39).toNat).toNat = fr at *
    generalize hto : gT T (10 + (p 1 (T.1 39).toNat).toNat) = to at *
    show (cw (if fr = -1 then _ else _) = _ ∧ (if 0 ≤ fr then (if T.1 38 + (to - fr) ≤ T.1 4 then _ else _) else _) = _) ∨ _
    by_cases f1 : fr = -1
    · right
      refine ⟨T.1 38, pl0, by omega, ?_, ?_⟩
      · rw [if_pos f1, cw_0]
        refine Prod.ext rfl (Prod.ext rfl ?_)
        refine Prod.ext ?_ rfl
        funext n
        show _ = if n = 10 then zu ((ci S 10 4 (S.1 10 4 + 1)).1 10) 3 (T.1 38) else (ci S 10 4 (S.1 10 4 + 1)).1 n
        split
        · rename_i e
          rw [e]
          funext j
          unfold zu
          split
          · rename_i e2; rw [e2]; exact l1
          · rfl
        · rfl
      · rw [if_neg (by omega)]
        refine Prod.ext rfl ?_
        refine Prod.ext ?_ rfl
        funext j
        show _ = if j = 38 then T.1 38 else (M_step (mi T 39 (T.1 39 + 1))).1 j
        split
        · rename_i e; rw [e]; rfl
        · rfl
    · rw [if_neg f1, if_pos (show 0 ≤ fr by omega)]
      have txt : ∀ i : Int, 0 ≤ i → i < T.1 4 → K4_at 3 i (ci S 10 4 (S.1 10 4 + 1)) = T.2 3 i.toNat ∧ 32 ≤ T.2 3 i.toNat ∧ T.2 3 i.toNat ≤ 126 := fun i a b => text_eq hsm q4 a b
      have eS : (ci S 10 4 (S.1 10 4 + 1)).1 10 3 = T.1 38 := l1
      by_cases c1 : T.1 38 + (to - fr) ≤ T.1 4
      · rw [if_pos c1]
        by_cases c2 : ∀ j, 0 ≤ j → j < to - fr → T.2 3 (fr + j).toNat = T.2 3 (T.1 38 + j).toNat ∨ (¬ M_has 4 T = 0 ∧ M_other (T.2 3 (fr + j).toNat) = T.2 3 (T.1 38 + j).toNat)
        · right
          refine ⟨T.1 38 + (to - fr), by omega, by omega, ?_, (if_pos (show (0 : Int) ≤ fr by omega)).trans ((if_pos c1).trans (sameL_ok (T := M_step (mi T 39 (T.1 39 + 1))) (to - fr).toNat 0 (by omega) c2))⟩
          rw [prL_ok (to - fr).toNat fr (by omega) (fun j a b => ?_), eS, cw_0]
          have := c2 (j - fr) (by omega) (by omega)
          rw [show fr + (j - fr) = j by omega, show T.1 38 + (j - fr) = T.1 38 + j - fr by omega] at this
          rw [eS, (txt j (by omega) (by omega)).1, (txt (T.1 38 + j - fr) (by omega) (by omega)).1]
          exact (isSame_iff hsm _ _).mpr this
        · left
          obtain ⟨j, hj⟩ := Classical.not_forall.mp c2
          obtain ⟨j0, hj⟩ := Classical.not_imp.mp hj
          obtain ⟨j1, hj⟩ := Classical.not_imp.mp hj
          refine ⟨?_, sameL_no (T := M_step (mi T 39 (T.1 39 + 1))) (to - fr).toNat 0 (by omega) ⟨j, j0, j1, hj⟩⟩
          rw [prL_no (to - fr).toNat fr (by omega) ⟨fr + j, by omega, by omega, ?_⟩, cw_0]
          rw [eS, show T.1 38 + (fr + j) - fr = T.1 38 + j by omega, (txt (fr + j) (by omega) (by omega)).1, (txt (T.1 38 + j) (by omega) (by omega)).1]
          exact Decidable.byContradiction (fun y => hj ((isSame_iff hsm _ _).mp y))
      · rw [if_neg c1]
        left
        refine ⟨?_, rfl⟩
        rw [prL_no (to - fr).toNat fr (by omega) ⟨to - 1, by omega, by omega, ?_⟩, cw_0]
        rw [eS, (txt (to - 1) (by omega) (by omega)).1, K4_out (by rw [show (ci S 10 4 (S.1 10 4 + 1)).1 3 1 = S.1 3 1 from rfl, t1]; omega)]
        have x := (txt (to - 1) (by omega) (by omega)).2
        refine Decidable.byContradiction (fun y => ?_)
        rcases (isSame_iff hsm _ _).mp y with z | ⟨-, z⟩
        · omega
        · unfold M_other at z
          revert z
          (repeat' split) <;> omega
