theorem patL_v (f : Int) : ∀ (n : Nat) (k : Int) (T : MSt), 0 ≤ k → (∀ j : Nat, (M_patL f n k T).2 13 j = if k ≤ (j : Int) ∧ (j : Int) < k + n then T.2 1 j else T.2 13 j) ∧ (∀ m, m ≠ 13 → (M_patL f n k T).2 m = T.2 m)
  | 0, k, T, hk => by
    rw [M_patL]
    exact ⟨fun j => by rw [if_neg (by omega)], fun _ _ => rfl⟩
  | n + 1, k, T, hk => by
    obtain ⟨a, b⟩ := patL_v f n (k + 1) (ma T 13 k.toNat (T.2 1 k.toNat)) (by omega)
    rw [M_patL]
    refine ⟨fun j => ?_, fun m hm => (b m hm).trans (if_neg hm)⟩
    rw [a j]
    have e1 : (ma T 13 k.toNat (T.2 1 k.toNat)).2 1 = T.2 1 := rfl
    have e2 : (ma T 13 k.toNat (T.2 1 k.toNat)).2 13 = zu (T.2 13) k.toNat (T.2 1 k.toNat) := rfl
    rw [e1, e2]
    by_cases c : k + 1 ≤ (j : Int) ∧ (j : Int) < k + 1 + n
    · rw [if_pos c, if_pos (by omega)]
    · rw [if_neg c]
      by_cases c2 : j = k.toNat
      · rw [c2, zu_eq, if_pos (by omega)]
      · rw [zu_ne c2, if_neg (by omega)]
theorem textL_v : ∀ (n : Nat) (k : Int) (T : MSt), 0 ≤ k → (∀ j : Nat, (M_textL n k T).2 3 j = if k ≤ (j : Int) ∧ (j : Int) < k + n then T.2 1 j else T.2 3 j) ∧ (∀ m, m ≠ 3 → (M_textL n k T).2 m = T.2 m)
  | 0, k, T, hk => by
    rw [M_textL]
    exact ⟨fun j => by rw [if_neg (by omega)], fun _ _ => rfl⟩
  | n + 1, k, T, hk => by
    obtain ⟨a, b⟩ := textL_v n (k + 1) (ma T 3 k.toNat (T.2 1 k.toNat)) (by omega)
    rw [M_textL]
    refine ⟨fun j => ?_, fun m hm => (b m hm).trans (if_neg hm)⟩
    rw [a j]
    have e1 : (ma T 3 k.toNat (T.2 1 k.toNat)).2 1 = T.2 1 := rfl
    have e2 : (ma T 3 k.toNat (T.2 1 k.toNat)).2 3 = zu (T.2 3) k.toNat (T.2 1 k.toNat) := rfl
    rw [e1, e2]
    by_cases c : k + 1 ≤ (j : Int) ∧ (j : Int) < k + 1 + n
    · rw [if_pos c, if_pos (by omega)]
    · rw [if_neg c]
      by_cases c2 : j = k.toNat
      · rw [c2, zu_eq, if_pos (by omega)]
      · rw [zu_ne c2, if_neg (by omega)]
theorem takeB_v (f : Int) : ∀ (n : Nat) (k : Int) (T : MSt), 0 ≤ k → (∀ j : Nat, (M_takeB f n k T).2 7 j = if k ≤ (j : Int) ∧ (j : Int) < k + n then T.2 13 j else T.2 7 j) ∧ (∀ m, m ≠ 7 → (M_takeB f n k T).2 m = T.2 m)
  | 0, k, T, hk => by
    rw [M_takeB]
    exact ⟨fun j => by rw [if_neg (by omega)], fun _ _ => rfl⟩
  | n + 1, k, T, hk => by
    obtain ⟨a, b⟩ := takeB_v f n (k + 1) (ma T 7 k.toNat (T.2 13 k.toNat)) (by omega)
    rw [M_takeB]
    refine ⟨fun j => ?_, fun m hm => (b m hm).trans (if_neg hm)⟩
    rw [a j]
    have e1 : (ma T 7 k.toNat (T.2 13 k.toNat)).2 13 = T.2 13 := rfl
    have e2 : (ma T 7 k.toNat (T.2 13 k.toNat)).2 7 = zu (T.2 7) k.toNat (T.2 13 k.toNat) := rfl
    rw [e1, e2]
    by_cases c : k + 1 ≤ (j : Int) ∧ (j : Int) < k + 1 + n
    · rw [if_pos c, if_pos (by omega)]
    · rw [if_neg c]
      by_cases c2 : j = k.toNat
      · rw [c2, zu_eq, if_pos (by omega)]
      · rw [zu_ne c2, if_neg (by omega)]
theorem takeA_8 (f : Int) : ∀ (n : Nat) (k : Int) (T : MSt), 0 ≤ k → (∀ j : Nat, (M_takeA f n k T).2 8 j = if k ≤ (j : Int) ∧ (j : Int) < k + n then T.2 15 j else T.2 8 j)
  | 0, k, T, hk => by
    rw [M_takeA]
    exact fun j => by rw [if_neg (by omega)]
  | n + 1, k, T, hk => by
    have a := takeA_8 f n (k + 1) (ma (ma (ma (ma T 8 k.toNat (T.2 15 k.toNat)) 9 k.toNat (T.2 16 k.toNat)) 10 k.toNat (T.2 17 k.toNat)) 11 k.toNat (T.2 18 k.toNat)) (by omega)
    rw [M_takeA]
    intro j
    rw [a j]
    have e1 : (ma (ma (ma (ma T 8 k.toNat (T.2 15 k.toNat)) 9 k.toNat (T.2 16 k.toNat)) 10 k.toNat (T.2 17 k.toNat)) 11 k.toNat (T.2 18 k.toNat)).2 15 = T.2 15 := rfl
    have e2 : (ma (ma (ma (ma T 8 k.toNat (T.2 15 k.toNat)) 9 k.toNat (T.2 16 k.toNat)) 10 k.toNat (T.2 17 k.toNat)) 11 k.toNat (T.2 18 k.toNat)).2 8 = zu (T.2 8) k.toNat (T.2 15 k.toNat) := rfl
    rw [e1, e2]
    by_cases c : k + 1 ≤ (j : Int) ∧ (j : Int) < k + 1 + n
    · rw [if_pos c, if_pos (by omega)]
    · rw [if_neg c]
      by_cases c2 : j = k.toNat
      · rw [c2, zu_eq, if_pos (by omega)]
      · rw [zu_ne c2, if_neg (by omega)]
theorem takeA_9 (f : Int) : ∀ (n : Nat) (k : Int) (T : MSt), 0 ≤ k → (∀ j : Nat, (M_takeA f n k T).2 9 j = if k ≤ (j : Int) ∧ (j : Int) < k + n then T.2 16 j else T.2 9 j)
  | 0, k, T, hk => by
    rw [M_takeA]
    exact fun j => by rw [if_neg (by omega)]
  | n + 1, k, T, hk => by
    have a := takeA_9 f n (k + 1) (ma (ma (ma (ma T 8 k.toNat (T.2 15 k.toNat)) 9 k.toNat (T.2 16 k.toNat)) 10 k.toNat (T.2 17 k.toNat)) 11 k.toNat (T.2 18 k.toNat)) (by omega)
    rw [M_takeA]
    intro j
    rw [a j]
    have e1 : (ma (ma (ma (ma T 8 k.toNat (T.2 15 k.toNat)) 9 k.toNat (T.2 16 k.toNat)) 10 k.toNat (T.2 17 k.toNat)) 11 k.toNat (T.2 18 k.toNat)).2 16 = T.2 16 := rfl
    have e2 : (ma (ma (ma (ma T 8 k.toNat (T.2 15 k.toNat)) 9 k.toNat (T.2 16 k.toNat)) 10 k.toNat (T.2 17 k.toNat)) 11 k.toNat (T.2 18 k.toNat)).2 9 = zu (T.2 9) k.toNat (T.2 16 k.toNat) := rfl
    rw [e1, e2]
    by_cases c : k + 1 ≤ (j : Int) ∧ (j : Int) < k + 1 + n
    · rw [if_pos c, if_pos (by omega)]
    · rw [if_neg c]
      by_cases c2 : j = k.toNat
      · rw [c2, zu_eq, if_pos (by omega)]
      · rw [zu_ne c2, if_neg (by omega)]
theorem takeA_10 (f : Int) : ∀ (n : Nat) (k : Int) (T : MSt), 0 ≤ k → (∀ j : Nat, (M_takeA f n k T).2 10 j = if k ≤ (j : Int) ∧ (j : Int) < k + n then T.2 17 j else T.2 10 j)
  | 0, k, T, hk => by
    rw [M_takeA]
    exact fun j => by rw [if_neg (by omega)]
  | n + 1, k, T, hk => by
    have a := takeA_10 f n (k + 1) (ma (ma (ma (ma T 8 k.toNat (T.2 15 k.toNat)) 9 k.toNat (T.2 16 k.toNat)) 10 k.toNat (T.2 17 k.toNat)) 11 k.toNat (T.2 18 k.toNat)) (by omega)
    rw [M_takeA]
    intro j
    rw [a j]
    have e1 : (ma (ma (ma (ma T 8 k.toNat (T.2 15 k.toNat)) 9 k.toNat (T.2 16 k.toNat)) 10 k.toNat (T.2 17 k.toNat)) 11 k.toNat (T.2 18 k.toNat)).2 17 = T.2 17 := rfl
    have e2 : (ma (ma (ma (ma T 8 k.toNat (T.2 15 k.toNat)) 9 k.toNat (T.2 16 k.toNat)) 10 k.toNat (T.2 17 k.toNat)) 11 k.toNat (T.2 18 k.toNat)).2 10 = zu (T.2 10) k.toNat (T.2 17 k.toNat) := rfl
    rw [e1, e2]
    by_cases c : k + 1 ≤ (j : Int) ∧ (j : Int) < k + 1 + n
    · rw [if_pos c, if_pos (by omega)]
    · rw [if_neg c]
      by_cases c2 : j = k.toNat
      · rw [c2, zu_eq, if_pos (by omega)]
      · rw [zu_ne c2, if_neg (by omega)]
theorem takeA_11 (f : Int) : ∀ (n : Nat) (k : Int) (T : MSt), 0 ≤ k → (∀ j : Nat, (M_takeA f n k T).2 11 j = if k ≤ (j : Int) ∧ (j : Int) < k + n then T.2 18 j else T.2 11 j)
  | 0, k, T, hk => by
    rw [M_takeA]
    exact fun j => by rw [if_neg (by omega)]
  | n + 1, k, T, hk => by
    have a := takeA_11 f n (k + 1) (ma (ma (ma (ma T 8 k.toNat (T.2 15 k.toNat)) 9 k.toNat (T.2 16 k.toNat)) 10 k.toNat (T.2 17 k.toNat)) 11 k.toNat (T.2 18 k.toNat)) (by omega)
    rw [M_takeA]
    intro j
    rw [a j]
    have e1 : (ma (ma (ma (ma T 8 k.toNat (T.2 15 k.toNat)) 9 k.toNat (T.2 16 k.toNat)) 10 k.toNat (T.2 17 k.toNat)) 11 k.toNat (T.2 18 k.toNat)).2 18 = T.2 18 := rfl
    have e2 : (ma (ma (ma (ma T 8 k.toNat (T.2 15 k.toNat)) 9 k.toNat (T.2 16 k.toNat)) 10 k.toNat (T.2 17 k.toNat)) 11 k.toNat (T.2 18 k.toNat)).2 11 = zu (T.2 11) k.toNat (T.2 18 k.toNat) := rfl
    rw [e1, e2]
    by_cases c : k + 1 ≤ (j : Int) ∧ (j : Int) < k + 1 + n
    · rw [if_pos c, if_pos (by omega)]
    · rw [if_neg c]
      by_cases c2 : j = k.toNat
      · rw [c2, zu_eq, if_pos (by omega)]
      · rw [zu_ne c2, if_neg (by omega)]
theorem takeA_o (f : Int) : ∀ (n : Nat) (k : Int) (T : MSt) (m : Nat), m < 8 ∨ 11 < m → (M_takeA f n k T).2 m = T.2 m
  | 0, k, T, m, hm => by rw [M_takeA]
  | n + 1, k, T, m, hm => by
    rw [M_takeA, takeA_o f n _ _ m hm]
    show (if m = 11 then _ else if m = 10 then _ else if m = 9 then _ else if m = 8 then _ else T.2 m) = T.2 m
    rw [if_neg (by omega), if_neg (by omega), if_neg (by omega), if_neg (by omega)]
/-- what is taken over -/
theorem take_v {f : Int} {T : MSt} (hc : 0 ≤ T.1 19) (hn : 0 ≤ T.1 14) : (∀ j : Nat, (M_take f T).2 8 j = if (j : Int) < T.1 19 then T.2 15 j else T.2 8 j) ∧ (∀ j : Nat, (M_take f T).2 9 j = if (j : Int) < T.1 19 then T.2 16 j else T.2 9 j) ∧ (∀ j : Nat, (M_take f T).2 10 j = if (j : Int) < T.1 19 then T.2 17 j else T.2 10 j) ∧ (∀ j : Nat, (M_take f T).2 11 j = if (j : Int) < T.1 19 then T.2 18 j else T.2 11 j) ∧ (∀ j : Nat, (M_take f T).2 7 j = if (j : Int) < T.1 14 then T.2 13 j else T.2 7 j) ∧ (∀ m, m < 7 ∨ 11 < m → (M_take f T).2 m = T.2 m) ∧ (M_take f T).1 12 = T.1 20 ∧ (M_take f T).1 6 = f ∧ (M_take f T).1 5 = 0 ∧ (M_take f T).1 42 = 0 ∧ (∀ m, m ≠ 12 → m ≠ 6 → m ≠ 5 → m ≠ 42 → (M_take f T).1 m = T.1 m) := by
  have b := takeB_v f (T.1 14).toNat 0 (M_takeA f (T.1 19).toNat 0 T) (Int.le_refl _)
  have cv : ∀ (j : Nat) (x y : Int) (N : Int), 0 ≤ N → (if (0 : Int) ≤ (j : Int) ∧ (j : Int) < 0 + ((N.toNat : Nat) : Int) then x else y) = if (j : Int) < N then x else y := fun j x y N hN => by
    by_cases c : (j : Int) < N
    · rw [if_pos c, if_pos (by omega)]
    · rw [if_neg c, if_neg (by omega)]
  refine ⟨fun j => ?_, fun j => ?_, fun j => ?_, fun j => ?_, fun j => ?_, fun m hm => ?_, rfl, rfl, rfl, rfl, fun m h1 h2 h3 h4 => ?_⟩
  · exact (congrFun (b.2 8 (by decide)) j).trans ((takeA_8 f _ 0 T (Int.le_refl _) j).trans (cv j _ _ _ hc))
  · exact (congrFun (b.2 9 (by decide)) j).trans ((takeA_9 f _ 0 T (Int.le_refl _) j).trans (cv j _ _ _ hc))
  · exact (congrFun (b.2 10 (by decide)) j).trans ((takeA_10 f _ 0 T (Int.le_refl _) j).trans (cv j _ _ _ hc))
  · exact (congrFun (b.2 11 (by decide)) j).trans ((takeA_11 f _ 0 T (Int.le_refl _) j).trans (cv j _ _ _ hc))
  · have q := b.1 j
    rw [takeA_o f _ _ _ 13 (by omega), takeA_o f _ _ _ 7 (by omega)] at q
    exact q.trans (cv j _ _ _ hn)
  · exact (b.2 m (by omega)).trans (takeA_o f _ _ _ m (by omega))
  · show (if m = 42 then 0 else if m = 5 then 0 else if m = 6 then f else if m = 12 then T.1 20 else (M_takeB f (T.1 14).toNat 0 (M_takeA f (T.1 19).toNat 0 T)).1 m) = T.1 m
    rw [if_neg h4, if_neg h3, if_neg h2, if_neg h1, M_takeB_1, M_takeA_1]
theorem inSetL_cg {T T' : MSt} {fr to x : Int} (h : ∀ k : Int, 0 ≤ k → k ≤ to → T'.2 7 k.toNat = T.2 7 k.toNat) : ∀ (n : Nat) (inn al k : Int), 0 ≤ k → M_inSetL fr to x T' n inn al k = M_inSetL fr to x T n inn al k
  | 0, inn, al, k, hk => by rw [M_inSetL, M_inSetL]
  | n + 1, inn, al, k, hk => by
    rw [M_inSetL, M_inSetL]
    by_cases c : to ≤ k
    · rw [if_pos c, if_pos c]
    rw [if_neg c, if_neg c, h k hk (by omega)]
    have e01 : (if ((if (T.2 7 k.toNat) = 92 then 1 else 0 : Int)) = 0 then 0 else 1 : Int) = 0 ∨ (if ((if (T.2 7 k.toNat) = 92 then 1 else 0 : Int)) = 0 then 0 else 1 : Int) = 1 := by (repeat' split) <;> omega
    generalize (if ((if (T.2 7 k.toNat) = 92 then 1 else 0 : Int)) = 0 then 0 else 1 : Int) = e at *
    rw [h (k + e) (by omega) (by omega)]
    have g : (if to ≤ ((k + e + 1) + 1) then 0 else (if (T'.2 7 (k + e + 1).toNat) = 45 then 1 else 0 : Int) : Int) = (if to ≤ ((k + e + 1) + 1) then 0 else (if (T.2 7 (k + e + 1).toNat) = 45 then 1 else 0 : Int) : Int) := by
      by_cases c1 : to ≤ k + e + 1 + 1
      · rw [if_pos c1, if_pos c1]
      · rw [if_neg c1, if_neg c1, h (k + e + 1) (by omega) (by omega)]
    rw [g]
    have g1 : to ≤ k + e + 1 + 1 → (if to ≤ ((k + e + 1) + 1) then 0 else (if (T.2 7 (k + e + 1).toNat) = 45 then 1 else 0 : Int) : Int) = 0 := fun y => if_pos y
    generalize (if to ≤ ((k + e + 1) + 1) then 0 else (if (T.2 7 (k + e + 1).toNat) = 45 then 1 else 0 : Int) : Int) = g0 at *
    have g2 : g0 = 0 → (if ((if al = 0 then 0 else (if (T.2 7 k.toNat) = 45 then 1 else 0 : Int) : Int)) = 0 then (if ((if ((if (T.2 7 k.toNat) = 92 then 1 else 0 : Int)) = 0 then 0 else (if (zb (M_isClass (T.2 7 (k + e).toNat))) = 0 then 0 else 1 : Int) : Int)) = 0 then g0 else 0 : Int) else 0 : Int) = 0 := fun y => by rw [y]; (repeat' split) <;> rfl
    generalize (if ((if al = 0 then 0 else (if (T.2 7 k.toNat) = 45 then 1 else 0 : Int) : Int)) = 0 then (if ((if ((if (T.2 7 k.toNat) = 92 then 1 else 0 : Int)) = 0 then 0 else (if (zb (M_isClass (T.2 7 (k + e).toNat))) = 0 then 0 else 1 : Int) : Int)) = 0 then g0 else 0 : Int) else 0 : Int) = al2 at *
    by_cases c2 : al2 = 0
    · rw [if_pos c2, if_pos c2]
      exact inSetL_cg h n _ _ _ (by omega)
    · rw [if_neg c2, if_neg c2]
      have c3 : ¬ to ≤ k + e + 1 + 1 := fun y => c2 (g2 (g1 y))
      rw [h (k + e + 1 + 1) (by omega) (by omega)]
      have e12 : (if (T.2 7 (k + e + 1 + 1).toNat) = 92 then 2 else 1 : Int) = 1 ∨ (if (T.2 7 (k + e + 1 + 1).toNat) = 92 then 2 else 1 : Int) = 2 := by split <;> omega
      generalize (if (T.2 7 (k + e + 1 + 1).toNat) = 92 then 2 else 1 : Int) = e2 at *
      rw [h (k + e + 1 + e2) (by omega) (by omega)]
      exact inSetL_cg h n _ _ _ (by omega)
theorem fits_cg {A B : MSt} {k x : Int} (e8 : A.2 8 k.toNat = B.2 8 k.toNat) (e9 : A.2 9 k.toNat = B.2 9 k.toNat) (e10 : A.2 10 k.toNat = B.2 10 k.toNat) (e6 : A.1 6 = B.1 6) (hop : 3 ≤ B.2 8 k.toNat ∧ B.2 8 k.toNat ≤ 6) (h7 : B.2 8 k.toNat = 6 → (∀ j : Int, 0 ≤ j → j ≤ B.2 10 k.toNat → A.2 7 j.toNat = B.2 7 j.toNat) ∧ 0 ≤ B.2 9 k.toNat) : M_fits k x A = M_fits k x B := by
  unfold M_fits
  rw [e8, e9, e10]
  by_cases c3 : B.2 8 k.toNat = 3
  · rw [if_pos c3, if_pos c3]
  rw [if_neg c3, if_neg c3]
  by_cases c4 : B.2 8 k.toNat = 4
  · rw [if_pos c4, if_pos c4]
    unfold M_has
    rw [e6]
  rw [if_neg c4, if_neg c4]
  by_cases c5 : B.2 8 k.toNat = 5
  · rw [if_pos c5, if_pos c5]
  rw [if_neg c5, if_neg c5]
  obtain ⟨q1, q2⟩ := h7 (by omega)
  unfold M_inSet
  exact inSetL_cg q1 _ _ _ _ q2
theorem fitR_cg {A B : MSt} {k x : Int} (e8 : A.2 8 k.toNat = B.2 8 k.toNat) (e9 : A.2 9 k.toNat = B.2 9 k.toNat) (e10 : A.2 10 k.toNat = B.2 10 k.toNat) (e11 : A.2 11 k.toNat = B.2 11 k.toNat) (e6 : A.1 6 = B.1 6) (hop : 3 ≤ B.2 8 k.toNat ∧ B.2 8 k.toNat ≤ 6) (h7 : B.2 8 k.toNat = 6 → (∀ j : Int, 0 ≤ j → j ≤ B.2 10 k.toNat → A.2 7 j.toNat = B.2 7 j.toNat) ∧ 0 ≤ B.2 9 k.toNat) : M_fitR k x A = M_fitR k x B := by
  unfold M_fitR
  rw [fits_cg e8 e9 e10 e6 hop h7, fits_cg e8 e9 e10 e6 hop h7, e8, e11]
  unfold M_has
  rw [e6]
theorem CERT_fit {p : Nat → Nat → Int} {F E : Nat → Nat} {fit fit' : Nat → Int → Int} {q : Nat → Nat → Int} {w : Nat → Nat → Int64} {b e : Nat} (h : CERT p F E fit q w b e) (hf : ∀ k z, b ≤ k → k < e → 3 ≤ p 0 k → p 0 k ≤ 6 → fit' k z = fit k z) : CERT p F E fit' q w b e := fun r x y => by
  obtain ⟨c1, c2, c3, c4, c5⟩ := h r x y
  refine ⟨c1, c2, c3, fun a b => ⟨(c4 a b).1, (c4 a b).2.1, fun z z1 z2 => ?_⟩, c5⟩
  rw [hf r z x y a b]
  exact (c4 a b).2.2 z z1 z2
/-- the programs of both -/
def PRG (M : MSt) (S : CSt) : Prop := ∃ (p : Nat → Nat → Int) (R : Nat → Int) (N : Nat) (F : Nat → Int), prR p R N ∧ (M.2 8 = p 0 ∧ M.2 9 = p 1 ∧ M.2 10 = p 2 ∧ M.2 11 = p 3) ∧ F 0 = 0 ∧ (∀ r, r < N → certR p F (fun r z => M_fitR r z M) S r) ∧ (∀ r, r < N → p 0 r = 11 → p 1 r ≤ M.1 12)
theorem TAKE_all {fl : Int} {T : MSt} {S S2 : CSt} (h : RDo fl T S) (hf : FNr T) (h14 : 0 ≤ T.1 14) (hG : rG 0 S) (s6 : S2.1 6 = S.1 7) (sq : ∀ j, j < 9 → S2.1 (17 + j) = S.1 (26 + j)) (sw : ∀ j, j < 9 → S2.2.1 (17 + j) = S.2.1 (26 + j)) : PRG (M_take fl T) S2 := by
  obtain ⟨F, E, R, n, h1, h2, h3, h4, h5, h6, h7, h8, h9, h10, h11, h12, h13⟩ := h
  obtain ⟨t8, t9, t10, t11, t7, to, t12, t6, -⟩ := take_v (f := fl) hf.1 h14
  generalize M_take fl T = M at *
  have pe : ∀ j k : Nat, j < 4 → k < n + 1 → (if j = 0 then M.2 8 k else if j = 1 then M.2 9 k else if j = 2 then M.2 10 k else M.2 11 k) = np T j k := fun j k hj hk => by
    have hj' : j = 0 ∨ j = 1 ∨ j = 2 ∨ j = 3 := by omega
    rcases hj' with y | y | y | y
    · rw [y, if_pos rfl, t8, if_pos (by omega)]; rfl
    · rw [y, if_neg (by decide), if_pos rfl, t9, if_pos (by omega)]; rfl
    · rw [y, if_neg (by decide), if_neg (by decide), if_pos rfl, t10, if_pos (by omega)]; rfl
    · rw [y, if_neg (by decide), if_neg (by decide), if_neg (by decide), t11, if_pos (by omega)]; rfl
  generalize hT2 : ((T.1, fun k => if k = 15 then M.2 8 else if k = 16 then M.2 9 else if k = 17 then M.2 10 else if k = 18 then M.2 11 else T.2 k) : MSt) = T2
  have n0 : np T2 0 = M.2 8 := by rw [← hT2]; rfl
  have n1 : np T2 1 = M.2 9 := by rw [← hT2]; rfl
  have n2 : np T2 2 = M.2 10 := by rw [← hT2]; rfl
  have n3 : np T2 3 = M.2 11 := by rw [← hT2]; rfl
  have n13 : T2.2 13 = T.2 13 := by rw [← hT2]; rfl
  have pn : ∀ j k : Nat, j < 4 → k < n + 1 → np T2 j k = np T j k := fun j k hj hk => by
    rw [← pe j k hj hk]
    have hj' : j = 0 ∨ j = 1 ∨ j = 2 ∨ j = 3 := by omega
    rcases hj' with y | y | y | y
    · rw [y, if_pos rfl, n0]
    · rw [y, if_neg (by decide), if_pos rfl, n1]
    · rw [y, if_neg (by decide), if_neg (by decide), if_pos rfl, n2]
    · rw [y, if_neg (by decide), if_neg (by decide), if_neg (by decide), n3]
  have sg : SEG fl T2 S F E R 0 n 0 (T.1 21) 0 (T.1 22) 0 (T.1 20) := SEG_cong (T := T) (S := S) (F := F) (E := E) (R := R) (Int.le_refl _) n13 (fun j k hj _ hk => pn j k hj (by omega)) (fun _ _ _ => rfl) (fun _ _ _ => rfl) (fun _ _ _ => rfl) (fun _ _ _ _ _ => rfl) (fun _ _ _ _ _ => rfl) (fun _ _ _ _ _ _ => rfl) h2
  obtain ⟨a1, a2, a3, a4, a5, a6, a7⟩ := sg
  have d0 : np T2 0 n = 16 := by rw [pn 0 n (by omega) (by omega)]; exact h3.1
  have d1 : np T2 1 n = 0 := by rw [pn 1 n (by omega) (by omega)]; exact h3.2.1
  have d2 : np T2 2 n = 0 := by rw [pn 2 n (by omega) (by omega)]; exact h3.2.2.1
  have d3 : np T2 3 n = 0 := by rw [pn 3 n (by omega) (by omega)]; exact h3.2.2.2
  refine ⟨np T2, R, n + 1, fun r => (F r : Int), prR_of a1 a2 a3 a4 h8.2 h9 (fun r hr => a5 r (by omega) hr) a6 h10.1 h10.2 ⟨d0, by omega, by omega, by omega, by omega, by omega, by omega⟩ h11, ⟨n0.symm, n1.symm, n2.symm, n3.symm⟩, by show (F 0 : Int) = 0; omega, ?_, fun r hr h11 => ?_⟩
  rotate_left
  · have hrn : r < n := by
      by_cases c : r = n
      · rw [c, d0] at h11; omega
      · omega
    obtain ⟨-, -, -, -, -, -, -, -, q11, -⟩ := a7 r (by omega) hrn
    obtain ⟨q1, q2, q3⟩ := q11 h11
    have le := CERT_le a7 (r := r + 1) (x := n) (by omega) (by omega) (Nat.le_refl _)
    have g := hG.1 (F r) (by omega) q1
    have q3' : S.1 28 (F r) = np T2 1 r := q3
    rw [t12]
    omega
  have c1 : CERT (np T2) F E (fun r z => M_fitR r z M) (cqR S) (cwR S) 0 n := by
    refine CERT_fit a7 (fun k z _ hk o3 o6 => ?_)
    show M_fitR k z M = M_fitR (k : Int) z (tkT fl T2)
    have ek : ((k : Int)).toNat = k := by omega
    have u8 : (tkT fl T2).2 8 = np T2 0 := rfl
    have u9 : (tkT fl T2).2 9 = np T2 1 := rfl
    have u10 : (tkT fl T2).2 10 = np T2 2 := rfl
    have u11 : (tkT fl T2).2 11 = np T2 3 := rfl
    have u7 : (tkT fl T2).2 7 = T2.2 13 := rfl
    have u6 : (tkT fl T2).1 6 = fl := rfl
    refine fitR_cg (by rw [u8, n0]) (by rw [u9, n1]) (by rw [u10, n2]) (by rw [u11, n3]) (by rw [u6, t6]) (by rw [u8, ek]; exact ⟨o3, o6⟩) (fun y => ?_)
    rw [u8, ek] at y
    have l6 := (a5 k (by omega) hk).2.1 o3 o6
    have bd : np T2 2 k < T.1 14 := by
      rw [pn 2 k (by omega) (by omega)]
      exact hf.2.2 k (by omega) (by rw [pn 0 k (by omega) (by omega)] at y; exact y)
    rw [u9, u10, ek, u7, n13]
    refine ⟨fun j j0 j1 => ?_, l6.1⟩
    rw [t7, if_pos (by omega)]
  have c2 : CERT (np T2) F E (fun r z => M_fitR r z M) (fun j => S2.1 (pA 6 j)) (fun j => S2.2.1 (pA 6 j)) 0 n := by
    refine CERT_cong a1 a2 (Int.le_refl _) (fun _ _ _ _ _ => rfl) (fun _ _ _ => rfl) (fun _ _ _ => rfl) (fun _ _ _ _ => rfl) (fun j k _ _ hj => ?_) (fun j k hj _ _ => ?_) (fun j c _ _ h5 h8 => ?_) c1
    · show S2.1 (17 + j) k = _
      rw [sq j (by omega)]; rfl
    · show S2.2.1 (17 + j) k = _
      rw [sw j (by omega)]; rfl
    · show S2.1 (17 + j) c = _
      rw [sq j (by omega)]; rfl
  refine certR_of a1 a2 c2 d0 (fun r hr => (a5 r (by omega) hr).1.2.2.1) (by rw [s6, h5]; omega) h6 ?_ (by rw [s6]; exact h8.1) h8.2
  show S2.1 (17 + 0) (F n) = 0
  rw [sq 0 (by omega)]
  exact h7
