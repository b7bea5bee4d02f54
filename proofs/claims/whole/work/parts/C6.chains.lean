/-- a chain through a row: the places of gs, each smaller than the one before and than m -/
def CH (a : Nat → Int) (m : Nat) : List Nat → Int → Prop
  | [], v => v = -1
  | g :: gs, v => v = (g : Int) ∧ g < m ∧ CH a g gs (a g)
theorem CH_mono {a : Nat → Int} {m m' : Nat} (hm : m ≤ m') : ∀ {gs : List Nat} {v : Int}, CH a m gs v → CH a m' gs v
  | [], v, h => h
  | g :: gs, v, h => ⟨h.1, by have := h.2.1; omega, h.2.2⟩
theorem CH_mem {a : Nat → Int} : ∀ {gs : List Nat} {m : Nat} {v : Int}, CH a m gs v → ∀ x, x ∈ gs → x < m
  | [], m, v, _, x, hx => absurd hx (by simp)
  | g :: gs, m, v, h, x, hx => by
    rcases List.mem_cons.mp hx with y | y
    · rw [y]; exact h.2.1
    · have := CH_mem h.2.2 x y
      have := h.2.1
      omega
theorem CH_len {a : Nat → Int} : ∀ {gs : List Nat} {m : Nat} {v : Int}, CH a m gs v → gs.length ≤ m
  | [], m, v, _ => Nat.zero_le _
  | g :: gs, m, v, h => by
    have := CH_len h.2.2
    have := h.2.1
    show gs.length + 1 ≤ m
    omega
theorem CH_cong {a a' : Nat → Int} : ∀ {gs : List Nat} {m : Nat} {v : Int}, (∀ x, x ∈ gs → a' x = a x) → CH a m gs v → CH a' m gs v
  | [], m, v, _, h => h
  | g :: gs, m, v, hc, h => ⟨h.1, h.2.1, by rw [hc g (List.mem_cons_self ..)]; exact CH_cong (fun x hx => hc x (List.mem_cons_of_mem _ hx)) h.2.2⟩
theorem CH_lt {a : Nat → Int} {gs : List Nat} {m : Nat} {v : Int} (h : CH a m gs v) : v < m ∧ -1 ≤ v := by
  cases gs with
  | nil => have : v = -1 := h; omega
  | cons g gs => have h1 := h.1; have h2 := h.2.1; omega
/-- the reference's aiming of a chain -/
theorem aimN_CH : ∀ (gs : List Nat) (n m : Nat) (go : Int) (T : MSt), CH (T.2 16) m gs go → gs.length ≤ n → (aimN n go T).2 16 = fun k => if k ∈ gs then T.1 19 else T.2 16 k
  | [], n, m, go, T, h, hn => by
    have e : go = -1 := h
    have : aimN n go T = T := by
      cases n with
      | zero => rw [aimN]
      | succ n => rw [aimN, if_pos (by omega)]
    rw [this]
    funext k
    simp
  | g :: gs, 0, m, go, T, h, hn => absurd hn (by simp)
  | g :: gs, n + 1, m, go, T, h, hn => by
    obtain ⟨e, h1, h2⟩ := h
    have en : go.toNat = g := by omega
    have e16 : (ma T 16 g (T.1 19)).2 16 = zu (T.2 16) g (T.1 19) := rfl
    rw [aimN, if_neg (by omega), en]
    have hne : ∀ x, x ∈ gs → x ≠ g := fun x hx => by have := CH_mem h2 x hx; omega
    have hc : CH ((ma T 16 g (T.1 19)).2 16) g gs (T.2 16 g) := by
      rw [e16]
      exact CH_cong (fun x hx => zu_ne (hne x hx)) h2
    rw [aimN_CH gs n g (T.2 16 g) (ma T 16 g (T.1 19)) hc (by simp at hn; omega), e16]
    funext k
    show (if k ∈ gs then T.1 19 else zu (T.2 16) g (T.1 19) k) = _
    by_cases c : k ∈ gs
    · rw [if_pos c, if_pos (List.mem_cons_of_mem _ c)]
    · rw [if_neg c]
      by_cases c2 : k = g
      · rw [c2, zu_eq, if_pos (List.mem_cons_self ..)]
      · rw [zu_ne c2, if_neg (fun y => (List.mem_cons.mp y).elim c2 c)]
/-- the class's aiming of a chain -/
theorem chain_CH {am : Int} : ∀ (js : List Nat) (n m : Nat) (j i : Int) (S : CSt), CH (S.1 27) m js j → (m : Int) ≤ S.1 7 5 → S.1 7 5 ≤ 96 → js.length ≤ n → 0 ≤ i → i + js.length ≤ 96 → ((K2_aimChainL 7 am n j i S).1 27 = fun k => if k ∈ js then am else S.1 27 k) ∧ (∀ n', n' ≠ 27 → (K2_aimChainL 7 am n j i S).1 n' = S.1 n') ∧ (K2_aimChainL 7 am n j i S).2 = S.2
  | [], n, m, j, i, S, h, hm, h96, hn, hi0, hi => by
    have e : j = -1 := h
    have : K2_aimChainL 7 am n j i S = S := by
      cases n with
      | zero => rw [K2_aimChainL]
      | succ n =>
        rw [K2_aimChainL]
        by_cases c : 96 ≤ i
        · rw [if_pos c]
        · rw [if_neg c, if_pos e]
    rw [this]
    exact ⟨by funext k; simp, fun _ _ => rfl, rfl⟩
  | g :: gs, 0, m, j, i, S, h, hm, h96, hn, hi0, hi => absurd hn (by simp)
  | g :: gs, n + 1, m, j, i, S, h, hm, h96, hn, hi0, hi => by
    obtain ⟨e, h1, h2⟩ := h
    have hl : (g :: gs).length = gs.length + 1 := rfl
    rw [hl] at hi hn
    have en : j.toNat = g := by omega
    have i1 : ¬ K2_isInstruction 7 j S = 0 := by
      unfold K2_isInstruction
      rw [if_neg (by omega), if_neg (by omega), if_neg (by omega)]
      decide
    have ea : K2_aim 7 j S = S.1 27 g := by
      unfold K2_aim
      rw [if_neg i1, en]
      rfl
    have eb : K2_aimAt 7 j am S = ci S 27 g am := by
      unfold K2_aimAt
      rw [if_neg i1, en]
      rfl
    rw [K2_aimChainL, if_neg (by omega), if_neg (by omega), ea, eb]
    have hne : ∀ x, x ∈ gs → x ≠ g := fun x hx => by have := CH_mem h2 x hx; omega
    have hc : CH ((ci S 27 g am).1 27) g gs (S.1 27 g) := by
      rw [ci_eq]
      exact CH_cong (fun x hx => zu_ne (hne x hx)) h2
    have e7 : (ci S 27 g am).1 7 5 = S.1 7 5 := by rw [ci_ne (by decide)]
    obtain ⟨r1, r2, r3⟩ := chain_CH gs n g (S.1 27 g) (i + 1) (ci S 27 g am) hc (by rw [e7]; omega) (by rw [e7]; exact h96) (by omega) (by omega) (by omega)
    refine ⟨?_, fun n' hn' => (r2 n' hn').trans (ci_ne hn'), r3⟩
    rw [r1, ci_eq]
    funext k
    show (if k ∈ gs then am else zu (S.1 27) g am k) = _
    by_cases c : k ∈ gs
    · rw [if_pos c, if_pos (List.mem_cons_of_mem _ c)]
    · rw [if_neg c]
      by_cases c2 : k = g
      · rw [c2, zu_eq, if_pos (List.mem_cons_self ..)]
      · rw [zu_ne c2, if_neg (fun y => (List.mem_cons.mp y).elim c2 c)]
/-- a body of the reference whose last alternative has ended, all its jumps aimed -/
def clo (T : MSt) : MSt := aimN 220 (T.1 19) (ma (M_emit 2 (T.2 29 (T.1 32 - 1).toNat) 0 0 T) 29 (T.1 32 - 1).toNat (T.1 19))
theorem closeB_clo (T : MSt) : M_closeBody T = closeF (T.1 32 - 1) (clo T) := by
  unfold M_closeBody clo
  rw [closeL_F]
theorem clo_o (T : MSt) : (clo T).1 19 = T.1 19 + 1 ∧ (∀ k, k ≠ 19 → (clo T).1 k = T.1 k) ∧ (∀ k, k < 15 ∨ (18 < k ∧ k ≠ 29) → (clo T).2 k = T.2 k) ∧ (∀ i : Nat, i ≠ (T.1 32 - 1).toNat → (clo T).2 29 i = T.2 29 i) := by
  obtain ⟨a, b⟩ := aimN_1 220 (T.1 19) (ma (M_emit 2 (T.2 29 (T.1 32 - 1).toNat) 0 0 T) 29 (T.1 32 - 1).toNat (T.1 19))
  have f1 := frC_emit (T := T) (w := 2) (x := T.2 29 (T.1 32 - 1).toNat) (y := 0) (z := 0)
  refine ⟨?_, fun k hk => ?_, fun k hk => ?_, fun i hi => ?_⟩
  · show (aimN 220 _ _).1 19 = _
    rw [a]; rfl
  · show (aimN 220 _ _).1 k = _
    rw [a]
    show (if k = 19 then _ else T.1 k) = T.1 k
    rw [if_neg hk]
  · show (aimN 220 _ _).2 k = _
    rw [b k (by omega)]
    show (if k = 29 then _ else (M_emit 2 (T.2 29 (T.1 32 - 1).toNat) 0 0 T).2 k) = _
    rw [if_neg (by omega)]
    by_cases c30 : k = 30
    · subst c30; rfl
    · exact f1.2 k (by omega)
  · show (aimN 220 _ _).2 29 i = _
    rw [b 29 (by decide)]
    show zu ((M_emit 2 (T.2 29 (T.1 32 - 1).toNat) 0 0 T).2 29) (T.1 32 - 1).toNat (T.1 19) i = _
    rw [zu_ne hi, f1.2 29 (by omega)]
theorem clo_np {T : MSt} {gs : List Nat} {m : Nat} (h0 : 0 ≤ T.1 19) (hm : (m : Int) ≤ T.1 19) (hc : CH (T.2 16) m gs (T.2 29 (T.1 32 - 1).toNat)) (hm2 : m < 219) :
    (∀ j k : Nat, j < 4 → k ≠ (T.1 19).toNat → ¬ (j = 1 ∧ k ∈ gs) → np (clo T) j k = np T j k) ∧ (∀ x, x ∈ gs → np (clo T) 1 x = T.1 19 + 1) ∧ (np (clo T) 0 (T.1 19).toNat = 2 ∧ np (clo T) 1 (T.1 19).toNat = T.1 19 + 1 ∧ np (clo T) 2 (T.1 19).toNat = 0 ∧ np (clo T) 3 (T.1 19).toNat = 0) := by
  obtain ⟨a, b⟩ := aimN_1 220 (T.1 19) (ma (M_emit 2 (T.2 29 (T.1 32 - 1).toNat) 0 0 T) 29 (T.1 32 - 1).toNat (T.1 19))
  have e16 : (ma (M_emit 2 (T.2 29 (T.1 32 - 1).toNat) 0 0 T) 29 (T.1 32 - 1).toNat (T.1 19)).2 16 = zu (T.2 16) (T.1 19).toNat (T.2 29 (T.1 32 - 1).toNat) := rfl
  have e19 : (ma (M_emit 2 (T.2 29 (T.1 32 - 1).toNat) 0 0 T) 29 (T.1 32 - 1).toNat (T.1 19)).1 19 = T.1 19 + 1 := rfl
  have hne : ∀ x, x ∈ gs → x ≠ (T.1 19).toNat := fun x hx => by have := CH_mem hc x hx; omega
  have hch : CH ((ma (M_emit 2 (T.2 29 (T.1 32 - 1).toNat) 0 0 T) 29 (T.1 32 - 1).toNat (T.1 19)).2 16) ((T.1 19).toNat + 1) ((T.1 19).toNat :: gs) (T.1 19) := by
    refine ⟨by omega, by omega, ?_⟩
    rw [e16, zu_eq]
    exact CH_mono (by omega) (CH_cong (fun x hx => zu_ne (hne x hx)) hc)
  have r := aimN_CH ((T.1 19).toNat :: gs) 220 ((T.1 19).toNat + 1) (T.1 19) _ hch (by have := CH_len hc; show gs.length + 1 ≤ 220; omega)
  rw [e16, e19] at r
  have c16 : ∀ k, np (clo T) 1 k = (if k ∈ (T.1 19).toNat :: gs then T.1 19 + 1 else zu (T.2 16) (T.1 19).toNat (T.2 29 (T.1 32 - 1).toNat) k) := fun k => congrFun r k
  have co : ∀ j k : Nat, j < 4 → j ≠ 1 → np (clo T) j k = np (M_emit 2 (T.2 29 (T.1 32 - 1).toNat) 0 0 T) j k := fun j k hj h1 => by
    show (aimN 220 _ _).2 (15 + j) k = _
    rw [b (15 + j) (by omega)]
    show (if 15 + j = 29 then _ else (M_emit 2 (T.2 29 (T.1 32 - 1).toNat) 0 0 T).2 (15 + j)) k = _
    rw [if_neg (by omega)]
    rfl
  have e0 := np_emit0 (w := 2) (x := T.2 29 (T.1 32 - 1).toNat) (y := 0) (z := 0) (T := T)
  refine ⟨fun j k hj hk hn => ?_, fun x hx => ?_, ?_, ?_, ?_, ?_⟩
  · by_cases c1 : j = 1
    · subst c1
      rw [c16, if_neg, zu_ne hk]
      · rfl
      · intro y
        rcases List.mem_cons.mp y with z | z
        · exact hk z
        · exact hn ⟨rfl, z⟩
    · rw [co j k hj c1, np_emit hk]
  · rw [c16, if_pos (List.mem_cons_of_mem _ hx)]
  · rw [co 0 _ (by omega) (by omega)]; exact e0.1
  · rw [c16, if_pos (List.mem_cons_self ..)]
  · rw [co 2 _ (by omega) (by omega)]; exact e0.2.2.1
  · rw [co 3 _ (by omega) (by omega)]; exact e0.2.2.2
