theorem P38_search0 {a : Nat} {S : CSt} {M : MSt} {fr : Int} (h : COR a S M) (h0 : 0 ≤ fr) (hl : fr ≤ M.1 4) : P38 (M_search fr M).2 := by
  obtain ⟨-, -, ⟨⟨p, R, N, F, hpr, hpe, -⟩, -⟩, ⟨p', hcf'⟩, -⟩ := h
  have c := CfT_S (CfT_p hcf' hpe)
  show P38 (M_searchL fr 25 fr (M_searchS M)).2
  have e4 : (M_searchS M).1 4 = M.1 4 := rfl
  have e41 : (M_searchS M).1 41 = 0 := rfl
  rw [M_searchL, if_neg (show ¬ (M_searchS M).1 4 < fr by omega), if_pos e41]
  have t := P38_tries hpr c h0 (by omega)
  by_cases c3 : (M_tries fr (M_searchS M)).1 = 0
  · rw [if_pos c3]
    by_cases c4 : M_has 1 (M_tries fr (M_searchS M)).2 = 0
    · rw [if_pos c4]
      exact P38_searchL hpr 24 (fr + 1) _ (tries_CfT hpr c h0 (by omega)) (by omega) t
    · rw [if_neg c4]; exact t
  · rw [if_neg c3]; exact t
/-- what is written so far, in both -/
def DR (T : CSt) (U : MSt) : Prop := T.1 5 1 = U.1 49 ∧ 0 ≤ U.1 49 ∧ U.1 49 ≤ 200 ∧ (∀ j : Nat, (j : Int) < U.1 49 → T.1 16 j = U.2 48 j) ∧ (∀ j, 0 ≤ T.1 16 j ∧ T.1 16 j < 65536) ∧ (∀ j, 0 ≤ U.2 48 j ∧ U.2 48 j ≤ 126)
/-- the reference's row alone -/
def DU (U : MSt) : Prop := 0 ≤ U.1 49 ∧ U.1 49 ≤ 260 ∧ (∀ j, 0 ≤ U.2 48 j ∧ U.2 48 j ≤ 126)
/-- what writing leaves alone -/
def frW (U U' : MSt) : Prop := (∀ k, k ≠ 49 → U'.1 k = U.1 k) ∧ (∀ k, k ≠ 48 → U'.2 k = U.2 k)
theorem frW_refl (U : MSt) : frW U U := ⟨fun _ _ => rfl, fun _ _ => rfl⟩
theorem frW_trans {U U1 U2 : MSt} (h : frW U U1) (h' : frW U1 U2) : frW U U2 := ⟨fun k a => (h'.1 k a).trans (h.1 k a), fun k a => (h'.2 k a).trans (h.2 k a)⟩
theorem w_fr {x : Int} {U : MSt} : frW U (M_write x U) := by
  unfold M_write
  by_cases c : 260 ≤ U.1 49
  · rw [if_pos c]
    exact ⟨fun k hk => if_neg hk, fun _ _ => rfl⟩
  · rw [if_neg c]
    refine ⟨fun k hk => if_neg hk, fun k hk => ?_⟩
    show (if k = 48 then _ else U.2 k) = U.2 k
    rw [if_neg hk]
theorem w_DU {x : Int} {U : MSt} (h : DU U) (x0 : 0 ≤ x) (x1 : x ≤ 126) : DU (M_write x U) ∧ U.1 49 ≤ (M_write x U).1 49 := by
  obtain ⟨h1, h2, h3⟩ := h
  unfold M_write
  by_cases c : 260 ≤ U.1 49
  · rw [if_pos c, if_pos c]
    refine ⟨⟨by show 0 ≤ U.1 49 + 0; omega, by show U.1 49 + 0 ≤ 260; omega, h3⟩, by show U.1 49 ≤ U.1 49 + 0; omega⟩
  · rw [if_neg c, if_neg c]
    refine ⟨⟨by show 0 ≤ U.1 49 + 1; omega, by show U.1 49 + 1 ≤ 260; omega, fun j => ?_⟩, by show U.1 49 ≤ U.1 49 + 1; omega⟩
    show 0 ≤ zu (U.2 48) (U.1 49).toNat x j ∧ zu (U.2 48) (U.1 49).toNat x j ≤ 126
    by_cases e : j = (U.1 49).toNat
    · rw [e, zu_eq]; exact ⟨x0, x1⟩
    · rw [zu_ne e]; exact h3 j
/-- what a piece of writing is in both -/
def WO (U' : MSt) (r : CR) : Prop := (r.1 = 0 ∧ DR r.2.2 U') ∨ (r.1 = 1 ∧ 200 < U'.1 49 ∧ ∀ j, 0 ≤ r.2.2.1 16 j ∧ r.2.2.1 16 j < 65536)
theorem DR_DU {T : CSt} {U : MSt} (h : DR T U) : DU U := ⟨h.2.1, by have := h.2.2.1; omega, h.2.2.2.2.2⟩
theorem w_both {x : Int} {T : CSt} {U : MSt} (h : DR T U) (x0 : 0 ≤ x) (x1 : x ≤ 126) : WO (M_write x U) (K6_write x T) := by
  obtain ⟨h1, h2, h3, h4, h5, h6⟩ := h
  have l : ((cLen (11 + 5) : Nat) : Int) = 200 := rfl
  unfold K6_write K4_add
  rw [l, if_neg (show ¬ T.1 5 1 < 0 by omega)]
  by_cases c : T.1 5 1 < 200
  · rw [if_pos c, if_neg i10]
    left
    have e : M_write x U = mi (ma U 48 (U.1 49).toNat x) 49 (U.1 49 + 1) := by
      unfold M_write
      rw [if_neg (show ¬ 260 ≤ U.1 49 by omega), if_neg (show ¬ 260 ≤ U.1 49 by omega)]
    rw [e]
    have c16 : (ci (ci T (11 + 5) (T.1 5 1).toNat x) 5 1 (T.1 5 1 + 1)).1 16 = zu (T.1 16) (T.1 5 1).toNat x := rfl
    have u48 : (mi (ma U 48 (U.1 49).toNat x) 49 (U.1 49 + 1)).2 48 = zu (U.2 48) (U.1 49).toNat x := rfl
    refine ⟨rfl, by show T.1 5 1 + 1 = U.1 49 + 1; omega, by show 0 ≤ U.1 49 + 1; omega, by show U.1 49 + 1 ≤ 200; omega, fun j hj => ?_, fun j => ?_, fun j => ?_⟩
    · have hj' : (j : Int) < U.1 49 + 1 := hj
      show (ci (ci T (11 + 5) (T.1 5 1).toNat x) 5 1 (T.1 5 1 + 1)).1 16 j = _
      rw [c16, u48, show (T.1 5 1).toNat = (U.1 49).toNat by omega]
      by_cases e : j = (U.1 49).toNat
      · rw [e, zu_eq, zu_eq]
      · rw [zu_ne e, zu_ne e]; exact h4 j (by omega)
    · show 0 ≤ (ci (ci T (11 + 5) (T.1 5 1).toNat x) 5 1 (T.1 5 1 + 1)).1 16 j ∧ (ci (ci T (11 + 5) (T.1 5 1).toNat x) 5 1 (T.1 5 1 + 1)).1 16 j < 65536
      rw [c16]
      by_cases e : j = (T.1 5 1).toNat
      · rw [e, zu_eq]; omega
      · rw [zu_ne e]; exact h5 j
    · rw [u48]
      by_cases e : j = (U.1 49).toNat
      · rw [e, zu_eq]; exact ⟨x0, x1⟩
      · rw [zu_ne e]; exact h6 j
  · rw [if_neg c, if_pos rfl]
    right
    have e : M_write x U = mi (ma U 48 (U.1 49).toNat x) 49 (U.1 49 + 1) := by
      unfold M_write
      rw [if_neg (show ¬ 260 ≤ U.1 49 by omega), if_neg (show ¬ 260 ≤ U.1 49 by omega)]
    rw [e]
    exact ⟨rfl, by show 200 < U.1 49 + 1; omega, h5⟩
theorem wtL_fr {fr to : Int} : ∀ (n : Nat) (k : Int) (U : MSt), frW U (M_writeTextL fr to n k U)
  | 0, k, U => by rw [M_writeTextL]; exact frW_refl U
  | n + 1, k, U => by
    rw [M_writeTextL]
    by_cases c : to ≤ k
    · rw [if_pos c]; exact frW_refl U
    · rw [if_neg c]; exact frW_trans w_fr (wtL_fr n _ _)
theorem wtL_DU {fr to : Int} : ∀ (n : Nat) (k : Int) (U : MSt), DU U → (∀ j, 0 ≤ U.2 3 j ∧ U.2 3 j ≤ 126) → DU (M_writeTextL fr to n k U) ∧ U.1 49 ≤ (M_writeTextL fr to n k U).1 49
  | 0, k, U, h, ht => by rw [M_writeTextL]; exact ⟨h, Int.le_refl _⟩
  | n + 1, k, U, h, ht => by
    rw [M_writeTextL]
    by_cases c : to ≤ k
    · rw [if_pos c]; exact ⟨h, Int.le_refl _⟩
    · rw [if_neg c]
      obtain ⟨a, b⟩ := w_DU (x := U.2 3 k.toNat) h (ht _).1 (ht _).2
      obtain ⟨a', b'⟩ := wtL_DU (fr := fr) (to := to) n (k + 1) (M_write (U.2 3 k.toNat) U) a (by rw [w_fr.2 3 (by decide)]; exact ht)
      exact ⟨a', by omega⟩
theorem wt_DU {fr to : Int} {U : MSt} (h : DU U) (ht : ∀ j, 0 ≤ U.2 3 j ∧ U.2 3 j ≤ 126) : DU (M_writeText fr to U) ∧ U.1 49 ≤ (M_writeText fr to U).1 49 := wtL_DU _ _ _ h ht
theorem wt_fr {fr to : Int} {U : MSt} : frW U (M_writeText fr to U) := wtL_fr _ _ _
/-- the same text -/
def TX (T : CSt) (U : MSt) : Prop := T.1 3 1 = U.1 4 ∧ U.1 4 ≤ 24 ∧ (∀ j : Nat, (j : Int) < U.1 4 → T.1 14 j = U.2 3 j) ∧ (∀ j, 0 ≤ U.2 3 j ∧ U.2 3 j ≤ 126)
theorem TX_cg {T T' : CSt} {U U' : MSt} (h : TX T U) (ht : dK T T') (hu : frW U U') : TX T' U' := by
  unfold TX
  rw [ht.2 3 (by decide) (by decide), ht.2 14 (by decide) (by decide), hu.1 4 (by decide), hu.2 3 (by decide)]
  exact h
theorem wtL_both {fr to : Int} : ∀ (n : Nat) (k : Int) (T : CSt) (U : MSt), DR T U → TX T U → fV T → (k < to → 0 ≤ k) → to ≤ U.1 4 → WO (M_writeTextL fr to n k U) (K6_wtL to n k T)
  | 0, k, T, U, h, hx, hv, hk, ht => by rw [M_writeTextL, K6_wtL]; exact Or.inl ⟨rfl, h⟩
  | n + 1, k, T, U, h, hx, hv, hk, ht => by
    rw [M_writeTextL, K6_wtL]
    by_cases c : to ≤ k
    · rw [if_pos c, if_pos c]; exact Or.inl ⟨rfl, h⟩
    · rw [if_neg c, if_neg c]
      have k0 := hk (by omega)
      obtain ⟨x1, x2, x3, x4⟩ := hx
      have e : K4_at 3 k T = U.2 3 k.toNat := by
        have l : ((cLen (11 + 3) : Nat) : Int) = 24 := rfl
        unfold K4_at
        rw [if_neg (by omega), if_neg (by omega), l, if_neg (by omega)]
        exact x3 k.toNat (by omega)
      rw [e]
      have w := w_both (x := U.2 3 k.toNat) h (x4 _).1 (x4 _).2
      have R := K6_write_R (sg := U.2 3 k.toNat) hv
      have du := wtL_DU (fr := fr) (to := to) n (k + 1) (M_write (U.2 3 k.toNat) U) (w_DU (DR_DU h) (x4 _).1 (x4 _).2).1 (by rw [w_fr.2 3 (by decide)]; exact x4)
      generalize K6_write (U.2 3 k.toNat) T = r at *
      rcases w with ⟨w1, w2⟩ | ⟨w1, w2, w3⟩
      · have eb : gBd r (fun _ S_9 => K6_wtL to n (k + 1) S_9) = K6_wtL to n (k + 1) r.2.2 := if_pos w1
        rw [eb]
        exact wtL_both n (k + 1) r.2.2 (M_write (U.2 3 k.toNat) U) w2 (TX_cg ⟨x1, x2, x3, x4⟩ R.1 w_fr) R.2.1 (fun _ => by omega) (by rw [w_fr.1 4 (by decide)]; exact ht)
      · have eb : gBd r (fun _ S_9 => K6_wtL to n (k + 1) S_9) = (1, 0, r.2.2) := if_neg (by omega)
        rw [eb]
        exact Or.inr ⟨rfl, by omega, w3⟩
theorem wt_both {fr to : Int} {T : CSt} {U : MSt} (h : DR T U) (hx : TX T U) (hv : fV T) (hk : fr < to → 0 ≤ fr) (ht : to ≤ U.1 4) : WO (M_writeText fr to U) (K6_writeText fr to T) := wtL_both _ _ _ _ h hx hv hk ht
/-- what was found, in both -/
def FK (pl : Int) (T : CSt) (U : MSt) : Prop := T.1 35 10 = pl ∧ T.1 35 20 = U.1 38 ∧ (0 ≤ pl ∧ pl ≤ U.1 4) ∧ (0 ≤ U.1 38 ∧ U.1 38 ≤ U.1 4) ∧ (∀ g : Nat, 1 ≤ g → g ≤ 9 → T.1 35 (10 + g) = U.2 33 g ∧ T.1 35 (20 + g) = U.2 33 (10 + g) ∧ -1 ≤ U.2 33 g ∧ U.2 33 g ≤ U.1 4 ∧ -1 ≤ U.2 33 (10 + g) ∧ U.2 33 (10 + g) ≤ U.1 4 ∧ (U.2 33 g < U.2 33 (10 + g) → 0 ≤ U.2 33 g)) ∧ T.1 6 12 = U.1 12 ∧ (0 ≤ U.1 12 ∧ U.1 12 ≤ 9)
theorem FK_cg {pl : Int} {T T' : CSt} {U U' : MSt} (h : FK pl T U) (ht : dK T T') (hu : frW U U') : FK pl T' U' := by
  unfold FK
  rw [ht.2 35 (by decide) (by decide), ht.2 6 (by decide) (by decide), hu.1 4 (by decide), hu.1 38 (by decide), hu.1 12 (by decide), hu.2 33 (by decide)]
  exact h
theorem TY_cg {T T' : CSt} {U U' : MSt} (h : TYP T U) (ht : dK T T') (hu : frW U U') : TYP T' U' := by
  unfold TYP I_ty
  rw [ht.2 1 (by decide) (by decide), ht.2 12 (by decide) (by decide), hu.1 2 (by decide), hu.2 1 (by decide)]
  exact h
theorem tm_mono {pl : Int} : ∀ (n : Nat) (k : Int) (U : MSt), DU U → (∀ j, 0 ≤ U.2 3 j ∧ U.2 3 j ≤ 126) → (∀ j, 0 ≤ U.2 1 j ∧ U.2 1 j ≤ 126) → frW U (M_writeTemplateL pl n k U) ∧ DU (M_writeTemplateL pl n k U) ∧ U.1 49 ≤ (M_writeTemplateL pl n k U).1 49
  | 0, k, U, h, ht, hy => by rw [M_writeTemplateL]; exact ⟨frW_refl U, h, Int.le_refl _⟩
  | n + 1, k, U, h, ht, hy => by
    have go : ∀ (k' : Int) (U1 : MSt), frW U U1 → DU U1 → U.1 49 ≤ U1.1 49 → frW U (M_writeTemplateL pl n k' U1) ∧ DU (M_writeTemplateL pl n k' U1) ∧ U.1 49 ≤ (M_writeTemplateL pl n k' U1).1 49 := fun k' U1 a b c => by
      obtain ⟨x, y, z⟩ := tm_mono (pl := pl) n k' U1 b (by rw [a.2 3 (by decide)]; exact ht) (by rw [a.2 1 (by decide)]; exact hy)
      exact ⟨frW_trans a x, y, by omega⟩
    have w : ∀ (k' x : Int), 0 ≤ x → x ≤ 126 → frW U (M_writeTemplateL pl n k' (M_write x U)) ∧ DU (M_writeTemplateL pl n k' (M_write x U)) ∧ U.1 49 ≤ (M_writeTemplateL pl n k' (M_write x U)).1 49 := fun k' x x0 x1 => go k' _ w_fr (w_DU h x0 x1).1 (w_DU h x0 x1).2
    have t : ∀ (k' f g : Int), frW U (M_writeTemplateL pl n k' (M_writeText f g U)) ∧ DU (M_writeTemplateL pl n k' (M_writeText f g U)) ∧ U.1 49 ≤ (M_writeTemplateL pl n k' (M_writeText f g U)).1 49 := fun k' f g => go k' _ wt_fr (wt_DU h ht).1 (wt_DU h ht).2
    rw [M_writeTemplateL]
    by_cases c0 : U.1 2 ≤ k
    · rw [if_pos c0]; exact ⟨frW_refl U, h, Int.le_refl _⟩
    rw [if_neg c0]
    by_cases c1 : U.2 1 k.toNat = 36
    · rw [if_pos c1]
      generalize (if (U.1 2) ≤ (k + 1) then 0 else U.2 1 (k + 1).toNat : Int) = nx
      by_cases c2 : nx = 36
      · rw [if_pos c2]; exact w _ _ (by decide) (by decide)
      rw [if_neg c2]
      by_cases c3 : nx = 38
      · rw [if_pos c3]; exact t _ _ _
      rw [if_neg c3]
      by_cases c4 : nx - 48 < 1
      · rw [if_pos c4]; exact w _ _ (hy _).1 (hy _).2
      rw [if_neg c4]
      by_cases c5 : U.1 12 < nx - 48
      · rw [if_pos c5]; exact w _ _ (hy _).1 (hy _).2
      rw [if_neg c5]
      by_cases c6 : 9 < nx - 48
      · rw [if_pos c6]; exact w _ _ (hy _).1 (hy _).2
      rw [if_neg c6]; exact t _ _ _
    · rw [if_neg c1]; exact w _ _ (hy _).1 (hy _).2
theorem tm_both {pl : Int} : ∀ (n n' : Nat) (k i : Int) (T : CSt) (U : MSt), DR T U → TX T U → FK pl T U → TYP T U → fV T → 0 ≤ i → i ≤ k → (n : Int) + i = 40 → U.1 2 - k ≤ n' → WO (M_writeTemplateL pl n' k U) (K6_tmL n k i T)
  | 0, n', k, i, T, U, h, hx, hf, hy, hv, i0, hi, hn, hn' => by
    have l := hy.1.2.2.1
    rw [K6_tmL]
    have e : M_writeTemplateL pl n' k U = U := by
      cases n' with
      | zero => rw [M_writeTemplateL]
      | succ n' => rw [M_writeTemplateL, if_pos (by omega)]
    rw [e]
    exact Or.inl ⟨rfl, h⟩
  | n + 1, 0, k, i, T, U, h, hx, hf, hy, hv, i0, hi, hn, hn' => by
    have t1 := hy.1.1
    rw [M_writeTemplateL, K6_tmL, if_neg (by omega), if_pos (by omega)]
    exact Or.inl ⟨rfl, h⟩
  | n + 1, n' + 1, k, i, T, U, h, hx, hf, hy, hv, i0, hi, hn, hn' => by
    have hy' := hy
    obtain ⟨⟨t1, t2, t3, t4⟩, y1, y2⟩ := hy'
    have hx' := hx
    obtain ⟨x1, x2, x3, x4⟩ := hx'
    have hf' := hf
    obtain ⟨f1, f2, f3, f4, f5, f6, f7⟩ := hf'
    rw [K6_tmL, if_neg (show ¬ 40 ≤ i by omega), M_writeTemplateL]
    by_cases c0 : U.1 2 ≤ k
    · rw [if_pos c0, if_pos (show T.1 1 1 ≤ k by omega)]; exact Or.inl ⟨rfl, h⟩
    rw [if_neg c0, if_neg (show ¬ T.1 1 1 ≤ k by omega)]
    have l : ((cLen (11 + 1) : Nat) : Int) = 40 := rfl
    have a0 : K4_at 1 k T = U.2 1 k.toNat := by
      unfold K4_at
      rw [if_neg (by omega), if_neg (by omega), l, if_neg (by omega)]
      exact (t4 k.toNat (by omega)).1
    have a1 : K4_at 1 (k + 1) T = (if (U.1 2) ≤ (k + 1) then 0 else U.2 1 (k + 1).toNat : Int) := by
      unfold K4_at
      rw [if_neg (by omega)]
      by_cases c : U.1 2 ≤ k + 1
      · rw [if_pos c, if_pos (by omega)]
      · rw [if_neg c, if_neg (by omega), l, if_neg (by omega)]
        exact (t4 (k + 1).toNat (by omega)).1
    -- one part in both, and what comes behind it
    have go : ∀ (U1 : MSt) (r : CR) (v : Int), WO U1 r → fR T r → frW U U1 → DU U1 → 1 ≤ v → WO (M_writeTemplateL pl n' (k + v) U1) (gBd (gBd r (fun _ S => ((0, v, S) : CR))) (fun v_9 S_10 => K6_tmL n (k + v_9) (i + 1) S_10)) := fun U1 r v w R fu du v1 => by
      rcases w with ⟨w1, w2⟩ | ⟨w1, w2, w3⟩
      · have e1 : gBd r (fun _ S => ((0, v, S) : CR)) = (0, v, r.2.2) := if_pos w1
        rw [e1, bd_0]
        exact tm_both n n' (k + v) (i + 1) r.2.2 U1 w2 (TX_cg hx R.1 fu) (FK_cg hf R.1 fu) (TY_cg hy R.1 fu) R.2.1 (by omega) (by omega) (by omega) (by rw [fu.1 2 (by decide)]; omega)
      · have e1 : gBd r (fun _ S => ((0, v, S) : CR)) = (1, 0, r.2.2) := if_neg (by omega)
        have e2 : gBd ((1, 0, r.2.2) : CR) (fun v_9 S_10 => K6_tmL n (k + v_9) (i + 1) S_10) = (1, 0, r.2.2) := if_neg i10
        rw [e1, e2]
        have m := tm_mono (pl := pl) n' (k + v) U1 du (by rw [fu.2 3 (by decide)]; exact x4) (by rw [fu.2 1 (by decide)]; exact y2)
        exact Or.inr ⟨rfl, by omega, w3⟩
    have wr : ∀ (x v : Int), 0 ≤ x → x ≤ 126 → 1 ≤ v → WO (M_writeTemplateL pl n' (k + v) (M_write x U)) (gBd (gBd (K6_write x T) (fun _ S => ((0, v, S) : CR))) (fun v_9 S_10 => K6_tmL n (k + v_9) (i + 1) S_10)) := fun x v q0 q1 hv1 => go _ _ v (w_both h q0 q1) (K6_write_R hv) w_fr (w_DU (DR_DU h) q0 q1).1 hv1
    have tx : ∀ (f g v : Int), (f < g → 0 ≤ f) → g ≤ U.1 4 → 1 ≤ v → WO (M_writeTemplateL pl n' (k + v) (M_writeText f g U)) (gBd (gBd (K6_writeText f g T) (fun _ S => ((0, v, S) : CR))) (fun v_9 S_10 => K6_tmL n (k + v_9) (i + 1) S_10)) := fun f g v q0 q1 hv1 => go _ _ v (wt_both h hx hv q0 q1) (K6_writeText_R hv) wt_fr (wt_DU (DR_DU h) x4).1 hv1
    unfold K6_writePart
    rw [a0, a1]
    by_cases c1 : U.2 1 k.toNat = 36
    · rw [if_pos c1, if_pos c1, c1]
      generalize (if (U.1 2) ≤ (k + 1) then 0 else U.2 1 (k + 1).toNat : Int) = nx
      by_cases c2 : nx = 36
      · rw [if_pos c2, if_pos c2]; exact wr 36 2 (by decide) (by decide) (by decide)
      rw [if_neg c2, if_neg c2]
      by_cases c3 : nx = 38
      · rw [if_pos c3, if_pos c3]
        have e1 : K0_tookFrom 0 T = pl := f1
        have e2 : K0_tookTo 0 T = U.1 38 := f2
        rw [e1, e2]
        exact tx pl (U.1 38) 2 (fun _ => f3.1) f4.2 (by decide)
      rw [if_neg c3, if_neg c3]
      by_cases c4 : nx - 48 < 1
      · rw [if_pos c4, if_pos c4, show k + 2 + -1 = k + 1 by omega]; exact wr 36 1 (by decide) (by decide) (by decide)
      rw [if_neg c4, if_neg c4, f6]
      by_cases c5 : U.1 12 < nx - 48
      · rw [if_pos c5, if_pos c5, show k + 2 + -1 = k + 1 by omega]; exact wr 36 1 (by decide) (by decide) (by decide)
      rw [if_neg c5, if_neg c5, if_neg (show ¬ 9 < nx - 48 by omega)]
      obtain ⟨g1, g2, g3, g4, g5, g6, g7⟩ := f5 (nx - 48).toNat (by omega) (by omega)
      have e1 : K0_tookFrom (nx - 48) T = U.2 33 (nx - 48).toNat := by
        unfold K0_tookFrom K1_mark
        rw [if_neg (by omega), if_neg (by omega), show (10 + (nx - 48)).toNat = 10 + (nx - 48).toNat by omega]; exact g1
      have e2 : K0_tookTo (nx - 48) T = U.2 33 (10 + (nx - 48)).toNat := by
        unfold K0_tookTo K1_mark
        rw [if_neg (by omega), if_neg (by omega), show (20 + (nx - 48)).toNat = 20 + (nx - 48).toNat by omega, show (10 + (nx - 48)).toNat = 10 + (nx - 48).toNat by omega]; exact g2
      rw [e1, e2]
      have e3 : (10 + (nx - 48)).toNat = 10 + (nx - 48).toNat := by omega
      rw [e3]
      exact tx _ _ 2 g7 g6 (by decide)
    · rw [if_neg c1, if_neg c1, show k + 2 + -1 = k + 1 by omega]
      exact wr _ 1 (y2 _).1 (y2 _).2 (by decide)
