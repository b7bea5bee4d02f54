/-- what writing leaves of what both machines need -/
theorem COR_cg {a : Nat} {T T' : CSt} {U U' : MSt} (h : COR a T U) (ht : ∀ n, n ≠ 0 → n ≠ 1 → n ≠ 5 → n ≠ 16 → T'.1 n = T.1 n) (ht2 : T'.2 = T.2) (hu : ∀ k, k ≠ 0 → k ≠ 40 → k ≠ 41 → k ≠ 49 → U'.1 k = U.1 k) (hu2 : ∀ k, k ≠ 48 → U'.2 k = U.2 k) (hc : I_cf U') : COR a T' U' := by
  obtain ⟨⟨b, hb, hF⟩, h1, ⟨h2, h2'⟩, -, h4, h5, h6, h7, h8⟩ := h
  refine ⟨⟨b, hb, cFx_of (by rw [ht2]) hF⟩, ?_, ⟨PRG_cg h2 ⟨hu 6 (by decide) (by decide) (by decide) (by decide), hu 12 (by decide) (by decide) (by decide) (by decide), fun k x y => hu2 k (by omega)⟩ (pgE_o (fun n hn => ht n (by omega) (by omega) (by omega) (by omega)) (by rw [ht2])), ?_⟩, hc, ?_, pB_of (ht 6 (by decide) (by decide) (by decide) (by decide)) (fun j hj => ht _ (by unfold pA; omega) (by unfold pA; omega) (by unfold pA; omega) (by unfold pA; omega)) h5, mkB_of (ht 35 (by decide) (by decide) (by decide) (by decide)) (ht 37 (by decide) (by decide) (by decide) (by decide)) h6, ?_, ?_⟩
  · unfold I_tx
    rw [ht 3 (by decide) (by decide) (by decide) (by decide), ht 14 (by decide) (by decide) (by decide) (by decide), hu 4 (by decide) (by decide) (by decide) (by decide), hu2 3 (by decide)]; exact h1
  · rw [ht 6 (by decide) (by decide) (by decide) (by decide), hu 6 (by decide) (by decide) (by decide) (by decide), hu 12 (by decide) (by decide) (by decide) (by decide)]; exact h2'
  · unfold sV
    rw [ht 35 (by decide) (by decide) (by decide) (by decide), ht 11 (by decide) (by decide) (by decide) (by decide), ht2, ht 36 (by decide) (by decide) (by decide) (by decide), ht 37 (by decide) (by decide) (by decide) (by decide)]; exact h4
  · rw [ht 18 (by decide) (by decide) (by decide) (by decide), ht 24 (by decide) (by decide) (by decide) (by decide), ht 25 (by decide) (by decide) (by decide) (by decide)]; exact h7
  · rw [ht 10 (by decide) (by decide) (by decide) (by decide)]; exact h8
theorem cf_w {U U' : MSt} (h : I_cf U) (hu : frW U U') : I_cf U' := by
  obtain ⟨p, h⟩ := h
  refine ⟨p, ?_⟩
  unfold CfT
  rw [hu.2 8 (by decide), hu.2 9 (by decide), hu.2 10 (by decide), hu.2 11 (by decide), hu.2 3 (by decide), hu.2 7 (by decide), hu.2 34 (by decide), hu.2 33 (by decide), hu.1 4 (by decide), hu.1 6 (by decide), hu.1 35 (by decide), hu.1 37 (by decide), hu.1 40 (by decide), hu.1 41 (by decide)]
  exact h
theorem COR_w {a : Nat} {T T' : CSt} {U U' : MSt} (h : COR a T U) (ht : dK T T') (hu : frW U U') : COR a T' U' := COR_cg h (fun n _ _ x y => ht.2 n x y) ht.1 (fun k _ _ _ x => hu.1 k x) hu.2 (cf_w h.2.2.2.1 hu)
theorem COR_TX {a : Nat} {T : CSt} {U : MSt} (h : COR a T U) : TX T U := by
  obtain ⟨-, ⟨t1, t2, t3, t4, t5⟩, -, ⟨p, hc⟩, -⟩ := h
  exact ⟨t1, t3, fun j hj => (t4 j hj).1, hc.2.2.2.2.2.2.2.1⟩
theorem COR_fV {a : Nat} {T : CSt} {U : MSt} (h : COR a T U) (hd : DR T U) (hy : TYP T U) : fV T := by
  obtain ⟨-, ⟨t1, t2, t3, t4, t5⟩, -, -, s1, s2, -⟩ := h
  obtain ⟨⟨y1, y2, y3, -⟩, y4, -⟩ := hy
  obtain ⟨d1, d2, d3, -⟩ := hd
  exact ⟨s1, s2, by omega, by omega, fun j => by have := y4 j; omega, by omega, by omega, fun j => by have := t5 j; omega, by omega, by omega⟩
theorem COR_12 {a : Nat} {T : CSt} {U : MSt} (h : COR a T U) : T.1 6 12 = U.1 12 ∧ 0 ≤ U.1 12 ∧ U.1 12 ≤ 9 := by
  obtain ⟨-, -, ⟨-, -, g⟩, -, -, ⟨-, -, -, -, -, -, -, x, y, -⟩, -⟩ := h
  exact ⟨g, by omega, by omega⟩
/-- what a find of the reference gives to the templates -/
def FRq (pl : Int) (N : MSt) : Prop := pl ≤ N.1 38 ∧ N.1 38 ≤ N.1 4 ∧ (∀ g : Nat, 1 ≤ g → g ≤ 9 → -1 ≤ N.2 33 g ∧ N.2 33 g ≤ N.1 4 ∧ -1 ≤ N.2 33 (10 + g) ∧ N.2 33 (10 + g) ≤ N.1 4 ∧ (N.2 33 g < N.2 33 (10 + g) → 0 ≤ N.2 33 g))
/-- what stays true of the reference's replacing -/
def VRp (n : Nat) (_ done pl : Int) (N : MSt) : Prop := (∃ a S, COR a S N) ∧ DU N ∧ (0 ≤ N.1 2 ∧ N.1 2 ≤ 40) ∧ (∀ j, 0 ≤ N.2 1 j ∧ N.2 1 j ≤ 126) ∧ (N.1 41 = 0 ∨ N.1 41 = 1) ∧ P38 N ∧ (-1 ≤ pl ∧ pl ≤ 24) ∧ (0 ≤ done ∧ done ≤ 24) ∧ (0 ≤ pl → N.1 41 = 0 → FRq pl N) ∧ (0 ≤ pl → 25 - pl ≤ n)
/-- what a search gives to both -/
theorem srch_V {a : Nat} {T : CSt} {U : MSt} {s c : Int} {n : Nat} {m : Int} (h : COR a T U) (hd : DU U) (h2 : 0 ≤ U.1 2 ∧ U.1 2 ≤ 40) (hy : ∀ j, 0 ≤ U.2 1 j ∧ U.2 1 j ≤ 126) (s0 : 0 ≤ s) (s1 : s ≤ 1000) (hp : P38 U ∨ s ≤ U.1 4) (c0 : 0 ≤ c) (c1 : c ≤ 24) (hn : 25 - s ≤ n) : VRp n m c (M_search s U).1 (M_search s U).2 ∧ M_searchOK s U ∧ K0_searchOK (K0_last s T) s (ci (cr T 10 2 6) 10 4 0) := by
  obtain ⟨p, rs, ok1, ok2, -, cor⟩ := SRCH h s0 s1
  have fm := frM_search s U
  have p38 : P38 (M_search s U).2 := by
    rcases hp with y | y
    · exact P38_search h s0 y
    · exact P38_search0 h s0 y
  have pb := PB_search h s0
  obtain ⟨cf, cb, rr⟩ := rs
  have l4 := cf.2.2.2.2.1
  refine ⟨⟨⟨a, _, cor⟩, ?_, ?_, ?_, ?_, p38, ?_, ⟨c0, c1⟩, fun x y => ?_, fun x => ?_⟩, ok1, ok2⟩
  · unfold DU
    rw [fm.1 49 (by omega), fm.2 48 (by omega)]; exact hd
  · rw [fm.1 2 (by omega)]; exact h2
  · rw [fm.2 1 (by omega)]; exact hy
  · rcases rr with y | y | y
    · exact Or.inl y.2.2.2.1
    · exact Or.inl y.2.1
    · exact Or.inr y.2.1
  · rcases rr with y | y | y
    · omega
    · omega
    · omega
  · rcases rr with z | z | z
    · obtain ⟨-, -, -, -, -, -, ⟨-, -, w3, w4, w5, -⟩⟩ := z
      refine ⟨pb x, w4, fun g g0 g9 => ?_⟩
      obtain ⟨-, -, v1, v2, v3, v4, v5, v6⟩ := w5 g g0 g9
      exact ⟨v1, v2, v3, v4, fun q => by omega⟩
    · omega
    · omega
  · rcases rr with z | z | z
    · omega
    · omega
    · omega
/-- the next place to search from -/
def nxS (pl e : Int) : Int := if e = pl then e + 1 else e
theorem VRp_step {n : Nat} {m d pl : Int} {N : MSt} (h : VRp n m d pl N) : M_replStep VRp n m d pl N := by
  have h' := h
  obtain ⟨⟨a, S, cor⟩, du, l2, y2, o41, p38, hpl, hd, hf, hn⟩ := h'
  have tx := COR_TX cor
  have g12 := COR_12 cor
  have t4 : 0 ≤ N.1 4 := cor.2.1.2.1
  have x4 := tx.2.2.2
  have l4 := tx.2.1
  refine ⟨by omega, by omega, by omega, by omega, by have := p38.1; omega, by have := p38.2; omega, fun p0 z41 => ?_, fun _ => ?_⟩
  · obtain ⟨f1, f2, f3⟩ := hf p0 z41
    have nn := hn p0
    obtain ⟨n', en⟩ : ∃ n' : Nat, n = n' + 1 := ⟨n - 1, by omega⟩
    have w1 := wt_fr (fr := d) (to := pl) (U := N)
    obtain ⟨w2, w3⟩ := wt_DU (fr := d) (to := pl) du x4
    have ty : ∀ j, 0 ≤ (M_writeText d pl N).2 1 j ∧ (M_writeText d pl N).2 1 j ≤ 126 := by rw [w1.2 1 (by decide)]; exact y2
    have tt : ∀ j, 0 ≤ (M_writeText d pl N).2 3 j ∧ (M_writeText d pl N).2 3 j ≤ 126 := by rw [w1.2 3 (by decide)]; exact x4
    obtain ⟨m1, m2, m3⟩ := tm_mono (pl := pl) ((M_writeText d pl N).1 2).toNat 0 (M_writeText d pl N) w2 tt ty
    have fu : frW N (M_writeTemplate pl (M_writeText d pl N)) := frW_trans w1 m1
    have cu : COR a S (M_writeTemplate pl (M_writeText d pl N)) := COR_w cor dK.rf fu
    have ns : 0 ≤ (if N.1 38 = pl then N.1 38 + 1 else N.1 38 : Int) ∧ (if N.1 38 = pl then N.1 38 + 1 else N.1 38 : Int) ≤ 25 ∧ pl + 1 ≤ (if N.1 38 = pl then N.1 38 + 1 else N.1 38 : Int) := by
      by_cases e : N.1 38 = pl
      · rw [if_pos e]; omega
      · rw [if_neg e]; omega
    obtain ⟨v1, v2, -⟩ := srch_V (c := N.1 38) (n := n') (m := m + 1) cu m2 (by rw [fu.1 2 (by decide)]; exact l2) (by rw [fu.2 1 (by decide)]; exact y2) ns.1 (by omega) (Or.inl (by unfold P38; rw [fu.1 38 (by decide)]; exact p38)) (by omega) (by omega) (by omega)
    refine ⟨n', en, ⟨fun _ => hd.1, by omega, by omega, by omega, du.1, du.2.1, x4⟩, ⟨p0, by omega, ?_, ?_, ?_, ?_, ?_, w2.1, w2.2.1, tt, ty, fun g g0 g9 => ?_⟩, v2, v1⟩
    · rw [w1.1 2 (by decide)]; exact l2.1
    · rw [w1.1 2 (by decide)]; exact l2.2
    · rw [w1.1 38 (by decide)]; omega
    · rw [w1.1 38 (by decide)]; omega
    · rw [w1.1 12 (by decide)]; exact g12.2
    · rw [w1.2 33 (by decide)]
      obtain ⟨v1, v2, v3, v4, v5⟩ := f3 g.toNat (by omega) (by omega)
      rw [show (10 + g).toNat = 10 + g.toNat by omega]
      exact ⟨by omega, by omega, by omega, v5, by omega⟩
  · have w1 := wt_fr (fr := d) (to := N.1 4) (U := N)
    obtain ⟨w2, w3⟩ := wt_DU (fr := d) (to := N.1 4) du x4
    refine ⟨⟨fun _ => hd.1, by omega, l4, by omega, du.1, du.2.1, x4⟩, ?_, ?_, w2.1, w2.2.1, w2.2.2⟩
    · rw [w1.1 41 (by decide)]; omega
    · rw [w1.1 41 (by decide)]; omega
theorem replL_end {n : Nat} {m d pl : Int} {N : MSt} (h : pl < 0 ∨ ¬ N.1 41 = 0) : M_replL n m d pl N = (if ((M_writeText d (N.1 4) N).1 41) = 0 then (if ((M_writeText d (N.1 4) N).1 49) ≤ 200 then (m, (mi (mi (mi (mi (M_replC m ((M_writeText d (N.1 4) N).1 49).toNat 0 (M_writeText d (N.1 4) N)) 47 ((M_writeText d (N.1 4) N).1 49)) 2 0) 5 0) 42 0)) else (0, (mi (M_writeText d (N.1 4) N) 0 1))) else (0, (mi (M_writeText d (N.1 4) N) 0 1))) := by
  cases n with
  | zero =>
    rw [M_replL]
    by_cases c : pl < 0
    · rw [if_pos c]
    · rw [if_neg c, if_neg (by rcases h with y | y; exact absurd y c; exact y)]
  | succ n =>
    rw [M_replL]
    by_cases c : pl < 0
    · rw [if_pos c]
    · rw [if_neg c, if_neg (by rcases h with y | y; exact absurd y c; exact y)]
theorem replL_go {n : Nat} {m d pl : Int} {N : MSt} (h : ¬ pl < 0) (h' : N.1 41 = 0) : M_replL (n + 1) m d pl N = M_replL n (m + 1) (N.1 38) (M_search (nxS pl (N.1 38)) (M_writeTemplate pl (M_writeText d pl N))).1 (M_search (nxS pl (N.1 38)) (M_writeTemplate pl (M_writeText d pl N))).2 := by
  rw [M_replL, if_neg h, if_pos h']
  rfl
/-- what the reference's replacing leaves alone -/
def frP (M M' : MSt) : Prop := (∀ k, k ≠ 0 → k ≠ 35 → k ≠ 37 → k ≠ 38 → k ≠ 39 → k ≠ 40 → k ≠ 41 → k ≠ 49 → M'.1 k = M.1 k) ∧ (∀ k, k ≠ 33 → k ≠ 34 → k ≠ 36 → k ≠ 48 → M'.2 k = M.2 k)
theorem frP_refl (M : MSt) : frP M M := ⟨fun _ _ _ _ _ _ _ _ _ => rfl, fun _ _ _ _ _ => rfl⟩
theorem frP_trans {M M1 M2 : MSt} (h : frP M M1) (h' : frP M1 M2) : frP M M2 := ⟨fun k a b c d e f g i => (h'.1 k a b c d e f g i).trans (h.1 k a b c d e f g i), fun k a b c d => (h'.2 k a b c d).trans (h.2 k a b c d)⟩
theorem frP_w {M M1 M2 : MSt} (h : frP M M1) (hw : frW M1 M2) : frP M M2 := frP_trans h ⟨fun k _ _ _ _ _ _ _ i => hw.1 k i, fun k _ _ _ d => hw.2 k d⟩
theorem frP_m {M M1 M2 : MSt} (h : frP M M1) (hw : frM M1 M2) : frP M M2 := frP_trans h ⟨fun k _ b c d e f g _ => hw.1 k (by omega), fun k a b c _ => hw.2 k (by omega)⟩
theorem frP_0 {M M1 : MSt} {v : Int} (h : frP M M1) : frP M (mi M1 0 v) := ⟨fun k a b c d e f g i => (show (if k = 0 then v else M1.1 k) = M.1 k from by rw [if_neg a]; exact h.1 k a b c d e f g i), h.2⟩
/-- the reference refuses -/
def RFo (M : MSt) (r : Int × MSt) : Prop := r.2.1 0 = 1 ∧ frP M r.2 ∧ I_cf r.2 ∧ (∀ j, 0 ≤ r.2.2 48 j ∧ r.2.2 48 j ≤ 126)
theorem RFo_end {M N : MSt} {d : Int} (h : frP M N) (hc : I_cf N) (du : DU N) (x4 : ∀ j, 0 ≤ N.2 3 j ∧ N.2 3 j ≤ 126) (v : Int) : RFo M (v, mi (M_writeText d (N.1 4) N) 0 1) := by
  have w := wt_fr (fr := d) (to := N.1 4) (U := N)
  obtain ⟨p, hp⟩ := cf_w hc w
  exact ⟨rfl, frP_0 (frP_w h w), ⟨p, CfT_0 hp⟩, (wt_DU (fr := d) (to := N.1 4) du x4).1.2.2⟩
/-- too much is written: the reference refuses in the end -/
theorem big : ∀ (n : Nat) (m d pl : Int) (M N : MSt), VRp n m d pl N → frP M N → 200 < N.1 49 → RFo M (M_replL n m d pl N) := by
  intro n
  induction n with
  | zero =>
    intro m d pl M N h hf hb
    have h' := h
    obtain ⟨⟨a, S, cor⟩, du, l2, y2, o41, p38, hpl, hd, hf', hn⟩ := h'
    have x4 := (COR_TX cor).2.2.2
    have e : pl < 0 ∨ ¬ N.1 41 = 0 := by
      by_cases c : pl < 0
      · exact Or.inl c
      · have := hn (by omega)
        omega
    rw [replL_end e]
    have w3 := (wt_DU (fr := d) (to := N.1 4) du x4).2
    rw [if_neg (show ¬ (M_writeText d (N.1 4) N).1 49 ≤ 200 by omega)]
    by_cases c : (M_writeText d (N.1 4) N).1 41 = 0
    · rw [if_pos c]; exact RFo_end hf cor.2.2.2.1 du x4 0
    · rw [if_neg c]; exact RFo_end hf cor.2.2.2.1 du x4 0
  | succ n ih =>
    intro m d pl M N h hf hb
    have st := VRp_step h
    have h' := h
    obtain ⟨⟨a, S, cor⟩, du, l2, y2, o41, p38, hpl, hd, hf', hn⟩ := h'
    have x4 := (COR_TX cor).2.2.2
    by_cases e : pl < 0 ∨ ¬ N.1 41 = 0
    · rw [replL_end e]
      have w3 := (wt_DU (fr := d) (to := N.1 4) du x4).2
      rw [if_neg (show ¬ (M_writeText d (N.1 4) N).1 49 ≤ 200 by omega)]
      by_cases c : (M_writeText d (N.1 4) N).1 41 = 0
      · rw [if_pos c]; exact RFo_end hf cor.2.2.2.1 du x4 0
      · rw [if_neg c]; exact RFo_end hf cor.2.2.2.1 du x4 0
    · have p0 : ¬ pl < 0 := fun y => e (Or.inl y)
      have z41 : N.1 41 = 0 := by omega
      rw [replL_go p0 z41]
      obtain ⟨n', en, -, -, -, v⟩ := st.2.2.2.2.2.2.1 (by omega) z41
      have en' : n' = n := by omega
      subst en'
      have w1 := wt_fr (fr := d) (to := pl) (U := N)
      obtain ⟨w2, w3⟩ := wt_DU (fr := d) (to := pl) du x4
      obtain ⟨m1, m2, m3⟩ := tm_mono (pl := pl) ((M_writeText d pl N).1 2).toNat 0 (M_writeText d pl N) w2 (by rw [w1.2 3 (by decide)]; exact x4) (by rw [w1.2 1 (by decide)]; exact y2)
      have fm := frM_search (nxS pl (N.1 38)) (M_writeTemplate pl (M_writeText d pl N))
      have e49 : (M_search (nxS pl (N.1 38)) (M_writeTemplate pl (M_writeText d pl N))).2.1 49 = (M_writeTemplate pl (M_writeText d pl N)).1 49 := fm.1 49 (by omega)
      have m3' : (M_writeText d pl N).1 49 ≤ (M_writeTemplate pl (M_writeText d pl N)).1 49 := m3
      exact ih (m + 1) (N.1 38) _ M _ v (frP_m (frP_w (frP_w hf w1) m1) fm) (by omega)
