/-! Past's rows never shrink, whatever is called -/
theorem gl_eq {S T : CSt} (h : T.2 = S.2) : gl T = gl S := by unfold gl; rw [h]
theorem gl_start {v : Int} {S : CSt} : gl (K6_start v S).2.2 = gl S := by
  unfold K6_start
  by_cases c : v < 0
  · rw [if_pos c]
  · rw [if_neg c]
    by_cases d : v ≤ 24
    · rw [if_pos d]; rfl
    · rw [if_neg d]
theorem gl_result {v : Int} {S : CSt} : gl (K6_result v S).2.2 = gl S := by
  unfold K6_result
  by_cases c : v < 0
  · rw [if_pos c]
  · rw [if_neg c]
    by_cases d : v < S.1 4 1
    · rw [if_pos d]
    · rw [if_neg d]
theorem gl_forget {S : CSt} : gl (K6_forgetFound S) = gl S := gl_eq K6_forgetFound_2
theorem gl_text {S : CSt} : gl (K6_text S).2.2 = gl S := by
  unfold K6_text
  by_cases c : S.1 1 1 ≤ 24
  · rw [if_pos c]
    refine gl_forget.trans ?_
    exact gl_eq (T := K4_copy 3 S) K4_copy_2
  · rw [if_neg c]
theorem gl_tyL2 {row : Int64} {n9 : Int} : ∀ (n : Nat) (i : Int) (T : CSt), gl (K6_tyL2 row n9 n i T).2.2 = gl T
  | 0, i, T => by rw [K6_tyL2]
  | n + 1, i, T => by
    rw [K6_tyL2]
    by_cases c : n9 ≤ i
    · rw [if_pos c]
    · rw [if_neg c]
      exact (gl_tyL2 n _ _).trans (gl_eq K4_add_2)
theorem gl_tyL1 {row : Int64} {n9 : Int} : ∀ (n : Nat) (i : Int) (T : CSt), gl (K6_tyL1 row n9 n i T).2.2 = gl T
  | 0, i, T => by rw [K6_tyL1]; exact gl_tyL2 _ _ _
  | n + 1, i, T => by
    rw [K6_tyL1]
    by_cases c : n9 ≤ i
    · rw [if_pos c]; exact gl_tyL2 _ _ _
    · rw [if_neg c]
      by_cases d : K6_byteOf row i < 32
      · rw [if_pos d]
      · rw [if_neg d]
        by_cases e : K6_byteOf row i ≤ 126
        · rw [if_pos e]; exact gl_tyL1 n _ _
        · rw [if_neg e]
theorem gl_type {row : Int64} {n9 : Int} {S : CSt} : gl (K6_type row n9 S).2.2 = gl S := by
  unfold K6_type
  by_cases c : n9 < 1
  · rw [if_pos c]
  · rw [if_neg c]
    by_cases d : n9 ≤ 8
    · rw [if_pos d]
      by_cases e : S.1 1 1 + n9 ≤ 40
      · rw [if_pos e]; exact gl_tyL1 _ _ _
      · rw [if_neg e]
    · rw [if_neg d]
theorem gl_pattern {a b : Nat} {S : CSt} {M : MSt} {fl : Int} (h : INV a b S M) : gl (K6_pattern b fl S).2.2 = gl S := by
  obtain ⟨h1, h2, h3, ⟨t1, t2, t3, t4⟩, ⟨c1, c2, c3, c4⟩, h6, h7, ⟨h8, h8'⟩, ⟨p, h9⟩, ⟨b1, b2, b3, b4, b5, b6, b7⟩, ⟨f1, f2, f3, f4⟩⟩ := h
  have l2 : ((cLen (11 + 2) : Nat) : Int) = 40 := rfl
  obtain ⟨k1, k2⟩ := K4_copy_v (t := 2) (Or.inl rfl) (S := S) (by omega) (by omega)
  have kO : ∀ n, n ≠ 2 → n ≠ 13 → (K4_copy 2 S).1 n = S.1 n := fun n x y => K4_copy_1 x y
  have kT : (K4_copy 2 S).2 = S.2 := K4_copy_2
  unfold K6_pattern
  generalize hS2 : ci (K4_copy 2 S) 1 1 0 = S2
  have s2 : S2.1 2 1 = S.1 1 1 := by rw [← hS2, ci_ne (by decide)]; exact k1
  have s13 : ∀ j : Nat, S2.1 13 j = if (j : Int) < S.1 1 1 then S.1 12 j else S.1 13 j := fun j => by rw [← hS2, ci_ne (by decide)]; exact k2 j
  have sO : ∀ n, n ≠ 1 → n ≠ 2 → n ≠ 13 → S2.1 n = S.1 n := fun n x y z => by rw [← hS2, ci_ne x]; exact kO n y z
  have sT : S2.2 = S.2 := by rw [← hS2]; exact kT
  have sR : ∀ j, 0 ≤ S2.1 13 j ∧ S2.1 13 j ≤ 126 := fun j => by
    rw [s13]
    by_cases c : (j : Int) < S.1 1 1
    · rw [if_pos c]; exact c1 j
    · rw [if_neg c]; exact c3 j
  clear hS2
  have pB7 : pB 7 S2 := pB_of (sO 7 (by decide) (by decide) (by decide)) (fun j hj => sO _ (by unfold pA; omega) (by unfold pA; omega) (by unfold pA; omega)) b2
  have rQ2 : rQ S2 := by
    unfold rQ
    rw [sO 8 (by decide) (by decide) (by decide), sO 27 (by decide) (by decide) (by decide), sO 33 (by decide) (by decide) (by decide), sO 34 (by decide) (by decide) (by decide), sO 7 (by decide) (by decide) (by decide)]; exact b5
  by_cases g0 : fl < 0
  · rw [if_pos g0]
  · rw [if_neg g0]
    by_cases g7 : fl ≤ 7
    · rw [if_pos g7]
      obtain ⟨rk, -, -, -⟩ := K3_read_R (fl := fl) (S := S2) pB7 (by omega) (by omega) sR rQ2.1.1.1 rQ2.1.1.2 rQ2.1.2.1.1 rQ2.1.2.1.2 rQ2.1.2.2 (by omega) g7
      have x22 : (K3_read fl S2).2.2.2.2.2 = S.2.2.2 := by
        have : (K3_read fl S2).2.2.2.2 = (K3_r0 fl S2).2.2 := rk.1
        rw [this]
        show S2.2.2.2 = _
        rw [sT]
      have xg : gl (K3_read fl S2).2.2 = gl S := by
        unfold gl
        rw [x22]
      by_cases c : (K3_read fl S2).1 = 0
      · rw [if_pos c]
        refine gl_sw.trans (gl_forget.trans ?_)
        exact xg
      · rw [if_neg c]
        exact xg
    · rw [if_neg g7]
theorem gl_findL {wh : Int} : ∀ (n : Nat) (k : Int) (T : CSt), gl (K6_findL wh n k T).2.2 = gl T
  | 0, k, T => by rw [K6_findL]
  | n + 1, k, T => by
    rw [K6_findL]
    by_cases c : 10 ≤ k
    · rw [if_pos c]
    · rw [if_neg c, if_neg c]
      exact (gl_findL n _ _).trans rfl
theorem gl_find {a b : Nat} {S : CSt} {M : MSt} (h : INV a b S M) : gl S ≤ gl (K6_find S).2.2 := by
  have hOK := (C_find h).2.2
  obtain ⟨h1, h2, h3, h4, h5, ⟨x1, x2, x3, x4⟩, h7, h8, h9, ⟨b1, b2, b3, b4, b5, b6, b7⟩, ⟨⟨f1, f2, f2'⟩, f3, f4⟩⟩ := h
  have hg := (K0_search_F (a := a) (b := b) (bg := S.1 0 11) (S := S) hOK h3 b3 (by omega) (by omega) (by omega)).2.2.1
  unfold K6_find gBd
  by_cases c : (K0_search (S.1 0 11) S).1 = 0
  · rw [if_pos c]
    dsimp only
    by_cases d : (K0_search (S.1 0 11) S).2.1 = -1
    · rw [if_pos d]
      refine Nat.le_trans hg (Nat.le_of_eq ?_)
      exact gl_forget.symm
    · rw [if_neg d]
      refine Nat.le_trans hg (Nat.le_of_eq ?_)
      rw [gl_findL]
      rfl
  · rw [if_neg c]
    exact hg
theorem gl_bd {S0 : CSt} {r : CR} {k : Int → CSt → CR} (h : gl S0 ≤ gl r.2.2) (hk : r.1 = 0 → gl S0 ≤ gl (k r.2.1 r.2.2).2.2) : gl S0 ≤ gl (gBd r k).2.2 := by
  unfold gBd
  by_cases c : r.1 = 0
  · rw [if_pos c]; exact hk c
  · rw [if_neg c]; exact h
theorem gl_end {S0 S8 : CSt} {co : Int} (h : gl S0 ≤ gl S8) : gl S0 ≤ gl (show CR from (0, co, (cSw 1 (K6_forgetFound (ci (ci (cSt S8) 1 1 0) 0 11 0))))).2.2 := by
  refine Nat.le_trans h (Nat.le_of_eq ?_)
  exact (gl_sw.trans (gl_forget.trans rfl)).symm
theorem gl_repL {a : Nat} {Vr : Nat → Int → Int → CSt → Prop} (hVf : ∀ n s c T, Vr n s c T → fV T ∧ -1 ≤ c ∧ c ≤ 1000) (hVs : ∀ n s c T, Vr (n + 1) s c T → K6_repStep Vr n s c T) :
    ∀ (n b : Nat) (co s9 c9 tr : Int) (T S0 : CSt), cFx a b T → Vr n s9 c9 T → gl S0 ≤ gl T → gl S0 ≤ gl (K6_repL n co s9 c9 tr T).2.2 := by
  intro n
  induction n with
  | zero =>
    intro b co s9 c9 tr T S0 hF hR9 hg
    have hW := (hVf _ s9 c9 T hR9).1
    rw [K6_repL]
    refine gl_bd ?_ (fun _ => gl_end ?_)
    · exact Nat.le_trans hg (gl_of (congrArg Prod.snd (K6_writeText_R (bg := c9) (en := T.1 3 1) (S := T) hW).1.1))
    · exact Nat.le_trans hg (gl_of (congrArg Prod.snd (K6_writeText_R (bg := c9) (en := T.1 3 1) (S := T) hW).1.1))
  | succ n ih =>
    intro b co s9 c9 tr T S0 hF hR9 hg
    have hW := (hVf _ s9 c9 T hR9).1
    rw [K6_repL]
    by_cases ct : 24 < tr
    · rw [if_pos ct]
      refine gl_bd ?_ (fun _ => gl_end ?_)
      · exact Nat.le_trans hg (gl_of (congrArg Prod.snd (K6_writeText_R (bg := c9) (en := T.1 3 1) (S := T) hW).1.1))
      · exact Nat.le_trans hg (gl_of (congrArg Prod.snd (K6_writeText_R (bg := c9) (en := T.1 3 1) (S := T) hW).1.1))
    · rw [if_neg ct]
      obtain ⟨hs0, hs1, hOK, hcl⟩ := hVs n s9 c9 T hR9
      obtain ⟨hV, hP, hta, htb, hc1, hba, hbb, hc3, hda, hdb⟩ := id hW
      obtain ⟨hF1, hV1, g1, k_a, k_b⟩ := K0_search_F (a := a) (b := b) (bg := s9) (S := T) hOK hF hV (by omega) (by omega) (by omega)
      have hW1 : fV (K0_search s9 T).2.2 := fV_mK (mK.search (bg := s9) (S := T)) hW hV1
      have g2 := Nat.le_trans hg g1
      refine gl_bd g2 (fun e1 => ?_)
      by_cases cv : (K0_search s9 T).2.1 = -1
      · rw [if_pos cv]
        refine gl_bd ?_ (fun _ => gl_end ?_)
        · exact Nat.le_trans g2 (gl_of (congrArg Prod.snd (K6_writeText_R hW1).1.1))
        · exact Nat.le_trans g2 (gl_of (congrArg Prod.snd (K6_writeText_R hW1).1.1))
      · rw [if_neg cv]
        have w1 := K6_writeText_R (bg := c9) (en := (K0_search s9 T).2.1) (S := (K0_search s9 T).2.2) hW1
        have g3 := Nat.le_trans g2 (gl_of (congrArg Prod.snd w1.1.1))
        refine gl_bd g3 (fun e2 => ?_)
        have w2 := K6_writeTemplate_R (S := (K6_writeText c9 (K0_search s9 T).2.1 (K0_search s9 T).2.2).2.2) w1.2.1
        have g4 := Nat.le_trans g3 (gl_of (congrArg Prod.snd w2.1.1))
        refine gl_bd g4 (fun e3 => ?_)
        exact ih 6 _ _ _ _ _ _ (cFx_of (congrArg Prod.snd w2.1.1) (cFx_of (congrArg Prod.snd w1.1.1) hF1)) (hcl e1 cv e2 e3) g4
theorem gl_replace {a b : Nat} {S : CSt} {M : MSt} (h : INV a b S M) : gl S ≤ gl (K6_replace S).2.2 := by
  obtain ⟨Vr, hVf, hVs, hV0⟩ := (C_replace h).2.2
  exact gl_repL (a := a) hVf hVs 25 b 0 0 0 0 (ci S 5 1 0) S (cFx_of (S := S) rfl h.2.2.1) hV0 (Nat.le_refl _)
