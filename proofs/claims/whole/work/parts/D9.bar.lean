/-- the class's program once '|' is read -/
def barS (j bg : Int) (S : CSt) : CSt := ci (addS 5 (-1) (-1) (addS 6 j (-1) (ci S 8 3 (S.1 8 3 + 1)))) 27 bg.toNat (S.1 7 5 + 1)
theorem barS_f {j bg : Int} {S : CSt} : (barS j bg S).1 7 5 = S.1 7 5 + 2 ∧ (∀ i, i ≠ 5 → (barS j bg S).1 7 i = S.1 7 i) ∧ (barS j bg S).1 8 3 = S.1 8 3 + 1 ∧ (∀ i, i ≠ 3 → (barS j bg S).1 8 i = S.1 8 i) ∧ (∀ n, n < 7 ∨ (8 < n ∧ n < 26) ∨ 28 < n → (barS j bg S).1 n = S.1 n) ∧ (barS j bg S).2 = S.2 := by
  unfold barS
  refine ⟨?_, fun i hi => ?_, ?_, fun i hi => ?_, fun n hn => ?_, rfl⟩
  · rw [ci_ne (by decide), addS_75, addS_75, ci_ne (by decide)]; omega
  · rw [ci_ne (by decide), addS_7 hi, addS_7 hi, ci_ne (by decide)]
  · rw [ci_ne (by decide), addS_o (by omega), addS_o (by omega), ci_eq, zu_eq]
  · rw [ci_ne (by decide), addS_o (by omega), addS_o (by omega), ci_eq, zu_ne hi]
  · rw [ci_ne (by omega), addS_o (by omega), addS_o (by omega), ci_ne (by omega)]
theorem barS_q {j bg : Int} {S : CSt} (z0 : 0 ≤ S.1 7 5) (b0 : 0 ≤ bg) (b1 : bg < S.1 7 5) : (∀ i k : Nat, i < 3 → (k : Int) < S.1 7 5 → ¬ (i = 1 ∧ (k : Int) = bg) → cqR (barS j bg S) i k = cqR S i k) ∧ cqR (barS j bg S) 1 bg.toNat = S.1 7 5 + 1 ∧ (cqR (barS j bg S) 0 (S.1 7 5).toNat = 6 ∧ cqR (barS j bg S) 1 (S.1 7 5).toNat = j) ∧ (cqR (barS j bg S) 0 ((S.1 7 5).toNat + 1) = 5 ∧ cqR (barS j bg S) 1 ((S.1 7 5).toNat + 1) = -1) ∧ (∀ i c : Nat, 5 ≤ i → cqR (barS j bg S) i c = cqR S i c) := by
  unfold barS
  have s75 : (ci S 8 3 (S.1 8 3 + 1)).1 7 5 = S.1 7 5 := by rw [ci_ne (by decide)]
  have q27 : ∀ (X : CSt) (v : Int) (i k : Nat), ¬ (i = 1 ∧ k = bg.toNat) → cqR (ci X 27 bg.toNat v) i k = cqR X i k := fun X v i k h => by
    by_cases c : i = 1
    · subst c
      show (ci X 27 bg.toNat v).1 27 k = X.1 27 k
      rw [ci_eq, zu_ne (by omega)]
    · show (ci X 27 bg.toNat v).1 (26 + i) k = X.1 (26 + i) k
      rw [ci_ne (by omega)]
  have h1 := addS_hi (kd := 6) (am := j) (nb := -1) (S := ci S 8 3 (S.1 8 3 + 1))
  have l1 : ∀ i k : Nat, i < 3 → (k : Int) < S.1 7 5 → cqR (addS 6 j (-1) (ci S 8 3 (S.1 8 3 + 1))) i k = cqR S i k := fun i k hi hk => by rw [addS_lo hi (by omega), ci8_q]
  have a75 : (addS 6 j (-1) (ci S 8 3 (S.1 8 3 + 1))).1 7 5 = S.1 7 5 + 1 := by rw [addS_75, s75]
  have h1l : ∀ i c : Nat, 5 ≤ i → cqR (addS 6 j (-1) (ci S 8 3 (S.1 8 3 + 1))) i c = cqR S i c := fun i c h => by rw [addS_l h, ci8_q]
  rw [s75] at h1
  generalize addS 6 j (-1) (ci S 8 3 (S.1 8 3 + 1)) = A at h1 l1 a75 h1l
  have h2 := addS_hi (kd := 5) (am := -1) (nb := -1) (S := A)
  rw [a75, show (S.1 7 5 + 1).toNat = (S.1 7 5).toNat + 1 by omega] at h2
  refine ⟨fun i k hi hk hn => ?_, ?_, ⟨?_, ?_⟩, ⟨?_, ?_⟩, fun i c h5 => ?_⟩
  · rw [q27 _ _ i k (by omega), addS_lo hi (by omega)]; exact l1 i k hi hk
  · show (ci (addS 5 (-1) (-1) A) 27 bg.toNat (S.1 7 5 + 1)).1 27 bg.toNat = _
    rw [ci_eq, zu_eq]
  · rw [q27 _ _ 0 _ (by omega), addS_lo (by omega) (by omega)]; exact h1.1
  · rw [q27 _ _ 1 _ (by omega), addS_lo (by omega) (by omega)]; exact h1.2.1
  · rw [q27 _ _ 0 _ (by omega)]; exact h2.1
  · rw [q27 _ _ 1 _ (by omega)]; exact h2.2.1
  · rw [q27 _ _ i c (by omega), addS_l h5]; exact h1l i c h5
set_option maxHeartbeats 8000000 in
/-- '|' in both -/
theorem ALT_bar {f d : Int} {T0 T : MSt} {S0 S : CSt} {F0 F E0 E : Nat → Nat} {R0 R : Nat → Int} {b m : Nat} {gs : List Nat} {bg wt j : Int} (h : ALTI f d T0 S0 F0 E0 R0 b T S F E R gs m bg wt j) (c124 : M_sign T (T.1 24) = 124) (hV : rV (barS j bg S)) : goR T (rdS T) ∧ ALTB f d T0 S0 F0 E0 R0 b (rdS T) (barS j bg S) (fu (fu F ((T.1 19).toNat + 1) (F (T.1 19).toNat + 1)) ((T.1 19).toNat + 2) (F (T.1 19).toNat + 2)) E (zu (zu R ((T.1 19).toNat + 1) (R (T.1 19).toNat)) ((T.1 19).toNat + 2) (R (T.1 19).toNat)) ((T.1 19).toNat :: gs) ((T.1 19).toNat + 1) (S.1 7 5 + 1) (wt + 1) (S.1 7 5) := by
  obtain ⟨a1, a2, a3, ⟨li, kk, gm, pre, ⟨w1, w2, w3⟩, seg⟩, a5, a6, a7, a8, a9, a10, a11, a12, a13, a14, a15⟩ := h
  have rr := a1
  obtain ⟨⟨e1, e2, e3⟩, h25, hD, hsg, hlen, hg, hlp, hlk, hgr, hsz, hcd, hd, hf, hv⟩ := a1
  have hl := sgn_lt (T := T) (k := T.1 24) (by omega)
  obtain ⟨⟨t19, t24, to⟩, t2, ⟨t28, t29, t30⟩, tn, tm, tg, tg1⟩ := alt_f hcd.1 a11 (by omega) c124
  have hD2 : DMi (rdS T) := by
    rcases rd_step hD h25 hl with q | q
    · rw [to 25 (by decide) (by decide)] at q; omega
    · exact q.2.2.1
  have go : goR T (rdS T) := goR_one h25 hl (by omega)
  refine ⟨go, ?_⟩
  obtain ⟨s75, s7, s83, s8, so, s2⟩ := barS_f (j := j) (bg := bg) (S := S)
  have hz1 := hsz.1
  have mg : m + 1 ≤ (T.1 19).toNat := by omega
  have Fmg : F (m + 1) ≤ F (T.1 19).toNat := CERT_le seg.2.2.2.2.2.2 (Nat.le_refl _) mg (Nat.le_refl _)
  obtain ⟨q1, q2, q3, q4, q5⟩ := barS_q (j := j) (bg := bg) (S := S) (by omega) (by omega) (by omega)
  have gF : (S.1 7 5).toNat = F (T.1 19).toNat := by omega
  have bF : bg.toNat = F m := by omega
  rw [gF] at q3 q4
  rw [bF] at q2
  generalize hX : rdS T = X at t19 t24 to t2 t28 t29 t30 tn tm tg tg1 hD2
  generalize hY : barS j bg S = Y at s75 s7 s83 s8 so s2 q1 q2 q3 q4 q5 hV
  have x32 := to 32 (by decide) (by decide)
  obtain ⟨F2, hF2⟩ : ∃ F2, F2 = fu (fu F ((T.1 19).toNat + 1) (F (T.1 19).toNat + 1)) ((T.1 19).toNat + 2) (F (T.1 19).toNat + 2) := ⟨_, rfl⟩
  obtain ⟨R2, hR2⟩ : ∃ R2, R2 = zu (zu R ((T.1 19).toNat + 1) (R (T.1 19).toNat)) ((T.1 19).toNat + 2) (R (T.1 19).toNat) := ⟨_, rfl⟩
  rw [← hF2, ← hR2]
  have f2 : ∀ k, k ≤ (T.1 19).toNat → F2 k = F k ∧ R2 k = R k := fun k hk => by
    rw [hF2, hR2, fu_ne (by omega), fu_ne (by omega), zu_ne (by omega), zu_ne (by omega)]
    exact ⟨rfl, rfl⟩
  have f2a : F2 ((T.1 19).toNat + 1) = F (T.1 19).toNat + 1 ∧ R2 ((T.1 19).toNat + 1) = R (T.1 19).toNat := by
    rw [hF2, hR2, fu_ne (by omega), fu_eq, zu_ne (by omega), zu_eq]
    exact ⟨rfl, rfl⟩
  have f2b : F2 ((T.1 19).toNat + 2) = F (T.1 19).toNat + 2 ∧ R2 ((T.1 19).toNat + 2) = R (T.1 19).toNat := by
    rw [hF2, hR2, fu_eq, zu_eq]
    exact ⟨rfl, rfl⟩
  have xsg : M_sign X = M_sign T := by
    funext k
    unfold M_sign
    rw [to 14 (by decide) (by decide), t2 13 (by omega)]
  have yat : ∀ k, K4_at 2 k Y = K4_at 2 k S := fun k => by
    unfold K4_at
    rw [so 2 (by omega), so (11 + 2) (by omega)]
  have n2 : (X.1 19).toNat = (T.1 19).toNat + 2 := by omega
  have hRR : RR f d X Y F2 := by
    refine ⟨⟨by omega, by omega, fun k hk => by rw [yat, xsg]; exact e3 k hk⟩, ?_, hD2, by rw [xsg]; exact hsg, ?_, ?_, ?_, ?_, ?_, ?_, by omega, ?_, ?_, hV⟩
    · rw [to 25 (by decide) (by decide)]; exact h25
    · rw [so 2 (by omega), to 14 (by decide) (by decide)]; exact hlen
    · rw [s7 12 (by decide), to 20 (by decide) (by decide)]; exact hg
    · rw [s7 10 (by decide), to 21 (by decide) (by decide)]; exact ⟨hlp.1, hlp.2.1, by omega⟩
    · rw [s7 11 (by decide), to 22 (by decide) (by decide)]; exact ⟨hlk.1, hlk.2.1, by omega⟩
    · rw [s8 4 (by decide), to 23 (by decide) (by decide)]; exact hgr
    · rw [n2, f2b.1]; omega
    · rw [x32]; exact hd
    · rw [s7 13 (by decide)]; exact hf
  obtain ⟨p1, p2, p3, -⟩ := id pre
  have eFb := (a2.1.2.2.1 b (Nat.le_refl _)).1
  have tp := hD.1
  refine ⟨hRR, ?_, ⟨by omega, by omega⟩, ?_, tg1, ⟨?_, ?_⟩, ?_, ?_, ?_, ?_, ?_, ?_, ?_, by omega, ?_⟩
  · obtain ⟨⟨b1, b2, b3, b4⟩, ⟨c1, c2, c3, c4, c5⟩, ⟨d1, d2, d3⟩, g1, g2, g3, g4, g5⟩ := a2
    refine ⟨⟨by omega, fun i k hi hk => (tn i k hi (by omega) (by omega) (by omega)).trans (b2 i k hi hk), fun k hk => ⟨(f2 k (by omega)).1.trans (b3 k hk).1, (f2 k (by omega)).2.trans (b3 k hk).2⟩, b4⟩, ⟨by omega, fun i k hi hk => (q1 i k hi (by omega) (by omega)).trans (c2 i k hi hk), fun i k hi hk => ?_, by rw [s7 10 (by decide)]; exact c4, fun i c hc h5 h8 => (q5 i c h5).trans (c5 i c hc h5 h8)⟩, ⟨by rw [to 20 (by decide) (by decide)]; exact d1, by rw [to 21 (by decide) (by decide)]; exact d2, by rw [to 22 (by decide) (by decide)]; exact d3⟩, by omega, fun i hi => ?_, fun i hi => ?_, fun k hk => (to k (by omega) (by omega)).trans (g4 k hk), fun k hk => (t2 k (by omega)).trans (g5 k hk)⟩
    · show Y.2.1 (26 + i) k = _
      rw [s2]; exact c3 i k hi hk
    · rw [t2 26 (by omega), t2 27 (by omega), t2 31 (by omega)]; exact g2 i hi
    · rw [t28, t29, t30, zu_ne (by omega), zu_ne (by omega), zu_ne (by omega)]; exact g3 i hi
  · rw [to 20 (by decide) (by decide), to 21 (by decide) (by decide), to 22 (by decide) (by decide)]
    refine PRE_step pre w1 w2 w3 seg ⟨a5.1, a5.2.2.1, a5.2.2.2⟩ a6 a7.1 (t2 13 (by omega)) (fun i k hi _ hk hn => tn i k hi (by omega) (by omega) hn) (by rw [tm]; omega) ⟨tg.1, tg.2.2.1, tg.2.2.2⟩ (fun k _ hk => f2 k hk) f2a (fun _ _ _ => rfl) (fun i k hi _ hk hn => q1 i k hi (by omega) (by omega)) (by rw [q2]; omega) q3.1 (fun i k hi _ _ => ?_) (fun i c _ _ h5 _ => q5 i c h5)
    show Y.2.1 (26 + i) k = _
    rw [s2]; rfl
  · rw [f2b.1, f2a.1]
  · rw [f2b.2, f2a.2]
  · rw [f2a.1]; exact q4
  · rw [f2a.1]; omega
  · rw [x32, t29, zu_eq]
    refine ⟨by omega, by omega, ?_⟩
    rw [show X.2 16 (T.1 19).toNat = T.2 29 (T.1 32 - 1).toNat from tg.2.1]
    refine CH_mono (show m ≤ (T.1 19).toNat by omega) (CH_cong (fun x hx => ?_) a9)
    have := CH_mem a9 x hx
    exact tn 1 x (by omega) (by omega) (by omega) (by omega)
  · rw [List.map_cons, f2a.1, (f2 _ (Nat.le_refl _)).1, map_cg gs (fun x hx => (f2 x (by have := CH_mem a9 x hx; omega)).1)]
    refine ⟨by omega, by omega, ?_⟩
    rw [show Y.1 27 (F (T.1 19).toNat) = j from q3.2]
    refine CH_mono (show F m ≤ F (T.1 19).toNat by omega) (CH_cong (fun x hx => ?_) a10)
    have := CH_mem a10 x hx
    exact q1 1 x (by omega) (by omega) (by omega)
  · rw [x32, t28, zu_eq]; omega
  · rw [x32, t30, zu_eq, a12]
  · rw [n2, f2b.2, (f2 b (by omega)).2]; omega
  · rw [tn 0 b (by omega) (by omega) (by omega) (by omega)]; exact a15
