/-- frames of a wrap: T0 before it, T with the body opened, Tc with the body closed -/
theorem frB_wrap {d : Int} {T0 T Te Tc : MSt} (h32 : T0.1 32 = d + 1) (hd : 0 ≤ d) (t32 : T.1 32 = d + 2) (o1 : ∀ k, k < 15 ∨ 32 < k → T.1 k = T0.1 k) (o2 : ∀ k, k < 15 ∨ 31 < k → T.2 k = T0.2 k) (o3 : ∀ i : Nat, (i : Int) < d + 1 → T.2 26 i = T0.2 26 i ∧ T.2 27 i = T0.2 27 i ∧ T.2 28 i = T0.2 28 i ∧ T.2 29 i = T0.2 29 i ∧ T.2 30 i = T0.2 30 i ∧ T.2 31 i = T0.2 31 i)
    (x : Te.1 32 = T.1 32 ∧ (∀ i : Nat, (i : Int) < T.1 32 → Te.2 26 i = T.2 26 i ∧ Te.2 27 i = T.2 27 i ∧ Te.2 31 i = T.2 31 i) ∧ (∀ i : Nat, (i : Int) < T.1 32 - 1 → Te.2 28 i = T.2 28 i ∧ Te.2 29 i = T.2 29 i ∧ Te.2 30 i = T.2 30 i) ∧ (∀ k, k < 15 ∨ 32 < k → Te.1 k = T.1 k) ∧ (∀ k, k < 15 ∨ 31 < k → Te.2 k = T.2 k))
    (c32 : Tc.1 32 = d + 1) (c1 : ∀ k, k < 15 ∨ 32 < k → Tc.1 k = (clo Te).1 k) (c2 : ∀ k, k < 15 ∨ 18 < k → Tc.2 k = (clo Te).2 k) : frB T0 Tc 0 := by
  obtain ⟨x1, x2, x3, x4, x5⟩ := x
  obtain ⟨q1, q2, q3, q4⟩ := clo_o Te
  have e30 : ∀ i : Nat, (i : Int) < d + 1 → Tc.2 30 i = T0.2 30 i := fun i hi => by
    rw [c2 30 (by omega), q3 30 (by omega), (x3 i (by omega)).2.2, (o3 i hi).2.2.2.2.1]
  refine ⟨by omega, fun i hi => ?_, fun i hi => e30 i (by omega), ?_, fun k hk => ?_, fun k hk => ?_⟩
  · have hi' : (i : Int) < d + 1 := by omega
    obtain ⟨a1, a2, a3, a4, a5, a6⟩ := o3 i hi'
    obtain ⟨b1, b2, b3⟩ := x2 i (by omega)
    obtain ⟨b4, b5, b6⟩ := x3 i (by omega)
    refine ⟨?_, ?_, ?_, ?_, ?_⟩
    · rw [c2 26 (by omega), q3 26 (by omega), b1, a1]
    · rw [c2 27 (by omega), q3 27 (by omega), b2, a2]
    · rw [c2 28 (by omega), q3 28 (by omega), b4, a3]
    · rw [c2 29 (by omega), q4 i (by omega), b5, a4]
    · rw [c2 31 (by omega), q3 31 (by omega), b3, a6]
  · rw [e30 _ (by omega)]; omega
  · rw [c1 k hk, q2 k (by omega), x4 k hk, o1 k hk]
  · rw [c2 k (by omega), q3 k (by omega), x5 k hk, o2 k hk]
/-- what comes behind a closed body that stands at a: its count, in both -/
theorem WRC {f d : Int} {T0 T Te T1 : MSt} {S0 S12 : CSt} {F0 F1 E0 E1 : Nat → Nat} {R0 R1 : Nat → Int} {w : Int} {e : Nat} (h0 : RR f d T0 S0 F0) (hl : T0.1 24 < T0.1 14) (hT : rdS T0 = T) (hgo : goR T Te) (h24 : T0.1 24 < T.1 24) (hle : Te.1 24 < Te.1 14) (he25 : Te.1 25 = 0) (hrd : rdS Te = M_count (T0.1 19) (w + 1) T1) (hRR : RR f d T1 S12 F1) (he : (e : Int) = T1.1 19) (hae : (T0.1 19).toNat + 1 < e) (p0 : np T1 0 (T0.1 19).toNat = 17) (p1 : np T1 1 (T0.1 19).toNat = 0) (pg : np T1 2 (T0.1 19).toNat = T0.1 20) (p3 : np T1 3 (T0.1 19).toNat = 0) (l1 : T0.1 21 ≤ T1.1 21) (k1 : T0.1 22 ≤ T1.1 22) (g1 : T0.1 20 ≤ T1.1 20) (hin : SEG f T1 S12 F1 E1 R1 ((T0.1 19).toNat + 1) e (T0.1 21) (T1.1 21) (T0.1 22) (T1.1 22) (T0.1 20) (T1.1 20)) (hF : F1 ((T0.1 19).toNat + 1) = F1 (T0.1 19).toNat + 1) (hq0 : cqR S12 0 (F1 (T0.1 19).toNat) = 9) (hq1 : cqR S12 1 (F1 (T0.1 19).toNat) = -1) (hR : R1 ((T0.1 19).toNat + 1) = R1 (T0.1 19).toNat) (hst : stp (np T1 0 ((T0.1 19).toNat + 1)) = 1) (hw : 3 * (R1 e - R1 ((T0.1 19).toNat + 1)) ≤ w) (hRm : R1 ((T0.1 19).toNat + 1) ≤ R1 e) (hw0 : 0 ≤ w) (h2 : 2 * T1.1 21 + 1 ≤ T1.1 24) (h124 : Te.1 24 < T1.1 24)
    (hz1 : S0.1 7 5 ≤ S12.1 7 5) (hnp : ∀ j k : Nat, j < 4 → (k : Int) < T0.1 19 → np T1 j k = np T0 j k) (hFo : ∀ k : Nat, (k : Int) ≤ T0.1 19 → F1 k = F0 k ∧ R1 k = R0 k) (hEo : ∀ k : Nat, (k : Int) < T0.1 19 → E1 k = E0 k) (hq : ∀ j k : Nat, j < 3 → (k : Int) < S0.1 7 5 → cqR S12 j k = cqR S0 j k) (hwo : ∀ j k : Nat, j = 3 ∨ j = 4 → (k : Int) < S0.1 7 5 → cwR S12 j k = cwR S0 j k) (hl0 : S0.1 7 10 ≤ S12.1 7 10) (hlo : ∀ j c : Nat, (c : Int) < S0.1 7 10 → 5 ≤ j → j ≤ 8 → cqR S12 j c = cqR S0 j c) (hfb : frB T0 T1 0)
    (hV : (tailC (S0.1 7 5) (S0.1 7 12) (w + 1) S12).1 = 0 → rV (tailC (S0.1 7 5) (S0.1 7 12) (w + 1) S12).2.2) : OUT f d T0 S0 F0 E0 R0 (tailC (S0.1 7 5) (S0.1 7 12) (w + 1) S12) := by
  have h0' := h0
  obtain ⟨⟨e1, e2, e3⟩, h25, hD, hsg, hlen, hg, hlp, hlk, hgr, hsz, hcd, hd, hf, hv⟩ := h0
  have go1 : goR T0 T := by rw [← hT]; exact goR_one h25 hl (by rw [hT]; exact h24)
  have eb : ((F1 (T0.1 19).toNat : Nat) : Int) = S0.1 7 5 := by rw [(hFo _ (by omega)).1]; exact hsz.1.symm
  have hloc : LOC (np T1) (T0.1 19).toNat := by
    unfold LOC
    rw [p0, p1, pg, p3]
    refine ⟨by omega, fun a b => by omega, fun a => by omega, fun a => by omega, fun a => by omega, fun a => by omega, fun a => by omega⟩
  have cp := CNTP (w := w + 1) hRR (e := e) (a := (T0.1 19).toNat) he hae p0 pg hloc hlp.2.1 l1 k1 hg.2.1 g1 hin hF hq0 hq1 hR hst (by omega) hRm (by omega) h2
  rw [eb, show (((T0.1 19).toNat : Nat) : Int) = T0.1 19 by omega, ← hg.1] at cp
  have cp' := cp hV
  rw [hg.1] at cp' ⊢
  rw [← hrd] at cp'
  rcases cp' with ⟨q1, q2⟩ | ⟨q1, F', E', R', q2, q3, q4, q5⟩
  · exact Or.inl ⟨q1, Te, goR_trans go1 hgo, dmR_S he25 hle q2⟩
  · have g2 : goR T0 (rdS Te) := goR_trans (goR_trans go1 hgo) (goR_one he25 hle (by omega))
    exact CPo_OUT (F1 := F1) (E1 := E1) (R1 := R1) (T1 := T1) (S1 := S12) (T' := rdS Te) h0' hz1 (by omega) hnp hFo hEo hq hwo hl0 hlo g1 l1 k1 hfb (Or.inl g2) (Or.inr ⟨q1, F', E', R', q2, q3, q4, q5⟩)
