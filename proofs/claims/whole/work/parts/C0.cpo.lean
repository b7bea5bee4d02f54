/-- from a part with its count to what it is for the whole: T, S before it, T1, S1 before its count -/
theorem CPo_OUT {f d : Int} {T T1 T' : MSt} {S S1 : CSt} {F F1 E E1 : Nat → Nat} {R R1 : Nat → Int} {r : CR} (h : RR f d T S F) (hz1 : S.1 7 5 ≤ S1.1 7 5) (h19 : T.1 19 ≤ T1.1 19) (hnp : ∀ j k : Nat, j < 4 → (k : Int) < T.1 19 → np T1 j k = np T j k) (hF : ∀ k : Nat, (k : Int) ≤ T.1 19 → F1 k = F k ∧ R1 k = R k) (hE : ∀ k : Nat, (k : Int) < T.1 19 → E1 k = E k) (hq : ∀ j k : Nat, j < 3 → (k : Int) < S.1 7 5 → cqR S1 j k = cqR S j k) (hw : ∀ j k : Nat, j = 3 ∨ j = 4 → (k : Int) < S.1 7 5 → cwR S1 j k = cwR S j k) (hl0 : S.1 7 10 ≤ S1.1 7 10) (hl : ∀ j c : Nat, (c : Int) < S.1 7 10 → 5 ≤ j → j ≤ 8 → cqR S1 j c = cqR S j c) (h20 : T.1 20 ≤ T1.1 20) (h21 : T.1 21 ≤ T1.1 21) (h22 : T.1 22 ≤ T1.1 22) (hfb : frB T T1 0) (hg : goR T T' ∨ (r.1 = 1 ∧ goR T T')) (hc : CPo f d T1 S1 F1 E1 R1 (T.1 19).toNat (T.1 21) (T.1 22) (T.1 20) T' r) : OUT f d T S F E R r := by
  have hcd := h.2.2.2.2.2.2.2.2.2.2.1.1
  have hsz := h.2.2.2.2.2.2.2.2.2.1.1
  have hgo : goR T T' := by rcases hg with y | y; exact y; exact y.2
  rcases hc with ⟨c1, c2⟩ | ⟨c1, F', E', R', c2, c3, c4, c5, c6, c7, c8, c9, c10, c11, c12, c13, c14, c15, c16, c17, c18, c19⟩
  · exact Or.inl ⟨c1, T', hgo, c2⟩
  · refine Or.inr ⟨c1, T', F', E', R', hgo, c2, ?_, ⟨by omega, fun j k hj hk => (c6 j k hj (by omega)).trans (hnp j k hj hk), fun k hk => ⟨(c7 k (by omega)).1.trans (hF k hk).1, (c7 k (by omega)).2.trans (hF k hk).2⟩, fun k hk => (c8 k (by omega)).trans (hE k hk), by omega, fun j k hj hk => ?_, fun j k hj hk => (c11 j k).trans (hw j k hj hk), by omega, fun j c hcc h5 h8 => (c13 j c (by omega) h5 h8).trans (hl j c hcc h5 h8), by omega, by omega, by omega⟩, c17, c18, c19⟩
    · have q := frB_trans h.2.2.1.1 hfb c3
      rw [Int.zero_add] at q
      exact q
    · refine (c10 j k hj ?_).trans (hq j k hj hk)
      have e := (hF (T.1 19).toNat (by omega)).1
      rw [e]
      omega
