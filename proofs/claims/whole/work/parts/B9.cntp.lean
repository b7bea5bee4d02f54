/-- THE COUNT behind a part, in both -/
theorem CNTP {f d : Int} {T1 : MSt} {S1 : CSt} {F1 E1 : Nat → Nat} {R1 : Nat → Int} {a e : Nat} {lo ko go w : Int} (h : RR f d T1 S1 F1) (he : (e : Int) = T1.1 19) (hae : a + 1 < e) (p0 : np T1 0 a = 17) (pg : np T1 2 a = go) (hloc : LOC (np T1) a) (l0 : 0 ≤ lo) (l1 : lo ≤ T1.1 21) (k1 : ko ≤ T1.1 22) (g0 : 0 ≤ go) (g1 : go ≤ T1.1 20) (hin : SEG f T1 S1 F1 E1 R1 (a + 1) e lo (T1.1 21) ko (T1.1 22) go (T1.1 20)) (hF : F1 (a + 1) = F1 a + 1) (hq0 : cqR S1 0 (F1 a) = 9) (hq1 : cqR S1 1 (F1 a) = -1) (hR : R1 (a + 1) = R1 a) (hst : stp (np T1 0 (a + 1)) = 1) (hw : 3 * (R1 e - R1 (a + 1)) + 1 ≤ w) (hRm : R1 (a + 1) ≤ R1 e) (hw0 : 0 ≤ w) (h2 : 2 * T1.1 21 + 1 ≤ T1.1 24) (hV : (tailC (F1 a) go w S1).1 = 0 → rV (tailC (F1 a) go w S1).2.2) : CPo f d T1 S1 F1 E1 R1 a lo ko go (M_count a w T1) (tailC (F1 a) go w S1) := by
  have h' := h
  obtain ⟨hs, h25, hD, hsg, hlen, hg, hlp, hlk, hgr, hsz, hcd, hd, hf, hv⟩ := h'
  have hD3 := hD.2.2.1
  have hD4 := hD.2.2.2.1
  rcases COUNT_all hs h25 with ⟨c1, c2⟩ | ⟨c1, c2⟩ | ⟨l, m, z, at', S16, c1, c2, c3, c4, c5, c6, c7, c8⟩
  · refine Or.inl ⟨?_, fun n => ?_⟩
    · unfold tailC
      show (if (K3_readCount S1).1 = 0 then _ else ((1, 0, (K3_readCount S1).2.2) : CR)).1 = 1
      rw [if_neg (by omega)]
    · rw [readsL_bad (by rw [c2]; decide)]
  · have e1 : tailC (F1 a) go w S1 = (0, w, S1) := by
      unfold tailC
      rw [c1]
      exact (if_pos rfl).trans (if_pos rfl)
    rw [e1, c2]
    exact CNT_no h he hae p0 hloc l0 l1 k1 g1 hin hF hq0 hq1 hR hw hw0
  · obtain ⟨U, v1, v2⟩ := c8 a w
    have ce := (cnt_eff (a := (a : Int)) (w := w) hw0 h25 hD3).2
    have a2 : at' ≤ T1.1 14 := by
      rw [v1] at ce
      have e24 : (CNTT a w l m z U).1 24 = at' := v2.1
      have e25 : (CNTT a w l m z U).1 25 = 0 := v2.2.1
      rcases ce with y | y
      · omega
      · have := y.2.1.2
        omega
    have F1a : F1 a + 1 ≤ F1 e := by
      have := CERT_le hin.2.2.2.2.2.2 (Nat.le_refl _) (show a + 1 ≤ e by omega) (Nat.le_refl _)
      omega
    have ee : (T1.1 19).toNat = e := by omega
    have z16 : S16.1 7 5 = (F1 e : Int) := by rw [c2.2.2.2.2.2.1 7 (by decide), hsz.1, ee]
    have lp16 : S16.1 7 10 = T1.1 21 := by rw [c2.2.2.2.2.2.1 7 (by decide)]; exact hlp.1
    have hs2 := hsz.2
    rw [hsz.1, ee] at hs2
    have t2 := tail_2 (v7 := (F1 a : Int)) (gb := go) (v11 := w) c1 (by omega) (by omega) (by omega) (by omega) (by omega) (by omega)
    rw [t2] at hV ⊢
    rw [v1]
    refine CNT_yes h he hae p0 pg l0 l1 k1 g0 g1 hin hF hq0 hR hst hw hRm hw0 h2 v2 c2 ⟨c3, c4⟩ c5 c6 c7 a2 (fun y => ?_)
    rw [if_pos y] at hV
    exact hV rfl
