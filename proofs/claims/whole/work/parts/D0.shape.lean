/-- what opening a body leaves -/
theorem op_f {q ah : Int} {U : MSt} (h0 : 0 ≤ U.1 32) : (M_openBody q ah U).1 19 = U.1 19 + 1 ∧ (M_openBody q ah U).1 32 = U.1 32 + 1 ∧ (∀ k, k ≠ 19 → k ≠ 25 → k ≠ 32 → (M_openBody q ah U).1 k = U.1 k) ∧ (∀ k, k < 15 ∨ 31 < k → (M_openBody q ah U).2 k = U.2 k) ∧ (∀ i : Nat, (i : Int) < U.1 32 → (M_openBody q ah U).2 26 i = U.2 26 i ∧ (M_openBody q ah U).2 27 i = U.2 27 i ∧ (M_openBody q ah U).2 28 i = U.2 28 i ∧ (M_openBody q ah U).2 29 i = U.2 29 i ∧ (M_openBody q ah U).2 30 i = U.2 30 i ∧ (M_openBody q ah U).2 31 i = U.2 31 i) ∧ ((M_openBody q ah U).2 26 (U.1 32).toNat = q ∧ (M_openBody q ah U).2 31 (U.1 32).toNat = ah) ∧ (∀ j k : Nat, j < 4 → k ≠ (U.1 19).toNat → np (M_openBody q ah U) j k = np U j k) := by
  have top : (U.1 32 + 1 - 1).toNat = (U.1 32).toNat := by omega
  refine ⟨rfl, rfl, fun k a b c => ?_, fun k hk => ?_, fun i hi => ⟨?_, ?_, ?_, ?_, ?_, ?_⟩, ⟨?_, ?_⟩, fun j k hj hk => ?_⟩
  · show (if k = 19 then _ else if k = 32 then _ else if k = 25 then _ else U.1 k) = U.1 k
    rw [if_neg a, if_neg c, if_neg b]
  · show (if k = 28 then _ else if k = 18 then _ else if k = 17 then _ else if k = 16 then _ else if k = 15 then _ else if k = 30 then _ else if k = 29 then _ else if k = 31 then _ else if k = 27 then _ else if k = 26 then _ else U.2 k) = U.2 k
    rw [if_neg (by omega), if_neg (by omega), if_neg (by omega), if_neg (by omega), if_neg (by omega), if_neg (by omega), if_neg (by omega), if_neg (by omega), if_neg (by omega), if_neg (by omega)]
  · show zu (U.2 26) (U.1 32).toNat q i = _
    exact zu_ne (by omega)
  · show zu (U.2 27) (U.1 32).toNat 0 i = _
    exact zu_ne (by omega)
  · show zu (U.2 28) (U.1 32 + 1 - 1).toNat (U.1 19) i = _
    exact zu_ne (by omega)
  · show zu (U.2 29) (U.1 32).toNat (-1) i = _
    exact zu_ne (by omega)
  · show zu (U.2 30) (U.1 32).toNat 0 i = _
    exact zu_ne (by omega)
  · show zu (U.2 31) (U.1 32).toNat ah i = _
    exact zu_ne (by omega)
  · show zu (U.2 26) (U.1 32).toNat q (U.1 32).toNat = _
    exact zu_eq
  · show zu (U.2 31) (U.1 32).toNat ah (U.1 32).toNat = _
    exact zu_eq
  · have e : np (M_openBody q ah U) j k = np (M_emit 1 (-1) 0 0 U) j k := by
      have hj' : j = 0 ∨ j = 1 ∨ j = 2 ∨ j = 3 := by omega
      rcases hj' with y | y | y | y <;> subst y <;> rfl
    rw [e, np_emit hk]
/-- the end of a closed body: '(?:' .. ')' -/
theorem closeF_2 {d v : Int} {Te : MSt} (t32 : Te.1 32 = d + 2) (q : Te.2 26 (d + 1).toNat = 2) : closeF (d + 1) (mi (clo Te) 24 v) = M_count (Te.2 31 (d + 1).toNat) (Te.2 30 (d + 1).toNat + 1) (mi (mi (clo Te) 24 v) 32 (d + 1)) := by
  obtain ⟨c1, c2, c3, c4⟩ := clo_o Te
  have e26 : (mi (clo Te) 24 v).2 26 = Te.2 26 := c3 26 (by omega)
  have e30 : (mi (clo Te) 24 v).2 30 = Te.2 30 := c3 30 (by omega)
  have e31 : (mi (clo Te) 24 v).2 31 = Te.2 31 := c3 31 (by omega)
  have e32 : (mi (clo Te) 24 v).1 32 - 1 = d + 1 := by
    show (clo Te).1 32 - 1 = _
    rw [c2 32 (by decide)]; omega
  unfold closeF
  rw [e26, e30, e31, e32, q, if_neg (by decide), if_neg (by decide), if_pos (by decide)]
/-- .. '(' .. ')' -/
theorem closeF_1 {d v : Int} {Te : MSt} (t32 : Te.1 32 = d + 2) (q : Te.2 26 (d + 1).toNat = 1) : closeF (d + 1) (mi (clo Te) 24 v) = M_count (Te.2 31 (d + 1).toNat) (Te.2 30 (d + 1).toNat + 1) (M_emit 11 (Te.2 27 (d + 1).toNat) 0 0 (mi (mi (clo Te) 24 v) 32 (d + 1))) := by
  obtain ⟨c1, c2, c3, c4⟩ := clo_o Te
  have e26 : (mi (clo Te) 24 v).2 26 = Te.2 26 := c3 26 (by omega)
  have e27 : (mi (clo Te) 24 v).2 27 = Te.2 27 := c3 27 (by omega)
  have e30 : (mi (clo Te) 24 v).2 30 = Te.2 30 := c3 30 (by omega)
  have e31 : (mi (clo Te) 24 v).2 31 = Te.2 31 := c3 31 (by omega)
  have e32 : (mi (clo Te) 24 v).1 32 - 1 = d + 1 := by
    show (clo Te).1 32 - 1 = _
    rw [c2 32 (by decide)]; omega
  unfold closeF
  rw [e26, e27, e30, e31, e32, q, if_neg (by decide), if_pos (by decide)]
/-- .. '(?=' .. ')' and '(?!' .. ')' -/
theorem closeF_3 {d v : Int} {Te : MSt} (t32 : Te.1 32 = d + 2) (q : 3 ≤ Te.2 26 (d + 1).toNat) : closeF (d + 1) (mi (clo Te) 24 v) = M_weigh (Te.2 30 (d + 1).toNat + 1) (M_emit 13 (Te.2 31 (d + 1).toNat) (np (clo Te) 1 (Te.2 31 (d + 1).toNat).toNat) (np (clo Te) 3 (Te.2 31 (d + 1).toNat).toNat) (ma (mi (mi (clo Te) 24 v) 32 (d + 1)) 17 (Te.2 31 (d + 1).toNat).toNat ((clo Te).1 19))) := by
  obtain ⟨c1, c2, c3, c4⟩ := clo_o Te
  have e26 : (mi (clo Te) 24 v).2 26 = Te.2 26 := c3 26 (by omega)
  have e30 : (mi (clo Te) 24 v).2 30 = Te.2 30 := c3 30 (by omega)
  have e31 : (mi (clo Te) 24 v).2 31 = Te.2 31 := c3 31 (by omega)
  have e32 : (mi (clo Te) 24 v).1 32 - 1 = d + 1 := by
    show (clo Te).1 32 - 1 = _
    rw [c2 32 (by decide)]; omega
  unfold closeF
  rw [e26, e30, e31, e32, if_neg (show ¬ Te.2 26 (d + 1).toNat = 0 by omega), if_neg (show ¬ Te.2 26 (d + 1).toNat = 1 by omega), if_neg (show ¬ Te.2 26 (d + 1).toNat ≤ 2 by omega)]
  rfl
theorem SEG_Rm {f : Int} {T : MSt} {S : CSt} {F E : Nat → Nat} {R : Nat → Int} {b e : Nat} {lo hi ko ki go gi : Int} (h : SEG f T S F E R b e lo hi ko ki go gi) : R b ≤ R e := by
  have hw := h.2.2.2.2.2.1
  have key : ∀ n : Nat, b + n ≤ e → R b ≤ R (b + n) := by
    intro n
    induction n with
    | zero => intro _; exact Int.le_refl _
    | succ n ih =>
      intro hn
      have a := ih (by omega)
      have c := (hw (b + n) (by omega) (by omega)).1
      rw [show b + (n + 1) = b + n + 1 by omega]
      omega
  have hb := h.1.1
  have := key (e - b) (by omega)
  rw [show b + (e - b) = e by omega] at this
  exact this
/-- what is wanted of the class's reading of a body, one level down -/
def HGd (G : Int → CSt → CR) (f d : Int) : Prop := ∀ (T : MSt) (Sd : CSt) (F E : Nat → Nat) (R : Nat → Int) (b : Nat), BIN f (d + 1) T (addS 5 (-1) (-1) Sd) F R b → NZ T → rV Sd → BOUT f (d + 1) T (addS 5 (-1) (-1) Sd) F E R b (G (d + 1) Sd)
/-- a body with its brackets inside of what stood before it -/
theorem WIN {G : Int → CSt → CR} {f d : Int} {T0 T : MSt} {S0 Sd : CSt} {F0 F E0 : Nat → Nat} {R0 R : Nat → Int} {b : Nat} (h0 : RR f d T0 S0 F0) (hd : 0 ≤ d ∧ d < 8) (hFR : ∀ (S : CSt) (dp : Int), rV S → rR (wP S) S (G dp S)) (hVd : rV Sd) (hz : NZ T) (l0 : 0 ≤ T.1 21) (hB : BOUT f (d + 1) T (addS 5 (-1) (-1) Sd) F E0 R b (G (d + 1) Sd)) (t32 : T.1 32 = d + 2) (o1 : ∀ k, k < 15 ∨ 32 < k → T.1 k = T0.1 k) (o2 : ∀ k, k < 15 ∨ 31 < k → T.2 k = T0.2 k) (o3 : ∀ i : Nat, (i : Int) < d + 1 → T.2 26 i = T0.2 26 i ∧ T.2 27 i = T0.2 27 i ∧ T.2 28 i = T0.2 28 i ∧ T.2 29 i = T0.2 29 i ∧ T.2 30 i = T0.2 30 i ∧ T.2 31 i = T0.2 31 i) (tb : (T0.1 19).toNat ≤ b) (tn : ∀ j k : Nat, j < 4 → (k : Int) < T0.1 19 → np T j k = np T0 j k) (tF : ∀ k : Nat, (k : Int) ≤ T0.1 19 → F k = F0 k ∧ R k = R0 k) (tFb : F0 (T0.1 19).toNat ≤ F b) (tq : ∀ j k : Nat, j < 3 → (k : Int) < S0.1 7 5 → cqR (addS 5 (-1) (-1) Sd) j k = cqR S0 j k) (tw : ∀ j k : Nat, j = 3 ∨ j = 4 → (k : Int) < S0.1 7 5 → cwR (addS 5 (-1) (-1) Sd) j k = cwR S0 j k) (t10 : Sd.1 7 10 = S0.1 7 10) (tl : ∀ j c : Nat, 5 ≤ j → j ≤ 8 → cqR (addS 5 (-1) (-1) Sd) j c = cqR S0 j c) : ((K3_readInside G d Sd).1 = 1 ∧ ∃ T1, goR T T1 ∧ dmR T1) ∨ (∃ w S11 Te F' E' R', (K3_readInside G d Sd = (0, w + 1, S11) ∧ goR T Te ∧ Te.1 24 < Te.1 14 ∧ Te.1 25 = 0 ∧ rdS Te = closeF (d + 1) (mi (clo Te) 24 (Te.1 24 + 1)) ∧ RR f d (mi (mi (clo Te) 24 (Te.1 24 + 1)) 32 (d + 1)) S11 F' ∧ XB T (addS 5 (-1) (-1) Sd) F E0 R b Te S11 F' E' R' ∧ Te.2 30 (d + 1).toNat = w ∧ SEG f (mi (mi (clo Te) 24 (Te.1 24 + 1)) 32 (d + 1)) S11 F' E' R' b ((Te.1 19).toNat + 1) (T.1 21) (Te.1 21) (T.1 22) (Te.1 22) (T.1 20) (Te.1 20) ∧ (3 * (R' ((Te.1 19).toNat + 1) - R' b) ≤ w ∧ 0 ≤ w) ∧ S11.1 7 5 + 1 ≤ 2 * (Te.1 24 + 1) + 1 + d ∧ (0 ≤ Te.1 19 ∧ Te.1 19 + 2 ≤ 3 * (Te.1 24 + 1) + 1) ∧ Te.1 32 = d + 2 ∧ 2 * Te.1 21 ≤ Te.1 24 ∧ np (clo Te) 0 b = 1 ∧ ∀ j k : Nat, j < 4 → k < b → np (clo Te) j k = np T j k) ∧
    ((∀ j k : Nat, j < 4 → (k : Int) < T0.1 19 → np (clo Te) j k = np T0 j k) ∧ (∀ k : Nat, (k : Int) ≤ T0.1 19 → F' k = F0 k ∧ R' k = R0 k) ∧ (∀ k : Nat, (k : Int) < T0.1 19 → E' k = E0 k) ∧ (∀ j k : Nat, j < 3 → (k : Int) < S0.1 7 5 → cqR S11 j k = cqR S0 j k) ∧ (∀ j k : Nat, j = 3 ∨ j = 4 → (k : Int) < S0.1 7 5 → cwR S11 j k = cwR S0 j k) ∧ S0.1 7 10 ≤ S11.1 7 10 ∧ (∀ j c : Nat, (c : Int) < S0.1 7 10 → 5 ≤ j → j ≤ 8 → cqR S11 j c = cqR S0 j c) ∧ frB T0 (mi (mi (clo Te) 24 (Te.1 24 + 1)) 32 (d + 1)) 0)) := by
  obtain ⟨-, h25, hD, hsg, hlen, hg, hlp, hlk, hgr, hsz, hcd, hd', hf, hv⟩ := h0
  have hz1 := hsz.1
  rcases INS hd hFR hVd hz l0 hB with q | ⟨w, S11, Te, F', E', R', i1, i2, i3, i4, i5, i6, i7, i8, i9, i10, i11, i12, i13, i14, i15, i16⟩
  · exact Or.inl q
  · right
    have i7' := i7
    obtain ⟨⟨x1, x2, x3, x4⟩, ⟨y1, y2, y3, y4, y5⟩, ⟨v1, v2, v3⟩, ww⟩ := i7'
    have pn : ∀ j k : Nat, j < 4 → k < b → np (clo Te) j k = np T j k := fun j k hj hk => (i16 j k hj hk).trans (x2 j k hj hk)
    have a10 : (addS 5 (-1) (-1) Sd).1 7 10 = S0.1 7 10 := by rw [addS_7 (by decide)]; exact t10
    rw [a10] at y4 y5
    refine ⟨w, S11, Te, F', E', R', ⟨i1, i2, i3, i4, i5, i6, i7, i8, i9, i10, i11, i12, i13, i14, i15, pn⟩, fun j k hj hk => (pn j k hj (by omega)).trans (tn j k hj hk), fun k hk => ⟨(x3 k (by omega)).1.trans (tF k hk).1, (x3 k (by omega)).2.trans (tF k hk).2⟩, fun k hk => x4 k (by omega), fun j k hj hk => (y2 j k hj (by omega)).trans (tq j k hj hk), fun j k hj hk => (y3 j k hj (by omega)).trans (tw j k hj hk), y4, fun j c hc h5 h8 => (y5 j c hc h5 h8).trans (tl j c h5 h8), ?_⟩
    refine frB_wrap hd'.1 hd.1 t32 o1 o2 o3 ww rfl (fun k hk => ?_) (fun k hk => rfl)
    show (if k = 32 then _ else if k = 24 then _ else (clo Te).1 k) = _
    rw [if_neg (by omega), if_neg (by omega)]
