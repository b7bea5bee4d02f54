/-- a count: the part is a loop now -/
theorem CNT_yes {f d : Int} {T1 U : MSt} {S1 S16 : CSt} {F1 E1 : Nat → Nat} {R1 : Nat → Int} {a e : Nat} {lo ko go w l m z at' : Int} (h : RR f d T1 S1 F1) (he : (e : Int) = T1.1 19) (hae : a + 1 < e) (p0 : np T1 0 a = 17) (pg : np T1 2 a = go) (l0 : 0 ≤ lo) (l1 : lo ≤ T1.1 21) (k1 : ko ≤ T1.1 22) (g0 : 0 ≤ go) (g1 : go ≤ T1.1 20) (hin : SEG f T1 S1 F1 E1 R1 (a + 1) e lo (T1.1 21) ko (T1.1 22) go (T1.1 20)) (hF : F1 (a + 1) = F1 a + 1) (hq0 : cqR S1 0 (F1 a) = 9) (hR : R1 (a + 1) = R1 a) (hst : stp (np T1 0 (a + 1)) = 1) (hw : 3 * (R1 e - R1 (a + 1)) + 1 ≤ w) (hRm : R1 (a + 1) ≤ R1 e) (hw0 : 0 ≤ w) (h2 : 2 * T1.1 21 + 1 ≤ T1.1 24)
    (u1 : upAB T1 U at' 0) (u2 : upC S1 S16 at' l (if m = 99 then 1000000 else m) z) (l9 : 0 ≤ l ∧ l ≤ 9) (hm : m = 99 ∨ (l ≤ m ∧ m ≤ 9)) (hz : z = 0 ∨ z = 1) (hat : T1.1 24 < at') (hat2 : at' ≤ T1.1 14) (hV : w * (if S16.1 8 6 = 1000000 then S16.1 8 5 + 1 else (if 1 < S16.1 8 6 then S16.1 8 6 else 1 : Int) : Int) + 2 ≤ 120 → rV (loopE (F1 a) go S16)) : CPo f d T1 S1 F1 E1 R1 a lo ko go (CNTT a w l m z U) (if w * (if S16.1 8 6 = 1000000 then S16.1 8 5 + 1 else (if 1 < S16.1 8 6 then S16.1 8 6 else 1 : Int) : Int) + 2 ≤ 120 then (0, w * (if S16.1 8 6 = 1000000 then S16.1 8 5 + 1 else (if 1 < S16.1 8 6 then S16.1 8 6 else 1 : Int) : Int) + 2, loopE (F1 a) go S16) else (1, 0, loopE (F1 a) go S16)) := by
  obtain ⟨⟨sg1, sg2, sg3⟩, h25, hD, hsg, hlen, hg, hlp, hlk, hgr, hsz, hcd, hd, hf, hv⟩ := h
  obtain ⟨v1, v2, v3, v4⟩ := u1
  obtain ⟨c1, c2, c3, c4, c5, c6, c7⟩ := u2
  have ee : (T1.1 19).toNat = e := by omega
  have hD3 := hD.2.2.1
  have hD4 := hD.2.2.2.1
  have u19 : U.1 19 = T1.1 19 := v3 19 (by decide) (by decide)
  have u20 : U.1 20 = T1.1 20 := v3 20 (by decide) (by decide)
  have u21 : U.1 21 = T1.1 21 := v3 21 (by decide) (by decide)
  have u32 : U.1 32 = T1.1 32 := v3 32 (by decide) (by decide)
  have npU : ∀ j, np U j = np T1 j := fun j => by show U.2 (15 + j) = T1.2 (15 + j); rw [v4]
  -- copies
  obtain ⟨cc, hcc1, hcc2, hcc3⟩ : ∃ cc : Int, (if S16.1 8 6 = 1000000 then S16.1 8 5 + 1 else (if 1 < S16.1 8 6 then S16.1 8 6 else 1 : Int) : Int) = cc ∧ (if 1 ≤ (if m = 99 then l + 1 else m : Int) then (if m = 99 then l + 1 else m : Int) else 1 : Int) = cc ∧ 1 ≤ cc ∧ l ≤ cc ∧ (l < m → l + 1 ≤ cc) ∧ (if m = 99 then l + 1 else if m < 1 then 1 else m : Int) = cc := by
    rw [c2, c3]
    rcases hm with y | y
    · subst y
      refine ⟨l + 1, ?_, ?_, by omega, by omega, fun _ => by omega, by rw [if_pos rfl]⟩
      · rw [if_pos rfl, if_pos rfl]
      · rw [if_pos rfl, if_pos (by omega)]
    · have n99 : ¬ m = 99 := by omega
      by_cases q : 1 ≤ m
      · refine ⟨m, ?_, ?_, q, by omega, fun y => by omega, ?_⟩
        · rw [if_neg n99, if_neg (by omega)]
          split <;> omega
        · rw [if_neg n99, if_pos q]
        · rw [if_neg n99, if_neg (by omega)]
      · refine ⟨1, ?_, ?_, by omega, by omega, fun y => by omega, ?_⟩
        · rw [if_neg n99, if_neg (by omega), if_neg (by omega)]
        · rw [if_neg n99, if_neg q]
        · rw [if_neg n99, if_pos (by omega)]
  obtain ⟨cc1, cc2, cc3, cc4⟩ := hcc3
  rw [hcc1] at hV ⊢
  have hwc := mul_le_r hw0 cc1
  -- the reference
  have wg : wgT T1 (CNTT a w l m z U) (w * cc + 2) := by
    have g := wg_cntt (a := (a : Int)) (w := w) (l := l) (m := m) (z := z) (U := U)
    rw [hcc2] at g
    unfold wgT at g ⊢
    rw [u32, v4] at g
    exact g
  have fr := frC_trans (frC_upAB ⟨v1, v2, v3, v4⟩) (frC_cntt (a := (a : Int)) (w := w) (l := l) (m := m) (z := z) (U := U))
  have t24 : (CNTT a w l m z U).1 24 = at' := v1
  have t25 : (CNTT a w l m z U).1 25 = 0 := v2
  have t19 : (CNTT a w l m z U).1 19 = T1.1 19 + 1 := by show U.1 19 + 1 = _; omega
  have t21 : (CNTT a w l m z U).1 21 = T1.1 21 + 1 := by show U.1 21 + 1 = _; omega
  have to : ∀ k, k ≠ 19 → k ≠ 21 → k ≠ 24 → k ≠ 25 → (CNTT a w l m z U).1 k = T1.1 k := fr.1
  have t2 : ∀ k, k < 15 ∨ (18 < k ∧ k ≠ 30) → (CNTT a w l m z U).2 k = T1.2 k := fr.2
  have npc := fun k => np_cntt (a := a) (w := w) (l := l) (m := m) (z := z) (U := U) (by omega) (by omega) k
  simp only [u19, ee, npU, pg, u20, u21] at npc
  have dm := DM_wg (T' := CNTT a w l m z U) hD (by omega) (to 14 (by decide) (by decide) (by decide) (by decide)) (by rw [to 20 (by decide) (by decide) (by decide) (by decide)]; exact Int.le_refl _) (to 32 (by decide) (by decide) (by decide) (by decide)) (by rw [t24]; omega) wg (t2 26 (by omega))
  generalize CNTT (a : Int) w l m z U = T' at *
  by_cases c120 : w * cc + 2 ≤ 120
  · rw [if_pos c120]
    have hv' := hV c120
    have F1a : F1 a + 1 ≤ F1 e := by
      have := CERT_le hin.2.2.2.2.2.2 (Nat.le_refl _) (show a + 1 ≤ e by omega) (Nat.le_refl _)
      omega
    have z16 : S16.1 7 5 = (F1 e : Int) := by rw [c6 7 (by decide), hsz.1, ee]
    have lp16 : S16.1 7 10 = T1.1 21 := by rw [c6 7 (by decide)]; exact hlp.1
    obtain ⟨f1, f2, f3, f4, f5⟩ := loopE_f (v7 := (F1 a : Int)) (gb := go) (S := S16)
    have lc := fun k => loopE_c (v7 := (F1 a : Int)) (gb := go) (S := S16) (by omega) (by omega) (by omega) k
    have ll := fun k => loopE_l (v7 := (F1 a : Int)) (gb := go) (S := S16) k
    have q16 : ∀ j k, cqR S16 j k = cqR S1 j k := fun j k => by show S16.1 (26 + j) k = S1.1 (26 + j) k; rw [c6 _ (by omega)]
    have s612 : S16.1 7 12 = T1.1 20 := by rw [c6 7 (by decide)]; exact hg.1
    simp only [z16, lp16, q16, s612, c2, c3, c4, show ((F1 e : Nat) : Int).toNat = F1 e by omega, show ((F1 a : Nat) : Int).toNat = F1 a by omega] at lc ll
    have esg : M_sign T' = M_sign T1 := by
      funext k
      unfold M_sign
      rw [to 14 (by decide) (by decide) (by decide) (by decide), t2 13 (by omega)]
    have n1 : (T1.1 19 + 1).toNat = e + 1 := by omega
    have cw : ∀ j k, cwR (loopE (F1 a : Int) go S16) j k = cwR S1 j k := fun j k => by
      show (loopE (F1 a : Int) go S16).2.1 (26 + j) k = S1.2.1 (26 + j) k
      rw [f5, c7]
    have np0 : ∀ j k : Nat, j < 4 → k ≠ a → k ≠ e → np T' j k = np T1 j k := fun j k hj ha he' => by
      obtain ⟨x0, x1, x2, x3⟩ := npc k
      have hj' : j = 0 ∨ j = 1 ∨ j = 2 ∨ j = 3 := by omega
      rcases hj' with y | y | y | y <;> subst y
      · rw [x0, if_neg he', if_neg ha]
      · rw [x1, if_neg he', if_neg ha]
      · rw [x2, if_neg he', if_neg ha]
      · rw [x3, if_neg he', if_neg ha]
    obtain ⟨ea0, ea1, ea2, ea3⟩ := npc e
    obtain ⟨aa0, aa1, aa2, aa3⟩ := npc a
    rw [if_pos rfl] at ea0 ea1 ea2 ea3
    rw [if_neg (show ¬ a = e by omega), if_pos rfl] at aa0 aa1 aa2 aa3
    have aL : leL (np T') a = l := by unfold leL; rw [aa1]; omega
    have aM : moL (np T') a = m := by unfold moL; rw [aa1]; omega
    have aC : ccL (np T') a = cc := by unfold ccL; rw [aL, aM]; exact cc4
    have aE : np T' 2 a / 4096 = (e : Int) := by rw [aa2]; omega
    have hRc := mul_le_r (show 0 ≤ R1 e - R1 (a + 1) by omega) cc1
    have hin' : SEG f T' (loopE (F1 a : Int) go S16) (fu F1 (e + 1) (F1 e + 2)) (fu E1 a e) (zu R1 (e + 1) (R1 a + (R1 e - R1 (a + 1)) * cc + 1)) (a + 1) e lo (T1.1 21) ko (T1.1 22) go (T1.1 20) := by
      refine SEG_cong (T := T1) (S := S1) l0 (t2 13 (by omega)) (fun j k hj x y => np0 j k hj (by omega) (by omega)) (fun k x y => fu_ne (by omega)) (fun k x y => fu_ne (by omega)) (fun k x y => zu_ne (by omega)) (fun j k x y hj => ?_) (fun j k _ _ _ => cw j k) (fun j c x y h5 h8 => ?_) hin
      · obtain ⟨x0, x1, x2⟩ := lc k
        have hj' : j = 0 ∨ j = 1 ∨ j = 2 := by omega
        rcases hj' with q | q | q <;> subst q
        · rw [x0, if_neg (by omega), if_neg (by omega)]
        · rw [x1, if_neg (by omega), if_neg (by omega), if_neg (by omega)]
        · rw [x2, if_neg (by omega), if_neg (by omega)]
      · obtain ⟨x5, x6, x7, x8⟩ := ll c
        have ne : ¬ c = (T1.1 21).toNat := by omega
        have hj' : j = 5 ∨ j = 6 ∨ j = 7 ∨ j = 8 := by omega
        rcases hj' with q | q | q | q <;> subst q
        · rw [x5, if_neg ne]
        · rw [x6, if_neg ne]
        · rw [x7, if_neg ne]
        · rw [x8, if_neg ne]
    refine Or.inr ⟨rfl, fu F1 (e + 1) (F1 e + 2), fu E1 a e, zu R1 (e + 1) (R1 a + (R1 e - R1 (a + 1)) * cc + 1), ?_, ?_, by omega, by omega, fun j k hj hk => np0 j k hj (by omega) (by omega), fun k hk => ⟨fu_ne (by omega), zu_ne (by omega)⟩, fun k hk => fu_ne (by omega), ?_, fun j k hj hk => ?_, cw, ?_, fun j c hc h5 h8 => ?_, to 20 (by decide) (by decide) (by decide) (by decide), by omega, to 22 (by decide) (by decide) (by decide) (by decide), ?_, ?_, by show (0 : Int) ≤ w * cc + 2; omega⟩
    · refine ⟨⟨?_, by omega, fun k hk => ?_⟩, t25, dm.1, by rw [esg]; exact hsg, ?_, ?_, ?_, ?_, ?_, ?_, by omega, by rw [to 32 (by decide) (by decide) (by decide) (by decide)]; exact hd, ?_, hv'⟩
      · show (loopE (F1 a : Int) go S16).1 8 3 = _
        rw [f4 8 (by omega), c1, t24]
      · rw [esg, ← sg3 k hk]
        show K4_at 2 k (loopE (F1 a : Int) go S16) = K4_at 2 k S1
        unfold K4_at
        rw [f4 2 (by omega), f4 (11 + 2) (by omega), c6 2 (by decide), c6 (11 + 2) (by decide)]
      · show (loopE (F1 a : Int) go S16).1 2 1 = _
        rw [f4 2 (by omega), c6 2 (by decide), to 14 (by decide) (by decide) (by decide) (by decide)]; exact hlen
      · show (loopE (F1 a : Int) go S16).1 7 12 = _ ∧ _
        rw [f3 12 (by decide) (by decide), s612, to 20 (by decide) (by decide) (by decide) (by decide)]; exact ⟨rfl, hg.2⟩
      · show (loopE (F1 a : Int) go S16).1 7 10 = _ ∧ _
        rw [f2, lp16, t21, t24]; exact ⟨rfl, by omega, by omega⟩
      · show (loopE (F1 a : Int) go S16).1 7 11 = _ ∧ _
        rw [f3 11 (by decide) (by decide), c6 7 (by decide), to 22 (by decide) (by decide) (by decide) (by decide), t24]; exact ⟨hlk.1, hlk.2.1, by omega⟩
      · show (loopE (F1 a : Int) go S16).1 8 4 = _
        rw [f4 8 (by omega), c5, to 23 (by decide) (by decide) (by decide) (by decide)]; exact hgr
      · show (loopE (F1 a : Int) go S16).1 7 5 = _ ∧ (loopE (F1 a : Int) go S16).1 7 5 ≤ _
        rw [f1, z16, t19, t24, n1, fu_eq]
        have := hsz.2
        rw [hsz.1, ee] at this
        omega
      · show (loopE (F1 a : Int) go S16).1 7 13 = f
        rw [f3 13 (by decide) (by decide), c6 7 (by decide)]; exact hf
    · unfold wgT at wg
      refine ⟨to 32 (by decide) (by decide) (by decide) (by decide), fun i hi => ⟨by rw [t2 26 (by omega)], by rw [t2 27 (by omega)], by rw [t2 28 (by omega)], by rw [t2 29 (by omega)], by rw [t2 31 (by omega)]⟩, fun i hi => ?_, ?_, fun k hk => to k (by omega) (by omega) (by omega) (by omega), fun k hk => t2 k (by omega)⟩
      · rw [wg, zu_ne (by omega)]
      · rw [wg, zu_eq]
    · show S1.1 7 5 ≤ (loopE (F1 a : Int) go S16).1 7 5
      rw [f1, z16, hsz.1, ee]; omega
    · show cqR (loopE (F1 a : Int) go S16) j k = cqR S1 j k
      obtain ⟨x0, x1, x2⟩ := lc k
      have hj' : j = 0 ∨ j = 1 ∨ j = 2 := by omega
      rcases hj' with q | q | q <;> subst q
      · rw [x0, if_neg (by omega), if_neg (by omega)]
      · rw [x1, if_neg (by omega), if_neg (by omega), if_neg (by omega)]
      · rw [x2, if_neg (by omega), if_neg (by omega)]
    · show S1.1 7 10 ≤ (loopE (F1 a : Int) go S16).1 7 10
      rw [f2, lp16, hlp.1]; omega
    · show cqR (loopE (F1 a : Int) go S16) j c = cqR S1 j c
      obtain ⟨x5, x6, x7, x8⟩ := ll c
      have ne : ¬ c = (T1.1 21).toNat := by have := hlp.1; omega
      have hj' : j = 5 ∨ j = 6 ∨ j = 7 ∨ j = 8 := by omega
      rcases hj' with q | q | q | q <;> subst q
      · rw [x5, if_neg ne]
      · rw [x6, if_neg ne]
      · rw [x7, if_neg ne]
      · rw [x8, if_neg ne]
    · show SEG f T' (loopE (F1 a : Int) go S16) (fu F1 (e + 1) (F1 e + 2)) (fu E1 a e) (zu R1 (e + 1) (R1 a + (R1 e - R1 (a + 1)) * cc + 1)) a (T'.1 19).toNat lo (T'.1 21) ko (T'.1 22) go (T'.1 20)
      rw [t19, n1, t21, to 22 (by decide) (by decide) (by decide) (by decide), to 20 (by decide) (by decide) (by decide) (by decide)]
      obtain ⟨i1, i2, i3, i4, i5, i6, i7⟩ := hin'
      have cases3 : ∀ r, a ≤ r → r < e + 1 → r = a ∨ (a + 1 ≤ r ∧ r < e) ∨ r = e := fun r x y => by omega
      have num : ∀ (q : Int) (ff : Nat) (x y y' : Int), NUM (np T') q ff (a + 1) e x y → q ≠ 14 → q ≠ 15 → y ≤ y' → NUM (np T') q ff a (e + 1) x y' := fun q ff x y y' hn q14 q15 hy => by
        refine ⟨fun k x0 y0 hk => ?_, fun k k' x0 y0 x1 y1 hk hk' ek => ?_⟩
        · rcases cases3 k x0 y0 with s | s | s
          · rw [s, aa0] at hk; exact absurd hk.symm q14
          · have := hn.1 k s.1 s.2 hk; omega
          · rw [s, ea0] at hk; exact absurd hk.symm q15
        · rcases cases3 k x0 y0 with s | s | s
          · rw [s, aa0] at hk; exact absurd hk.symm q14
          · rcases cases3 k' x1 y1 with s' | s' | s'
            · rw [s', aa0] at hk'; exact absurd hk'.symm q14
            · exact hn.2 k k' s.1 s.2 s'.1 s'.2 hk hk' ek
            · rw [s', ea0] at hk'; exact absurd hk'.symm q15
          · rw [s, ea0] at hk; exact absurd hk.symm q15
      refine ⟨SG_wrap i1 (by omega) fu_eq (Or.inl ⟨aa0, ea0, aE, ea1⟩), ⟨fun k x y hk => ?_, fun k k' x y x' y' hk hk' ek => ?_⟩, num 12 3 _ _ _ i3 (by decide) (by decide) (Int.le_refl _), num 10 1 _ _ _ i4 (by decide) (by decide) (Int.le_refl _), fun r x y => ?_, fun r x y => ?_, fun r x y => ?_⟩
      · rcases cases3 k x y with s | s | s
        · rw [s, aa3]; omega
        · have := i2.1 k s.1 s.2 hk; omega
        · rw [s, ea0] at hk; omega
      · rcases cases3 k x y with s | s | s
        · rcases cases3 k' x' y' with s' | s' | s'
          · omega
          · have := i2.1 k' s'.1 s'.2 hk'; rw [s, aa3] at ek; omega
          · rw [s', ea0] at hk'; omega
        · rcases cases3 k' x' y' with s' | s' | s'
          · have := i2.1 k s.1 s.2 hk; rw [s', aa3] at ek; omega
          · exact i2.2 k k' s.1 s.2 s'.1 s'.2 hk hk' ek
          · rw [s', ea0] at hk'; omega
        · rw [s, ea0] at hk; omega
      · rcases cases3 r x y with s | s | s
        · subst s
          unfold LOC
          rw [aa0, aa1, aa2, aa3, aL, aM, aC, np0 0 (r + 1) (by omega) (by omega) (by omega)]
          refine ⟨by omega, fun p q => by omega, fun p => by omega, fun p => by omega, fun p => by omega, fun p => by omega, fun _ => ⟨hst, by omega, by omega, by omega, by omega, by omega, by omega, cc1, cc2, cc3⟩⟩
        · exact i5 r s.1 s.2
        · subst s
          unfold LOC
          rw [ea0, ea1, ea2, ea3]
          refine ⟨by omega, fun p q => by omega, fun p => by omega, fun p => by omega, fun p => by omega, fun p => by omega, fun p => by omega⟩
      · rcases cases3 r x y with s | s | s
        · subst s
          rw [zu_ne (show r ≠ e + 1 by omega), zu_ne (show r + 1 ≠ e + 1 by omega), hR, fu_eq, zu_eq, zu_ne (show e ≠ e + 1 by omega), aC]
          exact ⟨Int.le_refl _, fun _ => ⟨rfl, Int.le_refl _⟩⟩
        · exact i6 r s.1 s.2
        · subst s
          rw [zu_ne (show r ≠ r + 1 by omega), zu_eq]
          exact ⟨by omega, fun p => by rw [ea0] at p; omega⟩
      · rcases cases3 r x y with s | s | s
        · subst s
          unfold certS
          rw [fu_ne (show r ≠ e + 1 by omega), fu_ne (show r + 1 ≠ e + 1 by omega), fu_eq, fu_eq, fu_ne (show e ≠ e + 1 by omega), aa0, aL, aM, aa3]
          obtain ⟨x0, x1, x2⟩ := lc (F1 r)
          obtain ⟨y0, y1, y2⟩ := lc (F1 e)
          obtain ⟨w0, w1, w2⟩ := lc (F1 e + 1)
          obtain ⟨z5, z6, z7, z8⟩ := ll (T1.1 21).toNat
          rw [if_pos rfl] at z5 z6 z7 z8
          rw [if_neg (by omega), if_neg (by omega), hq0] at x0
          rw [if_pos rfl] at x1
          rw [if_neg (by omega), if_pos rfl] at y0 y2
          rw [if_pos rfl] at w0 w2
          rw [if_neg (by omega), if_pos rfl] at w1
          refine ⟨by omega, fun p => by omega, fun p => by omega, fun p q => by omega, fun p => by omega, fun p => by omega, fun p => by omega, fun p => by omega, fun p => by omega, fun p => by omega, fun p => by omega, fun _ => ⟨x0, x1, hF, ?_, y2, w0, w1, w2, rfl, z5, z6, ?_, ?_⟩, fun p => by omega⟩
          · rw [y0, aa1]
            rcases hz with q | q <;> subst q
            · rw [if_pos rfl, if_pos (by omega)]
            · rw [if_neg (by decide), if_neg (by omega)]
          · rw [z7, aa2]; omega
          · rw [z8, aa2]; omega
        · exact i7 r s.1 s.2
        · subst s
          unfold certS
          rw [fu_ne (show r ≠ r + 1 by omega), fu_eq, ea0]
          refine ⟨by omega, fun p => by omega, fun p => by omega, fun p q => by omega, fun p => by omega, fun p => by omega, fun p => by omega, fun p => by omega, fun p => by omega, fun p => by omega, fun p => by omega, fun p => by omega, fun p => by omega⟩
    · show 3 * (zu R1 (e + 1) (R1 a + (R1 e - R1 (a + 1)) * cc + 1) (T'.1 19).toNat - zu R1 (e + 1) (R1 a + (R1 e - R1 (a + 1)) * cc + 1) a) ≤ w * cc + 2
      rw [t19, n1, zu_eq, zu_ne (by omega)]
      have q : (3 * (R1 e - R1 (a + 1)) + 1) * cc ≤ w * cc := Int.mul_le_mul_of_nonneg_right hw (by omega)
      rw [Int.add_mul, Int.mul_assoc] at q
      omega
  · rw [if_neg c120]
    refine Or.inl ⟨rfl, fun n => doom_all n T' dm.1 (Or.inr (Or.inl ⟨(T1.1 32 - 1).toNat, ?_, ?_⟩))⟩
    · rw [to 32 (by decide) (by decide) (by decide) (by decide)]
      have := hD.1
      omega
    · unfold wgT at wg
      rw [wg, zu_eq]
      have := hD.2.2.2.2.1 (T1.1 32 - 1).toNat (by have := hD.1; omega)
      omega
