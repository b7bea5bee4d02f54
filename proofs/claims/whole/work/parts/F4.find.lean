/-- what both machines need -/
def COR (a : Nat) (S : CSt) (M : MSt) : Prop := (∃ b, (b = 6 ∨ b = 7) ∧ cFx a b S) ∧ I_tx S M ∧ I_pg S M ∧ I_cf M ∧ sV S ∧ pB 6 S ∧ mkB S ∧ ((∀ j, S.1 18 j ≤ 1000) ∧ (∀ j, 0 ≤ S.1 24 j) ∧ (∀ j, S.1 25 j ≤ 9)) ∧ (0 ≤ S.1 10 3 ∧ S.1 10 3 ≤ 1000)
theorem INV_COR {a b : Nat} {S : CSt} {M : MSt} (h : INV a b S M) : COR a S M := by
  obtain ⟨h1, h2, h3, h4, h5, h6, h7, h8, h9, ⟨b1, b2, b3, b4, b5, b6, b7⟩, h11⟩ := h
  exact ⟨⟨b, h2, h3⟩, h6, h8, h9, b3, b1, b4, b6, b7⟩
theorem CfT_p {p p' : Nat → Nat → Int} {M : MSt} (h : CfT p M) (e : M.2 8 = p' 0 ∧ M.2 9 = p' 1 ∧ M.2 10 = p' 2 ∧ M.2 11 = p' 3) : CfT p' M := ⟨e.1, e.2.1, e.2.2.1, e.2.2.2, h.2.2.2.2⟩
/-- BOTH SEARCH -/
theorem SRCH {a : Nat} {S : CSt} {M : MSt} {fr : Int} (h : COR a S M) (h0 : 0 ≤ fr) (h1 : fr ≤ 1000) : ∃ p, RSs a p fr (M_search fr M) (K0_search fr S) ∧ M_searchOK fr M ∧ K0_searchOK (K0_last fr S) fr (ci (cr S 10 2 6) 10 4 0) ∧ (0 ≤ (M_search fr M).1 → ∀ g : Nat, 1 ≤ g → g ≤ 9 → M.1 12 < (g : Int) → (M_search fr M).2.2 33 g = -1 ∧ (M_search fr M).2.2 33 (10 + g) = -1) ∧ COR a (K0_search fr S).2.2 (M_search fr M).2 := by
  obtain ⟨⟨b, -, hF⟩, htx, ⟨⟨p, R, N, F, hp, hpe, hF0, hcert, hG⟩, hfl, hgr⟩, ⟨p', hcf'⟩, hsV, hpB, hmk, ⟨x18, x24, x25⟩, hpl⟩ := h
  have hcf := CfT_p hcf' hpe
  have htx' := htx
  obtain ⟨t1, t2, t3, t4, t5⟩ := htx'
  have hSK : SK p F (fun r z => M_fitR r z M) N M S := ⟨hcert, fun _ _ => rfl, t1, t4, hfl⟩
  have hC : CBd a (ci (cr S 10 2 6) 10 4 0) := by
    refine ⟨cFx_of rfl (cFx_b6 hF), ⟨sV_ci (S := cr S 10 2 6) hsV (by decide), pB_ci (by decide) (by decide) hpB, by show 0 ≤ S.1 3 1; omega, by show S.1 3 1 ≤ 24; omega, fun j => ?_, hpl.1, hpl.2, by show (0 : Int) ≤ 0; decide, by show (0 : Int) ≤ 500; decide, x18, x24, x25, hmk.1⟩, mkB_of rfl rfl hmk⟩
    have := t5 j
    show 0 ≤ S.1 14 j ∧ S.1 14 j < 65536
    omega
  have rs := SEARCH_all (a := a) hp hF0 hcf hSK hC h0
  have fm := frM_search fr M
  have km := mK.search (bg := fr) (S := S)
  refine ⟨p, rs, search_OK hp hcf t2 h0 h1, csearch_OK hp hF0 hcf hSK hC h0, fun hr g g0 g9 gG => NG_search hp hG hcf h0 hr g0 g9 gG, ?_⟩
  obtain ⟨r1, ⟨r2, r3, r4⟩, -⟩ := rs
  have ks : ∀ n, n ≠ 10 → n ≠ 11 → n ≠ 35 → n ≠ 36 → n ≠ 37 → (K0_search fr S).2.2.1 n = S.1 n := km.1
  refine ⟨⟨6, Or.inl rfl, r2⟩, ?_, ⟨PRG_cg ⟨p, R, N, F, hp, hpe, hF0, hcert, hG⟩ ⟨fm.1 6 (by omega), fm.1 12 (by omega), fun k x y => fm.2 k (by omega)⟩ (pgE_o (fun n hn => ks n (by omega) (by omega) (by omega) (by omega) (by omega)) km.2), ?_, ?_⟩, ⟨p, r1⟩, r3.1, r3.2.1, r4, ?_, r3.2.2.2.2.2.1, r3.2.2.2.2.2.2.1⟩
  · unfold I_tx
    rw [ks 3 (by decide) (by decide) (by decide) (by decide) (by decide), ks 14 (by decide) (by decide) (by decide) (by decide) (by decide), fm.1 4 (by omega), fm.2 3 (by omega)]
    exact htx
  · rw [ks 6 (by decide) (by decide) (by decide) (by decide) (by decide), fm.1 6 (by omega)]; exact hfl
  · rw [ks 6 (by decide) (by decide) (by decide) (by decide) (by decide), fm.1 12 (by omega)]; exact hgr
  · rw [ks 18 (by decide) (by decide) (by decide) (by decide) (by decide), ks 24 (by decide) (by decide) (by decide) (by decide) (by decide), ks 25 (by decide) (by decide) (by decide) (by decide) (by decide)]
    exact ⟨x18, x24, x25⟩
/-- what the machines leave alone -/
theorem INV_mach {a b : Nat} {S S4 : CSt} {M N : MSt} (h : INV a b S M) (hc : COR a S4 N) (hF : cFx a 6 S4) (ks : ∀ n, n ≠ 10 → n ≠ 11 → n ≠ 35 → n ≠ 36 → n ≠ 37 → S4.1 n = S.1 n) (f1 : ∀ k, k ≠ 0 → (k < 35 ∨ k = 36 ∨ 41 < k) → N.1 k = M.1 k) (f2 : ∀ k, (k < 33 ∨ k = 35 ∨ 36 < k) → N.2 k = M.2 k) : INV a 6 S4 N := by
  obtain ⟨h1, h2, h3, h4, h5, h6, h7, h8, h9, ⟨b1, b2, b3, b4, b5, b6, b7⟩, h11⟩ := h
  obtain ⟨-, c1, c2, c3, c4, c5, c6, c7, c8⟩ := hc
  refine ⟨h1, Or.inl rfl, hF, ?_, ?_, c1, ?_, c2, c3, ⟨c5, pB_of (ks 7 (by decide) (by decide) (by decide) (by decide) (by decide)) (fun j hj => ks _ (by unfold pA; omega) (by unfold pA; omega) (by unfold pA; omega) (by unfold pA; omega) (by unfold pA; omega)) b2, c4, c6, ?_, c7, c8⟩, ?_⟩
  · unfold I_ty
    rw [ks 1 (by decide) (by decide) (by decide) (by decide) (by decide), ks 12 (by decide) (by decide) (by decide) (by decide) (by decide), f1 2 (by decide) (by omega), f2 1 (by omega)]; exact h4
  · unfold I_ch
    rw [ks 12 (by decide) (by decide) (by decide) (by decide) (by decide), ks 13 (by decide) (by decide) (by decide) (by decide) (by decide), f2 1 (by omega), f2 13 (by omega)]; exact h5
  · unfold I_re
    rw [ks 4 (by decide) (by decide) (by decide) (by decide) (by decide), ks 15 (by decide) (by decide) (by decide) (by decide) (by decide), ks 16 (by decide) (by decide) (by decide) (by decide) (by decide), f1 47 (by decide) (by omega), f2 46 (by omega), f2 48 (by omega)]; exact h7
  · unfold rQ
    rw [ks 8 (by decide) (by decide) (by decide) (by decide) (by decide), ks 27 (by decide) (by decide) (by decide) (by decide) (by decide), ks 33 (by decide) (by decide) (by decide) (by decide) (by decide), ks 34 (by decide) (by decide) (by decide) (by decide) (by decide), ks 7 (by decide) (by decide) (by decide) (by decide) (by decide)]; exact b5
  · unfold I_fd
    rw [ks 0 (by decide) (by decide) (by decide) (by decide) (by decide), ks 38 (by decide) (by decide) (by decide) (by decide) (by decide), ks 39 (by decide) (by decide) (by decide) (by decide) (by decide), f1 5 (by decide) (by omega), f1 45 (by decide) (by omega), f1 42 (by decide) (by omega), f1 12 (by decide) (by omega), f2 43 (by omega), f2 44 (by omega)]; exact h11
theorem findL_v {wh : Int} : ∀ (n : Nat) (k : Int) (T : CSt), 0 ≤ k → k + n = 10 → ∃ T', K6_findL wh n k T = (0, wh, T') ∧ (∀ j : Nat, j < 10 → T'.1 38 j = (if k ≤ (j : Int) then T.1 35 (10 + j) else T.1 38 j) ∧ T'.1 39 j = (if k ≤ (j : Int) then T.1 35 (20 + j) else T.1 39 j)) ∧ (∀ m, m ≠ 38 → m ≠ 39 → T'.1 m = T.1 m) ∧ T'.2 = T.2
  | 0, k, T, hk, hn => by
    rw [K6_findL]
    exact ⟨T, rfl, fun j hj => by rw [if_neg (by omega), if_neg (by omega)]; exact ⟨rfl, rfl⟩, fun _ _ _ => rfl, rfl⟩
  | n + 1, k, T, hk, hn => by
    rw [K6_findL, if_neg (by omega), if_neg (by omega)]
    have tf : K0_tookFrom k T = T.1 35 (10 + k).toNat := by
      unfold K0_tookFrom K1_mark
      rw [if_neg (by omega), if_neg (by omega)]
    have tt : K0_tookTo k (ci T 38 k.toNat (K0_tookFrom k T)) = T.1 35 (20 + k).toNat := by
      unfold K0_tookTo K1_mark
      rw [if_neg (by omega), if_neg (by omega), ci_ne (by decide)]
    rw [tt, tf]
    obtain ⟨T', r1, r2, r3, r4⟩ := findL_v (wh := wh) n (k + 1) (ci (ci T 38 k.toNat (T.1 35 (10 + k).toNat)) 39 k.toNat (T.1 35 (20 + k).toNat)) (by omega) (by omega)
    refine ⟨T', r1, fun j hj => ?_, fun m a b => (r3 m a b).trans ((ci_ne b).trans (ci_ne a)), r4⟩
    obtain ⟨q1, q2⟩ := r2 j hj
    have e35 : (ci (ci T 38 k.toNat (T.1 35 (10 + k).toNat)) 39 k.toNat (T.1 35 (20 + k).toNat)).1 35 = T.1 35 := rfl
    have e38 : (ci (ci T 38 k.toNat (T.1 35 (10 + k).toNat)) 39 k.toNat (T.1 35 (20 + k).toNat)).1 38 = zu (T.1 38) k.toNat (T.1 35 (10 + k).toNat) := rfl
    have e39 : (ci (ci T 38 k.toNat (T.1 35 (10 + k).toNat)) 39 k.toNat (T.1 35 (20 + k).toNat)).1 39 = zu (T.1 39) k.toNat (T.1 35 (20 + k).toNat) := rfl
    rw [q1, q2, e35, e38, e39]
    by_cases c : k + 1 ≤ (j : Int)
    · rw [if_pos c, if_pos c, if_pos (by omega), if_pos (by omega)]; exact ⟨rfl, rfl⟩
    · rw [if_neg c, if_neg c]
      by_cases e : j = k.toNat
      · rw [e, zu_eq, zu_eq, if_pos (by omega), if_pos (by omega), show (10 + k).toNat = 10 + k.toNat by omega, show (20 + k).toNat = 20 + k.toNat by omega]; exact ⟨rfl, rfl⟩
      · rw [zu_ne e, zu_ne e, if_neg (by omega), if_neg (by omega)]; exact ⟨rfl, rfl⟩
theorem mfindL_v {pl : Int} : ∀ (n : Nat) (g : Int) (T : MSt), 0 ≤ g → ∀ j : Nat, (M_findL pl n g T).2 43 j = (if g ≤ (j : Int) ∧ (j : Int) < g + n then T.2 33 j else T.2 43 j) ∧ (M_findL pl n g T).2 44 j = (if g ≤ (j : Int) ∧ (j : Int) < g + n then T.2 33 (10 + j) else T.2 44 j)
  | 0, g, T, hg, j => by
    rw [M_findL, if_neg (by omega), if_neg (by omega)]; exact ⟨rfl, rfl⟩
  | n + 1, g, T, hg, j => by
    rw [M_findL]
    obtain ⟨q1, q2⟩ := mfindL_v (pl := pl) n (g + 1) (ma (ma T 43 g.toNat (T.2 33 g.toNat)) 44 g.toNat (T.2 33 (10 + g).toNat)) (by omega) j
    have e33 : (ma (ma T 43 g.toNat (T.2 33 g.toNat)) 44 g.toNat (T.2 33 (10 + g).toNat)).2 33 = T.2 33 := rfl
    have e43 : (ma (ma T 43 g.toNat (T.2 33 g.toNat)) 44 g.toNat (T.2 33 (10 + g).toNat)).2 43 = zu (T.2 43) g.toNat (T.2 33 g.toNat) := rfl
    have e44 : (ma (ma T 43 g.toNat (T.2 33 g.toNat)) 44 g.toNat (T.2 33 (10 + g).toNat)).2 44 = zu (T.2 44) g.toNat (T.2 33 (10 + g).toNat) := rfl
    rw [q1, q2, e33, e43, e44]
    by_cases c : g + 1 ≤ (j : Int) ∧ (j : Int) < g + 1 + n
    · rw [if_pos c, if_pos c, if_pos (by omega), if_pos (by omega)]; exact ⟨rfl, rfl⟩
    · rw [if_neg c, if_neg c]
      by_cases e : j = g.toNat
      · rw [e, zu_eq, zu_eq, if_pos (by omega), if_pos (by omega), show (10 + g).toNat = 10 + g.toNat by omega]; exact ⟨rfl, rfl⟩
      · rw [zu_ne e, zu_ne e, if_neg (by omega), if_neg (by omega)]; exact ⟨rfl, rfl⟩
/-- after a find: start, steps and what was found are new -/
theorem INV_fd {a b : Nat} {S S' : CSt} {M M' : MSt} (h : INV a b S M) (hs : ∀ n, n ≠ 0 → n ≠ 38 → n ≠ 39 → S'.1 n = S.1 n) (hs2 : S'.2 = S.2) (hm : ∀ k, k ≠ 5 → k ≠ 42 → k ≠ 45 → M'.1 k = M.1 k) (hm2 : ∀ k, k ≠ 43 → k ≠ 44 → M'.2 k = M.2 k) (hf : I_fd S' M') : INV a b S' M' := by
  obtain ⟨h1, h2, h3, h4, h5, h6, h7, ⟨h8, h8'⟩, ⟨p, h9⟩, h10, -⟩ := h
  refine ⟨h1, h2, cFx_of (by rw [hs2]) h3, ?_, ?_, ?_, ?_, ⟨PRG_cg h8 ⟨hm 6 (by decide) (by decide) (by decide), hm 12 (by decide) (by decide) (by decide), fun k x y => hm2 k (by omega) (by omega)⟩ (pgE_o (fun n hn => hs n (by omega) (by omega) (by omega)) (by rw [hs2])), ?_⟩, ⟨p, ?_⟩, I_bd_o (fun n hn => hs n (by omega) (by omega) (by omega)) (by rw [hs2]) h10, hf⟩
  · unfold I_ty
    rw [hs 1 (by decide) (by decide) (by decide), hs 12 (by decide) (by decide) (by decide), hm 2 (by decide) (by decide) (by decide), hm2 1 (by decide) (by decide)]; exact h4
  · unfold I_ch
    rw [hs 12 (by decide) (by decide) (by decide), hs 13 (by decide) (by decide) (by decide), hm2 1 (by decide) (by decide), hm2 13 (by decide) (by decide)]; exact h5
  · unfold I_tx
    rw [hs 3 (by decide) (by decide) (by decide), hs 14 (by decide) (by decide) (by decide), hm 4 (by decide) (by decide) (by decide), hm2 3 (by decide) (by decide)]; exact h6
  · unfold I_re
    rw [hs 4 (by decide) (by decide) (by decide), hs 15 (by decide) (by decide) (by decide), hs 16 (by decide) (by decide) (by decide), hm 47 (by decide) (by decide) (by decide), hm2 46 (by decide) (by decide), hm2 48 (by decide) (by decide)]; exact h7
  · rw [hs 6 (by decide) (by decide) (by decide), hm 6 (by decide) (by decide) (by decide), hm 12 (by decide) (by decide) (by decide)]; exact h8'
  · unfold CfT
    rw [hm2 8 (by decide) (by decide), hm2 9 (by decide) (by decide), hm2 10 (by decide) (by decide), hm2 11 (by decide) (by decide), hm2 3 (by decide) (by decide), hm2 7 (by decide) (by decide), hm2 34 (by decide) (by decide), hm2 33 (by decide) (by decide), hm 4 (by decide) (by decide) (by decide), hm 6 (by decide) (by decide) (by decide), hm 35 (by decide) (by decide) (by decide), hm 37 (by decide) (by decide) (by decide), hm 40 (by decide) (by decide) (by decide), hm 41 (by decide) (by decide) (by decide)]
    exact h9
theorem C_find {a b : Nat} {S : CSt} {M : MSt} (h : INV a b S M) : COK a 6 (K6_find S) (K6_find S).2.2 (M_find M) ∧ M_findOK M ∧ K0_searchOK (K0_last (S.1 0 11) S) (S.1 0 11) (ci (cr S 10 2 6) 10 4 0) := by
  have h12 := INV_12 h
  have hfd := h.2.2.2.2.2.2.2.2.2.2
  obtain ⟨⟨s1, s2, s3⟩, s4, s5, s6⟩ := hfd
  have hM0 : INV a b S (mi M 0 0) := INV_0 h
  obtain ⟨p, rs, ok1, ok2, ng, cor⟩ := SRCH (fr := M.1 5) (INV_COR hM0) s2 (by omega)
  have fm := frM_search (M.1 5) (mi M 0 0)
  have km := (mK.search (bg := M.1 5) (S := S)).1
  have e12 : (M_search (M.1 5) (mi M 0 0)).2.1 12 = M.1 12 := fm.1 12 (by omega)
  have hr := rs
  obtain ⟨cf, cb, rr⟩ := hr
  have q41 : (M_search (M.1 5) (mi M 0 0)).2.1 41 = 0 ∨ (M_search (M.1 5) (mi M 0 0)).2.1 41 = 1 := by
    rcases rr with y | y | y
    · exact Or.inl y.2.2.2.1
    · exact Or.inl y.2.1
    · exact Or.inr y.2.1
  have q1 : -1 ≤ (M_search (M.1 5) (mi M 0 0)).1 ∧ (M_search (M.1 5) (mi M 0 0)).1 ≤ 24 := by
    have l := cf.2.2.2.2.1
    rcases rr with y | y | y
    · omega
    · omega
    · omega
  rw [s1]
  refine ⟨?_, ⟨ok1, by omega, by omega, by omega, by omega, by omega, by omega⟩, ok2⟩
  have iv : INV a 6 (K0_search (M.1 5) S).2.2 (M_search (M.1 5) (mi M 0 0)).2 := INV_mach h cor cb.1 km (fun k k0 hk => (fm.1 k hk).trans (if_neg k0)) (fun k hk => fm.2 k hk)
  have m0 : (M_search (M.1 5) (mi M 0 0)).2.1 0 = 0 := (fm.1 0 (by omega)).trans rfl
  unfold K6_find M_find
  rw [s1]
  generalize K0_search (M.1 5) S = c at *
  generalize M_search (M.1 5) (mi M 0 0) = m at *
  obtain ⟨e, w, S4⟩ := c
  obtain ⟨v, N⟩ := m
  have rr' : (M.1 5 ≤ v ∧ 0 ≤ v ∧ v ≤ N.1 4 ∧ N.1 41 = 0 ∧ e = 0 ∧ w = v ∧ FNd v N S4) ∨ (v = -1 ∧ N.1 41 = 0 ∧ e = 0 ∧ w = -1 ∧ S4.1 10 4 = N.1 40) ∨ (v = -1 ∧ N.1 41 = 1 ∧ e = 1) := rr
  have iv' : INV a 6 S4 N := iv
  have m0' : N.1 0 = 0 := m0
  have e12' : N.1 12 = M.1 12 := e12
  have cf' : CfT p N := cf
  show COK a 6 (gBd (e, w, S4) _) (gBd (e, w, S4) _).2.2 (if N.1 41 = 0 then _ else (0, mi N 0 1))
  rcases rr' with ⟨y1, y2, y3, y4, y5, y6, y7⟩ | ⟨y1, y2, y3, y4, y5⟩ | ⟨y1, y2, y3⟩
  · subst y5
    subst y6
    rw [bd_0, if_pos y4, if_neg (show ¬ w = -1 by omega)]
    obtain ⟨z1, z2, z3, z4, z5, z6, z7⟩ := y7
    have tt : K0_tookTo 0 (ci S4 0 12 (S4.1 10 4)) = N.1 38 := by
      unfold K0_tookTo K1_mark
      rw [if_neg (by decide), if_neg (by decide), ci_ne (by decide)]
      exact z7
    rw [tt]
    obtain ⟨T', r1, r2, r3, r4⟩ := findL_v (wh := w) 10 0 (ci (ci S4 0 12 (S4.1 10 4)) 0 11 (N.1 38)) (Int.le_refl _) (by decide)
    rw [r1]
    have d0 : (if w < 0 then 0 else 1 : Int) = 1 := if_neg (by omega)
    rw [show (w, N).1 = w from rfl, show (w, N).2 = N from rfl, d0, if_neg i10]
    generalize hX : mi (mi (mi N 45 (N.1 40)) 42 1) 5 (N.1 38) = X
    have x1 : ∀ k, k ≠ 5 → k ≠ 42 → k ≠ 45 → X.1 k = N.1 k := fun k a1 a2 a3 => by
      rw [← hX]
      show (if k = 5 then _ else if k = 42 then _ else if k = 45 then _ else N.1 k) = N.1 k
      rw [if_neg a1, if_neg a2, if_neg a3]
    have x2 : X.2 = N.2 := by rw [← hX]; rfl
    have x5 : X.1 5 = N.1 38 := by rw [← hX]; rfl
    have x42 : X.1 42 = 1 := by rw [← hX]; rfl
    have x45 : X.1 45 = N.1 40 := by rw [← hX]; rfl
    have g1 := M_findL_1 w (N.1 12).toNat 1 X
    have g2 := fun (k : Nat) (h43 : k ≠ 43) (h44 : k ≠ 44) => M_findL_2 w h43 h44 (N.1 12).toNat 1 X
    have g3 := mfindL_v (pl := w) (N.1 12).toNat 1 X (by decide)
    generalize M_findL w (N.1 12).toNat 1 X = Y at *
    have p1 : (ma (ma Y 43 (0 : Int).toNat w) 44 (0 : Int).toNat (N.1 38)).1 = X.1 := g1
    have p2 : ∀ k, k ≠ 43 → k ≠ 44 → (ma (ma Y 43 (0 : Int).toNat w) 44 (0 : Int).toNat (N.1 38)).2 k = N.2 k := fun k a1 a2 => by
      show (if k = 44 then _ else if k = 43 then _ else Y.2 k) = _
      rw [if_neg a2, if_neg a1, g2 k a1 a2, x2]
    have p43 : (ma (ma Y 43 (0 : Int).toNat w) 44 (0 : Int).toNat (N.1 38)).2 43 = zu (Y.2 43) 0 w := rfl
    have p44 : (ma (ma Y 43 (0 : Int).toNat w) 44 (0 : Int).toNat (N.1 38)).2 44 = zu (Y.2 44) 0 (N.1 38) := rfl
    generalize ma (ma Y 43 (0 : Int).toNat w) 44 (0 : Int).toNat (N.1 38) = Z at *
    refine Or.inr ⟨rfl, by show Z.1 0 = 0; rw [p1, x1 0 (by decide) (by decide) (by decide)]; exact m0', rfl, INV_fd iv' (fun n a0 a1 a2 => (r3 n a1 a2).trans ((ci_ne a0).trans (ci_ne a0))) r4 (fun k a1 a2 a3 => by show Z.1 k = _; rw [p1]; exact x1 k a1 a2 a3) p2 ?_⟩
    have t0 : T'.1 0 = zu (zu (S4.1 0) 12 (S4.1 10 4)) 11 (N.1 38) := by rw [r3 0 (by decide) (by decide)]; rfl
    refine ⟨?_, ?_, ?_, fun k hk => ?_⟩
    · show T'.1 0 11 = Z.1 5 ∧ 0 ≤ Z.1 5 ∧ Z.1 5 ≤ 24
      rw [t0, zu_eq, p1, x5]
      have := cf'.2.2.2.2.1
      exact ⟨rfl, z3, by omega⟩
    · show T'.1 0 12 = Z.1 45
      rw [t0, zu_ne (by decide), zu_eq, p1, x45]; exact z2
    · show Z.1 42 = 0 ∨ Z.1 42 = 1
      rw [p1, x42]; exact Or.inr rfl
    · obtain ⟨u1, u2⟩ := r2 k hk
      obtain ⟨v1, v2⟩ := g3 k
      have e35 : (ci (ci S4 0 12 (S4.1 10 4)) 0 11 (N.1 38)).1 35 = S4.1 35 := rfl
      show T'.1 38 k = (if Z.1 42 = 1 ∧ (k : Int) ≤ Z.1 12 then Z.2 43 k else -1) ∧ T'.1 39 k = (if Z.1 42 = 1 ∧ (k : Int) ≤ Z.1 12 then Z.2 44 k else -1)
      rw [if_pos (show (0 : Int) ≤ (k : Int) by omega), e35] at u1 u2
      rw [u1, u2, p1, x42, x1 12 (by decide) (by decide) (by decide), p43, p44]
      by_cases k0 : k = 0
      · subst k0
        have cz : (1 : Int) = 1 ∧ ((0 : Nat) : Int) ≤ N.1 12 := ⟨rfl, by omega⟩
        rw [if_pos cz, if_pos cz, zu_eq, zu_eq]
        exact ⟨z6, z7⟩
      · obtain ⟨w1, w2, -⟩ := z5 k (by omega) (by omega)
        rw [w1, w2, zu_ne k0, zu_ne k0, v1, v2, x2]
        by_cases cg : (k : Int) ≤ N.1 12
        · have cz : (1 : Int) = 1 ∧ (k : Int) ≤ N.1 12 := ⟨rfl, cg⟩
          have cv : 1 ≤ (k : Int) ∧ (k : Int) < 1 + ((N.1 12).toNat : Nat) := by omega
          rw [if_pos cz, if_pos cz, if_pos cv, if_pos cv]; exact ⟨rfl, rfl⟩
        · have cz : ¬ ((1 : Int) = 1 ∧ (k : Int) ≤ N.1 12) := fun y => cg y.2
          rw [if_neg cz, if_neg cz]
          exact ng y2 k (by omega) (by omega) (by show M.1 12 < (k : Int); omega)
  · subst y3
    subst y4
    subst y1
    rw [bd_0, if_pos y2, if_pos rfl]
    rw [show ((-1, N) : Int × MSt).1 = -1 from rfl, show ((-1, N) : Int × MSt).2 = N from rfl]
    have d0 : (if (-1 : Int) < 0 then 0 else 1 : Int) = 0 := if_pos (by decide)
    rw [d0, if_pos rfl]
    generalize hX : mi (mi (mi N 45 (N.1 40)) 42 0) 5 0 = X
    have x1 : ∀ k, k ≠ 5 → k ≠ 42 → k ≠ 45 → X.1 k = N.1 k := fun k a1 a2 a3 => by
      rw [← hX]
      show (if k = 5 then _ else if k = 42 then _ else if k = 45 then _ else N.1 k) = N.1 k
      rw [if_neg a1, if_neg a2, if_neg a3]
    have x2 : X.2 = N.2 := by rw [← hX]; rfl
    have x5 : X.1 5 = 0 := by rw [← hX]; rfl
    have x42 : X.1 42 = 0 := by rw [← hX]; rfl
    have x45 : X.1 45 = N.1 40 := by rw [← hX]; rfl
    have g1 := M_findL_1 (-1) (N.1 12).toNat 1 X
    have g2 := fun (k : Nat) (h43 : k ≠ 43) (h44 : k ≠ 44) => M_findL_2 (-1) h43 h44 (N.1 12).toNat 1 X
    generalize M_findL (-1) (N.1 12).toNat 1 X = Y at *
    have p1 : (ma (ma Y 43 (0 : Int).toNat (-1)) 44 (0 : Int).toNat (N.1 38)).1 = X.1 := g1
    have p2 : ∀ k, k ≠ 43 → k ≠ 44 → (ma (ma Y 43 (0 : Int).toNat (-1)) 44 (0 : Int).toNat (N.1 38)).2 k = N.2 k := fun k a1 a2 => by
      show (if k = 44 then _ else if k = 43 then _ else Y.2 k) = _
      rw [if_neg a2, if_neg a1, g2 k a1 a2, x2]
    generalize ma (ma Y 43 (0 : Int).toNat (-1)) 44 (0 : Int).toNat (N.1 38) = Z at *
    have f0 : (K6_forgetFound (ci (ci S4 0 12 (S4.1 10 4)) 0 11 0)).1 0 = zu (zu (S4.1 0) 12 (S4.1 10 4)) 11 0 := by rw [K6_forgetFound_1 (by decide) (by decide)]; rfl
    refine Or.inr ⟨rfl, by show Z.1 0 = 0; rw [p1, x1 0 (by decide) (by decide) (by decide)]; exact m0', rfl, INV_fd iv' (fun n a0 a1 a2 => (K6_forgetFound_1 a1 a2).trans ((ci_ne a0).trans (ci_ne a0))) K6_forgetFound_2 (fun k a1 a2 a3 => by show Z.1 k = _; rw [p1]; exact x1 k a1 a2 a3) p2 ?_⟩
    refine ⟨?_, ?_, ?_, fun k hk => ?_⟩
    · show (K6_forgetFound (ci (ci S4 0 12 (S4.1 10 4)) 0 11 0)).1 0 11 = Z.1 5 ∧ 0 ≤ Z.1 5 ∧ Z.1 5 ≤ 24
      rw [f0, zu_eq, p1, x5]; decide
    · show (K6_forgetFound (ci (ci S4 0 12 (S4.1 10 4)) 0 11 0)).1 0 12 = Z.1 45
      rw [f0, zu_ne (by decide), zu_eq, p1, x45]; exact y5
    · show Z.1 42 = 0 ∨ Z.1 42 = 1
      rw [p1, x42]; exact Or.inl rfl
    · obtain ⟨u1, u2⟩ := K6_fF_v (S := ci (ci S4 0 12 (S4.1 10 4)) 0 11 0) hk
      show (K6_forgetFound (ci (ci S4 0 12 (S4.1 10 4)) 0 11 0)).1 38 k = (if Z.1 42 = 1 ∧ (k : Int) ≤ Z.1 12 then Z.2 43 k else -1) ∧ (K6_forgetFound (ci (ci S4 0 12 (S4.1 10 4)) 0 11 0)).1 39 k = (if Z.1 42 = 1 ∧ (k : Int) ≤ Z.1 12 then Z.2 44 k else -1)
      have n1 : ¬ (Z.1 42 = 1 ∧ (k : Int) ≤ Z.1 12) := fun y => by rw [p1, x42] at y; exact absurd y.1 (by decide)
      rw [u1, u2, if_neg n1, if_neg n1]; exact ⟨rfl, rfl⟩
  · subst y3
    rw [if_neg (show ¬ N.1 41 = 0 by omega)]
    exact Or.inl ⟨rfl, rfl, INV_0 iv'⟩
