theorem emT {w x y z : Int} {T : MSt} : (M_emit w x y z T).1 19 = T.1 19 + 1 ∧ (∀ k, k ≠ 19 → (M_emit w x y z T).1 k = T.1 k) ∧ (∀ k, k < 15 ∨ 18 < k → (M_emit w x y z T).2 k = T.2 k) := by
  refine ⟨rfl, fun k a => ?_, fun k hk => ?_⟩
  · show (if k = 19 then _ else T.1 k) = _
    rw [if_neg a]
  · show (if k = 18 then _ else if k = 17 then _ else if k = 16 then _ else if k = 15 then _ else T.2 k) = _
    rw [if_neg (by omega), if_neg (by omega), if_neg (by omega), if_neg (by omega)]
theorem frB_emit {T Tc : MSt} {u w x y z : Int} (h : frB T Tc u) : frB T (M_emit w x y z Tc) u := by
  obtain ⟨a1, a2, a3, a4, a5, a6⟩ := h
  obtain ⟨-, e1, e2⟩ := emT (w := w) (x := x) (y := y) (z := z) (T := Tc)
  refine ⟨a1, a2, a3, a4, fun k hk => (e1 k (by omega)).trans (a5 k hk), fun k hk => (e2 k (by omega)).trans (a6 k hk)⟩
/-- one order more in both at the end of what was read -/
theorem RR_emit {f d : Int} {T : MSt} {S : CSt} {F : Nat → Nat} {w x y z kd am nb : Int} (h : RR f d T S F) (hz : S.1 7 5 + 1 ≤ 2 * T.1 24 + 1 + d) (hc : T.1 19 + 1 ≤ 3 * T.1 24 + 1) (hV : rV (addS kd am nb S)) : RR f d (M_emit w x y z T) (addS kd am nb S) (fu F ((T.1 19).toNat + 1) (F (T.1 19).toNat + 1)) := by
  obtain ⟨⟨e1, e2, e3⟩, h25, hD, hsg, hlen, hg, hlp, hlk, hgr, hsz, hcd, hd, hf, hv⟩ := h
  have n1 : (T.1 19 + 1).toNat = (T.1 19).toNat + 1 := by omega
  have hz1 := hsz.1
  refine ⟨⟨?_, e2, fun k hk => ?_⟩, h25, hD, hsg, ?_, ?_, ?_, ?_, ?_, ?_, ?_, hd, ?_, hV⟩
  · rw [addS_o (by omega)]; exact e1
  · rw [addS_at]; exact e3 k hk
  · rw [addS_o (by omega)]; exact hlen
  · rw [addS_7 (by decide)]; exact hg
  · rw [addS_7 (by decide)]; exact hlp
  · rw [addS_7 (by decide)]; exact hlk
  · rw [addS_o (by omega)]; exact hgr
  · show (addS kd am nb S).1 7 5 = ((fu F ((T.1 19).toNat + 1) (F (T.1 19).toNat + 1) (T.1 19 + 1).toNat : Nat) : Int) ∧ (addS kd am nb S).1 7 5 ≤ 2 * T.1 24 + 1 + d
    rw [n1, fu_eq, addS_75]; omega
  · show 0 ≤ T.1 19 + 1 ∧ T.1 19 + 1 ≤ 3 * T.1 24 + 1
    omega
  · rw [addS_7 (by decide)]; exact hf
theorem dm_step {T : MSt} (hD : DMi T) (h25 : T.1 25 = 0) (hl : T.1 24 < T.1 14) (h : DM (rdS T)) : dmR (rdS T) := by
  rcases rd_step hD h25 hl with q | q
  · exact dmR_bad q
  · exact fun n => doom_all n _ q.2.2.1 h
/-- what is emitted at '(' -/
theorem emG {T0 : MSt} {g v u : Int} (h0 : 0 ≤ T0.1 19) : (M_emit 10 u 0 0 (mi (M_emit 17 0 g 0 (mi T0 24 v)) 20 u)).1 19 = T0.1 19 + 2 ∧ (M_emit 10 u 0 0 (mi (M_emit 17 0 g 0 (mi T0 24 v)) 20 u)).1 24 = v ∧ (M_emit 10 u 0 0 (mi (M_emit 17 0 g 0 (mi T0 24 v)) 20 u)).1 20 = u ∧ (∀ k, k ≠ 19 → k ≠ 24 → k ≠ 20 → (M_emit 10 u 0 0 (mi (M_emit 17 0 g 0 (mi T0 24 v)) 20 u)).1 k = T0.1 k) ∧ (∀ k, k < 15 ∨ 18 < k → (M_emit 10 u 0 0 (mi (M_emit 17 0 g 0 (mi T0 24 v)) 20 u)).2 k = T0.2 k) ∧ (np (M_emit 10 u 0 0 (mi (M_emit 17 0 g 0 (mi T0 24 v)) 20 u)) 0 (T0.1 19).toNat = 17 ∧ np (M_emit 10 u 0 0 (mi (M_emit 17 0 g 0 (mi T0 24 v)) 20 u)) 1 (T0.1 19).toNat = 0 ∧ np (M_emit 10 u 0 0 (mi (M_emit 17 0 g 0 (mi T0 24 v)) 20 u)) 2 (T0.1 19).toNat = g ∧ np (M_emit 10 u 0 0 (mi (M_emit 17 0 g 0 (mi T0 24 v)) 20 u)) 3 (T0.1 19).toNat = 0) ∧ (np (M_emit 10 u 0 0 (mi (M_emit 17 0 g 0 (mi T0 24 v)) 20 u)) 0 ((T0.1 19).toNat + 1) = 10 ∧ np (M_emit 10 u 0 0 (mi (M_emit 17 0 g 0 (mi T0 24 v)) 20 u)) 1 ((T0.1 19).toNat + 1) = u ∧ np (M_emit 10 u 0 0 (mi (M_emit 17 0 g 0 (mi T0 24 v)) 20 u)) 2 ((T0.1 19).toNat + 1) = 0 ∧ np (M_emit 10 u 0 0 (mi (M_emit 17 0 g 0 (mi T0 24 v)) 20 u)) 3 ((T0.1 19).toNat + 1) = 0) ∧ (∀ j k : Nat, k < (T0.1 19).toNat → np (M_emit 10 u 0 0 (mi (M_emit 17 0 g 0 (mi T0 24 v)) 20 u)) j k = np T0 j k) := by
  obtain ⟨a1, a2, a3, a4, a5, a6⟩ := em17 (T0 := T0) (g := g) (v := v)
  generalize M_emit 17 0 g 0 (mi T0 24 v) = X at a1 a2 a3 a4 a5 a6
  have x19 : (mi X 20 u).1 19 = T0.1 19 + 1 := a1
  have n1 : ((mi X 20 u).1 19).toNat = (T0.1 19).toNat + 1 := by omega
  obtain ⟨b1, b2, b3⟩ := emT (w := 10) (x := u) (y := 0) (z := 0) (T := mi X 20 u)
  have b4 := np_emit0 (w := 10) (x := u) (y := 0) (z := 0) (T := mi X 20 u)
  rw [n1] at b4
  have b5 : ∀ j k : Nat, k ≠ (T0.1 19).toNat + 1 → np (M_emit 10 u 0 0 (mi X 20 u)) j k = np X j k := fun j k hk => np_emit (T := mi X 20 u) (by omega)
  refine ⟨by omega, ?_, ?_, fun k a b c => ?_, fun k hk => (b3 k hk).trans (a4 k hk), ?_, b4, fun j k hk => (b5 j k (by omega)).trans (a6 j k (by omega))⟩
  · rw [b2 24 (by decide)]; exact a2
  · rw [b2 20 (by decide)]; rfl
  · rw [b2 k a]
    show (if k = 20 then _ else X.1 k) = _
    rw [if_neg c]; exact a3 k a b
  · rw [b5 0 _ (by omega), b5 1 _ (by omega), b5 2 _ (by omega), b5 3 _ (by omega)]; exact a5
/-- a closed body becomes a group: T1 = CLOSE emitted behind it -/
theorem GRC {f d : Int} {Tc : MSt} {S11 : CSt} {F' E' : Nat → Nat} {R' : Nat → Int} {a e : Nat} {g lo hi ko ki gi : Int} (h6 : RR f d Tc S11 F') (he : (e : Int) = Tc.1 19) (hae : a + 3 < e) (hz : S11.1 7 5 + 1 ≤ 2 * Tc.1 24 + 1 + d) (hc : Tc.1 19 + 1 ≤ 3 * Tc.1 24 + 1) (l0 : 0 ≤ lo) (l1 : lo ≤ hi) (k1 : ko ≤ ki) (g0 : 0 ≤ g) (g9 : g < 9) (g1 : g + 1 ≤ gi) (hs : SEG f Tc S11 F' E' R' (a + 1 + 1) e lo hi ko ki (g + 1) gi) (pb : np Tc 0 (a + 1) = 10 ∧ np Tc 1 (a + 1) = g + 1 ∧ np Tc 2 (a + 1) = 0 ∧ np Tc 3 (a + 1) = 0) (pb1 : np Tc 0 (a + 1 + 1) = 1) (hF : F' (a + 1 + 1) = F' (a + 1) + 1) (hR : R' (a + 1 + 1) = R' (a + 1)) (hq0 : cqR S11 0 (F' (a + 1)) = 7) (hq2 : cqR S11 2 (F' (a + 1)) = g + 1) (hV : rV (addS 8 (-1) (g + 1) S11)) :
    RR f d (M_emit 11 (g + 1) 0 0 Tc) (addS 8 (-1) (g + 1) S11) (fu F' (e + 1) (F' e + 1)) ∧ SEG f (M_emit 11 (g + 1) 0 0 Tc) (addS 8 (-1) (g + 1) S11) (fu F' (e + 1) (F' e + 1)) (fu E' (a + 1) e) (zu R' (e + 1) (R' e)) (a + 1) (e + 1) lo hi ko ki g gi := by
  have en : (Tc.1 19).toNat = e := by omega
  have hrr := RR_emit (w := 11) (x := g + 1) (y := 0) (z := 0) (kd := 8) (am := -1) (nb := g + 1) h6 hz hc hV
  rw [en] at hrr
  refine ⟨hrr, ?_⟩
  have hz1 := h6.2.2.2.2.2.2.2.2.2.1.1
  rw [en] at hz1
  have n0 := np_emit0 (w := 11) (x := g + 1) (y := 0) (z := 0) (T := Tc)
  rw [en] at n0
  have nn : ∀ j k : Nat, k ≠ e → np (M_emit 11 (g + 1) 0 0 Tc) j k = np Tc j k := fun j k hk => np_emit (by omega)
  have h13 : (M_emit 11 (g + 1) 0 0 Tc).2 13 = Tc.2 13 := rfl
  have hi1 := addS_hi (kd := 8) (am := -1) (nb := g + 1) (S := S11)
  rw [show (S11.1 7 5).toNat = F' e by omega] at hi1
  have clo1 : F' (a + 1) < F' e := by
    have := CERT_le hs.2.2.2.2.2.2 (Nat.le_refl _) (show a + 1 + 1 ≤ e by omega) (Nat.le_refl _)
    omega
  generalize M_emit 11 (g + 1) 0 0 Tc = T1 at n0 nn h13
  have seg : SEG f T1 (addS 8 (-1) (g + 1) S11) (fu F' (e + 1) (F' e + 1)) (fu E' (a + 1) e) (zu R' (e + 1) (R' e)) (a + 1 + 1) e lo hi ko ki (g + 1) gi := by
    refine SEG_cong l0 h13 (fun j k _ _ hk => nn j k (by omega)) (fun k _ hk => fu_ne (by omega)) (fun k hk _ => fu_ne (by omega)) (fun k _ hk => zu_ne (by omega)) (fun j k _ hk hj => addS_lo hj (by omega)) (fun j k _ _ _ => rfl) (fun j c _ _ h5 _ => addS_l h5) hs
  have c0 : cqR (addS 8 (-1) (g + 1) S11) 0 (F' (a + 1)) = 7 := (addS_lo (by omega) (by omega)).trans hq0
  have c2 : cqR (addS 8 (-1) (g + 1) S11) 2 (F' (a + 1)) = g + 1 := (addS_lo (by omega) (by omega)).trans hq2
  have p1 : ∀ j : Nat, np T1 j (a + 1) = np Tc j (a + 1) := fun j => nn j _ (by omega)
  have p2 : np T1 0 (a + 1 + 1) = 1 := by rw [nn 0 _ (by omega)]; exact pb1
  refine SEG_wr l1 (Int.le_refl _) k1 (by omega) g1 seg (by omega) fu_eq (Or.inl ⟨by rw [p1]; exact pb.1, n0.1, by rw [n0.2.1, p1]; exact pb.2.1.symm⟩) ?_ ?_ (NUM_none (fun h x y => by rw [show h = a + 1 by omega, p1, pb.1]; omega)) ⟨fun h x y z => ?_, fun h h' x y x' y' _ _ _ => by omega⟩ (by rw [zu_ne (by omega), zu_ne (by omega)]; exact hR) (by rw [zu_eq, zu_ne (by omega)]) ?_ ?_
  · unfold LOC
    rw [p1, p1, p1, p1, p2, pb.1, pb.2.1, pb.2.2.1, pb.2.2.2]
    refine ⟨by omega, fun a b => by omega, fun a => by omega, fun a => by omega, fun a => ⟨rfl, by omega, by omega⟩, fun a => by omega, fun a => by omega⟩
  · unfold LOC
    rw [n0.1, n0.2.1, n0.2.2.1, n0.2.2.2]
    refine ⟨by omega, fun a b => by omega, fun a => by omega, fun a => by omega, fun a => by omega, fun a => by omega, fun a => by omega⟩
  · rw [show h = a + 1 by omega, p1, pb.2.1]; omega
  · unfold certS
    rw [p1, p1, pb.1, pb.2.1, fu_ne (show a + 1 ≠ e + 1 by omega), fu_ne (show a + 1 + 1 ≠ e + 1 by omega), hF]
    refine ⟨by omega, fun q => by omega, fun q => by omega, fun q q' => by omega, fun q => by omega, fun q => by omega, fun q => by omega, fun _ => ⟨c0, rfl, c2⟩, fun q => by omega, fun q => by omega, fun q => by omega, fun q => by omega, fun q => by omega⟩
  · unfold certS
    rw [n0.1, n0.2.1, fu_eq, fu_ne (show e ≠ e + 1 by omega)]
    refine ⟨by omega, fun q => by omega, fun q => by omega, fun q q' => by omega, fun q => by omega, fun q => by omega, fun q => by omega, fun q => by omega, fun _ => ⟨hi1.1, rfl, hi1.2.2⟩, fun q => by omega, fun q => by omega, fun q => by omega, fun q => by omega⟩
