theorem RR_weigh {f d w : Int} {T : MSt} {S : CSt} {F : Nat → Nat} (h : RR f d T S F) (hw : 0 ≤ w) : RR f d (M_weigh w T) S F := by
  obtain ⟨hs, h25, hD, hsg, hlen, hg, hlp, hlk, hgr, hsz, hcd, hd, hf, hv⟩ := h
  exact ⟨hs, h25, (DM_wg (T' := M_weigh w T) hD hw rfl (Int.le_refl _) rfl ⟨Int.le_refl _, hD.2.2.1⟩ (wg_weigh (w := w)) rfl).1, hsg, hlen, hg, hlp, hlk, hgr, hsz, hcd, hd, hf, hv⟩
theorem RR_27 {f d v : Int} {i : Nat} {T : MSt} {S : CSt} {F : Nat → Nat} (h : RR f d T S F) (hV : rV (ci S 27 i v)) : RR f d T (ci S 27 i v) F := by
  obtain ⟨⟨e1, e2, e3⟩, h25, hD, hsg, hlen, hg, hlp, hlk, hgr, hsz, hcd, hd, hf, hv⟩ := h
  have so : ∀ n, n ≠ 27 → (ci S 27 i v).1 n = S.1 n := fun n hn => ci_ne hn
  have ek : ∀ k, K4_at 2 k (ci S 27 i v) = K4_at 2 k S := fun k => by
    unfold K4_at
    rw [so 2 (by decide), so (11 + 2) (by decide)]
  refine ⟨⟨by rw [so 8 (by decide)]; exact e1, e2, fun k hk => by rw [ek]; exact e3 k hk⟩, h25, hD, hsg, ?_, ?_, ?_, ?_, ?_, ?_, hcd, hd, ?_, hV⟩
  · rw [so 2 (by decide)]; exact hlen
  · rw [so 7 (by decide)]; exact hg
  · rw [so 7 (by decide)]; exact hlp
  · rw [so 7 (by decide)]; exact hlk
  · rw [so 8 (by decide)]; exact hgr
  · rw [so 7 (by decide)]; exact hsz
  · rw [so 7 (by decide)]; exact hf
theorem frB_weigh {T Tc : MSt} {u w : Int} (h0 : 1 ≤ T.1 32) (h : frB T Tc u) : frB T (M_weigh w Tc) (u + w) := by
  obtain ⟨a1, a2, a3, a4, a5, a6⟩ := h
  have e30 : (M_weigh w Tc).2 30 = zu (Tc.2 30) (T.1 32 - 1).toNat (Tc.2 30 (T.1 32 - 1).toNat + w) := by
    show zu (Tc.2 30) (Tc.1 32 - 1).toNat (Tc.2 30 (Tc.1 32 - 1).toNat + w) = _
    rw [a1]
  refine ⟨a1, a2, fun i hi => ?_, ?_, a5, fun k hk => ?_⟩
  · rw [e30, zu_ne (by omega)]; exact a3 i hi
  · rw [e30, zu_eq, a4]; omega
  · show (if k = 30 then _ else Tc.2 k) = _
    rw [if_neg (by omega)]; exact a6 k hk
theorem frB_17 {T Tc : MSt} {u v : Int} {i : Nat} (h : frB T Tc u) : frB T (ma Tc 17 i v) u := by
  obtain ⟨a1, a2, a3, a4, a5, a6⟩ := h
  refine ⟨a1, a2, a3, a4, a5, fun k hk => ?_⟩
  show (if k = 17 then _ else Tc.2 k) = _
  rw [if_neg (by omega)]; exact a6 k hk
/-- the rows of the code once a look is closed -/
theorem np_look {Tc : MSt} {a e : Nat} {p lk w : Int} (he : (Tc.1 19).toNat = e) (hae : a < e) :
    (∀ j k : Nat, j < 4 → k ≠ e → ¬ (j = 2 ∧ k = a) → np (M_weigh w (M_emit 13 (a : Int) p lk (ma Tc 17 a (e : Int)))) j k = np Tc j k) ∧ np (M_weigh w (M_emit 13 (a : Int) p lk (ma Tc 17 a (e : Int)))) 2 a = (e : Int) ∧ (np (M_weigh w (M_emit 13 (a : Int) p lk (ma Tc 17 a (e : Int)))) 0 e = 13 ∧ np (M_weigh w (M_emit 13 (a : Int) p lk (ma Tc 17 a (e : Int)))) 1 e = a ∧ np (M_weigh w (M_emit 13 (a : Int) p lk (ma Tc 17 a (e : Int)))) 2 e = p ∧ np (M_weigh w (M_emit 13 (a : Int) p lk (ma Tc 17 a (e : Int)))) 3 e = lk) := by
  have w1 : ∀ j k : Nat, j < 4 → np (M_weigh w (M_emit 13 (a : Int) p lk (ma Tc 17 a (e : Int)))) j k = np (M_emit 13 (a : Int) p lk (ma Tc 17 a (e : Int))) j k := fun j k hj => by
    show (if 15 + j = 30 then _ else (M_emit 13 (a : Int) p lk (ma Tc 17 a (e : Int))).2 (15 + j)) k = _
    rw [if_neg (by omega)]; rfl
  have n0 := np_emit0 (w := 13) (x := (a : Int)) (y := p) (z := lk) (T := ma Tc 17 a (e : Int))
  have n1 : ((ma Tc 17 a (e : Int)).1 19).toNat = e := he
  rw [n1] at n0
  have m1 : ∀ j k : Nat, ¬ (j = 2 ∧ k = a) → np (ma Tc 17 a (e : Int)) j k = np Tc j k := fun j k h => by
    show (if 15 + j = 17 then zu (Tc.2 17) a (e : Int) else Tc.2 (15 + j)) k = Tc.2 (15 + j) k
    by_cases c : 15 + j = 17
    · rw [if_pos c, zu_ne (by omega), c]
    · rw [if_neg c]
  have m2 : np (ma Tc 17 a (e : Int)) 2 a = (e : Int) := by
    show zu (Tc.2 17) a (e : Int) a = _
    exact zu_eq
  refine ⟨fun j k hj hk h => ?_, ?_, ?_, ?_, ?_, ?_⟩
  · rw [w1 j k hj, np_emit (by rw [n1]; exact hk), m1 j k h]
  · rw [w1 2 a (by omega), np_emit (by rw [n1]; omega)]; exact m2
  · rw [w1 0 e (by omega)]; exact n0.1
  · rw [w1 1 e (by omega)]; exact n0.2.1
  · rw [w1 2 e (by omega)]; exact n0.2.2.1
  · rw [w1 3 e (by omega)]; exact n0.2.2.2
/-- a closed body becomes a look -/
theorem LKC {f d : Int} {Tc : MSt} {S11 : CSt} {F' E' : Nat → Nat} {R' : Nat → Int} {a e : Nat} {p lk w lo hi ki go gi bk ek : Int} (h6 : RR f d Tc S11 F') (he : (e : Int) = Tc.1 19) (hae : a + 2 < e) (he2 : e ≤ 1000) (hw : 0 ≤ w) (hz : S11.1 7 5 + 1 ≤ 2 * Tc.1 24 + 1 + d) (hc : Tc.1 19 + 1 ≤ 3 * Tc.1 24 + 1) (l0 : 0 ≤ lo) (l1 : lo ≤ hi) (k0 : 0 ≤ lk) (k9 : lk < 10) (k1 : lk + 1 ≤ ki) (g1 : go ≤ gi) (hp : (p = 1 ∧ bk = 13 ∧ ek = 14) ∨ (p = 0 ∧ bk = 15 ∧ ek = 16)) (hs : SEG f Tc S11 F' E' R' (a + 1) e lo hi (lk + 1) ki go gi) (pb : np Tc 0 a = 12 ∧ np Tc 1 a = p ∧ np Tc 3 a = lk) (pb1 : np Tc 0 (a + 1) = 1) (hF : F' (a + 1) = F' a + 1) (hR : R' (a + 1) = R' a) (hq0 : cqR S11 0 (F' a) = bk) (hq2 : cqR S11 2 (F' a) = lk) (hV : rV (addS ek (-1) lk S11)) (hV2 : rV (ci (addS ek (-1) lk S11) 27 (F' a) ((F' e + 1 : Nat) : Int))) :
    RR f d (M_weigh w (M_emit 13 (a : Int) p lk (ma Tc 17 a (e : Int)))) (ci (addS ek (-1) lk S11) 27 (F' a) ((F' e + 1 : Nat) : Int)) (fu F' (e + 1) (F' e + 1)) ∧ SEG f (M_weigh w (M_emit 13 (a : Int) p lk (ma Tc 17 a (e : Int)))) (ci (addS ek (-1) lk S11) 27 (F' a) ((F' e + 1 : Nat) : Int)) (fu F' (e + 1) (F' e + 1)) (fu E' a e) (zu R' (e + 1) (R' e)) a (e + 1) lo hi lk ki go gi := by
  have en : (Tc.1 19).toNat = e := by omega
  have h6' : RR f d (ma Tc 17 a (e : Int)) S11 F' := h6
  have hrr := RR_emit (w := 13) (x := (a : Int)) (y := p) (z := lk) (kd := ek) (am := -1) (nb := lk) h6' hz hc hV
  have en' : ((ma Tc 17 a (e : Int)).1 19).toNat = e := en
  rw [en'] at hrr
  refine ⟨RR_weigh (RR_27 hrr hV2) hw, ?_⟩
  have hz1 := h6.2.2.2.2.2.2.2.2.2.1.1
  rw [en] at hz1
  obtain ⟨nn, n2, n0⟩ := np_look (Tc := Tc) (a := a) (e := e) (p := p) (lk := lk) (w := w) en (by omega)
  have h13 : (M_weigh w (M_emit 13 (a : Int) p lk (ma Tc 17 a (e : Int)))).2 13 = Tc.2 13 := rfl
  have hi1 := addS_hi (kd := ek) (am := -1) (nb := lk) (S := S11)
  rw [show (S11.1 7 5).toNat = F' e by omega] at hi1
  have clo1 : F' (a + 1) ≤ F' e := CERT_le hs.2.2.2.2.2.2 (Nat.le_refl _) (show a + 1 ≤ e by omega) (Nat.le_refl _)
  have q27 : ∀ j k : Nat, ¬ (j = 1 ∧ k = F' a) → cqR (ci (addS ek (-1) lk S11) 27 (F' a) ((F' e + 1 : Nat) : Int)) j k = cqR (addS ek (-1) lk S11) j k := fun j k h => by
    by_cases c : j = 1
    · subst c
      show (ci (addS ek (-1) lk S11) 27 (F' a) ((F' e + 1 : Nat) : Int)).1 27 k = (addS ek (-1) lk S11).1 27 k
      rw [ci_eq, zu_ne (by omega)]
    · show (ci (addS ek (-1) lk S11) 27 (F' a) ((F' e + 1 : Nat) : Int)).1 (26 + j) k = (addS ek (-1) lk S11).1 (26 + j) k
      rw [ci_ne (by omega)]
  have q27a : cqR (ci (addS ek (-1) lk S11) 27 (F' a) ((F' e + 1 : Nat) : Int)) 1 (F' a) = ((F' e + 1 : Nat) : Int) := by
    show (ci (addS ek (-1) lk S11) 27 (F' a) ((F' e + 1 : Nat) : Int)).1 27 (F' a) = _
    rw [ci_eq, zu_eq]
  have qw : ∀ j k, cwR (ci (addS ek (-1) lk S11) 27 (F' a) ((F' e + 1 : Nat) : Int)) j k = cwR S11 j k := fun _ _ => rfl
  have c0 : cqR (ci (addS ek (-1) lk S11) 27 (F' a) ((F' e + 1 : Nat) : Int)) 0 (F' a) = bk := by
    rw [q27 0 _ (by omega), addS_lo (by omega) (by omega)]; exact hq0
  have c2 : cqR (ci (addS ek (-1) lk S11) 27 (F' a) ((F' e + 1 : Nat) : Int)) 2 (F' a) = lk := by
    rw [q27 2 _ (by omega), addS_lo (by omega) (by omega)]; exact hq2
  have c0e : cqR (ci (addS ek (-1) lk S11) 27 (F' a) ((F' e + 1 : Nat) : Int)) 0 (F' e) = ek := by
    rw [q27 0 _ (by omega)]; exact hi1.1
  have c2e : cqR (ci (addS ek (-1) lk S11) 27 (F' a) ((F' e + 1 : Nat) : Int)) 2 (F' e) = lk := by
    rw [q27 2 _ (by omega)]; exact hi1.2.2
  have qlo : ∀ j k : Nat, j < 3 → F' (a + 1) ≤ k → k < F' e → cqR (ci (addS ek (-1) lk S11) 27 (F' a) ((F' e + 1 : Nat) : Int)) j k = cqR S11 j k := fun j k hj x y => by
    rw [q27 j k (by omega), addS_lo hj (by omega)]
  have ql : ∀ j c : Nat, 5 ≤ j → cqR (ci (addS ek (-1) lk S11) 27 (F' a) ((F' e + 1 : Nat) : Int)) j c = cqR S11 j c := fun j c h5 => by
    rw [q27 j c (by omega), addS_l h5]
  generalize ci (addS ek (-1) lk S11) 27 (F' a) ((F' e + 1 : Nat) : Int) = S12 at q27 q27a qw c0 c2 c0e c2e qlo ql
  generalize M_weigh w (M_emit 13 (a : Int) p lk (ma Tc 17 a (e : Int))) = T1 at nn n2 n0 h13
  have seg : SEG f T1 S12 (fu F' (e + 1) (F' e + 1)) (fu E' a e) (zu R' (e + 1) (R' e)) (a + 1) e lo hi (lk + 1) ki go gi := by
    refine SEG_cong l0 h13 (fun j k hj _ hk => nn j k hj (by omega) (by omega)) (fun k _ hk => fu_ne (by omega)) (fun k hk _ => fu_ne (by omega)) (fun k _ hk => zu_ne (by omega)) (fun j k x y hj => qlo j k hj x y) (fun j k _ _ _ => qw j k) (fun j c _ _ h5 _ => ql j c h5) hs
  have p0 : np T1 0 a = 12 := by rw [nn 0 a (by omega) (by omega) (by omega)]; exact pb.1
  have p1 : np T1 1 a = p := by rw [nn 1 a (by omega) (by omega) (by omega)]; exact pb.2.1
  have p3 : np T1 3 a = lk := by rw [nn 3 a (by omega) (by omega) (by omega)]; exact pb.2.2
  have p4 : np T1 0 (a + 1) = 1 := by rw [nn 0 _ (by omega) (by omega) (by omega)]; exact pb1
  have p01 : p = 0 ∨ p = 1 := by omega
  refine SEG_wr l1 (by omega) k1 (Int.le_refl _) g1 seg (by omega) fu_eq (Or.inr ⟨p0, n0.1, n2, n0.2.1, by rw [n0.2.2.2, p3], by rw [n0.2.2.1, p1]⟩) ?_ ?_ ⟨fun h x y z => ?_, fun h h' x y x' y' _ _ _ => by omega⟩ (NUM_none (fun h x y => by rw [show h = a by omega, p0]; omega)) (by rw [zu_ne (by omega), zu_ne (by omega)]; exact hR) (by rw [zu_eq, zu_ne (by omega)]) ?_ ?_
  · unfold LOC
    rw [p0, p1, n2, p3, p4]
    refine ⟨by omega, fun a b => by omega, fun a => by omega, fun a => by omega, fun a => by omega, fun _ => ⟨p01, rfl⟩, fun a => by omega⟩
  · unfold LOC
    rw [n0.1, n0.2.1, n0.2.2.1, n0.2.2.2]
    refine ⟨by omega, fun a b => by omega, fun a => by omega, fun a => by omega, fun a => by omega, fun a => by omega, fun a => by omega⟩
  · rw [show h = a by omega, p3]; omega
  · unfold certS
    rw [p0, p1, p3, fu_eq (F := E') (k := a) (v := e), fu_eq (F := F') (k := e + 1), fu_ne (show a ≠ e + 1 by omega), fu_ne (show a + 1 ≠ e + 1 by omega), hF]
    refine ⟨by omega, fun q => by omega, fun q => by omega, fun q q' => by omega, fun q => by omega, fun q => by omega, fun q => by omega, fun q => by omega, fun q => by omega, fun _ => ⟨rfl, c2, fun y => ?_, fun y => ⟨?_, q27a⟩⟩, fun q => by omega, fun q => by omega, fun q => by omega⟩
    · rw [c0]; omega
    · rw [c0]; omega
  · unfold certS
    rw [n0.1, n0.2.1, n0.2.2.1, n0.2.2.2, fu_eq (F := F') (k := e + 1), fu_ne (show e ≠ e + 1 by omega)]
    refine ⟨by omega, fun q => by omega, fun q => by omega, fun q q' => by omega, fun q => by omega, fun q => by omega, fun q => by omega, fun q => by omega, fun q => by omega, fun q => by omega, fun _ => ⟨rfl, c2e, fun y => ?_, fun y => ?_⟩, fun q => by omega, fun q => by omega⟩
    · rw [c0e]; omega
    · rw [c0e]; omega
