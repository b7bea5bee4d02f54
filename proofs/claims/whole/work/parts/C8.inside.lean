/-- no sign is missing before the end -/
def NZ (T : MSt) : Prop := ∀ k, 0 ≤ k → k < T.1 14 → ¬ M_sign T k = 0
theorem NZ_of {T T' : MSt} (h : NZ T) (h14 : T'.1 14 = T.1 14) (h13 : T'.2 13 = T.2 13) : NZ T' := fun k a b => by
  have e : M_sign T' k = M_sign T k := by unfold M_sign; rw [h14, h13]
  rw [e]
  exact h k a (by omega)
theorem SEG_wr {f : Int} {T : MSt} {S : CSt} {F E : Nat → Nat} {R : Nat → Int} {b e : Nat} {lo hi ko k1 ki go g1 gi : Int} (l : lo ≤ hi) (x1 : ko ≤ k1) (x2 : k1 ≤ ki) (y1 : go ≤ g1) (y2 : g1 ≤ gi) (hs : SEG f T S F E R (b + 1) e lo hi k1 ki g1 gi) (he : b + 1 < e) (hE : E b = e) (hop : (np T 0 b = 10 ∧ np T 0 e = 11 ∧ np T 1 e = np T 1 b) ∨ (np T 0 b = 12 ∧ np T 0 e = 13 ∧ np T 2 b = (e : Int) ∧ np T 1 e = (b : Int) ∧ np T 3 e = np T 3 b ∧ np T 2 e = np T 1 b)) (hlb : LOC (np T) b) (hle : LOC (np T) e) (n12 : NUM (np T) 12 3 b (b + 1) ko k1) (n10 : NUM (np T) 10 1 b (b + 1) (go + 1) (g1 + 1)) (hRb : R (b + 1) = R b) (hRe : R (e + 1) = R e) (cb : certS (np T) F E (fitN f T) (cqR S) (cwR S) b) (ce : certS (np T) F E (fitN f T) (cqR S) (cwR S) e) : SEG f T S F E R b (e + 1) lo hi ko ki go gi := by
  obtain ⟨a1, a2, a3, a4, a5, a6, a7⟩ := hs
  have o : (np T 0 b = 10 ∨ np T 0 b = 12) ∧ (np T 0 e = 11 ∨ np T 0 e = 13) := by
    rcases hop with q | q
    · exact ⟨Or.inl q.1, Or.inl q.2.1⟩
    · exact ⟨Or.inr q.1, Or.inr q.2.1⟩
  have cases3 : ∀ r, b ≤ r → r < e + 1 → r = b ∨ (b + 1 ≤ r ∧ r < e) ∨ r = e := fun r x y => by omega
  have nb : NUM (np T) 14 3 b (b + 1) lo lo := NUM_none (fun h y z => by rw [show h = b by omega]; omega)
  have ne : ∀ (q : Int) (fl : Nat) (x : Int), q = 14 ∨ q = 12 ∨ q = 10 → NUM (np T) q fl e (e + 1) x x := fun q fl x hq => NUM_none (fun h y z => by rw [show h = e by omega]; omega)
  refine ⟨SG_wrap a1 he hE (Or.inr ?_), NUM_app l (Int.le_refl _) (NUM_app (Int.le_refl _) l nb a2) (ne 14 3 _ (by omega)), NUM_app (by omega) (Int.le_refl _) (NUM_app x1 x2 n12 a3) (ne 12 3 _ (by omega)), NUM_app (by omega) (Int.le_refl _) (NUM_app (by omega) (by omega) n10 a4) (ne 10 1 _ (by omega)), fun r x y => ?_, fun r x y => ?_, fun r x y => ?_⟩
  · rcases hop with q | q
    · exact Or.inr q
    · exact Or.inl q
  · rcases cases3 r x y with c | c | c
    · rw [c]; exact hlb
    · exact a5 r c.1 c.2
    · rw [c]; exact hle
  · rcases cases3 r x y with c | c | c
    · rw [c, hRb]; exact ⟨Int.le_refl _, fun y => by omega⟩
    · exact a6 r c.1 c.2
    · rw [c, hRe]; exact ⟨Int.le_refl _, fun y => by omega⟩
  · rcases cases3 r x y with c | c | c
    · rw [c]; exact cb
    · exact a7 r c.1 c.2
    · rw [c]; exact ce
theorem XB_8 {T : MSt} {S : CSt} {F E : Nat → Nat} {R : Nat → Int} {b : Nat} {T' : MSt} {S' : CSt} {F' E' : Nat → Nat} {R' : Nat → Int} {v : Int} (h : XB T S F E R b T' S' F' E' R') : XB T S F E R b T' (ci S' 8 3 v) F' E' R' := by
  obtain ⟨a, ⟨b1, b2, b3, b4, b5⟩, c, d⟩ := h
  refine ⟨a, ⟨by rw [ci_ne (by decide)]; exact b1, fun j k x y => ?_, fun j k x y => b3 j k x y, by rw [ci_ne (by decide)]; exact b4, fun j c x y z => ?_⟩, c, d⟩
  · show (ci S' 8 3 v).1 (26 + j) k = _
    rw [ci_ne (by omega)]; exact b2 j k x y
  · show (ci S' 8 3 v).1 (26 + j) c = _
    rw [ci_ne (by omega)]; exact b5 j c x y z
/-- a body with its closing bracket, in both -/
theorem INS {G : Int → CSt → CR} {f d : Int} {T : MSt} {Sd : CSt} {F E : Nat → Nat} {R : Nat → Int} {b : Nat} (hd : 0 ≤ d ∧ d < 8) (hFR : ∀ (S : CSt) (dp : Int), rV S → rR (wP S) S (G dp S)) (hVd : rV Sd) (hz : NZ T) (l0 : 0 ≤ T.1 21) (hB : BOUT f (d + 1) T (addS 5 (-1) (-1) Sd) F E R b (G (d + 1) Sd)) : ((K3_readInside G d Sd).1 = 1 ∧ ∃ T1, goR T T1 ∧ dmR T1) ∨ (∃ w S11 Te F' E' R', K3_readInside G d Sd = (0, w + 1, S11) ∧ goR T Te ∧ Te.1 24 < Te.1 14 ∧ Te.1 25 = 0 ∧ rdS Te = closeF (d + 1) (mi (clo Te) 24 (Te.1 24 + 1)) ∧ RR f d (mi (mi (clo Te) 24 (Te.1 24 + 1)) 32 (d + 1)) S11 F' ∧ XB T (addS 5 (-1) (-1) Sd) F E R b Te S11 F' E' R' ∧ Te.2 30 (d + 1).toNat = w ∧ SEG f (mi (mi (clo Te) 24 (Te.1 24 + 1)) 32 (d + 1)) S11 F' E' R' b ((Te.1 19).toNat + 1) (T.1 21) (Te.1 21) (T.1 22) (Te.1 22) (T.1 20) (Te.1 20) ∧ (3 * (R' ((Te.1 19).toNat + 1) - R' b) ≤ w ∧ 0 ≤ w) ∧ S11.1 7 5 + 1 ≤ 2 * (Te.1 24 + 1) + 1 + d ∧ (0 ≤ Te.1 19 ∧ Te.1 19 + 2 ≤ 3 * (Te.1 24 + 1) + 1) ∧ Te.1 32 = d + 2 ∧ 2 * Te.1 21 ≤ Te.1 24 ∧ np (clo Te) 0 b = 1 ∧ ∀ j k : Nat, j < 4 → k < b → np (clo Te) j k = np Te j k) := by
  have hI := (K3_readInside_R hFR (dp := d) hVd).2.2.1
  have e0 : K3_readInside G d Sd = (gBd (G (d + 1) Sd) (fun v_4 S_5 => (gLt (K3_take 41 S_5) (fun v_10 S_11 => (if v_10 = 0 then (1, 0, S_11) else (0, v_4 + 1, S_11)))))) := if_pos hd.2
  rcases hB with ⟨b1, T1, b2, b3⟩ | ⟨b1, Te, F', E', R', b2, b3, b4, b5, b6, b7, b8, b9, b10, b11, b12⟩
  · refine Or.inl ⟨?_, T1, b2, b3⟩
    rw [e0]
    show (if (G (d + 1) Sd).1 = 0 then _ else ((1, 0, (G (d + 1) Sd).2.2) : CR)).1 = 1
    rw [if_neg (by omega)]
  · have e1 : K3_readInside G d Sd = (gLt (K3_take 41 (G (d + 1) Sd).2.2) (fun v_10 S_11 => (if v_10 = 0 then (1, 0, S_11) else (0, (G (d + 1) Sd).2.1 + 1, S_11)))) := e0.trans (if_pos b1)
    have hrr := b3
    obtain ⟨⟨s1, s2, s3⟩, h25, hD, hsg, hlen, hg, hlp, hlk, hgr, hsz, hcd, hd', hf, hv⟩ := b3
    have kk : K4_at 2 ((G (d + 1) Sd).2.2.1 8 3) (G (d + 1) Sd).2.2 = M_sign Te (Te.1 24) := by rw [s1]; exact s3 _ s2
    by_cases c41 : M_sign Te (Te.1 24) = 41
    · right
      rw [take_y (x := 41) (by rw [kk]; exact c41)] at e1
      have e2 : K3_readInside G d Sd = (0, (G (d + 1) Sd).2.1 + 1, ci (G (d + 1) Sd).2.2 8 3 ((G (d + 1) Sd).2.2.1 8 3 + 1)) := e1.trans (if_neg i10)
      rw [e2] at hI
      obtain ⟨c1, c2, c3, c4, c5, c6⟩ := CLOSEB hrr hd.1 c41 b8 (hI rfl).1
      have e32 : (Te.1 32 - 1).toNat = (d + 1).toNat := by omega
      rw [e32] at b6
      refine ⟨(G (d + 1) Sd).2.1, ci (G (d + 1) Sd).2.2 8 3 ((G (d + 1) Sd).2.2.1 8 3 + 1), Te, F', E', R', e2, b2, c1, h25, c2, c4, XB_8 b5, b6, ?_, ⟨b9, b10⟩, by rw [ci_ne (by decide)]; exact c5, ⟨hcd.1, c6⟩, by omega, hlp.2.2, b11, b12⟩
      refine SEG_cong (T := clo Te) (S := (G (d + 1) Sd).2.2) (F := F') (E := E') (R := R') ?_ rfl (fun j k _ _ _ => rfl) (fun _ _ _ => rfl) (fun _ _ _ => rfl) (fun _ _ _ => rfl) (fun j k _ _ hj => ?_) (fun j k _ _ _ => rfl) (fun j c _ _ x y => ?_) b7
      · exact l0
      · show (ci (G (d + 1) Sd).2.2 8 3 _).1 (26 + j) k = _
        rw [ci_ne (by omega)]; rfl
      · show (ci (G (d + 1) Sd).2.2 8 3 _).1 (26 + j) c = _
        rw [ci_ne (by omega)]; rfl
    · left
      have c0 : M_sign Te (Te.1 24) = 0 := by omega
      rw [take_n (x := 41) (by rw [kk]; exact c41)] at e1
      have e2 := e1.trans (if_pos rfl)
      refine ⟨by rw [e2], Te, b2, fun n => ?_⟩
      have nz : NZ Te := NZ_of hz (b5.2.2.2.2.2.2.1 14 (by omega)) (b5.2.2.2.2.2.2.2 13 (by omega))
      have l1 : Te.1 14 ≤ Te.1 24 := by
        by_cases c : Te.1 14 ≤ Te.1 24
        · exact c
        · exact absurd c0 (nz _ s2 (by omega))
      have n1 : ¬ Te.1 32 = 1 := by omega
      cases n with
      | zero => rw [M_readsL, if_pos h25, if_pos l1, if_neg n1]
      | succ n => rw [M_readsL, if_pos h25, if_pos l1, if_neg n1]
