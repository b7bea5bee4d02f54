/-- one alternative and the rest behind it -/
theorem SEG_alt {f : Int} {T : MSt} {S : CSt} {F E : Nat → Nat} {R : Nat → Int} {b g e : Nat} {lo li hi ko kk ki go gm gi : Int} (l1 : lo ≤ li) (l2 : li ≤ hi) (k1 : ko ≤ kk) (k2 : kk ≤ ki) (g1 : go ≤ gm) (g2 : gm ≤ gi) (h1 : np T 0 b = 1) (hr : SEG f T S F E R (b + 1) g lo li ko kk go gm) (h2 : np T 0 g = 2) (h3 : np T 1 g = (e : Int)) (hn : (np T 1 b = -1 ∧ e = g + 1) ∨ (np T 1 b = ((g + 1 : Nat) : Int) ∧ np T 0 (g + 1) = 1 ∧ g + 1 < e)) (ht : SEG f T S F E R (g + 1) e li hi kk ki gm gi) (hz : np T 2 b = 0 ∧ np T 3 b = 0 ∧ np T 2 g = 0 ∧ np T 3 g = 0) (he : e ≤ 1000) (hRb : R (b + 1) = R b) (hRg : R (g + 1) = R g) (cb : F (b + 1) = F b + 1 ∧ cqR S 0 (F b) = 5 ∧ cqR S 1 (F b) = (if np T 1 b = -1 then -1 else (F (np T 1 b).toNat : Int))) (cg : (cqR S 0 (F g) = 6 ∧ F (g + 1) = F g + 1 ∧ cqR S 1 (F g) = (F e : Int)) ∨ (e = g + 1 ∧ F (g + 1) = F g)) : SEG f T S F E R b e lo hi ko ki go gi := by
  obtain ⟨a1, a2, a3, a4, a5, a6, a7⟩ := hr
  obtain ⟨b1, b2, b3, b4, b5, b6, b7⟩ := ht
  have w1 := a1.1
  have w2 := b1.1
  have num : ∀ (q : Int) (fl : Nat) (x0 x1 x2 : Int), q = 14 ∨ q = 12 ∨ q = 10 → x0 ≤ x1 → x1 ≤ x2 → NUM (np T) q fl (b + 1) g x0 x1 → NUM (np T) q fl (g + 1) e x1 x2 → NUM (np T) q fl b e x0 x2 := fun q fl x0 x1 x2 hq o1 o2 u1 u2 => by
    have s1 : NUM (np T) q fl b (b + 1) x0 x0 := NUM_none (fun h y z => by rw [show h = b by omega, h1]; omega)
    have s2 : NUM (np T) q fl g (g + 1) x1 x1 := NUM_none (fun h y z => by rw [show h = g by omega, h2]; omega)
    exact NUM_app o1 o2 (NUM_app (Int.le_refl _) o1 s1 u1) (NUM_app (Int.le_refl _) o2 s2 u2)
  have cases4 : ∀ r, b ≤ r → r < e → r = b ∨ (b + 1 ≤ r ∧ r < g) ∨ r = g ∨ (g + 1 ≤ r ∧ r < e) := fun r x y => by omega
  refine ⟨SG_alt h1 a1 h2 h3 hn b1, num 14 3 _ _ _ (by omega) l1 l2 a2 b2, num 12 3 _ _ _ (by omega) k1 k2 a3 b3, num 10 1 _ _ _ (by omega) (by omega) (by omega) a4 b4, fun r x y => ?_, fun r x y => ?_, fun r x y => ?_⟩
  · rcases cases4 r x y with c | c | c | c
    · rw [c]
      unfold LOC
      rw [h1, hz.1, hz.2.1]
      refine ⟨⟨by decide, by decide, by decide, by omega, by omega, by omega, by omega, by omega, by omega⟩, fun a b => by omega, fun a => by omega, fun a => by omega, fun a => by omega, fun a => by omega, fun a => by omega⟩
    · exact a5 r c.1 c.2
    · rw [c]
      unfold LOC
      rw [h2, h3, hz.2.2.1, hz.2.2.2]
      refine ⟨⟨by decide, by decide, by decide, by omega, by omega, by omega, by omega, by omega, by omega⟩, fun a b => by omega, fun a => by omega, fun a => by omega, fun a => by omega, fun a => by omega, fun a => by omega⟩
    · exact b5 r c.1 c.2
  · rcases cases4 r x y with c | c | c | c
    · rw [c, hRb, h1]; exact ⟨Int.le_refl _, fun y => by omega⟩
    · exact a6 r c.1 c.2
    · rw [c, hRg, h2]; exact ⟨Int.le_refl _, fun y => by omega⟩
    · exact b6 r c.1 c.2
  · rcases cases4 r x y with c | c | c | c
    · rw [c]
      unfold certS
      rw [h1]
      exact ⟨by omega, fun _ => ⟨cb.2.1, cb.1, cb.2.2⟩, fun y => by omega, fun y => by omega, fun y => by omega, fun y => by omega, fun y => by omega, fun y => by omega, fun y => by omega, fun y => by omega, fun y => by omega, fun y => by omega, fun y => by omega⟩
    · exact a7 r c.1 c.2
    · rw [c]
      unfold certS
      rw [h2, h3, show ((e : Int)).toNat = e by omega]
      refine ⟨by omega, fun y => by omega, fun _ => ?_, fun y => by omega, fun y => by omega, fun y => by omega, fun y => by omega, fun y => by omega, fun y => by omega, fun y => by omega, fun y => by omega, fun y => by omega, fun y => by omega⟩
      rcases cg with q | q
      · exact Or.inl q
      · right; rw [q.1]; exact q.2
    · exact b7 r c.1 c.2
/-- T', S' keep what stands in b0 .. m - 1; the jumps of gs now go to e -/
def FRp (T : MSt) (S : CSt) (F E : Nat → Nat) (R : Nat → Int) (gs : List Nat) (b0 m : Nat) (lo li : Int) (T' : MSt) (S' : CSt) (F' E' : Nat → Nat) (R' : Nat → Int) (e : Nat) : Prop :=
  T'.2 13 = T.2 13 ∧ (∀ j k : Nat, j < 4 → b0 ≤ k → k < m → ¬ (j = 1 ∧ k ∈ gs) → np T' j k = np T j k) ∧ (∀ g, g ∈ gs → np T' 1 g = (e : Int)) ∧ (∀ k, b0 ≤ k → k ≤ m → F' k = F k ∧ R' k = R k) ∧ (∀ k, b0 ≤ k → k < m → E' k = E k) ∧ (∀ j k : Nat, j < 3 → F b0 ≤ k → k < F m → ¬ (j = 1 ∧ ∃ g, g ∈ gs ∧ k = F g) → cqR S' j k = cqR S j k) ∧ (∀ g, g ∈ gs → cqR S' 1 (F g) = (F' e : Int)) ∧ (∀ j k : Nat, j = 3 ∨ j = 4 → F b0 ≤ k → k < F m → cwR S' j k = cwR S j k) ∧ (∀ j c : Nat, lo ≤ c → (c : Int) < li → 5 ≤ j → j ≤ 8 → cqR S' j c = cqR S j c)
/-- the alternatives that are done: from b0 up to m, where the next begins; gs = their jumps -/
def PRE (f : Int) (T : MSt) (S : CSt) (F E : Nat → Nat) (R : Nat → Int) (gs : List Nat) (b0 m : Nat) (lo li ko kk go gm : Int) : Prop :=
  (0 ≤ lo ∧ lo ≤ li ∧ ko ≤ kk ∧ go ≤ gm) ∧ (b0 ≤ m ∧ F b0 ≤ F m) ∧ (∀ g, g ∈ gs → b0 ≤ g ∧ g < m ∧ F b0 ≤ F g ∧ F g < F m) ∧ ∀ (T' : MSt) (S' : CSt) (F' E' : Nat → Nat) (R' : Nat → Int) (e : Nat) (hi ki gi : Int), FRp T S F E R gs b0 m lo li T' S' F' E' R' e → li ≤ hi → kk ≤ ki → gm ≤ gi → e ≤ 1000 → np T' 0 m = 1 → m < e → SEG f T' S' F' E' R' m e li hi kk ki gm gi → SEG f T' S' F' E' R' b0 e lo hi ko ki go gi
theorem PRE_nil {f : Int} {T : MSt} {S : CSt} {F E : Nat → Nat} {R : Nat → Int} {b0 : Nat} {lo ko go : Int} (l0 : 0 ≤ lo) : PRE f T S F E R [] b0 b0 lo lo ko ko go go :=
  ⟨⟨l0, Int.le_refl _, Int.le_refl _, Int.le_refl _⟩, ⟨Nat.le_refl _, Nat.le_refl _⟩, fun g hg => absurd hg (by simp), fun T' S' F' E' R' e hi ki gi _ _ _ _ _ _ _ h => h⟩
/-- what stood before b0 may change -/
theorem FRp_trans {T T1 T2 : MSt} {S S1 S2 : CSt} {F F1 F2 E E1 E2 : Nat → Nat} {R R1 R2 : Nat → Int} {gs : List Nat} {b0 m e : Nat} {lo li : Int} (hk : ∀ g, g ∈ gs → b0 ≤ g ∧ g < m ∧ F b0 ≤ F g ∧ F g < F m) (hm : b0 ≤ m) (h13 : T1.2 13 = T.2 13) (hp : ∀ j k : Nat, j < 4 → b0 ≤ k → k < m → np T1 j k = np T j k) (hF : ∀ k, b0 ≤ k → k ≤ m → F1 k = F k ∧ R1 k = R k) (hE : ∀ k, b0 ≤ k → k < m → E1 k = E k) (hq : ∀ j k : Nat, j < 3 → F b0 ≤ k → k < F m → cqR S1 j k = cqR S j k) (hw : ∀ j k : Nat, j = 3 ∨ j = 4 → F b0 ≤ k → k < F m → cwR S1 j k = cwR S j k) (hl : ∀ j c : Nat, lo ≤ c → (c : Int) < li → 5 ≤ j → j ≤ 8 → cqR S1 j c = cqR S j c) (h : FRp T1 S1 F1 E1 R1 gs b0 m lo li T2 S2 F2 E2 R2 e) : FRp T S F E R gs b0 m lo li T2 S2 F2 E2 R2 e := by
  obtain ⟨a1, a2, a3, a4, a5, a6, a7, a8, a9⟩ := h
  have fb := (hF b0 (Nat.le_refl _) hm).1
  have fm := (hF m hm (Nat.le_refl _)).1
  rw [fb, fm] at a6 a8
  have fg : ∀ g, g ∈ gs → F1 g = F g := fun g hg => (hF g (hk g hg).1 (Nat.le_of_lt (hk g hg).2.1)).1
  refine ⟨a1.trans h13, fun j k x y z w => (a2 j k x y z w).trans (hp j k x y z), a3, fun k x y => ⟨(a4 k x y).1.trans (hF k x y).1, (a4 k x y).2.trans (hF k x y).2⟩, fun k x y => (a5 k x y).trans (hE k x y), fun j k x y z w => (a6 j k x y z (fun q => w ⟨q.1, ?_⟩)).trans (hq j k x y z), fun g hg => ?_, fun j k x y z => (a8 j k x y z).trans (hw j k x y z), fun j c x y z w => (a9 j c x y z w).trans (hl j c x y z w)⟩
  · obtain ⟨g, u, v⟩ := q.2
    exact ⟨g, u, by rw [v, fg g u]⟩
  · have := a7 g hg
    rw [fg g hg] at this
    exact this
theorem PRE_cong {f : Int} {T T1 : MSt} {S S1 : CSt} {F F1 E E1 : Nat → Nat} {R R1 : Nat → Int} {gs : List Nat} {b0 m : Nat} {lo li ko kk go gm : Int} (h13 : T1.2 13 = T.2 13) (hp : ∀ j k : Nat, j < 4 → b0 ≤ k → k < m → np T1 j k = np T j k) (hF : ∀ k, b0 ≤ k → k ≤ m → F1 k = F k ∧ R1 k = R k) (hE : ∀ k, b0 ≤ k → k < m → E1 k = E k) (hq : ∀ j k : Nat, j < 3 → F b0 ≤ k → k < F m → cqR S1 j k = cqR S j k) (hw : ∀ j k : Nat, j = 3 ∨ j = 4 → F b0 ≤ k → k < F m → cwR S1 j k = cwR S j k) (hl : ∀ j c : Nat, lo ≤ c → (c : Int) < li → 5 ≤ j → j ≤ 8 → cqR S1 j c = cqR S j c) (h : PRE f T S F E R gs b0 m lo li ko kk go gm) : PRE f T1 S1 F1 E1 R1 gs b0 m lo li ko kk go gm := by
  obtain ⟨a1, a2, a3, a4⟩ := h
  have fb := (hF b0 (Nat.le_refl _) a2.1).1
  have fm := (hF m a2.1 (Nat.le_refl _)).1
  refine ⟨a1, by rw [fb, fm]; exact a2, fun g hg => ?_, fun T' S' F' E' R' e hi ki gi fr => a4 T' S' F' E' R' e hi ki gi (FRp_trans a3 a2.1 h13 hp hF hE hq hw hl fr)⟩
  rw [fb, fm, (hF g (a3 g hg).1 (Nat.le_of_lt (a3 g hg).2.1)).1]
  exact a3 g hg
/-- one alternative more is done -/
theorem PRE_step {f : Int} {T T2 : MSt} {S S2 : CSt} {F F2 E E2 : Nat → Nat} {R R2 : Nat → Int} {gs : List Nat} {b0 m g : Nat} {lo li lj ko kk kl go gm gn : Int} (h : PRE f T S F E R gs b0 m lo li ko kk go gm) (lj1 : li ≤ lj) (kl1 : kk ≤ kl) (gn1 : gm ≤ gn) (hr : SEG f T S F E R (m + 1) g li lj kk kl gm gn) (pm : np T 0 m = 1 ∧ np T 2 m = 0 ∧ np T 3 m = 0) (fm : F (m + 1) = F m + 1 ∧ R (m + 1) = R m) (qm : cqR S 0 (F m) = 5)
    (t13 : T2.2 13 = T.2 13) (tn : ∀ j k : Nat, j < 4 → b0 ≤ k → k < g → ¬ (j = 1 ∧ k = m) → np T2 j k = np T j k) (tm : np T2 1 m = ((g + 1 : Nat) : Int)) (tg : np T2 0 g = 2 ∧ np T2 2 g = 0 ∧ np T2 3 g = 0)
    (hF : ∀ k, b0 ≤ k → k ≤ g → F2 k = F k ∧ R2 k = R k) (hFg : F2 (g + 1) = F g + 1 ∧ R2 (g + 1) = R g) (hE : ∀ k, b0 ≤ k → k < g → E2 k = E k)
    (sq : ∀ j k : Nat, j < 3 → F b0 ≤ k → k < F g → ¬ (j = 1 ∧ k = F m) → cqR S2 j k = cqR S j k) (sm1 : cqR S2 1 (F m) = ((F g + 1 : Nat) : Int)) (sg : cqR S2 0 (F g) = 6) (sw : ∀ j k : Nat, j = 3 ∨ j = 4 → F b0 ≤ k → k < F g → cwR S2 j k = cwR S j k) (sl : ∀ j c : Nat, lo ≤ c → (c : Int) < lj → 5 ≤ j → j ≤ 8 → cqR S2 j c = cqR S j c) : PRE f T2 S2 F2 E2 R2 (g :: gs) b0 (g + 1) lo lj ko kl go gn := by
  obtain ⟨a1, a2, a3, a4⟩ := h
  have w1 : m + 1 ≤ g := hr.1.1
  have w2 : F (m + 1) ≤ F g := CERT_le hr.2.2.2.2.2.2 (Nat.le_refl _) w1 (Nat.le_refl _)
  have F2b := (hF b0 (Nat.le_refl _) (by omega)).1
  have F2g := (hF g (by omega) (Nat.le_refl _)).1
  have F2m := (hF m (by omega) (by omega)).1
  refine ⟨⟨a1.1, by omega, by omega, by omega⟩, ⟨by omega, by rw [F2b, hFg.1]; omega⟩, fun x hx => ?_, fun T' S' F' E' R' e hi ki gi fr l2 k2 g2 he h1 hme ht => ?_⟩
  · rw [F2b, hFg.1]
    rcases List.mem_cons.mp hx with y | y
    · rw [y, F2g]; omega
    · have := a3 x y
      rw [(hF x (by omega) (by omega)).1]; omega
  · obtain ⟨c1, c2, c3, c4, c5, c6, c7, c8, c9⟩ := fr
    rw [F2b, hFg.1] at c6 c8
    have fk : ∀ k, b0 ≤ k → k ≤ g → F' k = F k ∧ R' k = R k := fun k x y => ⟨(c4 k x (by omega)).1.trans (hF k x y).1, (c4 k x (by omega)).2.trans (hF k x y).2⟩
    have fg1 : F' (g + 1) = F g + 1 ∧ R' (g + 1) = R g := ⟨(c4 (g + 1) (by omega) (Nat.le_refl _)).1.trans hFg.1, (c4 (g + 1) (by omega) (Nat.le_refl _)).2.trans hFg.2⟩
    have nom : ∀ k, m < k → k < g → k ∉ g :: gs := fun k x y hk => by
      rcases List.mem_cons.mp hk with z | z
      · omega
      · have := a3 k z; omega
    have nm : m ∉ g :: gs := fun hk => by
      rcases List.mem_cons.mp hk with z | z
      · omega
      · have := a3 m z; omega
    have nF : ∀ k, F m ≤ k → k < F g → ¬ ∃ x, x ∈ g :: gs ∧ k = F2 x := fun k x y => by
      rintro ⟨u, hu, hv⟩
      rcases List.mem_cons.mp hu with z | z
      · rw [z, F2g] at hv; omega
      · have := a3 u z
        rw [(hF u (by omega) (by omega)).1] at hv; omega
    have row : SEG f T' S' F' E' R' (m + 1) g li lj kk kl gm gn := by
      refine SEG_cong (by omega) (c1.trans t13) (fun j k x y z => ?_) (fun k x y => (fk k (by omega) y).1) (fun k x y => (c5 k (by omega) (by omega)).trans (hE k (by omega) y)) (fun k x y => (fk k (by omega) y).2) (fun j k x y z => ?_) (fun j k x y z => ?_) (fun j c x y z w => ?_) hr
      · rw [c2 j k x (by omega) (by omega) (fun q => nom k (by omega) z q.2), tn j k x (by omega) z (by omega)]
      · rw [c6 j k z (by omega) (by omega) (fun q => nF k (by omega) y q.2), sq j k z (by omega) y (by omega)]
      · rw [c8 j k x (by omega) (by omega), sw j k x (by omega) z]
      · rw [c9 j c (by omega) y z w, sl j c (by omega) y z w]
    have p0 : np T' 0 m = 1 := by rw [c2 0 m (by omega) (by omega) (by omega) (fun q => by omega), tn 0 m (by omega) (by omega) (by omega) (by omega)]; exact pm.1
    have p1 : np T' 1 m = ((g + 1 : Nat) : Int) := by rw [c2 1 m (by omega) (by omega) (by omega) (fun q => nm q.2)]; exact tm
    have p2 : np T' 2 m = 0 := by rw [c2 2 m (by omega) (by omega) (by omega) (fun q => by omega), tn 2 m (by omega) (by omega) (by omega) (by omega)]; exact pm.2.1
    have p3 : np T' 3 m = 0 := by rw [c2 3 m (by omega) (by omega) (by omega) (fun q => by omega), tn 3 m (by omega) (by omega) (by omega) (by omega)]; exact pm.2.2
    have q0 : np T' 0 g = 2 := by rw [c2 0 g (by omega) (by omega) (by omega) (fun q => by omega)]; exact tg.1
    have q2 : np T' 2 g = 0 := by rw [c2 2 g (by omega) (by omega) (by omega) (fun q => by omega)]; exact tg.2.1
    have q3 : np T' 3 g = 0 := by rw [c2 3 g (by omega) (by omega) (by omega) (fun q => by omega)]; exact tg.2.2
    have r0 : cqR S' 0 (F' m) = 5 := by rw [(fk m (by omega) (by omega)).1, c6 0 (F m) (by omega) (by omega) (by omega) (fun q => by omega), sq 0 (F m) (by omega) (by omega) (by omega) (by omega)]; exact qm
    have r1 : cqR S' 1 (F' m) = ((F g + 1 : Nat) : Int) := by rw [(fk m (by omega) (by omega)).1, c6 1 (F m) (by omega) (by omega) (by omega) (fun q => nF (F m) (Nat.le_refl _) (by omega) q.2)]; exact sm1
    have r2 : cqR S' 0 (F' g) = 6 := by rw [(fk g (by omega) (by omega)).1, c6 0 (F g) (by omega) (by omega) (by omega) (fun q => by omega)]; exact sg
    have r3 : cqR S' 1 (F' g) = (F' e : Int) := by
      have := c7 g (List.mem_cons_self ..)
      rw [F2g] at this
      rw [(fk g (by omega) (by omega)).1]
      exact this
    have seg2 : SEG f T' S' F' E' R' m e li hi kk ki gm gi := by
      refine SEG_alt lj1 l2 kl1 k2 gn1 g2 p0 row q0 (c3 g (List.mem_cons_self ..)) (Or.inr ⟨p1, h1, hme⟩) ht ⟨p2, p3, q2, q3⟩ he ?_ ?_ ⟨?_, r0, ?_⟩ (Or.inl ⟨r2, ?_, r3⟩)
      · rw [(fk (m + 1) (by omega) (by omega)).2, (fk m (by omega) (by omega)).2]; exact fm.2
      · rw [fg1.2, (fk g (by omega) (by omega)).2]
      · rw [(fk (m + 1) (by omega) (by omega)).1, (fk m (by omega) (by omega)).1]; exact fm.1
      · rw [r1, p1, if_neg (by omega), show ((g + 1 : Nat) : Int).toNat = g + 1 by omega, fg1.1]
      · rw [fg1.1, (fk g (by omega) (by omega)).1]
    refine a4 T' S' F' E' R' e hi ki gi ⟨c1.trans t13, fun j k x y z w => ?_, fun x hx => c3 x (List.mem_cons_of_mem _ hx), fun k x y => fk k x (by omega), fun k x y => (c5 k x (by omega)).trans (hE k x (by omega)), fun j k x y z w => ?_, fun x hx => ?_, fun j k x y z => ?_, fun j c x y z w => ?_⟩ (by omega) (by omega) (by omega) he p0 (by omega) seg2
    · rw [c2 j k x y (by omega) (fun q => w ⟨q.1, ?_⟩), tn j k x y (by omega) (by omega)]
      rcases List.mem_cons.mp q.2 with u | u
      · omega
      · exact u
    · rw [c6 j k x y (by omega) (fun q => w ⟨q.1, ?_⟩), sq j k x y (by omega) (by omega)]
      obtain ⟨u, hu, hv⟩ := q.2
      rcases List.mem_cons.mp hu with v | v
      · rw [v, F2g] at hv; omega
      · have := a3 u v
        rw [(hF u (by omega) (by omega)).1] at hv
        exact ⟨u, v, hv⟩
    · have := c7 x (List.mem_cons_of_mem _ hx)
      have u := a3 x hx
      rw [(hF x (by omega) (by omega)).1] at this
      exact this
    · rw [c8 j k x y (by omega), sw j k x y (by omega)]
    · rw [c9 j c x (by omega) z w, sl j c x (by omega) z w]
/-- all alternatives are done: the body is a closed segment -/
theorem PRE_end {f : Int} {T T' : MSt} {S S' : CSt} {F F' E E' : Nat → Nat} {R R' : Nat → Int} {gs : List Nat} {b0 m g : Nat} {lo li lj ko kk kl go gm gn : Int} (h : PRE f T S F E R gs b0 m lo li ko kk go gm) (lj1 : li ≤ lj) (kl1 : kk ≤ kl) (gn1 : gm ≤ gn) (hg : g < 1000) (hr : SEG f T S F E R (m + 1) g li lj kk kl gm gn) (pm : np T 0 m = 1 ∧ np T 1 m = -1 ∧ np T 2 m = 0 ∧ np T 3 m = 0) (fm : F (m + 1) = F m + 1 ∧ R (m + 1) = R m) (qm : cqR S 0 (F m) = 5 ∧ cqR S 1 (F m) = -1)
    (t13 : T'.2 13 = T.2 13) (tn : ∀ j k : Nat, j < 4 → b0 ≤ k → k < g → ¬ (j = 1 ∧ k ∈ gs) → np T' j k = np T j k) (tj : ∀ x, x ∈ gs → np T' 1 x = ((g + 1 : Nat) : Int)) (tg : np T' 0 g = 2 ∧ np T' 1 g = ((g + 1 : Nat) : Int) ∧ np T' 2 g = 0 ∧ np T' 3 g = 0)
    (hF : ∀ k, b0 ≤ k → k ≤ g → F' k = F k ∧ R' k = R k) (hFg : F' (g + 1) = F g ∧ R' (g + 1) = R g) (hE : ∀ k, b0 ≤ k → k < g → E' k = E k)
    (sq : ∀ j k : Nat, j < 3 → F b0 ≤ k → k < F g → ¬ (j = 1 ∧ ∃ x, x ∈ gs ∧ k = F x) → cqR S' j k = cqR S j k) (sj : ∀ x, x ∈ gs → cqR S' 1 (F x) = (F g : Int)) (sw : ∀ j k : Nat, j = 3 ∨ j = 4 → F b0 ≤ k → k < F g → cwR S' j k = cwR S j k) (sl : ∀ j c : Nat, lo ≤ c → (c : Int) < lj → 5 ≤ j → j ≤ 8 → cqR S' j c = cqR S j c) : SEG f T' S' F' E' R' b0 (g + 1) lo lj ko kl go gn := by
  obtain ⟨a1, a2, a3, a4⟩ := h
  have w1 : m + 1 ≤ g := hr.1.1
  have w2 : F (m + 1) ≤ F g := CERT_le hr.2.2.2.2.2.2 (Nat.le_refl _) w1 (Nat.le_refl _)
  have nom : ∀ k, m ≤ k → k ∉ gs := fun k x hk => by have := a3 k hk; omega
  have nF : ∀ k, F m ≤ k → ¬ ∃ x, x ∈ gs ∧ k = F x := fun k x => by
    rintro ⟨u, hu, hv⟩
    have := a3 u hu
    omega
  have row : SEG f T' S' F' E' R' (m + 1) g li lj kk kl gm gn := by
    refine SEG_cong (by omega) t13 (fun j k x y z => tn j k x (by omega) z (fun q => nom k (by omega) q.2)) (fun k x y => (hF k (by omega) y).1) (fun k x y => hE k (by omega) y) (fun k x y => (hF k (by omega) y).2) (fun j k x y z => sq j k z (by omega) y (fun q => nF k (by omega) q.2)) (fun j k x y z => sw j k x (by omega) z) (fun j c x y z w => sl j c (by omega) y z w) hr
  have p0 : np T' 0 m = 1 := by rw [tn 0 m (by omega) (by omega) (by omega) (fun q => by omega)]; exact pm.1
  have p1 : np T' 1 m = -1 := by rw [tn 1 m (by omega) (by omega) (by omega) (fun q => nom m (Nat.le_refl _) q.2)]; exact pm.2.1
  have p2 : np T' 2 m = 0 := by rw [tn 2 m (by omega) (by omega) (by omega) (fun q => by omega)]; exact pm.2.2.1
  have p3 : np T' 3 m = 0 := by rw [tn 3 m (by omega) (by omega) (by omega) (fun q => by omega)]; exact pm.2.2.2
  have r0 : cqR S' 0 (F' m) = 5 := by rw [(hF m (by omega) (by omega)).1, sq 0 (F m) (by omega) (by omega) (by omega) (fun q => by omega)]; exact qm.1
  have r1 : cqR S' 1 (F' m) = -1 := by rw [(hF m (by omega) (by omega)).1, sq 1 (F m) (by omega) (by omega) (by omega) (fun q => nF (F m) (Nat.le_refl _) q.2)]; exact qm.2
  have seg2 : SEG f T' S' F' E' R' m (g + 1) li lj kk kl gm gn := by
    refine SEG_alt lj1 (Int.le_refl _) kl1 (Int.le_refl _) gn1 (Int.le_refl _) p0 row tg.1 tg.2.1 (Or.inl ⟨p1, rfl⟩) SEG_nil ⟨p2, p3, tg.2.2.1, tg.2.2.2⟩ (by omega) ?_ ?_ ⟨?_, r0, ?_⟩ (Or.inr ⟨rfl, ?_⟩)
    · rw [(hF (m + 1) (by omega) (by omega)).2, (hF m (by omega) (by omega)).2]; exact fm.2
    · rw [hFg.2, (hF g (by omega) (by omega)).2]
    · rw [(hF (m + 1) (by omega) (by omega)).1, (hF m (by omega) (by omega)).1]; exact fm.1
    · rw [r1, p1, if_pos rfl]
    · rw [hFg.1, (hF g (by omega) (by omega)).1]
  exact a4 T' S' F' E' R' (g + 1) lj kl gn ⟨t13, fun j k x y z w => tn j k x y (by omega) w, tj, fun k x y => hF k x (by omega), fun k x y => hE k x (by omega), fun j k x y z w => sq j k x y (by omega) w, fun x hx => by rw [sj x hx, hFg.1], fun j k x y z => sw j k x y (by omega), fun j c x y z w => sl j c x (by omega) z w⟩ lj1 kl1 gn1 (by omega) p0 (by omega) seg2
