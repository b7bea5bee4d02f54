/-- register y was never written -/
def NG (y : Nat) (T : MSt) : Prop := T.2 33 y = -1 ∧ (∀ j : Nat, (j : Int) < T.1 35 → T.2 34 j / 64 ≠ (y : Int)) ∧ 0 ≤ T.1 35
def RGd (T : MSt) : Prop := ∀ r : Nat, r < 130 → -2 ≤ T.2 33 r ∧ T.2 33 r ≤ 61
theorem NG_put {y : Nat} {r v : Int} {T : MSt} (h : NG y T) (hg : RGd T) (r0 : 0 ≤ r) (r1 : r < 130) (hr : r ≠ y ∨ v = -1) (v0 : -2 ≤ v) (v1 : v ≤ 61) : NG y (M_put r v T) ∧ RGd (M_put r v T) := by
  unfold M_put
  by_cases c : T.2 33 r.toNat = v
  · rw [if_pos c]; exact ⟨h, hg⟩
  rw [if_neg c]
  obtain ⟨a1, a2, a3⟩ := h
  have ne : r ≠ y := by
    rcases hr with z | z
    · exact z
    · intro e
      rw [show r.toNat = y by omega, a1] at c
      exact c z.symm
  have g := hg r.toNat (by omega)
  refine ⟨⟨?_, fun j hj => ?_, ?_⟩, fun k hk => ?_⟩
  · show zu (T.2 33) r.toNat v y = -1
    rw [zu_ne (by omega)]; exact a1
  · have hj' : (j : Int) < T.1 35 + 1 := hj
    show zu (T.2 34) (T.1 35).toNat (64 * r + T.2 33 r.toNat + 2) j / 64 ≠ (y : Int)
    by_cases e : j = (T.1 35).toNat
    · rw [e, zu_eq]; omega
    · rw [zu_ne e]; exact a2 j (by omega)
  · show 0 ≤ T.1 35 + 1
    omega
  · show -2 ≤ zu (T.2 33) r.toNat v k ∧ zu (T.2 33) r.toNat v k ≤ 61
    by_cases e : k = r.toNat
    · rw [e, zu_eq]; omega
    · rw [zu_ne e]; exact hg k hk
theorem M_put_o {r v : Int} {T : MSt} : (∀ k, k ≠ 35 → (M_put r v T).1 k = T.1 k) ∧ (∀ k, k ≠ 33 → k ≠ 34 → (M_put r v T).2 k = T.2 k) := by
  unfold M_put
  by_cases c : T.2 33 r.toNat = v
  · rw [if_pos c]; exact ⟨fun _ _ => rfl, fun _ _ _ => rfl⟩
  · rw [if_neg c]
    refine ⟨fun k hk => ?_, fun k h3 h4 => ?_⟩
    · show (if k = 35 then _ else T.1 k) = T.1 k
      rw [if_neg hk]
    · show (if k = 33 then _ else if k = 34 then _ else T.2 k) = T.2 k
      rw [if_neg h3, if_neg h4]
theorem NG_clr {y : Nat} : ∀ (n : Nat) (g : Int) (T : MSt), NG y T → RGd T → 0 ≤ g → (n = 0 ∨ g + n ≤ 100) → NG y (M_clr n g T) ∧ RGd (M_clr n g T)
  | 0, g, T, h, hg, g0, hn => by rw [M_clr]; exact ⟨h, hg⟩
  | n + 1, g, T, h, hg, g0, hn => by
    rw [M_clr]
    obtain ⟨a1, a2⟩ := NG_put (r := g) (v := -1) h hg g0 (by omega) (Or.inr rfl) (by decide) (by decide)
    obtain ⟨b1, b2⟩ := NG_put (r := 10 + g) (v := -1) a1 a2 (by omega) (by omega) (Or.inr rfl) (by decide) (by decide)
    exact NG_clr n (g + 1) _ b1 b2 (by omega) (by omega)
theorem NG_pass {y : Nat} {k : Int} {T : MSt} (y0 : y < 20) (h : NG y T) (hg : ∀ r : Nat, r < 130 → -2 ≤ T.2 33 r ∧ T.2 33 r ≤ 40) (l0 : 0 ≤ T.2 11 k.toNat) (l1 : T.2 11 k.toNat < 50) (b0 : 0 ≤ T.2 10 k.toNat) (p0 : -2 ≤ T.1 38) (p1 : T.1 38 ≤ 61) : NG y (M_pass k T) := by
  have hg' : RGd T := fun r hr => by have := hg r hr; omega
  have g1 := hg (30 + T.2 11 k.toNat).toNat (by omega)
  obtain ⟨a1, a2⟩ := NG_put (r := 30 + T.2 11 k.toNat) (v := T.2 33 (30 + T.2 11 k.toNat).toNat + 1) h hg' (by omega) (by omega) (Or.inl (by omega)) (by omega) (by omega)
  obtain ⟨b1, b2⟩ := NG_put (r := 80 + T.2 11 k.toNat) (v := T.1 38) a1 a2 (by omega) (by omega) (Or.inl (by omega)) p0 p1
  exact (NG_clr (T.2 10 k.toNat % 16 - T.2 10 k.toNat / 16 % 256).toNat (T.2 10 k.toNat / 16 % 256 + 1) _ b1 b2 (by omega) (by omega)).1
theorem NG_undoL {y : Nat} (y0 : 1 ≤ y) : ∀ (n : Nat) (T : MSt), (n : Int) ≤ T.1 35 → NG y T → NG y (M_undoL n T)
  | 0, T, hn, h => by rw [M_undoL]; exact h
  | n + 1, T, hn, h => by
    rw [M_undoL]
    obtain ⟨a1, a2, a3⟩ := h
    have q := a2 (T.1 35 - 1).toNat (by omega)
    refine NG_undoL y0 n _ (by show (n : Int) ≤ T.1 35 - 1; omega) ⟨?_, fun j hj => ?_, by show 0 ≤ T.1 35 - 1; omega⟩
    · show zu (T.2 33) (T.2 34 (T.1 35 - 1).toNat / 64).toNat (T.2 34 (T.1 35 - 1).toNat % 64 - 2) y = -1
      rw [zu_ne (by omega)]; exact a1
    · have hj' : (j : Int) < T.1 35 - 1 := hj
      exact a2 j (by omega)
theorem NG_decide {y : Nat} {k : Int} {T : MSt} (y0 : y < 20) (h : NG y T) (hg : ∀ r : Nat, r < 130 → -2 ≤ T.2 33 r ∧ T.2 33 r ≤ 40) (l0 : 0 ≤ T.2 11 k.toNat) (l1 : T.2 11 k.toNat < 50) (b0 : 0 ≤ T.2 10 k.toNat) (p0 : -2 ≤ T.1 38) (p1 : T.1 38 ≤ 61) : NG y (M_decide k T) := by
  have ch : ∀ u v, NG y (M_choose u v T) := fun u v => h
  have pc : ∀ u v, NG y (M_pass k (M_choose u v T)) := fun u v => NG_pass (T := M_choose u v T) y0 (ch u v) hg l0 l1 b0 p0 p1
  have pt := NG_pass (k := k) y0 h hg l0 l1 b0 p0 p1
  unfold M_decide
  by_cases c1 : ((T.2 9 k.toNat) % 128) ≤ (T.2 33 (30 + (T.2 11 k.toNat)).toNat)
  · rw [if_pos c1]
    by_cases c2 : (((T.2 9 k.toNat) / 128) % 512) = 99
    · rw [if_pos c2]
      by_cases c3 : ((if (T.2 9 k.toNat) < 65536 then 0 else 1 : Int)) = 0
      · rw [if_pos c3]; exact pc _ _
      · rw [if_neg c3]; exact h
    · rw [if_neg c2]
      by_cases c4 : (T.2 33 (30 + (T.2 11 k.toNat)).toNat) < (((T.2 9 k.toNat) / 128) % 512)
      · rw [if_pos c4]
        by_cases c3 : ((if (T.2 9 k.toNat) < 65536 then 0 else 1 : Int)) = 0
        · rw [if_pos c3]; exact pc _ _
        · rw [if_neg c3]; exact h
      · rw [if_neg c4]; exact h
  · rw [if_neg c1]; exact pt
theorem same_o {g fr n3 : Int} {T : MSt} : ∀ (n : Nat) (s k : Int), (M_isSameL g fr n3 T n s k).2 = T ∨ (M_isSameL g fr n3 T n s k).2 = mi T 38 (T.1 38 + n3)
  | 0, s, k => by
    rw [M_isSameL]
    by_cases c : s = 0
    · rw [if_pos c]; exact Or.inl rfl
    · rw [if_neg c]; exact Or.inr rfl
  | n + 1, s, k => by
    rw [M_isSameL]
    by_cases c2 : n3 ≤ k
    · rw [if_pos c2]
      by_cases c : s = 0
      · rw [if_pos c]; exact Or.inl rfl
      · rw [if_neg c]; exact Or.inr rfl
    · rw [if_neg c2]; exact same_o n _ _
theorem NG_same {y : Nat} {g : Int} {T : MSt} (h : NG y T) : NG y (M_isSame g T).2 := by
  unfold M_isSame
  by_cases c : 0 ≤ T.2 33 g.toNat
  · rw [if_pos c]
    by_cases c2 : T.1 38 + (T.2 33 (10 + g).toNat - T.2 33 g.toNat) ≤ T.1 4
    · rw [if_pos c2]
      rcases same_o (g := g) (fr := T.2 33 g.toNat) (n3 := T.2 33 (10 + g).toNat - T.2 33 g.toNat) (T := T) (T.2 33 (10 + g).toNat - T.2 33 g.toNat).toNat 1 0 with e | e
      · rw [e]; exact h
      · rw [e]; exact h
    · rw [if_neg c2]; exact h
  · rw [if_neg c]; exact h
theorem NG_one {y : Nat} {k : Int} {T : MSt} (h : NG y T) : NG y (M_one k T).2 := by
  unfold M_one
  by_cases c : M_passes k (M_step T) = 0
  · rw [if_pos c]; exact h
  · rw [if_neg c]; exact h
/-- which registers are never written: those of groups that are not there -/
def yG (G : Int) (y : Nat) : Prop := (G < (y : Int) ∧ 1 ≤ y ∧ y ≤ 9) ∨ (10 + G < (y : Int) ∧ 11 ≤ y ∧ y ≤ 19)
theorem NG_order {p : Nat → Nat → Int} {R : Nat → Int} {N y : Nat} {G : Int} {T : MSt} (hp : prR p R N) (hy : yG G y) (hG : ∀ r, r < N → p 0 r = 11 → p 1 r ≤ G) (h : RI p R N T) (hn : NG y T) : NG y (M_order T).2 := by
  obtain ⟨⟨q8, q9, q10, q11, q4, q6, q6', q3, q7, q34, q35, q37, q40, q41, q41', q33⟩, h39, ⟨⟨r1, r2, r3, r4, r5, r6, r7, r8, r9⟩, -⟩⟩ := h
  obtain ⟨k, hk⟩ : ∃ k : Nat, T.1 39 = k := ⟨(T.1 39).toNat, by omega⟩
  have ek : (T.1 39).toNat = k := by omega
  rw [ek] at r1
  have op := hp.2.2.1 k r1
  have y20 : y < 20 := by unfold yG at hy; omega
  have rg : ∀ r : Nat, r < 130 → -2 ≤ T.2 33 r ∧ T.2 33 r ≤ 40 := fun r hr => by
    have := r4 r hr
    rw [gT_at hr] at this
    omega
  have rg' : RGd T := fun r hr => by have := rg r hr; omega
  unfold M_order
  rw [ek, q8, q9, q10, q11]
  by_cases c1 : p 0 k = 1
  · rw [if_pos c1]
    by_cases c : p 1 k < 0
    · rw [if_pos c]; exact hn
    · rw [if_neg c]; exact hn
  rw [if_neg c1]
  by_cases c2 : p 0 k = 2
  · rw [if_pos c2]; exact hn
  rw [if_neg c2]
  by_cases c3 : p 0 k = 3
  · rw [if_pos c3]; exact NG_one (T := mi T 39 (T.1 39 + 1)) hn
  rw [if_neg c3]
  by_cases c4 : p 0 k = 4
  · rw [if_pos c4]; exact NG_one (T := mi T 39 (T.1 39 + 1)) hn
  rw [if_neg c4]
  by_cases c5 : p 0 k = 5
  · rw [if_pos c5]; exact NG_one (T := mi T 39 (T.1 39 + 1)) hn
  rw [if_neg c5]
  by_cases c6 : p 0 k = 6
  · rw [if_pos c6]; exact NG_one (T := mi T 39 (T.1 39 + 1)) hn
  rw [if_neg c6]
  by_cases c7 : p 0 k = 7
  · rw [if_pos c7]; exact NG_same (T := M_step (mi T 39 (T.1 39 + 1))) hn
  rw [if_neg c7]
  by_cases c8 : p 0 k = 8
  · rw [if_pos c8]; exact hn
  rw [if_neg c8]
  by_cases c9 : p 0 k = 9
  · rw [if_pos c9]; exact hn
  rw [if_neg c9]
  by_cases c10 : p 0 k = 10
  · rw [if_pos c10]
    have o := op.2.2.2.2.2.2.2.1 c10
    exact (NG_put (T := mi T 39 (T.1 39 + 1)) hn rg' (by omega) (by omega) (Or.inl (by omega)) (by omega) (by omega)).1
  rw [if_neg c10]
  by_cases c11 : p 0 k = 11
  · rw [if_pos c11]
    have o := op.2.2.2.2.2.2.2.2.1 c11
    have g := hG k r1 c11
    have o1 := o.2.1
    have o2 := o.2.2.1
    have v := rg (20 + p 1 k).toNat (by omega)
    unfold yG at hy
    obtain ⟨a1, a2⟩ := NG_put (T := mi T 39 (T.1 39 + 1)) (r := p 1 k) (v := T.2 33 (20 + p 1 k).toNat) hn rg' (by omega) (by omega) (Or.inl (by omega)) (by omega) (by omega)
    exact (NG_put (r := 10 + p 1 k) (v := T.1 38) a1 a2 (by omega) (by omega) (Or.inl (by omega)) (by omega) (by omega)).1
  rw [if_neg c11]
  by_cases c12 : p 0 k = 12
  · rw [if_pos c12]
    obtain ⟨a1, a2, a3⟩ := hn
    have c := op.1.2.2.2.2.2.2
    refine ⟨?_, a2, a3⟩
    show zu (T.2 33) (130 + p 3 k).toNat (T.1 37) y = -1
    rw [zu_ne (by omega)]; exact a1
  rw [if_neg c12]
  by_cases c13 : p 0 k = 13
  · rw [if_pos c13]; exact hn
  rw [if_neg c13]
  have o3 := op.1.2.2.2.2
  by_cases c14 : p 0 k = 14
  · rw [if_pos c14]
    obtain ⟨a1, a2⟩ := NG_put (T := mi T 39 (T.1 39 + 1)) (r := 30 + p 3 k) (v := 0) hn rg' (by omega) (by omega) (Or.inl (by omega)) (by omega) (by omega)
    obtain ⟨m1, m2⟩ := M_put_o (r := 30 + p 3 k) (v := 0) (T := mi T 39 (T.1 39 + 1))
    refine NG_decide y20 a1 (fun r hr => ?_) ?_ ?_ ?_ ?_ ?_
    · have q : (M_put (30 + p 3 k) 0 (mi T 39 (T.1 39 + 1))).2 33 r = T.2 33 r ∨ (M_put (30 + p 3 k) 0 (mi T 39 (T.1 39 + 1))).2 33 r = 0 := by
        unfold M_put
        by_cases c : (mi T 39 (T.1 39 + 1)).2 33 (30 + p 3 k).toNat = 0
        · rw [if_pos c]; exact Or.inl rfl
        · rw [if_neg c]
          show zu (T.2 33) (30 + p 3 k).toNat 0 r = _ ∨ zu (T.2 33) (30 + p 3 k).toNat 0 r = _
          by_cases e : r = (30 + p 3 k).toNat
          · rw [e, zu_eq]; exact Or.inr rfl
          · rw [zu_ne e]; exact Or.inl rfl
      have := rg r hr
      omega
    · rw [m2 11 (by decide) (by decide)]
      show 0 ≤ T.2 11 (T.1 39).toNat
      rw [q11, ek]; omega
    · rw [m2 11 (by decide) (by decide)]
      show T.2 11 (T.1 39).toNat < 50
      rw [q11, ek]; omega
    · rw [m2 10 (by decide) (by decide)]
      show 0 ≤ T.2 10 (T.1 39).toNat
      rw [q10, ek]; omega
    · rw [m1 38 (by decide)]
      show -2 ≤ T.1 38
      omega
    · rw [m1 38 (by decide)]
      show T.1 38 ≤ 61
      omega
  rw [if_neg c14]
  by_cases c15 : p 0 k = 15
  · rw [if_pos c15]
    by_cases c : (zb (M_isIdle (p 1 k) (mi T 39 (T.1 39 + 1)))) = 0
    · rw [if_pos c]
      have o := op.2.2.2.2.2.2.2.2.2.2.2.2.1 c15
      have o4 := (hp.2.2.1 (p 1 k).toNat (by omega)).1.2.2.2.2
      refine NG_decide (T := mi T 39 (T.1 39 + 1)) y20 hn rg ?_ ?_ ?_ (by show -2 ≤ T.1 38; omega) (by show T.1 38 ≤ 61; omega)
      · show 0 ≤ T.2 11 (p 1 k).toNat
        rw [q11]; omega
      · show T.2 11 (p 1 k).toNat < 50
        rw [q11]; omega
      · show 0 ≤ T.2 10 (p 1 k).toNat
        rw [q10]; omega
    · rw [if_neg c]; exact hn
  rw [if_neg c15]
  by_cases c16 : p 0 k = 16
  · rw [if_pos c16]; exact NG_one (T := mi T 39 (T.1 39 + 1)) hn
  rw [if_neg c16]
  by_cases c17 : p 0 k = 17
  · rw [if_pos c17]; exact hn
  rw [if_neg c17]; exact NG_one (T := mi T 39 (T.1 39 + 1)) hn
theorem NG_back {p : Nat → Nat → Int} {R : Nat → Int} {N y : Nat} (hp : prR p R N) (y0 : 1 ≤ y) (y20 : y < 20) : ∀ (n : Nat) (T : MSt), RB p R N T → T.1 37 = n → NG y T → NG y (M_goBackL n T).2
  | 0, T, h, _, hn => hn
  | n + 1, T, h, hn, hg => by
    obtain ⟨hU, u37, u38, u4, u40, u35, u36, uq, ug, u41, st, rs, -⟩ := UnT_all h (n := n) (by omega)
    have h' := h
    obtain ⟨c, h1, h2, h3, h4⟩ := h'
    have en2 : (T.1 37).toNat = n + 1 := by omega
    rw [en2] at h1
    obtain ⟨⟨e1, e2, e3, e4, e5, e6, e7, e8⟩, e9⟩ := h1.1 n (by omega)
    have en : (T.1 37 - 1).toNat = n := by omega
    have eU : M_undo (T.2 36 n / 32768) (mi (mi T 37 (T.1 37 - 1)) 38 (T.2 36 n / 1024 % 32)) = UnT T := by unfold UnT; rw [en]
    have gU : NG y (UnT T) := by
      rw [← eU]
      exact NG_undoL y0 _ _ (by show (((T.1 35 - T.2 36 n / 32768).toNat : Nat) : Int) ≤ T.1 35; have := hg.2.2; omega) hg
    rw [M_goBackL, if_neg (show ¬ T.1 37 ≤ 0 by omega), en, eU]
    by_cases k0 : T.2 36 n % 4 = 0
    · rw [if_pos k0]; exact gU
    rw [if_neg k0]
    by_cases k1 : T.2 36 n % 4 = 1
    · rw [if_pos k1]
      have hw := e4.1
      have o := (hp.2.2.1 _ hw).1.2.2.2.2
      have cU := hU.1
      refine NG_pass y20 gU (fun r hr => ?_) ?_ ?_ ?_ (by rw [u38]; omega) (by rw [u38]; omega)
      · have := hU.2.2.2.2 r hr
        rw [gT_at hr] at this
        omega
      · rw [cU.2.2.2.1]; omega
      · rw [cU.2.2.2.1]; omega
      · rw [cU.2.2.1]; omega
    rw [if_neg k1]
    by_cases k2 : T.2 9 (T.2 36 n / 4 % 256).toNat = 0
    · rw [if_pos k2]; exact gU
    · rw [if_neg k2]; exact NG_back hp y0 y20 n (UnT T) hU u37 gU
theorem NG_run {p : Nat → Nat → Int} {R : Nat → Int} {N y : Nat} {G pp : Int} (hp : prR p R N) (hy : yG G y) (hG : ∀ r, r < N → p 0 r = 11 → p 1 r ≤ G) : ∀ (n : Nat) (T : MSt), VR p R N n T → NG y T → NG y (M_runL pp n T).2
  | 0, T, h, hn => by
    rw [M_runL]
    (repeat' split) <;> exact hn
  | n + 1, T, h, hn => by
    have hc := h.1.1
    have ro := VR_run hp (n + 1) T h
    rw [M_runL]
    by_cases c1 : T.2 8 (T.1 39).toNat = 16
    · rw [if_pos c1]; exact hn
    · rw [if_neg c1]
      by_cases c2 : T.1 41 = 0
      · rw [if_pos c2]
        obtain ⟨n', e, -, -, r1, r2⟩ := ro.2.2.2.2.2.2 c1 c2
        have en : n' = n := by omega
        subst en
        have no := NG_order hp hy hG h.1 hn
        by_cases c3 : (M_order T).1 = 0
        · rw [if_pos c3]
          have oc := OC_order hp h.1 c2 (by rw [hc.1] at c1; exact c1)
          have s6 := (oc.2.2 c3).1
          have q37 : 0 ≤ (M_order T).2.1 37 := s6.1.2.2.2.2.2.2.2.2.2.2.2.1
          have gb := NG_back hp (by unfold yG at hy; omega) (by unfold yG at hy; omega) ((M_order T).2.1 37).toNat (M_order T).2 s6 (by omega) no
          by_cases c4 : (M_goBack (M_order T).2).1 = 0
          · rw [if_pos c4]; exact gb
          · rw [if_neg c4]; exact NG_run hp hy hG n' _ ((r2 c3).2.2 c4) gb
        · rw [if_neg c3]; exact NG_run hp hy hG n' _ (r1 c3) no
      · rw [if_neg c2]; exact hn
theorem NG_tries {p : Nat → Nat → Int} {R : Nat → Int} {N y : Nat} {G pp : Int} {T : MSt} (hp : prR p R N) (hy : yG G y) (hG : ∀ r, r < N → p 0 r = 11 → p 1 r ≤ G) (h : CfT p T) (h0 : 0 ≤ pp) (h1 : pp ≤ T.1 4) : (M_tries pp T).2.2 33 y = -1 := by
  obtain ⟨r1, r2, -, -, r5, r6, -⟩ := RI_start hp h h0 h1
  have y130 : y < 130 := by unfold yG at hy; omega
  have e := r5 y y130
  rw [gT_at y130] at e
  exact (NG_run hp hy hG 1000000 _ ⟨r1, fun _ => by omega⟩ ⟨e, fun j hj => by omega, by omega⟩).1
theorem NG_searchL {p : Nat → Nat → Int} {R : Nat → Int} {N y : Nat} {G fr : Int} (hp : prR p R N) (hy : yG G y) (hG : ∀ r, r < N → p 0 r = 11 → p 1 r ≤ G) : ∀ (n : Nat) (pl : Int) (T : MSt), CfT p T → 0 ≤ pl → 0 ≤ (M_searchL fr n pl T).1 → (M_searchL fr n pl T).2.2 33 y = -1
  | 0, pl, T, h, h0, hr => by
    rw [M_searchL] at hr
    exact absurd hr (show ¬ (0 : Int) ≤ -1 by decide)
  | n + 1, pl, T, h, h0, hr => by
    rw [M_searchL] at hr ⊢
    by_cases c1 : T.1 4 < pl
    · rw [if_pos c1] at hr
      exact absurd hr (show ¬ (0 : Int) ≤ -1 by decide)
    rw [if_neg c1] at hr ⊢
    by_cases c2 : T.1 41 = 0
    · rw [if_pos c2] at hr ⊢
      by_cases c3 : (M_tries pl T).1 = 0
      · rw [if_pos c3] at hr ⊢
        by_cases c4 : M_has 1 (M_tries pl T).2 = 0
        · rw [if_pos c4] at hr ⊢
          exact NG_searchL hp hy hG n (pl + 1) _ (tries_CfT hp h h0 (by omega)) (by omega) hr
        · rw [if_neg c4] at hr
          exact absurd hr (show ¬ (0 : Int) ≤ -1 by decide)
      · rw [if_neg c3]
        exact NG_tries hp hy hG h h0 (by omega)
    · rw [if_neg c2] at hr
      exact absurd hr (show ¬ (0 : Int) ≤ -1 by decide)
/-- groups that are not there are never found -/
theorem NG_search {p : Nat → Nat → Int} {R : Nat → Int} {N : Nat} {G fr : Int} {T : MSt} (hp : prR p R N) (hG : ∀ r, r < N → p 0 r = 11 → p 1 r ≤ G) (h : CfT p T) (h0 : 0 ≤ fr) (hr : 0 ≤ (M_search fr T).1) {g : Nat} (g0 : 1 ≤ g) (g9 : g ≤ 9) (gG : G < (g : Int)) : (M_search fr T).2.2 33 g = -1 ∧ (M_search fr T).2.2 33 (10 + g) = -1 :=
  ⟨NG_searchL hp (Or.inl ⟨gG, g0, g9⟩) hG 25 fr _ (CfT_S h) h0 hr, NG_searchL hp (Or.inr ⟨by omega, by omega, by omega⟩) hG 25 fr _ (CfT_S h) h0 hr⟩
