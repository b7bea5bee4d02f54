/-- no place is ahead of where the try began -/
def PB (pp : Int) (T : MSt) : Prop := pp ≤ T.1 38 ∧ 0 ≤ T.1 37 ∧ ∀ i : Nat, (i : Int) < T.1 37 → pp ≤ T.2 36 i / 1024 % 32
theorem PB_fr {pp : Int} {T T' : MSt} (h : PB pp T) (h38 : T'.1 38 = T.1 38) (h37 : T'.1 37 = T.1 37) (h36 : T'.2 36 = T.2 36) : PB pp T' := by
  unfold PB
  rw [h38, h37, h36]
  exact h
theorem PB_choose {pp u v : Int} {T : MSt} (h : PB pp T) (u0 : 0 ≤ u) (u1 : u ≤ 3) (v0 : 0 ≤ v) (v1 : v < 256) (p0 : 0 ≤ T.1 38) (p1 : T.1 38 < 32) : PB pp (M_choose u v T) := by
  obtain ⟨a, b, c⟩ := h
  refine ⟨a, by show 0 ≤ T.1 37 + 1; omega, fun i hi => ?_⟩
  have hi' : (i : Int) < T.1 37 + 1 := hi
  show pp ≤ zu (T.2 36) (T.1 37).toNat (u + 4 * (v + 256 * (T.1 38 + 32 * T.1 35))) i / 1024 % 32
  by_cases e : i = (T.1 37).toNat
  · rw [e, zu_eq]; omega
  · rw [zu_ne e]; exact c i (by omega)
theorem PB_put {pp r v : Int} {T : MSt} (h : PB pp T) : PB pp (M_put r v T) := PB_fr h (M_put_o.1 38 (by decide)) (M_put_o.1 37 (by decide)) (M_put_o.2 36 (by decide) (by decide))
theorem PB_clr {pp : Int} : ∀ (n : Nat) (g : Int) (T : MSt), PB pp T → PB pp (M_clr n g T)
  | 0, g, T, h => by rw [M_clr]; exact h
  | n + 1, g, T, h => by rw [M_clr]; exact PB_clr n _ _ (PB_put (PB_put h))
theorem PB_pass {pp k : Int} {T : MSt} (h : PB pp T) : PB pp (M_pass k T) := PB_clr _ _ _ (PB_put (PB_put h))
theorem PB_decide {pp k : Int} {T : MSt} (h : PB pp T) (p0 : 0 ≤ T.1 38) (p1 : T.1 38 < 32) (k0 : 0 ≤ k) (k1 : k < 256) (e0 : 0 ≤ T.2 10 k.toNat / 4096 + 1) (e1 : T.2 10 k.toNat / 4096 + 1 < 256) : PB pp (M_decide k T) := by
  have a := PB_choose (u := 0) (v := T.2 10 k.toNat / 4096 + 1) h (by decide) (by decide) e0 e1 p0 p1
  have b := PB_choose (u := 1) (v := k) h (by decide) (by decide) k0 k1 p0 p1
  unfold M_decide
  by_cases c1 : ((T.2 9 k.toNat) % 128) ≤ (T.2 33 (30 + (T.2 11 k.toNat)).toNat)
  · rw [if_pos c1]
    by_cases c2 : (((T.2 9 k.toNat) / 128) % 512) = 99
    · rw [if_pos c2]
      by_cases c3 : ((if (T.2 9 k.toNat) < 65536 then 0 else 1 : Int)) = 0
      · rw [if_pos c3]; exact PB_pass a
      · rw [if_neg c3]; exact b
    · rw [if_neg c2]
      by_cases c4 : (T.2 33 (30 + (T.2 11 k.toNat)).toNat) < (((T.2 9 k.toNat) / 128) % 512)
      · rw [if_pos c4]
        by_cases c3 : ((if (T.2 9 k.toNat) < 65536 then 0 else 1 : Int)) = 0
        · rw [if_pos c3]; exact PB_pass a
        · rw [if_neg c3]; exact b
      · rw [if_neg c4]; exact h
  · rw [if_neg c1]; exact PB_pass h
theorem PB_one {pp k : Int} {T : MSt} (h : PB pp T) : PB pp (M_one k T).2 := by
  unfold M_one
  by_cases c : M_passes k (M_step T) = 0
  · rw [if_pos c]; exact h
  · rw [if_neg c]
    exact ⟨by show pp ≤ T.1 38 + 1; have := h.1; omega, h.2⟩
theorem PB_order {p : Nat → Nat → Int} {R : Nat → Int} {N : Nat} {pp : Int} {T : MSt} (hp : prR p R N) (h : RI p R N T) (hn : PB pp T) : PB pp (M_order T).2 := by
  obtain ⟨⟨q8, q9, q10, q11, q4, q6, q6', q3, q7, q34, q35, q37, q40, q41, q41', q33⟩, h39, ⟨⟨r1, r2, r3, r4, r5, r6, r7, r8, r9⟩, -⟩⟩ := h
  obtain ⟨k, hk⟩ : ∃ k : Nat, T.1 39 = k := ⟨(T.1 39).toNat, by omega⟩
  have ek : (T.1 39).toNat = k := by omega
  rw [ek] at r1 r8
  have op := hp.2.2.1 k r1
  have hN := hp.2.1
  have b : 0 ≤ T.1 38 ∧ T.1 38 ≤ 24 := by omega
  have hm : ∀ v, PB pp (mi T 39 v) := fun v => hn
  unfold M_order
  rw [ek, q8, q9, q10, q11]
  by_cases c1 : p 0 k = 1
  · rw [if_pos c1]
    by_cases c : p 1 k < 0
    · rw [if_pos c]; exact hn
    · rw [if_neg c]
      have o := op.2.1 c1
      exact PB_choose (T := M_step (mi T 39 (T.1 39 + 1))) hn (by decide) (by decide) (by omega) (by omega) (by show 0 ≤ T.1 38; omega) (by show T.1 38 < 32; omega)
  rw [if_neg c1]
  by_cases c2 : p 0 k = 2
  · rw [if_pos c2]; exact hn
  rw [if_neg c2]
  by_cases c3 : p 0 k = 3
  · rw [if_pos c3]; exact PB_one (hm _)
  rw [if_neg c3]
  by_cases c4 : p 0 k = 4
  · rw [if_pos c4]; exact PB_one (hm _)
  rw [if_neg c4]
  by_cases c5 : p 0 k = 5
  · rw [if_pos c5]; exact PB_one (hm _)
  rw [if_neg c5]
  by_cases c6 : p 0 k = 6
  · rw [if_pos c6]; exact PB_one (hm _)
  rw [if_neg c6]
  by_cases c7 : p 0 k = 7
  · rw [if_pos c7]
    have o := op.2.2.2.2.2.2.1 c7
    obtain ⟨g, hg⟩ : ∃ g : Nat, p 1 k = g := ⟨(p 1 k).toNat, by omega⟩
    have v := r5 g (by omega) (by omega)
    rw [gT_at (by omega), gT_at (by omega)] at v
    show PB pp (M_isSame (p 1 k) (M_step (mi T 39 (T.1 39 + 1)))).2
    rw [hg]
    unfold M_isSame
    have e33 : (M_step (mi T 39 (T.1 39 + 1))).2 33 = T.2 33 := rfl
    have e38 : (M_step (mi T 39 (T.1 39 + 1))).1 38 = T.1 38 := rfl
    rw [e33, e38, show ((g : Int)).toNat = g by omega, show (10 + (g : Int)).toNat = 10 + g by omega]
    by_cases c : 0 ≤ T.2 33 g
    · rw [if_pos c]
      by_cases c' : T.1 38 + (T.2 33 (10 + g) - T.2 33 g) ≤ (M_step (mi T 39 (T.1 39 + 1))).1 4
      · rw [if_pos c']
        rcases same_o (g := (g : Int)) (fr := T.2 33 g) (n3 := T.2 33 (10 + g) - T.2 33 g) (T := M_step (mi T 39 (T.1 39 + 1))) (T.2 33 (10 + g) - T.2 33 g).toNat 1 0 with e | e
        · rw [e]; exact hn
        · rw [e]
          have := v.2.2.1 c
          exact ⟨by show pp ≤ T.1 38 + (T.2 33 (10 + g) - T.2 33 g); have := hn.1; omega, hn.2⟩
      · rw [if_neg c']; exact hn
    · rw [if_neg c]; exact hn
  rw [if_neg c7]
  by_cases c8 : p 0 k = 8
  · rw [if_pos c8]; exact hn
  rw [if_neg c8]
  by_cases c9 : p 0 k = 9
  · rw [if_pos c9]; exact hn
  rw [if_neg c9]
  by_cases c10 : p 0 k = 10
  · rw [if_pos c10]; exact PB_put (hm _)
  rw [if_neg c10]
  by_cases c11 : p 0 k = 11
  · rw [if_pos c11]; exact PB_put (PB_put (hm _))
  rw [if_neg c11]
  by_cases c12 : p 0 k = 12
  · rw [if_pos c12]
    refine PB_choose (T := ma (mi T 39 (T.1 39 + 1)) 33 (130 + p 3 k).toNat (T.1 37)) hn (by decide) (by decide) h39 (by omega) (by show 0 ≤ T.1 38; omega) (by show T.1 38 < 32; omega)
  rw [if_neg c12]
  by_cases c13 : p 0 k = 13
  · rw [if_pos c13]
    have o := op.2.2.2.2.2.2.2.2.2.2.1 c13
    obtain ⟨o1, o2, o3, o4, o5, o6⟩ := o
    obtain ⟨l0, ⟨l1, l2⟩, l3, l4, l5, l6, l7, l8⟩ := look_in hp (k := (p 1 k).toNat) (by omega) o3
    rw [show (p 2 (p 1 k).toNat).toNat = k by omega] at l4
    obtain ⟨m, m1, m2, -⟩ := r8 (p 1 k).toNat (by omega) o3 l4
    have em : T.2 33 (130 + p 3 k).toNat = m := by
      rw [o5]
      have q : qT T (p 3 (p 1 k).toNat).toNat = m := m1
      unfold qT at q
      rw [show (130 + p 3 (p 1 k).toNat).toNat = 130 + (p 3 (p 1 k).toNat).toNat by omega]
      exact q
    have c := hn.2.2 m (by omega)
    show PB pp (M_looked (T.1 39) (mi T 39 (T.1 39 + 1)))
    have e : M_looked (T.1 39) (mi T 39 (T.1 39 + 1)) = mi (mi (mi T 39 (T.1 39 + 1)) 38 (T.2 36 m / 1024 % 32)) 37 m := by
      unfold M_looked
      have q : (mi T 39 (T.1 39 + 1)).2 33 (130 + (mi T 39 (T.1 39 + 1)).2 11 (T.1 39).toNat).toNat = m := by
        show T.2 33 (130 + T.2 11 (T.1 39).toNat).toNat = m
        rw [q11, ek]; exact em
      rw [q, show ((m : Int)).toNat = m by omega]
      rfl
    rw [e]
    refine ⟨c, by show (0 : Int) ≤ m; omega, fun i hi => ?_⟩
    have hi' : (i : Int) < m := hi
    exact hn.2.2 i (by omega)
  rw [if_neg c13]
  by_cases c14 : p 0 k = 14
  · rw [if_pos c14]
    obtain ⟨z1, z2, z3, z4, z5, z6, z7, z8, z9, z10, z11, -⟩ := loop_in hp r1 c14
    unfold enL at z11
    refine PB_decide (PB_put (hm _)) ?_ ?_ h39 (by omega) ?_ ?_
    · rw [M_put_o.1 38 (by decide)]; exact b.1
    · rw [M_put_o.1 38 (by decide)]
      show T.1 38 < 32
      omega
    · rw [M_put_o.2 10 (by decide) (by decide)]
      show 0 ≤ T.2 10 (T.1 39).toNat / 4096 + 1
      rw [q10, ek]; omega
    · rw [M_put_o.2 10 (by decide) (by decide)]
      show T.2 10 (T.1 39).toNat / 4096 + 1 < 256
      rw [q10, ek]; omega
  rw [if_neg c14]
  by_cases c15 : p 0 k = 15
  · rw [if_pos c15]
    by_cases c : (zb (M_isIdle (p 1 k) (mi T 39 (T.1 39 + 1)))) = 0
    · rw [if_pos c]
      obtain ⟨o1, o2, o3, o4⟩ := op.2.2.2.2.2.2.2.2.2.2.2.2.1 c15
      obtain ⟨z1, z2, z3, z4, z5, z6, z7, z8, z9, z10, z11, -⟩ := loop_in hp (k := (p 1 k).toNat) (by omega) o3
      unfold enL at z11
      refine PB_decide (hm _) b.1 (by show T.1 38 < 32; omega) o1 (by omega) ?_ ?_
      · show 0 ≤ T.2 10 (p 1 k).toNat / 4096 + 1
        rw [q10]; omega
      · show T.2 10 (p 1 k).toNat / 4096 + 1 < 256
        rw [q10]; omega
    · rw [if_neg c]; exact hn
  rw [if_neg c15]
  by_cases c16 : p 0 k = 16
  · rw [if_pos c16]; exact PB_one (hm _)
  rw [if_neg c16]
  by_cases c17 : p 0 k = 17
  · rw [if_pos c17]; exact hn
  rw [if_neg c17]; exact PB_one (hm _)
theorem PB_back {p : Nat → Nat → Int} {R : Nat → Int} {N : Nat} {pp : Int} : ∀ (n : Nat) (T : MSt), RB p R N T → T.1 37 = n → PB pp T → PB pp (M_goBackL n T).2
  | 0, T, h, _, hn => hn
  | n + 1, T, h, hn, hg => by
    obtain ⟨hU, u37, u38, u4, u40, u35, u36, -⟩ := UnT_all h (n := n) (by omega)
    have en : (T.1 37 - 1).toNat = n := by omega
    have eU : M_undo (T.2 36 n / 32768) (mi (mi T 37 (T.1 37 - 1)) 38 (T.2 36 n / 1024 % 32)) = UnT T := by unfold UnT; rw [en]
    have gU : PB pp (UnT T) := by
      refine ⟨by rw [u38]; exact hg.2.2 n (by omega), by rw [u37]; omega, fun i hi => ?_⟩
      rw [u37] at hi
      rw [u36]
      exact hg.2.2 i (by omega)
    rw [M_goBackL, if_neg (show ¬ T.1 37 ≤ 0 by omega), en, eU]
    by_cases k0 : T.2 36 n % 4 = 0
    · rw [if_pos k0]; exact gU
    rw [if_neg k0]
    by_cases k1 : T.2 36 n % 4 = 1
    · rw [if_pos k1]; exact PB_pass gU
    rw [if_neg k1]
    by_cases k2 : T.2 9 (T.2 36 n / 4 % 256).toNat = 0
    · rw [if_pos k2]; exact gU
    · rw [if_neg k2]; exact PB_back n (UnT T) hU u37 gU
theorem PB_run {p : Nat → Nat → Int} {R : Nat → Int} {N : Nat} {pp p0 : Int} (hp : prR p R N) : ∀ (n : Nat) (T : MSt), VR p R N n T → PB p0 T → PB p0 (M_runL pp n T).2
  | 0, T, h, hn => by
    rw [M_runL]
    (repeat' split) <;> exact hn
  | n + 1, T, h, hn => by
    have hc := h.1.1
    have ro := VR_run hp (n + 1) T h
    rw [M_runL]
    by_cases c1 : T.2 8 (T.1 39).toNat = 16
    · rw [if_pos c1]; exact hn
    · rw [if_neg c1]
      by_cases c2 : T.1 41 = 0
      · rw [if_pos c2]
        obtain ⟨n', e, -, -, r1, r2⟩ := ro.2.2.2.2.2.2 c1 c2
        have en : n' = n := by omega
        subst en
        have no := PB_order hp h.1 hn
        by_cases c3 : (M_order T).1 = 0
        · rw [if_pos c3]
          have oc := OC_order hp h.1 c2 (by rw [hc.1] at c1; exact c1)
          have s6 := (oc.2.2 c3).1
          have q37 : 0 ≤ (M_order T).2.1 37 := s6.1.2.2.2.2.2.2.2.2.2.2.2.1
          have gb := PB_back ((M_order T).2.1 37).toNat (M_order T).2 s6 (by omega) no
          by_cases c4 : (M_goBack (M_order T).2).1 = 0
          · rw [if_pos c4]; exact gb
          · rw [if_neg c4]; exact PB_run hp n' _ ((r2 c3).2.2 c4) gb
        · rw [if_neg c3]; exact PB_run hp n' _ (r1 c3) no
      · rw [if_neg c2]; exact hn
theorem PB_searchL {p : Nat → Nat → Int} {R : Nat → Int} {N : Nat} {fr : Int} (hp : prR p R N) : ∀ (n : Nat) (pl : Int) (T : MSt), CfT p T → 0 ≤ pl → 0 ≤ (M_searchL fr n pl T).1 → (M_searchL fr n pl T).1 ≤ (M_searchL fr n pl T).2.1 38
  | 0, pl, T, h, h0, hr => by
    rw [M_searchL] at hr
    exact absurd hr (show ¬ (0 : Int) ≤ -1 by decide)
  | n + 1, pl, T, h, h0, hr => by
    rw [M_searchL] at hr ⊢
    by_cases c1 : T.1 4 < pl
    · rw [if_pos c1] at hr
      exact absurd hr (show ¬ (0 : Int) ≤ -1 by decide)
    rw [if_neg c1] at hr ⊢
    by_cases c2 : T.1 41 = 0
    · rw [if_pos c2] at hr ⊢
      by_cases c3 : (M_tries pl T).1 = 0
      · rw [if_pos c3] at hr ⊢
        by_cases c4 : M_has 1 (M_tries pl T).2 = 0
        · rw [if_pos c4] at hr ⊢
          exact PB_searchL hp n (pl + 1) _ (tries_CfT hp h h0 (by omega)) (by omega) hr
        · rw [if_neg c4] at hr
          exact absurd hr (show ¬ (0 : Int) ≤ -1 by decide)
      · rw [if_neg c3]
        obtain ⟨r1, r2, -, -, -, -, r7, r8, -⟩ := RI_start hp h h0 (by omega : pl ≤ T.1 4)
        exact (PB_run (pp := pl) (p0 := pl) hp 1000000 _ ⟨r1, fun _ => by omega⟩ ⟨by omega, by omega, fun i hi => by omega⟩).1
    · rw [if_neg c2] at hr
      exact absurd hr (show ¬ (0 : Int) ≤ -1 by decide)
/-- what is found doesn't end ahead of its begin -/
theorem PB_search {a : Nat} {S : CSt} {M : MSt} {fr : Int} (h : COR a S M) (h0 : 0 ≤ fr) (hr : 0 ≤ (M_search fr M).1) : (M_search fr M).1 ≤ (M_search fr M).2.1 38 := by
  obtain ⟨-, -, ⟨⟨p, R, N, F, hpr, hpe, -⟩, -⟩, ⟨p', hcf'⟩, -⟩ := h
  exact PB_searchL hpr 25 fr _ (CfT_S (CfT_p hcf' hpe)) h0 hr
