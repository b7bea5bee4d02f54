/-- the reference's place stays small -/
def P38 (T : MSt) : Prop := -100 ≤ T.1 38 ∧ T.1 38 ≤ 100
theorem P38_clr : ∀ (n : Nat) (g : Int) (T : MSt), (M_clr n g T).1 38 = T.1 38
  | 0, g, T => by rw [M_clr]
  | n + 1, g, T => by
    rw [M_clr, P38_clr n, M_put_o.1 38 (by decide), M_put_o.1 38 (by decide)]
theorem P38_pass {k : Int} {T : MSt} : (M_pass k T).1 38 = T.1 38 := by
  show (M_clr _ _ _).1 38 = _
  rw [P38_clr, M_put_o.1 38 (by decide), M_put_o.1 38 (by decide)]
theorem P38_decide {k : Int} {T : MSt} : (M_decide k T).1 38 = T.1 38 := by
  have pc : ∀ u v, (M_pass k (M_choose u v T)).1 38 = T.1 38 := fun u v => P38_pass
  unfold M_decide
  by_cases c1 : ((T.2 9 k.toNat) % 128) ≤ (T.2 33 (30 + (T.2 11 k.toNat)).toNat)
  · rw [if_pos c1]
    by_cases c2 : (((T.2 9 k.toNat) / 128) % 512) = 99
    · rw [if_pos c2]
      by_cases c3 : ((if (T.2 9 k.toNat) < 65536 then 0 else 1 : Int)) = 0
      · rw [if_pos c3]; exact pc _ _
      · rw [if_neg c3]; rfl
    · rw [if_neg c2]
      by_cases c4 : (T.2 33 (30 + (T.2 11 k.toNat)).toNat) < (((T.2 9 k.toNat) / 128) % 512)
      · rw [if_pos c4]
        by_cases c3 : ((if (T.2 9 k.toNat) < 65536 then 0 else 1 : Int)) = 0
        · rw [if_pos c3]; exact pc _ _
        · rw [if_neg c3]; rfl
      · rw [if_neg c4]; rfl
  · rw [if_neg c1]; exact P38_pass
theorem P38_one {k : Int} {T : MSt} (h : 0 ≤ T.1 38 ∧ T.1 38 ≤ 24) : P38 (M_one k T).2 := by
  unfold M_one
  by_cases c : M_passes k (M_step T) = 0
  · rw [if_pos c]
    show -100 ≤ T.1 38 ∧ T.1 38 ≤ 100
    omega
  · rw [if_neg c]
    show -100 ≤ T.1 38 + 1 ∧ T.1 38 + 1 ≤ 100
    omega
theorem P38_order {p : Nat → Nat → Int} {R : Nat → Int} {N : Nat} {T : MSt} (hp : prR p R N) (h : RI p R N T) : P38 (M_order T).2 := by
  obtain ⟨⟨q8, q9, q10, q11, q4, q6, q6', q3, q7, q34, q35, q37, q40, q41, q41', q33⟩, h39, ⟨⟨r1, r2, r3, r4, r5, r6, r7, r8, r9⟩, -⟩⟩ := h
  obtain ⟨k, hk⟩ : ∃ k : Nat, T.1 39 = k := ⟨(T.1 39).toNat, by omega⟩
  have ek : (T.1 39).toNat = k := by omega
  rw [ek] at r1
  have op := hp.2.2.1 k r1
  have b : 0 ≤ T.1 38 ∧ T.1 38 ≤ 24 := by omega
  have b0 : -100 ≤ T.1 38 ∧ T.1 38 ≤ 100 := by omega
  unfold M_order
  rw [ek, q8, q9, q10, q11]
  by_cases c1 : p 0 k = 1
  · rw [if_pos c1]
    by_cases c : p 1 k < 0
    · rw [if_pos c]; exact b0
    · rw [if_neg c]; exact b0
  rw [if_neg c1]
  by_cases c2 : p 0 k = 2
  · rw [if_pos c2]; exact b0
  rw [if_neg c2]
  by_cases c3 : p 0 k = 3
  · rw [if_pos c3]; exact P38_one (T := mi T 39 (T.1 39 + 1)) b
  rw [if_neg c3]
  by_cases c4 : p 0 k = 4
  · rw [if_pos c4]; exact P38_one (T := mi T 39 (T.1 39 + 1)) b
  rw [if_neg c4]
  by_cases c5 : p 0 k = 5
  · rw [if_pos c5]; exact P38_one (T := mi T 39 (T.1 39 + 1)) b
  rw [if_neg c5]
  by_cases c6 : p 0 k = 6
  · rw [if_pos c6]; exact P38_one (T := mi T 39 (T.1 39 + 1)) b
  rw [if_neg c6]
  by_cases c7 : p 0 k = 7
  · rw [if_pos c7]
    have o := op.2.2.2.2.2.2.1 c7
    have v1 := r4 (p 1 k).toNat (by omega)
    have v2 := r4 (10 + p 1 k).toNat (by omega)
    rw [gT_at (by omega)] at v1 v2
    show P38 (M_isSame (p 1 k) (M_step (mi T 39 (T.1 39 + 1)))).2
    unfold M_isSame
    have e33 : (M_step (mi T 39 (T.1 39 + 1))).2 33 = T.2 33 := rfl
    have e38 : (M_step (mi T 39 (T.1 39 + 1))).1 38 = T.1 38 := rfl
    rw [e33, e38]
    by_cases c : 0 ≤ T.2 33 (p 1 k).toNat
    · rw [if_pos c]
      by_cases c' : T.1 38 + (T.2 33 (10 + p 1 k).toNat - T.2 33 (p 1 k).toNat) ≤ (M_step (mi T 39 (T.1 39 + 1))).1 4
      · rw [if_pos c']
        rcases same_o (g := p 1 k) (fr := T.2 33 (p 1 k).toNat) (n3 := T.2 33 (10 + p 1 k).toNat - T.2 33 (p 1 k).toNat) (T := M_step (mi T 39 (T.1 39 + 1))) (T.2 33 (10 + p 1 k).toNat - T.2 33 (p 1 k).toNat).toNat 1 0 with e | e
        · rw [e]; exact b0
        · rw [e]
          show -100 ≤ T.1 38 + (T.2 33 (10 + p 1 k).toNat - T.2 33 (p 1 k).toNat) ∧ T.1 38 + (T.2 33 (10 + p 1 k).toNat - T.2 33 (p 1 k).toNat) ≤ 100
          omega
      · rw [if_neg c']; exact b0
    · rw [if_neg c]; exact b0
  rw [if_neg c7]
  by_cases c8 : p 0 k = 8
  · rw [if_pos c8]; exact b0
  rw [if_neg c8]
  by_cases c9 : p 0 k = 9
  · rw [if_pos c9]; exact b0
  rw [if_neg c9]
  by_cases c10 : p 0 k = 10
  · rw [if_pos c10]
    unfold P38
    show -100 ≤ (M_put _ _ _).1 38 ∧ (M_put _ _ _).1 38 ≤ 100
    rw [M_put_o.1 38 (by decide)]; exact b0
  rw [if_neg c10]
  by_cases c11 : p 0 k = 11
  · rw [if_pos c11]
    unfold P38
    show -100 ≤ (M_put _ _ _).1 38 ∧ (M_put _ _ _).1 38 ≤ 100
    rw [M_put_o.1 38 (by decide), M_put_o.1 38 (by decide)]; exact b0
  rw [if_neg c11]
  by_cases c12 : p 0 k = 12
  · rw [if_pos c12]; exact b0
  rw [if_neg c12]
  by_cases c13 : p 0 k = 13
  · rw [if_pos c13]
    show -100 ≤ T.2 36 (T.2 33 (130 + T.2 11 (T.1 39).toNat).toNat).toNat / 1024 % 32 ∧ T.2 36 (T.2 33 (130 + T.2 11 (T.1 39).toNat).toNat).toNat / 1024 % 32 ≤ 100
    omega
  rw [if_neg c13]
  by_cases c14 : p 0 k = 14
  · rw [if_pos c14]
    unfold P38
    show -100 ≤ (M_decide _ _).1 38 ∧ (M_decide _ _).1 38 ≤ 100
    rw [P38_decide, M_put_o.1 38 (by decide)]; exact b0
  rw [if_neg c14]
  by_cases c15 : p 0 k = 15
  · rw [if_pos c15]
    by_cases c : (zb (M_isIdle (p 1 k) (mi T 39 (T.1 39 + 1)))) = 0
    · rw [if_pos c]
      unfold P38
      show -100 ≤ (M_decide _ _).1 38 ∧ (M_decide _ _).1 38 ≤ 100
      rw [P38_decide]; exact b0
    · rw [if_neg c]; exact b0
  rw [if_neg c15]
  by_cases c16 : p 0 k = 16
  · rw [if_pos c16]; exact P38_one (T := mi T 39 (T.1 39 + 1)) b
  rw [if_neg c16]
  by_cases c17 : p 0 k = 17
  · rw [if_pos c17]; exact b0
  rw [if_neg c17]; exact P38_one (T := mi T 39 (T.1 39 + 1)) b
theorem P38_back {p : Nat → Nat → Int} {R : Nat → Int} {N : Nat} : ∀ (n : Nat) (T : MSt), RB p R N T → T.1 37 = n → P38 T → P38 (M_goBackL n T).2
  | 0, T, h, _, hn => hn
  | n + 1, T, h, hn, hg => by
    obtain ⟨hU, u37, u38, -⟩ := UnT_all h (n := n) (by omega)
    have en : (T.1 37 - 1).toNat = n := by omega
    have eU : M_undo (T.2 36 n / 32768) (mi (mi T 37 (T.1 37 - 1)) 38 (T.2 36 n / 1024 % 32)) = UnT T := by unfold UnT; rw [en]
    have gU : P38 (UnT T) := by
      unfold P38
      rw [u38]; omega
    rw [M_goBackL, if_neg (show ¬ T.1 37 ≤ 0 by omega), en, eU]
    by_cases k0 : T.2 36 n % 4 = 0
    · rw [if_pos k0]; exact gU
    rw [if_neg k0]
    by_cases k1 : T.2 36 n % 4 = 1
    · rw [if_pos k1]
      unfold P38
      show -100 ≤ (M_pass _ _).1 38 ∧ (M_pass _ _).1 38 ≤ 100
      rw [P38_pass]; exact gU
    rw [if_neg k1]
    by_cases k2 : T.2 9 (T.2 36 n / 4 % 256).toNat = 0
    · rw [if_pos k2]; exact gU
    · rw [if_neg k2]; exact P38_back n (UnT T) hU u37 gU
theorem P38_run {p : Nat → Nat → Int} {R : Nat → Int} {N : Nat} {pp : Int} (hp : prR p R N) : ∀ (n : Nat) (T : MSt), VR p R N n T → P38 T → P38 (M_runL pp n T).2
  | 0, T, h, hn => by
    rw [M_runL]
    (repeat' split) <;> exact hn
  | n + 1, T, h, hn => by
    have hc := h.1.1
    have ro := VR_run hp (n + 1) T h
    rw [M_runL]
    by_cases c1 : T.2 8 (T.1 39).toNat = 16
    · rw [if_pos c1]; exact hn
    · rw [if_neg c1]
      by_cases c2 : T.1 41 = 0
      · rw [if_pos c2]
        obtain ⟨n', e, -, -, r1, r2⟩ := ro.2.2.2.2.2.2 c1 c2
        have en : n' = n := by omega
        subst en
        have no := P38_order hp h.1
        by_cases c3 : (M_order T).1 = 0
        · rw [if_pos c3]
          have oc := OC_order hp h.1 c2 (by rw [hc.1] at c1; exact c1)
          have s6 := (oc.2.2 c3).1
          have q37 : 0 ≤ (M_order T).2.1 37 := s6.1.2.2.2.2.2.2.2.2.2.2.2.1
          have gb := P38_back ((M_order T).2.1 37).toNat (M_order T).2 s6 (by omega) no
          by_cases c4 : (M_goBack (M_order T).2).1 = 0
          · rw [if_pos c4]; exact gb
          · rw [if_neg c4]; exact P38_run hp n' _ ((r2 c3).2.2 c4) gb
        · rw [if_neg c3]; exact P38_run hp n' _ (r1 c3) no
      · rw [if_neg c2]; exact hn
theorem P38_tries {p : Nat → Nat → Int} {R : Nat → Int} {N : Nat} {pp : Int} {T : MSt} (hp : prR p R N) (h : CfT p T) (h0 : 0 ≤ pp) (h1 : pp ≤ T.1 4) : P38 (M_tries pp T).2 := by
  obtain ⟨r1, r2, -⟩ := RI_start hp h h0 h1
  have l := h.2.2.2.2.1
  exact P38_run hp 1000000 _ ⟨r1, fun _ => by omega⟩ ⟨by show -100 ≤ pp; omega, by show pp ≤ 100; omega⟩
theorem P38_searchL {p : Nat → Nat → Int} {R : Nat → Int} {N : Nat} {fr : Int} (hp : prR p R N) : ∀ (n : Nat) (pl : Int) (T : MSt), CfT p T → 0 ≤ pl → P38 T → P38 (M_searchL fr n pl T).2
  | 0, pl, T, h, h0, hr => by rw [M_searchL]; exact hr
  | n + 1, pl, T, h, h0, hr => by
    rw [M_searchL]
    by_cases c1 : T.1 4 < pl
    · rw [if_pos c1]; exact hr
    rw [if_neg c1]
    by_cases c2 : T.1 41 = 0
    · rw [if_pos c2]
      have t := P38_tries hp h h0 (by omega)
      by_cases c3 : (M_tries pl T).1 = 0
      · rw [if_pos c3]
        by_cases c4 : M_has 1 (M_tries pl T).2 = 0
        · rw [if_pos c4]
          exact P38_searchL hp n (pl + 1) _ (tries_CfT hp h h0 (by omega)) (by omega) t
        · rw [if_neg c4]; exact t
      · rw [if_neg c3]; exact t
    · rw [if_neg c2]; exact hr
theorem P38_search {a : Nat} {S : CSt} {M : MSt} {fr : Int} (h : COR a S M) (h0 : 0 ≤ fr) (hp : P38 M) : P38 (M_search fr M).2 := by
  obtain ⟨-, -, ⟨⟨p, R, N, F, hpr, hpe, -⟩, -⟩, ⟨p', hcf'⟩, -⟩ := h
  exact P38_searchL hpr 25 fr _ (CfT_S (CfT_p hcf' hpe)) h0 hp
