/-- an order more in the class's program -/
def addS (kd am nb : Int) (S : CSt) : CSt := ci (ci (ci (ci S 26 (S.1 7 5).toNat kd) 27 (S.1 7 5).toNat am) 28 (S.1 7 5).toNat nb) 7 5 (S.1 7 5 + 1)
theorem K2_addQ {kd am nb : Int} {S : CSt} (h0 : 0 ≤ S.1 7 5) (h1 : S.1 7 5 < 96) : K2_add kd am nb S = (0, S.1 7 5, addS kd am nb S) := by
  unfold K2_add
  rw [if_neg (by omega), if_pos h1, show S.1 7 5 + 1 - 1 = S.1 7 5 by omega]
  rfl
theorem addS_75 {kd am nb : Int} {S : CSt} : (addS kd am nb S).1 7 5 = S.1 7 5 + 1 := by unfold addS; rw [ci_eq, zu_eq]
theorem addS_7 {kd am nb : Int} {S : CSt} {j : Nat} (hj : j ≠ 5) : (addS kd am nb S).1 7 j = S.1 7 j := by unfold addS; rw [ci_eq, zu_ne hj, ci_ne (by decide), ci_ne (by decide), ci_ne (by decide)]
theorem addS_o {kd am nb : Int} {S : CSt} {n : Nat} (h : n < 7 ∨ (7 < n ∧ n < 26) ∨ 28 < n) : (addS kd am nb S).1 n = S.1 n := by unfold addS; rw [ci_ne (by omega), ci_ne (by omega), ci_ne (by omega), ci_ne (by omega)]
theorem addS_2 {kd am nb : Int} {S : CSt} : (addS kd am nb S).2 = S.2 := rfl
theorem addS_c {kd am nb : Int} {S : CSt} {k : Nat} : cqR (addS kd am nb S) 0 k = (if k = (S.1 7 5).toNat then kd else cqR S 0 k) ∧ cqR (addS kd am nb S) 1 k = (if k = (S.1 7 5).toNat then am else cqR S 1 k) ∧ cqR (addS kd am nb S) 2 k = (if k = (S.1 7 5).toNat then nb else cqR S 2 k) := by
  refine ⟨?_, ?_, ?_⟩
  · show (addS kd am nb S).1 26 k = _
    unfold addS
    rw [ci_ne (by decide), ci_ne (by decide), ci_ne (by decide), ci_eq]
    rfl
  · show (addS kd am nb S).1 27 k = _
    unfold addS
    rw [ci_ne (by decide), ci_ne (by decide), ci_eq, ci_ne (by decide)]
    rfl
  · show (addS kd am nb S).1 28 k = _
    unfold addS
    rw [ci_ne (by decide), ci_eq, ci_ne (by decide), ci_ne (by decide)]
    rfl
theorem addS_l {kd am nb : Int} {S : CSt} {j k : Nat} (h : 5 ≤ j) : cqR (addS kd am nb S) j k = cqR S j k := by
  show (addS kd am nb S).1 (26 + j) k = S.1 (26 + j) k
  rw [addS_o (by omega)]
/-- the reference's emit, place by place -/
theorem np_emit {w x y z : Int} {T : MSt} {j k : Nat} (h : k ≠ (T.1 19).toNat) : np (M_emit w x y z T) j k = np T j k := by
  show (M_emit w x y z T).2 (15 + j) k = T.2 (15 + j) k
  have e : ∀ (U : MSt) (a : Nat) (v : Int), (ma U a (T.1 19).toNat v).2 (15 + j) k = U.2 (15 + j) k := fun U a v => by
    show (if 15 + j = a then zu (U.2 a) (T.1 19).toNat v else U.2 (15 + j)) k = U.2 (15 + j) k
    split
    · rename_i q; rw [zu_ne h, q]
    · rfl
  show (ma (ma (ma (ma T 15 (T.1 19).toNat w) 16 (T.1 19).toNat x) 17 (T.1 19).toNat y) 18 (T.1 19).toNat z).2 (15 + j) k = _
  rw [e, e, e, e]
theorem np_emit0 {w x y z : Int} {T : MSt} : np (M_emit w x y z T) 0 (T.1 19).toNat = w ∧ np (M_emit w x y z T) 1 (T.1 19).toNat = x ∧ np (M_emit w x y z T) 2 (T.1 19).toNat = y ∧ np (M_emit w x y z T) 3 (T.1 19).toNat = z := by
  refine ⟨?_, ?_, ?_, ?_⟩
  · show zu (T.2 15) (T.1 19).toNat w (T.1 19).toNat = w
    exact zu_eq
  · show zu (T.2 16) (T.1 19).toNat x (T.1 19).toNat = x
    exact zu_eq
  · show zu (T.2 17) (T.1 19).toNat y (T.1 19).toNat = y
    exact zu_eq
  · show zu (T.2 18) (T.1 19).toNat z (T.1 19).toNat = z
    exact zu_eq
/-- one order by itself is a segment -/
theorem SEG_one {f : Int} {T : MSt} {S : CSt} {F E : Nat → Nat} {R : Nat → Int} {b : Nat} {lo ko go : Int} (ho : 3 ≤ np T 0 b ∧ np T 0 b ≤ 9 ∨ np T 0 b = 17) (hl : LOC (np T) b) (hR : R (b + 1) = R b) (hc : certS (np T) F E (fitN f T) (cqR S) (cwR S) b) : SEG f T S F E R b (b + 1) lo lo ko ko go go := by
  have eq : ∀ r, b ≤ r → r < b + 1 → r = b := fun r a c => by omega
  refine ⟨SG_one ho, NUM_none (fun h a c y => ?_), NUM_none (fun h a c y => ?_), NUM_none (fun h a c y => ?_), fun r a c => by rw [eq r a c]; exact hl, fun r a c => ?_, fun r a c => by rw [eq r a c]; exact hc⟩
  · rw [eq h a c] at y; omega
  · rw [eq h a c] at y; omega
  · rw [eq h a c] at y; omega
  · rw [eq r a c, hR]
    exact ⟨Int.le_refl _, fun y => by omega⟩
def fu (F : Nat → Nat) (k v : Nat) : Nat → Nat := fun j => if j = k then v else F j
theorem fu_eq {F : Nat → Nat} {k v : Nat} : fu F k v k = v := if_pos rfl
theorem fu_ne {F : Nat → Nat} {k v j : Nat} (h : j ≠ k) : fu F k v j = F j := if_neg h
/-- '^' and '$': one order in both, weight 1 -/
theorem ANCH {f d : Int} {T : MSt} {S : CSt} {F E : Nat → Nat} {R : Nat → Int} {w kd : Int} (h : RR f d T S F) (hl : T.1 24 < T.1 14) (hw : (w = 8 ∧ kd = 2) ∨ (w = 9 ∧ kd = 3)) (hrd : rdS T = mi (M_weigh 1 (M_emit w 0 0 0 T)) 24 (T.1 24 + 1)) (hV : rV (addS kd (-1) (-1) (ci S 8 3 (S.1 8 3 + 1)))) : OUT f d T S F E R (0, 1, addS kd (-1) (-1) (ci S 8 3 (S.1 8 3 + 1))) := by
  obtain ⟨⟨e1, e2, e3⟩, h25, hD, hsg, hlen, hg, hlp, hlk, hgr, hsz, hcd, hd, hf, hv⟩ := h
  have hst := rd_step hD h25 hl
  have h25' : (rdS T).1 25 = 0 := by rw [hrd]; exact h25
  have hD' : DMi (rdS T) := by
    rcases hst with y | y
    · omega
    · exact y.2.2.1
  have n1 : (T.1 19 + 1).toNat = (T.1 19).toNat + 1 := by omega
  have z8 : (ci S 8 3 (S.1 8 3 + 1)).1 7 5 = S.1 7 5 := by rw [ci_ne (by decide)]
  have o7 : ∀ j, j ≠ 5 → (addS kd (-1) (-1) (ci S 8 3 (S.1 8 3 + 1))).1 7 j = S.1 7 j := fun j hj => by rw [addS_7 hj, ci_ne (by decide)]
  have o75 : (addS kd (-1) (-1) (ci S 8 3 (S.1 8 3 + 1))).1 7 5 = S.1 7 5 + 1 := by rw [addS_75, z8]
  have o8 : (addS kd (-1) (-1) (ci S 8 3 (S.1 8 3 + 1))).1 8 = zu (S.1 8) 3 (S.1 8 3 + 1) := by rw [addS_o (by omega), ci_eq]
  have oo : ∀ n, n < 7 ∨ (8 < n ∧ n < 26) ∨ 28 < n → (addS kd (-1) (-1) (ci S 8 3 (S.1 8 3 + 1))).1 n = S.1 n := fun n hn => by rw [addS_o (by omega), ci_ne (by omega)]
  have cc : ∀ (k : Nat), cqR (addS kd (-1) (-1) (ci S 8 3 (S.1 8 3 + 1))) 0 k = (if k = F (T.1 19).toNat then kd else cqR S 0 k) := fun k => by
    rw [addS_c.1, z8, hsz.1, show ((F (T.1 19).toNat : Nat) : Int).toNat = F (T.1 19).toNat by omega]
    rfl
  have op : np (rdS T) 0 (T.1 19).toNat = w := by rw [hrd]; exact (np_emit0 (w := w) (x := 0) (y := 0) (z := 0) (T := T)).1
  have p1 : np (rdS T) 1 (T.1 19).toNat = 0 := by rw [hrd]; exact (np_emit0 (w := w) (x := 0) (y := 0) (z := 0) (T := T)).2.1
  have p2 : np (rdS T) 2 (T.1 19).toNat = 0 := by rw [hrd]; exact (np_emit0 (w := w) (x := 0) (y := 0) (z := 0) (T := T)).2.2.1
  have p3 : np (rdS T) 3 (T.1 19).toNat = 0 := by rw [hrd]; exact (np_emit0 (w := w) (x := 0) (y := 0) (z := 0) (T := T)).2.2.2
  have npo : ∀ j k : Nat, j < 4 → (k : Int) < T.1 19 → np (rdS T) j k = np T j k := fun j k hj hk => by
    rw [hrd]
    have e : np (mi (M_weigh 1 (M_emit w 0 0 0 T)) 24 (T.1 24 + 1)) j = np (M_emit w 0 0 0 T) j := by
      show (if 15 + j = 30 then _ else (M_emit w 0 0 0 T).2 (15 + j)) = (M_emit w 0 0 0 T).2 (15 + j)
      rw [if_neg (by omega)]
    rw [e, np_emit (by omega)]
  have r19 : (rdS T).1 19 = T.1 19 + 1 := by rw [hrd]; rfl
  have r24 : (rdS T).1 24 = T.1 24 + 1 := by rw [hrd]; rfl
  have ro : ∀ k, k ≠ 19 → k ≠ 24 → (rdS T).1 k = T.1 k := fun k a b => by
    rw [hrd]
    show (if k = 24 then _ else (if k = 19 then _ else T.1 k)) = T.1 k
    rw [if_neg b, if_neg a]
  have r2 : ∀ k, k < 15 ∨ (18 < k ∧ k ≠ 30) → (rdS T).2 k = T.2 k := fun k hk => by
    rw [hrd]
    have f1 := (frC_emit (T := T) (w := w) (x := 0) (y := 0) (z := 0)).2 k hk
    show (if k = 30 then _ else (M_emit w 0 0 0 T).2 k) = T.2 k
    rw [if_neg (by omega)]
    exact f1
  have r30 : (rdS T).2 30 = zu (T.2 30) (T.1 32 - 1).toNat (T.2 30 (T.1 32 - 1).toNat + 1) := by rw [hrd]; rfl
  have esg : M_sign (rdS T) = M_sign T := by
    funext k
    unfold M_sign
    rw [ro 14 (by decide) (by decide), r2 13 (by omega)]
  generalize hT' : rdS T = T' at *
  have gone : goR T T' := by rw [← hT']; exact goR_one h25 hl (by rw [hT']; omega)
  refine Or.inr ⟨rfl, T', fu F ((T.1 19).toNat + 1) (F (T.1 19).toNat + 1), E, zu R ((T.1 19).toNat + 1) (R (T.1 19).toNat), gone, ?_, ?_, ?_, ?_, ?_, by show (0 : Int) ≤ 1; omega⟩
  · refine ⟨⟨?_, by omega, fun k hk => ?_⟩, h25', hD', by rw [esg]; exact hsg, ?_, ?_, ?_, ?_, ?_, ?_, by omega, by rw [ro 32 (by decide) (by decide)]; exact hd, ?_, hV⟩
    · show (addS kd (-1) (-1) (ci S 8 3 (S.1 8 3 + 1))).1 8 3 = _
      rw [o8, zu_eq]; omega
    · rw [esg, ← e3 k hk]
      show K4_at 2 k (addS kd (-1) (-1) (ci S 8 3 (S.1 8 3 + 1))) = K4_at 2 k S
      unfold K4_at
      rw [oo 2 (by omega), oo (11 + 2) (by omega)]
    · rw [ro 14 (by decide) (by decide)]
      show (addS kd (-1) (-1) (ci S 8 3 (S.1 8 3 + 1))).1 2 1 = _
      rw [oo 2 (by omega)]; exact hlen
    · rw [ro 20 (by decide) (by decide)]
      show (addS kd (-1) (-1) (ci S 8 3 (S.1 8 3 + 1))).1 7 12 = _ ∧ _
      rw [o7 12 (by decide)]; exact hg
    · rw [ro 21 (by decide) (by decide), r24]
      show (addS kd (-1) (-1) (ci S 8 3 (S.1 8 3 + 1))).1 7 10 = _ ∧ _
      rw [o7 10 (by decide)]; exact ⟨hlp.1, hlp.2.1, by omega⟩
    · rw [ro 22 (by decide) (by decide), r24]
      show (addS kd (-1) (-1) (ci S 8 3 (S.1 8 3 + 1))).1 7 11 = _ ∧ _
      rw [o7 11 (by decide)]; exact ⟨hlk.1, hlk.2.1, by omega⟩
    · rw [ro 23 (by decide) (by decide)]
      show (addS kd (-1) (-1) (ci S 8 3 (S.1 8 3 + 1))).1 8 4 = _
      rw [o8, zu_ne (by decide)]; exact hgr
    · rw [r19, r24, n1, fu_eq]
      show (addS kd (-1) (-1) (ci S 8 3 (S.1 8 3 + 1))).1 7 5 = _ ∧ (addS kd (-1) (-1) (ci S 8 3 (S.1 8 3 + 1))).1 7 5 ≤ _
      rw [o75]
      omega
    · show (addS kd (-1) (-1) (ci S 8 3 (S.1 8 3 + 1))).1 7 13 = f
      rw [o7 13 (by decide)]; exact hf
  · refine ⟨ro 32 (by decide) (by decide), fun i hi => ⟨by rw [r2 26 (by omega)], by rw [r2 27 (by omega)], by rw [r2 28 (by omega)], by rw [r2 29 (by omega)], by rw [r2 31 (by omega)]⟩, fun i hi => ?_, ?_, fun k hk => ro k (by omega) (by omega), fun k hk => r2 k (by omega)⟩
    · rw [r30, zu_ne (by omega)]
    · rw [r30, zu_eq]
  · refine ⟨by omega, npo, fun k hk => ⟨fu_ne (by omega), zu_ne (by omega)⟩, fun _ _ => rfl, ?_, fun j k hj hk => ?_, fun j k _ _ => rfl, ?_, fun j c hc h5 h8 => ?_, by rw [ro 20 (by decide) (by decide)]; exact Int.le_refl _, by rw [ro 21 (by decide) (by decide)]; exact Int.le_refl _, by rw [ro 22 (by decide) (by decide)]; exact Int.le_refl _⟩
    · show S.1 7 5 ≤ (addS kd (-1) (-1) (ci S 8 3 (S.1 8 3 + 1))).1 7 5
      rw [o75]; omega
    · show cqR (addS kd (-1) (-1) (ci S 8 3 (S.1 8 3 + 1))) j k = cqR S j k
      have ne : k ≠ ((ci S 8 3 (S.1 8 3 + 1)).1 7 5).toNat := by rw [z8]; omega
      have hj' : j = 0 ∨ j = 1 ∨ j = 2 := by omega
      rcases hj' with y | y | y <;> subst y
      · rw [addS_c.1, if_neg ne]; rfl
      · rw [addS_c.2.1, if_neg ne]; rfl
      · rw [addS_c.2.2, if_neg ne]; rfl
    · show S.1 7 10 ≤ (addS kd (-1) (-1) (ci S 8 3 (S.1 8 3 + 1))).1 7 10
      rw [o7 10 (by decide)]; exact Int.le_refl _
    · show cqR (addS kd (-1) (-1) (ci S 8 3 (S.1 8 3 + 1))) j c = cqR S j c
      rw [addS_l h5]
      show (ci S 8 3 (S.1 8 3 + 1)).1 (26 + j) c = S.1 (26 + j) c
      rw [ci_ne (by omega)]
  · rw [r19, n1, ro 21 (by decide) (by decide), ro 22 (by decide) (by decide), ro 20 (by decide) (by decide)]
    have hop : np T' 0 (T.1 19).toNat = 8 ∨ np T' 0 (T.1 19).toNat = 9 := by rw [op]; omega
    refine SEG_one (by omega) ?_ (by rw [zu_eq, zu_ne (by omega)]) ?_
    · unfold LOC
      rw [p1, p2, p3]
      refine ⟨by omega, fun a b => by omega, fun a => by omega, fun a => by omega, fun a => by omega, fun a => by omega, fun a => by omega⟩
    · unfold certS
      rw [fu_eq, fu_ne (show (T.1 19).toNat ≠ (T.1 19).toNat + 1 by omega), op]
      have ck : cqR (addS kd (-1) (-1) (ci S 8 3 (S.1 8 3 + 1))) 0 (F (T.1 19).toNat) = kd := by rw [cc, if_pos rfl]
      refine ⟨by omega, fun y => by omega, fun y => by omega, fun y y' => by omega, fun y => by omega, fun y => ⟨?_, rfl⟩, fun y => ⟨?_, rfl⟩, fun y => by omega, fun y => by omega, fun y => by omega, fun y => by omega, fun y => by omega, fun y => by omega⟩
      · show cqR (addS kd (-1) (-1) (ci S 8 3 (S.1 8 3 + 1))) 0 (F (T.1 19).toNat) = 2
        rw [ck]; omega
      · show cqR (addS kd (-1) (-1) (ci S 8 3 (S.1 8 3 + 1))) 0 (F (T.1 19).toNat) = 3
        rw [ck]; omega
  · show 3 * (zu R ((T.1 19).toNat + 1) (R (T.1 19).toNat) (T'.1 19).toNat - zu R ((T.1 19).toNat + 1) (R (T.1 19).toNat) (T.1 19).toNat) ≤ 1
    rw [r19, n1, zu_eq, zu_ne (by omega)]
    omega
