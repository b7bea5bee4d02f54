theorem addS_cg {kd am nb : Int} {A B : CSt} (h : A.1 = B.1) : (addS kd am nb A).1 = (addS kd am nb B).1 := by
  obtain ⟨a, a'⟩ := A
  obtain ⟨b, b'⟩ := B
  have h' : a = b := h
  subst h'
  rfl
/-- one sign more in the class's program: which signs fit -/
theorem one_C {tu : Int} {S2 : CSt} (z0 : 0 ≤ S2.1 7 5) (z1 : S2.1 7 5 < 96) : ∃ S3, K3_addOneSign tu S2 = (0, 1, S3) ∧ S3.1 = (addS 1 (-1) (-1) S2).1 ∧ (∀ j k : Nat, j = 3 ∨ j = 4 → k ≠ (S2.1 7 5).toNat → cwR S3 j k = cwR S2 j k) ∧ ∀ z, sbit (cwR S3) (S2.1 7 5).toNat z = sm (oneS tu S2) z := by
  have a5 : (oneS tu S2).1 7 5 = S2.1 7 5 := by rw [oneS_1]
  have e1 := K2_addQ (kd := 1) (am := -1) (nb := -1) (S := oneS tu S2) (by rw [a5]; exact z0) (by rw [a5]; exact z1)
  have i1 : ¬ K2_isInstruction 7 ((oneS tu S2).1 7 5) (addS 1 (-1) (-1) (oneS tu S2)) = 0 := by
    unfold K2_isInstruction
    rw [addS_75, a5, if_neg (by omega), if_neg (by omega), if_neg (by omega)]
    decide
  have e2 : K2_addOneSign (oneS tu S2) = (0, 0, cj (cj (addS 1 (-1) (-1) (oneS tu S2)) 29 (S2.1 7 5).toNat ((oneS tu S2).2.1 9 0)) 30 (S2.1 7 5).toNat ((oneS tu S2).2.1 9 1)) := by
    unfold K2_addOneSign
    rw [e1]
    refine (if_pos rfl).trans ((if_neg i1).trans ?_)
    show ((0, 0, cj (cj (addS 1 (-1) (-1) (oneS tu S2)) 29 ((oneS tu S2).1 7 5).toNat ((oneS tu S2).2.1 9 0)) 30 ((oneS tu S2).1 7 5).toNat ((oneS tu S2).2.1 9 1)) : CR) = _
    rw [a5]
  have c29 : ∀ k, (cj (cj (addS 1 (-1) (-1) (oneS tu S2)) 29 (S2.1 7 5).toNat ((oneS tu S2).2.1 9 0)) 30 (S2.1 7 5).toNat ((oneS tu S2).2.1 9 1)).2.1 29 k = (if k = (S2.1 7 5).toNat then (oneS tu S2).2.1 9 0 else (oneS tu S2).2.1 29 k) := fun k => by
    rw [cj_ne (by decide), cj_eq]
    rfl
  have c30 : ∀ k, (cj (cj (addS 1 (-1) (-1) (oneS tu S2)) 29 (S2.1 7 5).toNat ((oneS tu S2).2.1 9 0)) 30 (S2.1 7 5).toNat ((oneS tu S2).2.1 9 1)).2.1 30 k = (if k = (S2.1 7 5).toNat then (oneS tu S2).2.1 9 1 else (oneS tu S2).2.1 30 k) := fun k => by
    rw [cj_eq]
    rfl
  refine ⟨cj (cj (addS 1 (-1) (-1) (oneS tu S2)) 29 (S2.1 7 5).toNat ((oneS tu S2).2.1 9 0)) 30 (S2.1 7 5).toNat ((oneS tu S2).2.1 9 1), ?_, ?_, ?_, ?_⟩
  · rw [K3_addOneSign_eq, e2]
    exact if_pos rfl
  · exact addS_cg oneS_1
  · intro j k hj hk
    rcases hj with y | y <;> subst y
    · refine (c29 k).trans ((if_neg hk).trans ?_)
      rw [oneS_2 (by decide)]; rfl
    · refine (c30 k).trans ((if_neg hk).trans ?_)
      rw [oneS_2 (by decide)]; rfl
  · intro z
    unfold sbit sm
    have x3 := (c29 (S2.1 7 5).toNat).trans (if_pos rfl)
    have x4 := (c30 (S2.1 7 5).toNat).trans (if_pos rfl)
    show (if 64 ≤ z then bw ((cj (cj (addS 1 (-1) (-1) (oneS tu S2)) 29 (S2.1 7 5).toNat ((oneS tu S2).2.1 9 0)) 30 (S2.1 7 5).toNat ((oneS tu S2).2.1 9 1)).2.1 30 (S2.1 7 5).toNat) (z - 64).toNat else bw ((cj (cj (addS 1 (-1) (-1) (oneS tu S2)) 29 (S2.1 7 5).toNat ((oneS tu S2).2.1 9 0)) 30 (S2.1 7 5).toNat ((oneS tu S2).2.1 9 1)).2.1 29 (S2.1 7 5).toNat) z.toNat) = _
    rw [x3, x4]
theorem sm_one {tu : Int} {S : CSt} {z : Int} (z0 : 0 ≤ z) (z1 : z ≤ 127) : sm (oneS tu S) z = (decide (¬ tu = 0) ^^ (sm S z || (decide (¬ zand (S.1 7 13) 4 = 0) && sm S (M_other z)))) := by
  have eh : K2_has 7 4 S = (if zand (S.1 7 13) 4 = 0 then 0 else 1 : Int) := rfl
  unfold oneS
  rw [eh]
  by_cases cz : zand (S.1 7 13) 4 = 0
  · rw [if_pos cz, if_pos rfl]
    by_cases ct : tu = 0
    · rw [if_pos ct]; simp [ct, cz]
    · rw [if_neg ct, sm_turn z0 z1]; simp [ct, cz]
  · rw [if_neg cz, if_neg (by decide)]
    by_cases ct : tu = 0
    · rw [if_pos ct, sm_same z0 z1]; simp [ct, cz]
    · rw [if_neg ct, sm_turn z0 z1, sm_same z0 z1]; simp [ct, cz]
theorem fit_N {f tu : Int} {T1 : MSt} {r : Nat} {base : Int → Bool} (hb : ∀ x, 32 ≤ x → x ≤ 126 → M_fits (r : Int) x (tkT f T1) = (if base x = true then 1 else 0)) (h6 : np T1 0 r = 6 → np T1 3 r = (if tu = 0 then 0 else 1 : Int)) (hn : ¬ np T1 0 r = 6 → tu = 0) {z : Int} (z0 : 32 ≤ z) (z1 : z ≤ 126) : fitN f T1 r z = (if (decide (¬ tu = 0) ^^ (base z || (decide (¬ zand f 4 = 0) && base (M_other z)))) = true then 1 else 0) := by
  have o : 32 ≤ M_other z ∧ M_other z ≤ 126 := by unfold M_other; (repeat' split) <;> omega
  have e8 : (tkT f T1).2 8 ((r : Int)).toNat = np T1 0 r := by rw [show ((r : Int)).toNat = r by omega]; rfl
  have e11 : (tkT f T1).2 11 ((r : Int)).toNat = np T1 3 r := by rw [show ((r : Int)).toNat = r by omega]; rfl
  have eh : M_has 4 (tkT f T1) = (if zand f 4 = 0 then 0 else 1 : Int) := rfl
  unfold fitN M_fitR
  rw [e8, e11, eh, hb z z0 z1, hb _ o.1 o.2]
  generalize base z = p
  generalize base (M_other z) = q
  by_cases c6 : np T1 0 r = 6
  · rw [if_pos c6, h6 c6]
    by_cases ct : tu = 0 <;> by_cases cz : zand f 4 = 0 <;> cases p <;> cases q <;> simp [ct, cz]
  · rw [if_neg c6]
    have ct := hn c6
    by_cases cz : zand f 4 = 0 <;> cases p <;> cases q <;> simp [ct, cz]
theorem dmR_S {T : MSt} (hb : T.1 25 = 0) (hl : T.1 24 < T.1 14) (h : dmR (rdS T)) : dmR T := by
  intro n
  cases n with
  | zero => rw [M_readsL, if_pos hb, if_neg (show ¬ T.1 14 ≤ T.1 24 by omega)]
  | succ n => rw [readsL_S hb hl]; exact h n
theorem dmR_bad {T : MSt} (h : T.1 25 = 1) : dmR T := fun n => by rw [readsL_bad (by omega)]
/-- a leaf of the reference: NOTHING at b, the leaf at b + 1 -/
def lfM (T T1 : MSt) (op x y z at' gr' : Int) : Prop := T1.1 19 = T.1 19 + 2 ∧ T1.1 24 = at' ∧ T1.1 23 = gr' ∧ T1.1 25 = 0 ∧ (∀ k, k ≠ 19 → k ≠ 23 → k ≠ 24 → k ≠ 25 → T1.1 k = T.1 k) ∧ (∀ k, k < 15 ∨ 18 < k → T1.2 k = T.2 k) ∧ (∀ j k : Nat, j < 4 → (k : Int) < T.1 19 → np T1 j k = np T j k) ∧ (np T1 0 (T.1 19).toNat = 17 ∧ np T1 1 (T.1 19).toNat = 0 ∧ np T1 2 (T.1 19).toNat = T.1 20 ∧ np T1 3 (T.1 19).toNat = 0) ∧ (np T1 0 ((T.1 19).toNat + 1) = op ∧ np T1 1 ((T.1 19).toNat + 1) = x ∧ np T1 2 ((T.1 19).toNat + 1) = y ∧ np T1 3 ((T.1 19).toNat + 1) = z)
theorem lfM_of {T T1 U : MSt} {op x y z at' gr' : Int} (h0 : 0 ≤ T.1 19) (u19 : U.1 19 = T.1 19 + 1) (u2 : U.2 = (M_emit 17 0 (T.1 20) 0 T).2) (t2 : T1.2 = (M_emit op x y z U).2) (t19 : T1.1 19 = T.1 19 + 2) (t24 : T1.1 24 = at') (t23 : T1.1 23 = gr') (t25 : T1.1 25 = 0) (to : ∀ k, k ≠ 19 → k ≠ 23 → k ≠ 24 → k ≠ 25 → T1.1 k = T.1 k) : lfM T T1 op x y z at' gr' := by
  have n1 : (U.1 19).toNat = (T.1 19).toNat + 1 := by omega
  have ne : ∀ j k, np T1 j k = np (M_emit op x y z U) j k := fun j k => by
    show T1.2 (15 + j) k = _
    rw [t2]; rfl
  have nu : ∀ j k, np U j k = np (M_emit 17 0 (T.1 20) 0 T) j k := fun j k => by
    show U.2 (15 + j) k = _
    rw [u2]; rfl
  have e0 := np_emit0 (w := 17) (x := 0) (y := T.1 20) (z := 0) (T := T)
  have e1 := np_emit0 (w := op) (x := x) (y := y) (z := z) (T := U)
  rw [n1] at e1
  have at_b : ∀ j, np T1 j (T.1 19).toNat = np (M_emit 17 0 (T.1 20) 0 T) j (T.1 19).toNat := fun j => by
    rw [ne, np_emit (by omega), nu]
  refine ⟨t19, t24, t23, t25, to, fun k hk => ?_, fun j k hj hk => ?_, ?_, ?_⟩
  · have f1 := (frC_emit (T := U) (w := op) (x := x) (y := y) (z := z)).2
    rw [t2]
    show (if k = 18 then _ else if k = 17 then _ else if k = 16 then _ else if k = 15 then _ else U.2 k) = T.2 k
    rw [if_neg (by omega), if_neg (by omega), if_neg (by omega), if_neg (by omega), u2]
    show (if k = 18 then _ else if k = 17 then _ else if k = 16 then _ else if k = 15 then _ else T.2 k) = T.2 k
    rw [if_neg (by omega), if_neg (by omega), if_neg (by omega), if_neg (by omega)]
  · rw [ne, np_emit (by omega), nu, np_emit (by omega)]
  · rw [at_b, at_b, at_b, at_b]; exact e0
  · rw [ne, ne, ne, ne]; exact e1
/-- a leaf of the class: ENTER at i, the leaf at i + 1 -/
def lfC (S S1 : CSt) (kd nb at' gr' : Int) : Prop := S1.1 8 3 = at' ∧ S1.1 8 4 = gr' ∧ S1.1 7 5 = S.1 7 5 + 2 ∧ (∀ j, j ≠ 5 → S1.1 7 j = S.1 7 j) ∧ (∀ n, n < 7 ∨ (8 < n ∧ n < 26) ∨ 28 < n → S1.1 n = S.1 n) ∧ (∀ j k : Nat, j < 3 → (k : Int) < S.1 7 5 → cqR S1 j k = cqR S j k) ∧ (cqR S1 0 (S.1 7 5).toNat = 9 ∧ cqR S1 1 (S.1 7 5).toNat = -1) ∧ (cqR S1 0 ((S.1 7 5).toNat + 1) = kd ∧ cqR S1 2 ((S.1 7 5).toNat + 1) = nb) ∧ (∀ j k : Nat, j = 3 ∨ j = 4 → (k : Int) < S.1 7 5 → cwR S1 j k = cwR S j k)
theorem lfC_of {S S1 S2 : CSt} {kd nb at' gr' : Int} (h0 : 0 ≤ S.1 7 5) (s83 : S2.1 8 3 = at') (s84 : S2.1 8 4 = gr') (so : ∀ n, n ≠ 8 → S2.1 n = (addS 9 (-1) (-1) S).1 n) (s1 : S1.1 = (addS kd (-1) nb S2).1) (hw : ∀ j k : Nat, j = 3 ∨ j = 4 → (k : Int) < S.1 7 5 → cwR S1 j k = cwR S j k) : lfC S S1 kd nb at' gr' := by
  have z2 : S2.1 7 5 = S.1 7 5 + 1 := by rw [so 7 (by decide), addS_75]
  have n2 : (S2.1 7 5).toNat = (S.1 7 5).toNat + 1 := by omega
  have c1 : ∀ j k, cqR S1 j k = cqR (addS kd (-1) nb S2) j k := fun j k => by
    show S1.1 (26 + j) k = _
    rw [s1]; rfl
  have c2 : ∀ j k, cqR S2 j k = cqR (addS 9 (-1) (-1) S) j k := fun j k => by
    show S2.1 (26 + j) k = _
    rw [so _ (by omega)]; rfl
  have a1 := fun k => addS_c (kd := kd) (am := -1) (nb := nb) (S := S2) (k := k)
  have a2 := fun k => addS_c (kd := 9) (am := -1) (nb := -1) (S := S) (k := k)
  have lo : ∀ j k : Nat, j < 3 → k ≠ (S.1 7 5).toNat + 1 → cqR S1 j k = cqR (addS 9 (-1) (-1) S) j k := fun j k hj hk => by
    have hj' : j = 0 ∨ j = 1 ∨ j = 2 := by omega
    rw [c1]
    rcases hj' with y | y | y <;> subst y
    · rw [(a1 k).1, if_neg (by omega), c2]
    · rw [(a1 k).2.1, if_neg (by omega), c2]
    · rw [(a1 k).2.2, if_neg (by omega), c2]
  refine ⟨?_, ?_, ?_, fun j hj => ?_, fun n hn => ?_, fun j k hj hk => ?_, ⟨?_, ?_⟩, ⟨?_, ?_⟩, hw⟩
  · rw [s1, addS_o (by omega)]; exact s83
  · rw [s1, addS_o (by omega)]; exact s84
  · rw [s1, addS_75]; omega
  · rw [s1, addS_7 hj, so 7 (by decide), addS_7 hj]
  · rw [s1, addS_o (by omega), so n (by omega), addS_o (by omega)]
  · rw [lo j k hj (by omega)]
    have hj' : j = 0 ∨ j = 1 ∨ j = 2 := by omega
    rcases hj' with y | y | y <;> subst y
    · rw [(a2 k).1, if_neg (by omega)]
    · rw [(a2 k).2.1, if_neg (by omega)]
    · rw [(a2 k).2.2, if_neg (by omega)]
  · rw [lo 0 _ (by omega) (by omega), (a2 _).1, if_pos rfl]
  · rw [lo 1 _ (by omega) (by omega), (a2 _).2.1, if_pos rfl]
  · rw [c1, (a1 _).1, if_pos n2.symm]
  · rw [c1, (a1 _).2.2, if_pos n2.symm]
/-- A LEAF in both, with the count behind it -/
theorem LEAF {f d : Int} {T T1 : MSt} {S S1 : CSt} {F E : Nat → Nat} {R : Nat → Int} {op x y z kd nb at' gr' : Int} (h : RR f d T S F) (hl : T.1 24 < T.1 14) (hrd : rdS T = M_count (T.1 19) 1 T1) (hM : lfM T T1 op x y z at' gr') (hC : lfC S S1 kd nb at' gr') (hat : T.1 24 < at' ∧ at' ≤ T.1 14) (hop : (3 ≤ op ∧ op ≤ 6 ∧ kd = 1 ∧ ∀ v, 32 ≤ v → v ≤ 126 → fitN f T1 ((T.1 19).toNat + 1) v = (if sbit (cwR S1) ((S.1 7 5).toNat + 1) v then 1 else 0)) ∨ (op = 7 ∧ kd = 4 ∧ nb = x ∧ 1 ≤ x ∧ x ≤ 9)) (hx : 0 ≤ x ∧ x ≤ 126 ∧ 0 ≤ y ∧ y ≤ 39 ∧ 0 ≤ z ∧ z ≤ 1) (h6 : op = 6 → x ≤ 41) (hV1 : rV S1) (hV : (tailC (S.1 7 5) (S.1 7 12) 1 S1).1 = 0 → rV (tailC (S.1 7 5) (S.1 7 12) 1 S1).2.2) : OUT f d T S F E R (tailC (S.1 7 5) (S.1 7 12) 1 S1) := by
  have h0 := h
  obtain ⟨⟨e1, e2, e3⟩, h25, hD, hsg, hlen, hg, hlp, hlk, hgr, hsz, hcd, hd, hf, hv⟩ := h
  obtain ⟨m19, m24, m23, m25, mo, m2, mn, mb, mb1⟩ := hM
  obtain ⟨c83, c84, c75, c7, co, cq, cb, cb1, cw⟩ := hC
  have nb' : (S.1 7 5).toNat = F (T.1 19).toNat := by rw [hsz.1]; omega
  have n2 : (T.1 19 + 2).toNat = (T.1 19).toNat + 2 := by omega
  rw [nb'] at cb cb1 hop
  have esg : M_sign T1 = M_sign T := by
    funext k
    unfold M_sign
    rw [mo 14 (by decide) (by decide) (by decide) (by decide), m2 13 (by omega)]
  have ek : ∀ k, K4_at 2 k S1 = K4_at 2 k S := fun k => by
    unfold K4_at
    rw [co 2 (by omega), co (11 + 2) (by omega)]
  have m32 := mo 32 (by decide) (by decide) (by decide) (by decide)
  have m20 := mo 20 (by decide) (by decide) (by decide) (by decide)
  have m21 := mo 21 (by decide) (by decide) (by decide) (by decide)
  have m22 := mo 22 (by decide) (by decide) (by decide) (by decide)
  have m14 := mo 14 (by decide) (by decide) (by decide) (by decide)
  have hD1 : DMi T1 := (DM_wg hD (Int.le_refl 0) m14 (by omega) m32 (by omega) (wg_0 (m2 30 (by omega))) (m2 26 (by omega))).1
  generalize hF1 : fu (fu F ((T.1 19).toNat + 1) (F (T.1 19).toNat + 1)) ((T.1 19).toNat + 2) (F (T.1 19).toNat + 2) = F1
  have F1o : ∀ k, k ≤ (T.1 19).toNat → F1 k = F k := fun k hk => by rw [← hF1, fu_ne (by omega), fu_ne (by omega)]
  have F1a : F1 ((T.1 19).toNat + 1) = F (T.1 19).toNat + 1 := by rw [← hF1, fu_ne (by omega), fu_eq]
  have F1b : F1 ((T.1 19).toNat + 2) = F (T.1 19).toNat + 2 := by rw [← hF1, fu_eq]
  generalize hR1 : (fun k => if k ≤ (T.1 19).toNat then R k else R (T.1 19).toNat) = R1
  have R1o : ∀ k, k ≤ (T.1 19).toNat → R1 k = R k := fun k hk => by rw [← hR1]; exact if_pos hk
  have R1a : ∀ k, (T.1 19).toNat < k → R1 k = R (T.1 19).toNat := fun k hk => by rw [← hR1]; exact if_neg (by omega)
  have hRR : RR f d T1 S1 F1 := by
    refine ⟨⟨by omega, by omega, fun k hk => by rw [esg, ek]; exact e3 k hk⟩, m25, hD1, by rw [esg]; exact hsg, by rw [co 2 (by omega), m14]; exact hlen, by rw [c7 12 (by decide), m20]; exact hg, ?_, ?_, by omega, ?_, by omega, by rw [m32]; exact hd, by rw [c7 13 (by decide)]; exact hf, hV1⟩
    · rw [c7 10 (by decide), m21]; exact ⟨hlp.1, hlp.2.1, by omega⟩
    · rw [c7 11 (by decide), m22]; exact ⟨hlk.1, hlk.2.1, by omega⟩
    · rw [m19, n2, F1b]; omega
  have hle : (T.1 19).toNat + 1 ≤ (T.1 19).toNat + 1 := Nat.le_refl _
  have ops : 3 ≤ op ∧ op ≤ 7 := by omega
  have hseg : SEG f T1 S1 F1 E R1 ((T.1 19).toNat + 1) ((T.1 19).toNat + 1 + 1) (T.1 21) (T1.1 21) (T.1 22) (T1.1 22) (T.1 20) (T1.1 20) := by
    rw [m21, m22, m20]
    refine SEG_one (by rw [mb1.1]; omega) ?_ (by rw [R1a _ (by omega), R1a _ (by omega)]) ?_
    · unfold LOC
      rw [mb1.1, mb1.2.1, mb1.2.2.1, mb1.2.2.2]
      refine ⟨by omega, fun a b => by omega, fun a => by omega, fun a => by omega, fun a => by omega, fun a => by omega, fun a => by omega⟩
    · unfold certS
      rw [mb1.1, show (T.1 19).toNat + 1 + 1 = (T.1 19).toNat + 2 from rfl, F1a, F1b]
      refine ⟨by omega, fun q => by omega, fun q => by omega, fun q q' => ?_, fun q => ?_, fun q => by omega, fun q => by omega, fun q => by omega, fun q => by omega, fun q => by omega, fun q => by omega, fun q => by omega, fun q => by omega⟩
      · rcases hop with ⟨a, b, c, g⟩ | ⟨a, -⟩
        · exact ⟨by rw [cb1.1]; exact c, rfl, g⟩
        · omega
      · rcases hop with ⟨a, b, c, g⟩ | ⟨a, b, c, -⟩
        · omega
        · exact ⟨by rw [cb1.1]; exact b, rfl, by rw [cb1.2, mb1.2.1]; exact c⟩
  have hst : stp (np T1 0 ((T.1 19).toNat + 1)) = 1 := by
    rw [mb1.1]
    unfold stp
    rw [if_pos (by omega)]
  have eb : ((F (T.1 19).toNat : Nat) : Int) = S.1 7 5 := hsz.1.symm
  have hloc : LOC (np T1) (T.1 19).toNat := by
    unfold LOC
    rw [mb.1, mb.2.1, mb.2.2.1, mb.2.2.2]
    refine ⟨by omega, fun a b => by omega, fun a => by omega, fun a => by omega, fun a => by omega, fun a => by omega, fun a => by omega⟩
  have cp := CNTP (w := 1) hRR (e := (T.1 19).toNat + 1 + 1) (a := (T.1 19).toNat) (by omega) (by omega) mb.1 mb.2.2.1 hloc hlp.2.1 (by omega) (by omega) hg.2.1 (by omega) hseg (by rw [F1a, F1o _ (Nat.le_refl _)]) (by rw [F1o _ (Nat.le_refl _)]; exact cb.1) (by rw [F1o _ (Nat.le_refl _)]; exact cb.2) (by rw [R1a _ (by omega), R1o _ (Nat.le_refl _)]) hst (by rw [R1a _ (by omega), R1a _ (by omega)]; omega) (by rw [R1a _ (by omega), R1a _ (by omega)]; exact Int.le_refl _) (by omega) (by omega)
  rw [F1o _ (Nat.le_refl _), eb, show (((T.1 19).toNat : Nat) : Int) = T.1 19 by omega, ← hg.1] at cp
  have cp' := cp hV
  rw [hg.1] at cp' ⊢
  rw [← hrd] at cp'
  have frB0 : frB T T1 0 := by
    refine ⟨m32, fun i _ => ⟨by rw [m2 26 (by omega)], by rw [m2 27 (by omega)], by rw [m2 28 (by omega)], by rw [m2 29 (by omega)], by rw [m2 31 (by omega)]⟩, fun i _ => by rw [m2 30 (by omega)], by rw [m2 30 (by omega)]; omega, fun k hk => mo k (by omega) (by omega) (by omega) (by omega), fun k hk => m2 k (by omega)⟩
  rcases cp' with ⟨q1, q2⟩ | q
  · exact Or.inl ⟨q1, T, goR_refl, dmR_S h25 hl q2⟩
  · obtain ⟨q1, F', E', R', q2, q3, q4, q5⟩ := q
    have g : goR T (rdS T) := goR_one h25 hl (by omega)
    refine CPo_OUT (F1 := F1) (E1 := E) (R1 := R1) (T1 := T1) (S1 := S1) (T' := rdS T) h0 (by omega) (by omega) mn (fun k hk => ⟨F1o k (by omega), R1o k (by omega)⟩) (fun _ _ => rfl) cq cw (by rw [c7 10 (by decide)]; exact Int.le_refl _) (fun j c _ h5 h8 => ?_) (by omega) (by omega) (by omega) frB0 (Or.inl g) (Or.inr ⟨q1, F', E', R', q2, q3, q4, q5⟩)
    show S1.1 (26 + j) c = S.1 (26 + j) c
    rw [co (26 + j) (by omega)]
