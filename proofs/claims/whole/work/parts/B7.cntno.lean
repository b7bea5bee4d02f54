/-- the reference's code once a count is read -/
theorem np_cntt {a : Nat} {w l m z : Int} {U : MSt} (h0 : 0 ≤ U.1 19) (ha : (a : Int) < U.1 19) (k : Nat) :
    np (CNTT a w l m z U) 0 k = (if k = (U.1 19).toNat then 15 else if k = a then 14 else np U 0 k) ∧ np (CNTT a w l m z U) 1 k = (if k = (U.1 19).toNat then (a : Int) else if k = a then l + 128 * m + 65536 * z else np U 1 k) ∧ np (CNTT a w l m z U) 2 k = (if k = (U.1 19).toNat then 0 else if k = a then 16 * (np U 2 a) + U.1 20 + 4096 * U.1 19 else np U 2 k) ∧ np (CNTT a w l m z U) 3 k = (if k = (U.1 19).toNat then 0 else if k = a then U.1 21 else np U 3 k) := by
  have e : ((a : Int)).toNat = a := by omega
  refine ⟨?_, ?_, ?_, ?_⟩
  · show zu (zu (U.2 15) ((a : Int)).toNat 14) (U.1 19).toNat 15 k = _
    rw [e]; rfl
  · show zu (zu (U.2 16) ((a : Int)).toNat (l + 128 * m + 65536 * z)) (U.1 19).toNat (a : Int) k = _
    rw [e]; rfl
  · show zu (zu (U.2 17) ((a : Int)).toNat (16 * (U.2 17 ((a : Int)).toNat) + U.1 20 + 4096 * U.1 19)) (U.1 19).toNat 0 k = _
    rw [e]; rfl
  · show zu (zu (U.2 18) ((a : Int)).toNat (U.1 21)) (U.1 19).toNat 0 k = _
    rw [e]; rfl
theorem loopE_f {v7 gb : Int} {S : CSt} : (loopE v7 gb S).1 7 5 = S.1 7 5 + 2 ∧ (loopE v7 gb S).1 7 10 = S.1 7 10 + 1 ∧ (∀ j, j ≠ 5 → j ≠ 10 → (loopE v7 gb S).1 7 j = S.1 7 j) ∧ (∀ n, n < 7 ∨ (7 < n ∧ n < 26) ∨ 34 < n → (loopE v7 gb S).1 n = S.1 n) ∧ (loopE v7 gb S).2 = S.2 := by
  unfold loopE
  refine ⟨?_, ?_, fun j h1 h2 => ?_, fun n hn => ?_, rfl⟩
  · rw [ci_ne (by decide), addS_75, addS_75, loopS_7 (by decide)]; omega
  · rw [ci_ne (by decide), addS_7 (by decide), addS_7 (by decide), loopS_710]
  · rw [ci_ne (by decide), addS_7 h1, addS_7 h1, loopS_7 h2]
  · rw [ci_ne (by omega), addS_o (by omega), addS_o (by omega), loopS_o (by omega)]
theorem loopE_c {v7 gb : Int} {S : CSt} (h0 : 0 ≤ S.1 7 5) (hv0 : 0 ≤ v7) (hv : v7 < S.1 7 5) (k : Nat) :
    cqR (loopE v7 gb S) 0 k = (if k = (S.1 7 5).toNat + 1 then 12 else if k = (S.1 7 5).toNat then (if S.1 8 7 = 0 then 10 else 11 : Int) else cqR S 0 k) ∧ cqR (loopE v7 gb S) 1 k = (if k = v7.toNat then S.1 7 5 else if k = (S.1 7 5).toNat + 1 then v7 + 1 else if k = (S.1 7 5).toNat then -1 else cqR S 1 k) ∧ cqR (loopE v7 gb S) 2 k = (if k = (S.1 7 5).toNat + 1 then S.1 7 10 else if k = (S.1 7 5).toNat then S.1 7 10 else cqR S 2 k) := by
  have a5 : (loopS (S.1 8 5) (S.1 8 6) (gb + 1) S).1 7 5 = S.1 7 5 := loopS_7 (by decide)
  have b5 : ((addS (if S.1 8 7 = 0 then 10 else 11 : Int) (-1) (S.1 7 10) (loopS (S.1 8 5) (S.1 8 6) (gb + 1) S)).1 7 5).toNat = (S.1 7 5).toNat + 1 := by rw [addS_75, a5]; omega
  have ci27 : ∀ (X : CSt) (v : Int) (j : Nat), j ≠ 1 → cqR (ci X 27 v7.toNat v) j k = cqR X j k := fun X v j hj => by
    show (ci X 27 v7.toNat v).1 (26 + j) k = X.1 (26 + j) k
    rw [ci_ne (by omega)]
  have lo : ∀ j, j < 3 → cqR (loopS (S.1 8 5) (S.1 8 6) (gb + 1) S) j k = cqR S j k := fun j hj => by
    show (loopS (S.1 8 5) (S.1 8 6) (gb + 1) S).1 (26 + j) k = S.1 (26 + j) k
    rw [loopS_o (by omega)]
  unfold loopE
  refine ⟨?_, ?_, ?_⟩
  · rw [ci27 _ _ 0 (by decide), addS_c.1, addS_c.1, b5, a5, lo 0 (by omega)]
  · show (ci _ 27 v7.toNat (S.1 7 5)).1 27 k = _
    rw [ci_eq]
    show (if k = v7.toNat then S.1 7 5 else cqR (addS 12 (v7 + 1) (S.1 7 10) (addS (if S.1 8 7 = 0 then 10 else 11 : Int) (-1) (S.1 7 10) (loopS (S.1 8 5) (S.1 8 6) (gb + 1) S))) 1 k) = _
    rw [addS_c.2.1, addS_c.2.1, b5, a5, lo 1 (by omega)]
  · rw [ci27 _ _ 2 (by decide), addS_c.2.2, addS_c.2.2, b5, a5, lo 2 (by omega)]
theorem loopE_l {v7 gb : Int} {S : CSt} (k : Nat) : cqR (loopE v7 gb S) 5 k = (if k = (S.1 7 10).toNat then S.1 8 5 else cqR S 5 k) ∧ cqR (loopE v7 gb S) 6 k = (if k = (S.1 7 10).toNat then S.1 8 6 else cqR S 6 k) ∧ cqR (loopE v7 gb S) 7 k = (if k = (S.1 7 10).toNat then gb + 1 else cqR S 7 k) ∧ cqR (loopE v7 gb S) 8 k = (if k = (S.1 7 10).toNat then S.1 7 12 else cqR S 8 k) := by
  have e : ∀ j, 5 ≤ j → cqR (loopE v7 gb S) j k = cqR (loopS (S.1 8 5) (S.1 8 6) (gb + 1) S) j k := fun j hj => by
    unfold loopE
    show (ci _ 27 v7.toNat (S.1 7 5)).1 (26 + j) k = _
    rw [ci_ne (by omega)]
    show cqR (addS 12 _ _ _) j k = _
    rw [addS_l hj, addS_l hj]
  rw [e 5 (by omega), e 6 (by omega), e 7 (by omega), e 8 (by omega)]
  exact loopS_l
/-- what a counted part leaves, from its first place a on -/
def CPo (f d : Int) (T1 : MSt) (S1 : CSt) (F1 E1 : Nat → Nat) (R1 : Nat → Int) (a : Nat) (lo ko go : Int) (T' : MSt) (r : CR) : Prop :=
  (r.1 = 1 ∧ dmR T') ∨ (r.1 = 0 ∧ ∃ F' E' R', RR f d T' r.2.2 F' ∧ frB T1 T' r.2.1 ∧ T1.1 24 ≤ T'.1 24 ∧ T1.1 19 ≤ T'.1 19 ∧ (∀ j k : Nat, j < 4 → k < a → np T' j k = np T1 j k) ∧ (∀ k : Nat, k ≤ a → F' k = F1 k ∧ R' k = R1 k) ∧ (∀ k : Nat, k < a → E' k = E1 k) ∧ S1.1 7 5 ≤ r.2.2.1 7 5 ∧ (∀ j k : Nat, j < 3 → k < F1 a → cqR r.2.2 j k = cqR S1 j k) ∧ (∀ j k : Nat, cwR r.2.2 j k = cwR S1 j k) ∧ S1.1 7 10 ≤ r.2.2.1 7 10 ∧ (∀ j c : Nat, (c : Int) < S1.1 7 10 → 5 ≤ j → j ≤ 8 → cqR r.2.2 j c = cqR S1 j c) ∧ T'.1 20 = T1.1 20 ∧ T1.1 21 ≤ T'.1 21 ∧ T'.1 22 = T1.1 22 ∧ SEG f T' r.2.2 F' E' R' a (T'.1 19).toNat lo (T'.1 21) ko (T'.1 22) go (T'.1 20) ∧ 3 * (R' (T'.1 19).toNat - R' a) ≤ r.2.1 ∧ 0 ≤ r.2.1)
/-- no count: the part stands as it is -/
theorem CNT_no {f d : Int} {T1 : MSt} {S1 : CSt} {F1 E1 : Nat → Nat} {R1 : Nat → Int} {a e : Nat} {lo ko go w : Int} (h : RR f d T1 S1 F1) (he : (e : Int) = T1.1 19) (hae : a + 1 < e) (p0 : np T1 0 a = 17) (hloc : LOC (np T1) a) (l0 : 0 ≤ lo) (l1 : lo ≤ T1.1 21) (k1 : ko ≤ T1.1 22) (g1 : go ≤ T1.1 20) (hin : SEG f T1 S1 F1 E1 R1 (a + 1) e lo (T1.1 21) ko (T1.1 22) go (T1.1 20)) (hF : F1 (a + 1) = F1 a + 1) (hq0 : cqR S1 0 (F1 a) = 9) (hq1 : cqR S1 1 (F1 a) = -1) (hR : R1 (a + 1) = R1 a) (hw : 3 * (R1 e - R1 (a + 1)) + 1 ≤ w) (hw0 : 0 ≤ w) : CPo f d T1 S1 F1 E1 R1 a lo ko go (M_weigh w T1) (0, w, S1) := by
  obtain ⟨hs, h25, hD, hsg, hlen, hg, hlp, hlk, hgr, hsz, hcd, hd, hf, hv⟩ := h
  have npE : ∀ j, j < 4 → np (M_weigh w T1) j = np T1 j := fun j hj => by
    show (if 15 + j = 30 then _ else T1.2 (15 + j)) = T1.2 (15 + j)
    rw [if_neg (by omega)]
  have a2 : ∀ k, k ≠ 30 → (M_weigh w T1).2 k = T1.2 k := fun k hk => if_neg hk
  have dm := DM_wg (T' := M_weigh w T1) hD hw0 rfl (Int.le_refl _) rfl ⟨Int.le_refl _, hD.2.2.1⟩ wg_weigh (a2 26 (by decide))
  have ee : (T1.1 19).toNat = e := by omega
  refine Or.inr ⟨rfl, F1, E1, R1, ?_, ?_, Int.le_refl _, Int.le_refl _, fun j k hj _ => by rw [npE j hj], fun _ _ => ⟨rfl, rfl⟩, fun _ _ => rfl, Int.le_refl _, fun _ _ _ _ => rfl, fun _ _ => rfl, Int.le_refl _, fun _ _ _ _ _ => rfl, rfl, Int.le_refl _, rfl, ?_, ?_, hw0⟩
  · have esg : M_sign (M_weigh w T1) = M_sign T1 := rfl
    exact ⟨hs, h25, dm.1, hsg, hlen, hg, hlp, hlk, hgr, hsz, hcd, hd, hf, hv⟩
  · refine ⟨rfl, fun i hi => ⟨by rw [a2 26 (by decide)], by rw [a2 27 (by decide)], by rw [a2 28 (by decide)], by rw [a2 29 (by decide)], by rw [a2 31 (by decide)]⟩, fun i hi => ?_, ?_, fun _ _ => rfl, fun k hk => a2 k (by omega)⟩
    · show zu (T1.2 30) (T1.1 32 - 1).toNat _ i = _
      exact zu_ne (by omega)
    · show zu (T1.2 30) (T1.1 32 - 1).toNat (T1.2 30 (T1.1 32 - 1).toNat + w) (T1.1 32 - 1).toNat = _
      exact zu_eq
  · show SEG f (M_weigh w T1) S1 F1 E1 R1 a (T1.1 19).toNat lo (T1.1 21) ko (T1.1 22) go (T1.1 20)
    rw [ee]
    refine SEG_app (Int.le_refl _) l1 (Int.le_refl _) k1 (Int.le_refl _) g1 (SEG_one (b := a) (by rw [npE 0 (by omega)]; omega) ?_ hR ?_) (SEG_cong (T := T1) (S := S1) l0 rfl (fun j k hj _ _ => by rw [npE j hj]) (fun _ _ _ => rfl) (fun _ _ _ => rfl) (fun _ _ _ => rfl) (fun _ _ _ _ _ => rfl) (fun _ _ _ _ _ => rfl) (fun _ _ _ _ _ _ => rfl) hin)
    · exact LOC_cong (fun j hj => by rw [npE j hj]) (fun _ => by rw [npE 0 (by omega)]) hloc
    · unfold certS
      rw [npE 0 (by omega), npE 1 (by omega), npE 2 (by omega), npE 3 (by omega), p0]
      refine ⟨by omega, fun y => by omega, fun y => by omega, fun y y' => by omega, fun y => by omega, fun y => by omega, fun y => by omega, fun y => by omega, fun y => by omega, fun y => by omega, fun y => by omega, fun y => by omega, fun _ => ⟨hq0, hq1, hF⟩⟩
  · show 3 * (R1 (T1.1 19).toNat - R1 a) ≤ w
    rw [ee]; omega
