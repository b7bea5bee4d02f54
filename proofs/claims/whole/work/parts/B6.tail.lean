/-- a loop more in the class's program -/
def loopS (ls ms fg : Int) (S : CSt) : CSt := ci (ci (ci (ci (ci S 31 (S.1 7 10).toNat ls) 32 (S.1 7 10).toNat ms) 33 (S.1 7 10).toNat fg) 34 (S.1 7 10).toNat (S.1 7 12)) 7 10 (S.1 7 10 + 1)
theorem K2_loopQ {ls ms fg : Int} {S : CSt} (h0 : 0 ≤ S.1 7 10) (h1 : S.1 7 10 < 20) : K2_addLoop ls ms fg S = (0, S.1 7 10, loopS ls ms fg S) := by
  unfold K2_addLoop
  rw [if_neg (by omega), if_pos h1, show S.1 7 10 + 1 - 1 = S.1 7 10 by omega]
  rfl
theorem loopS_710 {ls ms fg : Int} {S : CSt} : (loopS ls ms fg S).1 7 10 = S.1 7 10 + 1 := by unfold loopS; rw [ci_eq, zu_eq]
theorem loopS_7 {ls ms fg : Int} {S : CSt} {j : Nat} (hj : j ≠ 10) : (loopS ls ms fg S).1 7 j = S.1 7 j := by unfold loopS; rw [ci_eq, zu_ne hj, ci_ne (by decide), ci_ne (by decide), ci_ne (by decide), ci_ne (by decide)]
theorem loopS_o {ls ms fg : Int} {S : CSt} {n : Nat} (h : n < 7 ∨ (7 < n ∧ n < 31) ∨ 34 < n) : (loopS ls ms fg S).1 n = S.1 n := by unfold loopS; rw [ci_ne (by omega), ci_ne (by omega), ci_ne (by omega), ci_ne (by omega), ci_ne (by omega)]
theorem loopS_l {ls ms fg : Int} {S : CSt} {k : Nat} : cqR (loopS ls ms fg S) 5 k = (if k = (S.1 7 10).toNat then ls else cqR S 5 k) ∧ cqR (loopS ls ms fg S) 6 k = (if k = (S.1 7 10).toNat then ms else cqR S 6 k) ∧ cqR (loopS ls ms fg S) 7 k = (if k = (S.1 7 10).toNat then fg else cqR S 7 k) ∧ cqR (loopS ls ms fg S) 8 k = (if k = (S.1 7 10).toNat then S.1 7 12 else cqR S 8 k) := by
  refine ⟨?_, ?_, ?_, ?_⟩
  · show (loopS ls ms fg S).1 31 k = _
    unfold loopS
    rw [ci_ne (by decide), ci_ne (by decide), ci_ne (by decide), ci_ne (by decide), ci_eq]
    rfl
  · show (loopS ls ms fg S).1 32 k = _
    unfold loopS
    rw [ci_ne (by decide), ci_ne (by decide), ci_ne (by decide), ci_eq, ci_ne (by decide)]
    rfl
  · show (loopS ls ms fg S).1 33 k = _
    unfold loopS
    rw [ci_ne (by decide), ci_ne (by decide), ci_eq, ci_ne (by decide), ci_ne (by decide)]
    rfl
  · show (loopS ls ms fg S).1 34 k = _
    unfold loopS
    rw [ci_ne (by decide), ci_eq, ci_ne (by decide), ci_ne (by decide), ci_ne (by decide)]
    rfl
/-- the tail of a counted atom: v7 where it was entered, gb the groups before it, v11 its weight -/
def tailC (v7 gb v11 : Int) (S12 : CSt) : CR := (gBd (K3_readCount S12) (fun v_15 S_16 => (if v_15 = 0 then (0, v11, S_16) else (gBd (K2_addLoop (S_16.1 8 5) (S_16.1 8 6) (gb + 1) S_16) (fun v_20 S_21 => (gBd (K2_add ((if (S_21.1 8 7) = 0 then 10 else 11 : Int)) (-1) v_20 S_21) (fun v_28 S_29 => (gBd (K2_add 12 (v7 + 1) v_20 S_29) (fun v_32 S_33 => (if (K3_checkWeight ((v11 * ((if (S_33.1 8 6) = 1000000 then (S_33.1 8 5) + 1 else (if 1 < (S_33.1 8 6) then S_33.1 8 6 else 1 : Int) : Int))) + 2) (K2_aimAt 7 v7 v_28 S_33)).1 = 0 then (0, (v11 * ((if (S_33.1 8 6) = 1000000 then (S_33.1 8 5) + 1 else (if 1 < (S_33.1 8 6) then S_33.1 8 6 else 1 : Int) : Int))) + 2, (K2_aimAt 7 v7 v_28 S_33)) else (1, 0, (K3_checkWeight ((v11 * ((if (S_33.1 8 6) = 1000000 then (S_33.1 8 5) + 1 else (if 1 < (S_33.1 8 6) then S_33.1 8 6 else 1 : Int) : Int))) + 2) (K2_aimAt 7 v7 v_28 S_33)).2.2)))))))))))
theorem counted_T (F : Int → CSt → CR) (dp : Int) (S : CSt) : K3_readCountedAtom F dp S = gBd (K2_add 9 (-1) (-1) S) (fun v_7 S_8 => gBd (K3_readAtom F dp S_8) (fun v_11 S_12 => tailC v_7 (S.1 7 12) v_11 S_12)) := rfl
/-- what the class has once the count is read: the loop's state -/
def loopE (v7 gb : Int) (S16 : CSt) : CSt := ci (addS 12 (v7 + 1) (S16.1 7 10) (addS (if S16.1 8 7 = 0 then 10 else 11 : Int) (-1) (S16.1 7 10) (loopS (S16.1 8 5) (S16.1 8 6) (gb + 1) S16))) 27 v7.toNat (S16.1 7 5)
theorem tail_2 {v7 gb v11 : Int} {S12 S16 : CSt} (h : K3_readCount S12 = (0, 1, S16)) (l0 : 0 ≤ S16.1 7 10) (l1 : S16.1 7 10 < 20) (z0 : 0 ≤ S16.1 7 5) (z1 : S16.1 7 5 < 95) (v0 : 0 ≤ v7) (v1 : v7 < S16.1 7 5) : tailC v7 gb v11 S12 = (if v11 * (if S16.1 8 6 = 1000000 then S16.1 8 5 + 1 else (if 1 < S16.1 8 6 then S16.1 8 6 else 1 : Int) : Int) + 2 ≤ 120 then (0, v11 * (if S16.1 8 6 = 1000000 then S16.1 8 5 + 1 else (if 1 < S16.1 8 6 then S16.1 8 6 else 1 : Int) : Int) + 2, loopE v7 gb S16) else (1, 0, loopE v7 gb S16)) := by
  unfold tailC
  rw [h]
  refine (if_pos rfl).trans ((if_neg (show ¬ (1 : Int) = 0 by decide)).trans ?_)
  rw [K2_loopQ l0 l1]
  refine (if_pos rfl).trans ?_
  have a5 : (loopS (S16.1 8 5) (S16.1 8 6) (gb + 1) S16).1 7 5 = S16.1 7 5 := loopS_7 (by decide)
  have a8 : (loopS (S16.1 8 5) (S16.1 8 6) (gb + 1) S16).1 8 = S16.1 8 := loopS_o (by omega)
  show gBd (K2_add (if (loopS (S16.1 8 5) (S16.1 8 6) (gb + 1) S16).1 8 7 = 0 then 10 else 11 : Int) (-1) (S16.1 7 10) (loopS (S16.1 8 5) (S16.1 8 6) (gb + 1) S16)) _ = _
  rw [a8, K2_addQ (by rw [a5]; exact z0) (by rw [a5]; omega)]
  refine (if_pos rfl).trans ?_
  have b5 : (addS (if S16.1 8 7 = 0 then 10 else 11 : Int) (-1) (S16.1 7 10) (loopS (S16.1 8 5) (S16.1 8 6) (gb + 1) S16)).1 7 5 = S16.1 7 5 + 1 := by rw [addS_75, a5]
  show gBd (K2_add 12 (v7 + 1) (S16.1 7 10) (addS (if S16.1 8 7 = 0 then 10 else 11 : Int) (-1) (S16.1 7 10) (loopS (S16.1 8 5) (S16.1 8 6) (gb + 1) S16))) _ = _
  rw [K2_addQ (by rw [b5]; omega) (by rw [b5]; omega)]
  refine (if_pos rfl).trans ?_
  have c8 : (addS 12 (v7 + 1) (S16.1 7 10) (addS (if S16.1 8 7 = 0 then 10 else 11 : Int) (-1) (S16.1 7 10) (loopS (S16.1 8 5) (S16.1 8 6) (gb + 1) S16))).1 8 = S16.1 8 := by rw [addS_o (by omega), addS_o (by omega), a8]
  have c5 : (addS 12 (v7 + 1) (S16.1 7 10) (addS (if S16.1 8 7 = 0 then 10 else 11 : Int) (-1) (S16.1 7 10) (loopS (S16.1 8 5) (S16.1 8 6) (gb + 1) S16))).1 7 5 = S16.1 7 5 + 2 := by rw [addS_75, b5]; omega
  show (if (K3_checkWeight ((v11 * ((if ((addS 12 (v7 + 1) (S16.1 7 10) (addS (if S16.1 8 7 = 0 then 10 else 11 : Int) (-1) (S16.1 7 10) (loopS (S16.1 8 5) (S16.1 8 6) (gb + 1) S16))).1 8 6) = 1000000 then ((addS 12 (v7 + 1) (S16.1 7 10) (addS (if S16.1 8 7 = 0 then 10 else 11 : Int) (-1) (S16.1 7 10) (loopS (S16.1 8 5) (S16.1 8 6) (gb + 1) S16))).1 8 5) + 1 else (if 1 < ((addS 12 (v7 + 1) (S16.1 7 10) (addS (if S16.1 8 7 = 0 then 10 else 11 : Int) (-1) (S16.1 7 10) (loopS (S16.1 8 5) (S16.1 8 6) (gb + 1) S16))).1 8 6) then (addS 12 (v7 + 1) (S16.1 7 10) (addS (if S16.1 8 7 = 0 then 10 else 11 : Int) (-1) (S16.1 7 10) (loopS (S16.1 8 5) (S16.1 8 6) (gb + 1) S16))).1 8 6 else 1 : Int) : Int))) + 2) _).1 = 0 then _ else _) = _
  rw [a5, c8]
  have eA : K2_aimAt 7 v7 (S16.1 7 5) (addS 12 (v7 + 1) (S16.1 7 10) (addS (if S16.1 8 7 = 0 then 10 else 11 : Int) (-1) (S16.1 7 10) (loopS (S16.1 8 5) (S16.1 8 6) (gb + 1) S16))) = loopE v7 gb S16 := by
    unfold K2_aimAt
    have i1 : ¬ K2_isInstruction 7 v7 (addS 12 (v7 + 1) (S16.1 7 10) (addS (if S16.1 8 7 = 0 then 10 else 11 : Int) (-1) (S16.1 7 10) (loopS (S16.1 8 5) (S16.1 8 6) (gb + 1) S16))) = 0 := by
      unfold K2_isInstruction
      rw [c5, if_neg (by omega), if_neg (by omega), if_neg (by omega)]
      decide
    rw [if_neg i1]
    rfl
  rw [eA]
  generalize v11 * (if S16.1 8 6 = 1000000 then S16.1 8 5 + 1 else (if 1 < S16.1 8 6 then S16.1 8 6 else 1 : Int) : Int) + 2 = ww
  by_cases c : ww ≤ 120
  · have e : (K3_checkWeight ww (loopE v7 gb S16)).1 = 0 := by unfold K3_checkWeight; rw [if_pos c]
    rw [if_pos e, if_pos c]
  · have e : K3_checkWeight ww (loopE v7 gb S16) = (1, 0, loopE v7 gb S16) := by unfold K3_checkWeight; rw [if_neg c]
    rw [e, if_neg (show ¬ (1 : Int) = 0 by decide), if_neg c]
