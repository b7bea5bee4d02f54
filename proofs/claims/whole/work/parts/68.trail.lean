/-- a trail taken back down to j: e i = what the i-th change was (where, what stood there before) -/
def und (e : Nat → Nat × Int) (j : Nat) : Nat → (Nat → Int) → (Nat → Int)
  | 0, g => g
  | c + 1, g => if c < j then g else und e j c (zu g (e c).1 (e c).2)
theorem und_congr {e e' : Nat → Nat × Int} {j : Nat} : ∀ (c : Nat) (g : Nat → Int), (∀ i, i < c → e i = e' i) → und e j c g = und e' j c g
  | 0, _, _ => rfl
  | c + 1, g, h => by
    rw [und, und, h c (by omega), und_congr c _ (fun i hi => h i (by omega))]
theorem und_top {e : Nat → Nat × Int} {j : Nat} : ∀ (c : Nat) (g : Nat → Int), c ≤ j → und e j c g = g
  | 0, _, _ => rfl
  | c + 1, g, h => by rw [und, if_pos (show c < j by omega)]
theorem und_pt {e : Nat → Nat × Int} {j x : Nat} : ∀ (c : Nat) (g g' : Nat → Int), g x = g' x → und e j c g x = und e j c g' x
  | 0, _, _, h => h
  | c + 1, g, g', h => by
    rw [und, und]
    split
    · exact h
    · refine und_pt c _ _ ?_
      unfold zu
      split
      · rfl
      · exact h
theorem zu_self {g : Nat → Int} {r : Nat} {v : Int} : zu (zu g r v) r (g r) = g := by
  funext x
  unfold zu
  split
  · rename_i h; rw [h]
  · rfl
theorem und_push {e e' : Nat → Nat × Int} {j c r : Nat} {g : Nat → Int} {v : Int} (hj : j ≤ c) (hc : e' c = (r, g r)) (he : ∀ i, i < c → e' i = e i) : und e' j (c + 1) (zu g r v) = und e j c g := by
  rw [und, if_neg (show ¬ c < j by omega), hc]
  show und e' j c (zu (zu g r v) r (g r)) = _
  rw [zu_self]
  exact und_congr c g he
theorem und_und {e : Nat → Nat × Int} {j i : Nat} (hj : j ≤ i) : ∀ (c : Nat) (g : Nat → Int), i ≤ c → und e j i (und e i c g) = und e j c g
  | 0, g, h => by
    have : i = 0 := by omega
    subst this
    rw [und_top (e := e) (j := 0) 0 g (by omega)]
  | c + 1, g, h => by
    by_cases hi : i = c + 1
    · subst hi
      rw [und_top (e := e) (j := c + 1) (c + 1) g (by omega)]
    · rw [show und e i (c + 1) g = und e i c (zu g (e c).1 (e c).2) by rw [und, if_neg (show ¬ c < i by omega)], show und e j (c + 1) g = und e j c (zu g (e c).1 (e c).2) by rw [und, if_neg (show ¬ c < j by omega)]]
      exact und_und hj c _ (by omega)
/-- the reference's trail -/
def eR (T : MSt) (i : Nat) : Nat × Int := ((T.2 34 i / 64).toNat, T.2 34 i % 64 - 2)
def sR (T : MSt) (j : Nat) : Nat → Int := und (eR T) j (T.1 35).toNat (T.2 33)
theorem M_undoL_s : ∀ (n j : Nat) (S : MSt), S.1 35 = (n + j : Nat) → (M_undoL n S).2 33 = und (eR S) j (n + j) (S.2 33)
  | 0, j, S, h => by rw [und_top (e := eR S) (j := j) (0 + j) (S.2 33) (by omega)]; rfl
  | n + 1, j, S, h => by
    rw [M_undoL, M_undoL_s n j _ (by show S.1 35 - 1 = _; omega), show n + 1 + j = (n + j) + 1 by omega, und, if_neg (show ¬ n + j < j by omega)]
    have e1 : (S.1 35 - 1).toNat = n + j := by omega
    show und (fun i => ((S.2 34 i / 64).toNat, S.2 34 i % 64 - 2)) j (n + j) (zu (S.2 33) (S.2 34 (S.1 35 - 1).toNat / 64).toNat (S.2 34 (S.1 35 - 1).toNat % 64 - 2)) = _
    rw [e1]
    rfl
theorem M_undo_s {T : MSt} {j : Nat} (h : (j : Int) ≤ T.1 35) : (M_undo j T).2 33 = sR T j := by
  unfold M_undo sR
  have e1 : (T.1 35).toNat = (T.1 35 - j).toNat + j := by omega
  rw [M_undoL_s (T.1 35 - j).toNat j T (by omega), ← e1]
/-- what undo leaves of the lower changes -/
theorem sR_undo {T : MSt} {i j : Nat} (h : (i : Int) ≤ T.1 35) (hj : j ≤ i) : sR (M_undo i T) j = sR T j := by
  unfold sR
  have h5 := M_undo_35 (mark := (i : Int)) (S := T) h
  have e4 : eR (M_undo i T) = eR T := by unfold eR; rw [M_undo_a34]
  rw [M_undo_s h, h5, e4, show ((i : Int)).toNat = i by omega]
  unfold sR
  exact und_und hj _ _ (by omega)
theorem sR_top {T : MSt} {j : Nat} (h : T.1 35 ≤ j) : sR T j = T.2 33 := und_top _ _ (by omega)
/-- put leaves what the trail gives back below -/
theorem sR_put {T : MSt} {r v : Int} {j : Nat} (h0 : 0 ≤ T.1 35) (hj : (j : Int) ≤ T.1 35) (hr : 0 ≤ r) (hv0 : -2 ≤ T.2 33 r.toNat) (hv1 : T.2 33 r.toNat ≤ 61) : sR (M_put r v T) j = sR T j := by
  unfold M_put
  split
  · rfl
  · show und (eR (ma (mi (ma T 34 (T.1 35).toNat (64 * r + T.2 33 r.toNat + 2)) 35 (T.1 35 + 1)) 33 r.toNat v)) j (T.1 35 + 1).toNat (zu (T.2 33) r.toNat v) = und (eR T) j (T.1 35).toNat (T.2 33)
    rw [show (T.1 35 + 1).toNat = (T.1 35).toNat + 1 by omega]
    refine und_push (by omega) ?_ (fun i hi => ?_)
    · show (((zu (T.2 34) (T.1 35).toNat (64 * r + T.2 33 r.toNat + 2)) (T.1 35).toNat / 64).toNat, (zu (T.2 34) (T.1 35).toNat (64 * r + T.2 33 r.toNat + 2)) (T.1 35).toNat % 64 - 2) = _
      rw [zu_eq]
      refine Prod.ext ?_ ?_
      · show ((64 * r + T.2 33 r.toNat + 2) / 64).toNat = r.toNat
        omega
      · show (64 * r + T.2 33 r.toNat + 2) % 64 - 2 = T.2 33 r.toNat
        omega
    · show (((zu (T.2 34) (T.1 35).toNat (64 * r + T.2 33 r.toNat + 2)) i / 64).toNat, (zu (T.2 34) (T.1 35).toNat (64 * r + T.2 33 r.toNat + 2)) i % 64 - 2) = _
      rw [zu_ne (show i ≠ (T.1 35).toNat by omega)]
      rfl
