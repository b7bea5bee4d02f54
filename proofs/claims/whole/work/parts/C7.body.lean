theorem emit_mi {T : MSt} {w x y z v : Int} {k : Nat} (h : k ≠ 19) : M_emit w x y z (mi T k v) = mi (M_emit w x y z T) k v := by
  have e19 : (mi T k v).1 19 = T.1 19 := if_neg (Ne.symm h)
  unfold M_emit
  rw [e19]
  refine Prod.ext ?_ rfl
  funext j
  show (if j = 19 then T.1 19 + 1 else (if j = k then v else T.1 j)) = (if j = k then v else (if j = 19 then T.1 19 + 1 else T.1 j))
  by_cases c : j = 19
  · rw [if_pos c, if_neg (by omega), if_pos c]
  · rw [if_neg c, if_neg c]
theorem aimN_mi {k : Nat} {v : Int} (h : k ≠ 19) : ∀ (n : Nat) (go : Int) (T : MSt), aimN n go (mi T k v) = mi (aimN n go T) k v
  | 0, go, T => by rw [aimN, aimN]
  | n + 1, go, T => by
    have e19 : (mi T k v).1 19 = T.1 19 := if_neg (Ne.symm h)
    rw [aimN, aimN, e19]
    by_cases c : go < 0
    · rw [if_pos c, if_pos c]
    · rw [if_neg c, if_neg c]
      exact aimN_mi h n _ (ma T 16 go.toNat (T.1 19))
theorem clo_mi {T : MSt} {k : Nat} {v : Int} (h : k ≠ 19) (h2 : k ≠ 32) : clo (mi T k v) = mi (clo T) k v := by
  have e19 : (mi T k v).1 19 = T.1 19 := if_neg (Ne.symm h)
  have e32 : (mi T k v).1 32 = T.1 32 := if_neg (Ne.symm h2)
  have e29 : (mi T k v).2 = T.2 := rfl
  unfold clo
  rw [e19, e32, e29, emit_mi h]
  exact aimN_mi h _ _ (ma (M_emit 2 (T.2 29 (T.1 32 - 1).toNat) 0 0 T) 29 (T.1 32 - 1).toNat (T.1 19))
/-- a body is begun in both: its first alternative at b -/
def BIN (f d : Int) (T : MSt) (S : CSt) (F : Nat → Nat) (R : Nat → Int) (b : Nat) : Prop :=
  RR f d T S F ∧ T.1 19 = b + 1 ∧ (np T 0 b = 1 ∧ np T 1 b = -1 ∧ np T 2 b = 0 ∧ np T 3 b = 0) ∧ (F (b + 1) = F b + 1 ∧ R (b + 1) = R b) ∧ (cqR S 0 (F b) = 5 ∧ cqR S 1 (F b) = -1) ∧ (T.2 28 (T.1 32 - 1).toNat = b ∧ T.2 29 (T.1 32 - 1).toNat = -1 ∧ T.2 30 (T.1 32 - 1).toNat = 0)
/-- what stood before a body: places before b, open bodies below the top -/
def XB (T : MSt) (S : CSt) (F E : Nat → Nat) (R : Nat → Int) (b : Nat) (T' : MSt) (S' : CSt) (F' E' : Nat → Nat) (R' : Nat → Int) : Prop :=
  (T.1 19 ≤ T'.1 19 ∧ (∀ j k : Nat, j < 4 → k < b → np T' j k = np T j k) ∧ (∀ k : Nat, k ≤ b → F' k = F k ∧ R' k = R k) ∧ (∀ k : Nat, k < b → E' k = E k)) ∧
  (S.1 7 5 ≤ S'.1 7 5 ∧ (∀ j k : Nat, j < 3 → k < F b → cqR S' j k = cqR S j k) ∧ (∀ j k : Nat, j = 3 ∨ j = 4 → k < F b → cwR S' j k = cwR S j k) ∧ S.1 7 10 ≤ S'.1 7 10 ∧ (∀ j c : Nat, (c : Int) < S.1 7 10 → 5 ≤ j → j ≤ 8 → cqR S' j c = cqR S j c)) ∧
  (T.1 20 ≤ T'.1 20 ∧ T.1 21 ≤ T'.1 21 ∧ T.1 22 ≤ T'.1 22) ∧
  (T'.1 32 = T.1 32 ∧ (∀ i : Nat, (i : Int) < T.1 32 → T'.2 26 i = T.2 26 i ∧ T'.2 27 i = T.2 27 i ∧ T'.2 31 i = T.2 31 i) ∧ (∀ i : Nat, (i : Int) < T.1 32 - 1 → T'.2 28 i = T.2 28 i ∧ T'.2 29 i = T.2 29 i ∧ T'.2 30 i = T.2 30 i) ∧ (∀ k, k < 15 ∨ 32 < k → T'.1 k = T.1 k) ∧ (∀ k, k < 15 ∨ 31 < k → T'.2 k = T.2 k))
/-- what comes of a body in both -/
def BOUT (f d : Int) (T : MSt) (S : CSt) (F E : Nat → Nat) (R : Nat → Int) (b : Nat) (r : CR) : Prop :=
  (r.1 = 1 ∧ ∃ T1, goR T T1 ∧ dmR T1) ∨
  (r.1 = 0 ∧ ∃ Te F' E' R', goR T Te ∧ RR f d Te r.2.2 F' ∧ (M_sign Te (Te.1 24) = 0 ∨ M_sign Te (Te.1 24) = 41) ∧ XB T S F E R b Te r.2.2 F' E' R' ∧ Te.2 30 (Te.1 32 - 1).toNat = r.2.1 ∧ SEG f (clo Te) r.2.2 F' E' R' b ((Te.1 19).toNat + 1) (T.1 21) (Te.1 21) (T.1 22) (Te.1 22) (T.1 20) (Te.1 20) ∧ F' ((Te.1 19).toNat + 1) = F' (Te.1 19).toNat ∧ 3 * (R' ((Te.1 19).toNat + 1) - R' b) ≤ r.2.1 ∧ 0 ≤ r.2.1 ∧ np (clo Te) 0 b = 1 ∧ ∀ j k : Nat, j < 4 → k < b → np (clo Te) j k = np Te j k)
/-- a body is opened -/
theorem OPENB {f d : Int} {U : MSt} {S : CSt} {F : Nat → Nat} {R : Nat → Int} {q ah : Int} (hs : sgE U S) (h25 : U.1 25 = 0) (h32 : U.1 32 = d + 1) (hd : 0 ≤ d ∧ d < 8) (hD : DMi (M_openBody q ah U)) (hsg : ∀ k, 0 ≤ M_sign U k ∧ M_sign U k ≤ 126) (hlen : S.1 2 1 = U.1 14) (hg : S.1 7 12 = U.1 20 ∧ 0 ≤ U.1 20 ∧ U.1 20 ≤ 9) (hlp : S.1 7 10 = U.1 21 ∧ 0 ≤ U.1 21 ∧ 2 * U.1 21 ≤ U.1 24) (hlk : S.1 7 11 = U.1 22 ∧ 0 ≤ U.1 22 ∧ 4 * U.1 22 ≤ U.1 24 + d + 1) (hgr : S.1 8 4 = U.1 23) (hsz : S.1 7 5 = (F (U.1 19).toNat : Int) ∧ S.1 7 5 ≤ 2 * U.1 24 + 1 + d) (hcd : 0 ≤ U.1 19 ∧ U.1 19 ≤ 3 * U.1 24) (hf : S.1 7 13 = f) (hV : rV (addS 5 (-1) (-1) S)) : BIN f (d + 1) (M_openBody q ah U) (addS 5 (-1) (-1) S) (fu F ((U.1 19).toNat + 1) (F (U.1 19).toNat + 1)) (zu R ((U.1 19).toNat + 1) (R (U.1 19).toNat)) (U.1 19).toNat := by
  obtain ⟨e1, e2, e3⟩ := hs
  have o24 : (M_openBody q ah U).1 24 = U.1 24 := rfl
  have o19 : (M_openBody q ah U).1 19 = U.1 19 + 1 := rfl
  have o32 : (M_openBody q ah U).1 32 = U.1 32 + 1 := rfl
  have o25 : (M_openBody q ah U).1 25 = 0 := by
    show (if U.1 25 = 0 then (if U.1 32 ≤ 8 then 0 else 1 : Int) else 1 : Int) = 0
    rw [if_pos h25, if_pos (by omega)]
  have osg : M_sign (M_openBody q ah U) = M_sign U := rfl
  have top : (U.1 32 + 1 - 1).toNat = (U.1 32).toNat := by omega
  have onp : ∀ j k : Nat, j < 4 → np (M_openBody q ah U) j k = np (M_emit 1 (-1) 0 0 U) j k := fun j k hj => by
    have hj' : j = 0 ∨ j = 1 ∨ j = 2 ∨ j = 3 := by omega
    rcases hj' with y | y | y | y <;> subst y <;> rfl
  have e0 := np_emit0 (w := 1) (x := -1) (y := 0) (z := 0) (T := U)
  have ek : ∀ k, K4_at 2 k (addS 5 (-1) (-1) S) = K4_at 2 k S := fun k => by
    unfold K4_at
    rw [addS_o (by omega), addS_o (n := 11 + 2) (by omega)]
  have n1 : (U.1 19 + 1).toNat = (U.1 19).toNat + 1 := by omega
  have iz : (S.1 7 5).toNat = F (U.1 19).toNat := by rw [hsz.1]; omega
  have hsz1 := hsz.1
  have fz : fu F ((U.1 19).toNat + 1) (F (U.1 19).toNat + 1) (U.1 19).toNat = F (U.1 19).toNat := fu_ne (by omega)
  refine ⟨⟨⟨?_, e2, fun k hk => ?_⟩, o25, hD, hsg, ?_, ?_, ?_, ?_, ?_, ?_, ?_, ?_, ?_, hV⟩, ?_, ⟨?_, ?_, ?_, ?_⟩, ⟨?_, ?_⟩, ⟨?_, ?_⟩, ?_, ?_, ?_⟩
  · rw [addS_o (by omega)]; exact e1
  · rw [ek, osg]; exact e3 k hk
  · rw [addS_o (by omega)]; exact hlen
  · rw [addS_7 (by decide)]; exact hg
  · rw [addS_7 (by decide)]; exact hlp
  · rw [addS_7 (by decide)]; exact ⟨hlk.1, hlk.2.1, by show 4 * U.1 22 ≤ U.1 24 + (d + 1); omega⟩
  · rw [addS_o (by omega)]; exact hgr
  · rw [o19, o24, n1, fu_eq, addS_75]; omega
  · rw [o19, o24]; omega
  · rw [o32]; omega
  · rw [addS_7 (by decide)]; exact hf
  · rw [o19]; omega
  · rw [onp 0 _ (by omega)]; exact e0.1
  · rw [onp 1 _ (by omega)]; exact e0.2.1
  · rw [onp 2 _ (by omega)]; exact e0.2.2.1
  · rw [onp 3 _ (by omega)]; exact e0.2.2.2
  · rw [fu_eq, fz]
  · rw [zu_eq, zu_ne (by omega)]
  · rw [fz, addS_c.1, if_pos iz.symm]
  · rw [fz, addS_c.2.1, if_pos iz.symm]
  · rw [o32, top]
    show zu (U.2 28) ((U.1 32) + 1 - 1).toNat (U.1 19) (U.1 32).toNat = _
    rw [top, zu_eq]; omega
  · rw [o32, top]
    show zu (U.2 29) (U.1 32).toNat (-1) (U.1 32).toNat = _
    rw [zu_eq]
  · rw [o32, top]
    show zu (U.2 30) (U.1 32).toNat 0 (U.1 32).toNat = _
    rw [zu_eq]
/-- a body is closed -/
theorem CLOSEB {f d : Int} {Te : MSt} {S5 : CSt} {F' : Nat → Nat} (h : RR f (d + 1) Te S5 F') (hd0 : 0 ≤ d) (h41 : M_sign Te (Te.1 24) = 41) (hFe : F' ((Te.1 19).toNat + 1) = F' (Te.1 19).toNat) (hV : rV (ci S5 8 3 (S5.1 8 3 + 1))) :
    Te.1 24 < Te.1 14 ∧ rdS Te = closeF (d + 1) (mi (clo Te) 24 (Te.1 24 + 1)) ∧ (K3_take 41 S5 = (1, ci S5 8 3 (S5.1 8 3 + 1))) ∧
    RR f d (mi (mi (clo Te) 24 (Te.1 24 + 1)) 32 (d + 1)) (ci S5 8 3 (S5.1 8 3 + 1)) F' ∧ S5.1 7 5 + 1 ≤ 2 * (Te.1 24 + 1) + 1 + d ∧ Te.1 19 + 2 ≤ 3 * (Te.1 24 + 1) + 1 := by
  obtain ⟨⟨e1, e2, e3⟩, h25, hD, hsg, hlen, hg, hlp, hlk, hgr, hsz, hcd, hd, hf, hv⟩ := h
  have l1 := sgn_lt (T := Te) (k := Te.1 24) (by omega)
  obtain ⟨c1, c2, c3, c4⟩ := clo_o Te
  have n1 : (Te.1 19 + 1).toNat = (Te.1 19).toNat + 1 := by omega
  have s8 : (ci S5 8 3 (S5.1 8 3 + 1)).1 8 3 = S5.1 8 3 + 1 := by rw [ci_eq, zu_eq]
  have so : ∀ n, n ≠ 8 → (ci S5 8 3 (S5.1 8 3 + 1)).1 n = S5.1 n := fun n hn => ci_ne hn
  have ek : ∀ k, K4_at 2 k (ci S5 8 3 (S5.1 8 3 + 1)) = K4_at 2 k S5 := fun k => by
    unfold K4_at
    rw [so 2 (by decide), so (11 + 2) (by decide)]
  have t1 : ∀ k, k ≠ 24 → k ≠ 32 → (mi (mi (clo Te) 24 (Te.1 24 + 1)) 32 (d + 1)).1 k = (clo Te).1 k := fun k a b => by
    show (if k = 32 then _ else if k = 24 then _ else (clo Te).1 k) = _
    rw [if_neg b, if_neg a]
  have t24 : (mi (mi (clo Te) 24 (Te.1 24 + 1)) 32 (d + 1)).1 24 = Te.1 24 + 1 := rfl
  have t32 : (mi (mi (clo Te) 24 (Te.1 24 + 1)) 32 (d + 1)).1 32 = d + 1 := rfl
  have t2 : (mi (mi (clo Te) 24 (Te.1 24 + 1)) 32 (d + 1)).2 = (clo Te).2 := rfl
  have esg : M_sign (mi (mi (clo Te) 24 (Te.1 24 + 1)) 32 (d + 1)) = M_sign Te := by
    funext k
    unfold M_sign
    rw [t1 14 (by decide) (by decide), c2 14 (by decide), t2, c3 13 (by omega)]
  refine ⟨l1, ?_, take_y (by rw [e1, e3 _ e2]; exact h41), ?_, by omega, by omega⟩
  · unfold rdS
    rw [if_neg (by omega), if_pos h41, if_neg (show ¬ Te.1 32 = 1 by omega), if_pos rfl, closeB_clo]
    have e : (mi (mi Te 24 (Te.1 24 + 1)) 25 0) = mi Te 24 (Te.1 24 + 1) := mi_same h25
    rw [e, clo_mi (by decide) (by decide)]
    show closeF (Te.1 32 - 1) _ = _
    rw [show Te.1 32 - 1 = d + 1 by omega]
  · refine ⟨⟨by rw [s8, t24]; omega, by rw [t24]; omega, fun k hk => by rw [ek, esg]; exact e3 k hk⟩, ?_, ?_, by rw [esg]; exact hsg, ?_, ?_, ?_, ?_, ?_, ?_, ?_, by rw [t32]; omega, ?_, hV⟩
    · rw [t1 25 (by decide) (by decide), c2 25 (by decide)]; exact h25
    · obtain ⟨i1, i2, i3, i4, i5, i6, i7⟩ := hD
      refine ⟨by rw [t32]; omega, by rw [t24]; omega, ?_, ?_, fun j hj => ?_, fun j x y => ?_, ?_⟩
      · rw [t24, t1 14 (by decide) (by decide), c2 14 (by decide)]; omega
      · rw [t1 14 (by decide) (by decide), c2 14 (by decide)]; exact i4
      · rw [t32] at hj
        rw [t2, c3 30 (by omega)]; exact i5 j (by omega)
      · rw [t32] at y
        rw [t2, c3 26 (by omega)]; exact i6 j x (by omega)
      · rw [t2, c3 26 (by omega)]; exact i7
    · rw [so 2 (by decide), t1 14 (by decide) (by decide), c2 14 (by decide)]; exact hlen
    · rw [so 7 (by decide), t1 20 (by decide) (by decide), c2 20 (by decide)]; exact hg
    · rw [so 7 (by decide), t1 21 (by decide) (by decide), c2 21 (by decide), t24]; exact ⟨hlp.1, hlp.2.1, by omega⟩
    · rw [so 7 (by decide), t1 22 (by decide) (by decide), c2 22 (by decide), t24]; exact ⟨hlk.1, hlk.2.1, by omega⟩
    · rw [ci_eq, zu_ne (by decide), t1 23 (by decide) (by decide), c2 23 (by decide)]; exact hgr
    · rw [so 7 (by decide), t1 19 (by decide) (by decide), c1, t24, n1, hFe]; omega
    · rw [t1 19 (by decide) (by decide), c1, t24]; omega
    · rw [so 7 (by decide)]; exact hf
