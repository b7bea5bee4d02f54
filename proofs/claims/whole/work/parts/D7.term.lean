theorem OUT_id {f d : Int} {T : MSt} {S : CSt} {F E : Nat → Nat} {R : Nat → Int} {r : CR} (h : OUT f d T S F E R r) : OUT f d T S F E R (gBd r (fun v S => (0, v, S))) := by
  rcases h with ⟨h1, h2⟩ | ⟨h1, h2⟩
  · exact Or.inl ⟨bd_1 h1, h2⟩
  · have e : gBd r (fun v S => ((0, v, S) : CR)) = (0, r.2.1, r.2.2) := if_pos h1
    rw [e]
    exact Or.inr ⟨rfl, h2⟩
/-- what the readers below must give -/
def HGo (G : Int → CSt → CR) (f d : Int) : Prop := (∀ (S : CSt) (dp : Int), rV S → rR (wP S) S (G dp S)) ∧ (d < 8 → HGd G f d) ∧ (∀ (S : CSt) (dp : Int), K4_at 2 (S.1 8 3) S = 63 → (G dp S).1 = 1)
set_option maxHeartbeats 8000000 in
/-- ONE TERM in both -/
theorem TERM {G : Int → CSt → CR} {f d : Int} {T : MSt} {S : CSt} {F E : Nat → Nat} {R : Nat → Int} (h : RR f d T S F) (hz : NZ T) (hG : HGo G f d) (n0 : ¬ M_sign T (T.1 24) = 0) (n1 : ¬ M_sign T (T.1 24) = 124) (n2 : ¬ M_sign T (T.1 24) = 41) : OUT f d T S F E R (K3_readTerm G d S) := by
  have h0 := h
  obtain ⟨⟨e1, e2, e3⟩, h25, hD, hsg, hlen, hg, hlp, hlk, hgr, hsz, hcd, hd, hf, hv⟩ := h
  obtain ⟨g1, g2, g3⟩ := hG
  have k0 := hD.2.2.2.1
  have hz1 := hsz.1
  have hz2 := hsz.2
  have z0 : 0 ≤ S.1 7 5 := by rw [hsz.1]; omega
  have hl := sgn_lt n0
  have kk : K4_at 2 (S.1 8 3) S = M_sign T (T.1 24) := by rw [e1]; exact e3 _ e2
  have anch : ∀ (w kd : Int), ((w = 8 ∧ kd = 2) ∨ (w = 9 ∧ kd = 3)) → rdS T = mi (M_weigh 1 (M_emit w 0 0 0 T)) 24 (T.1 24 + 1) → OUT f d T S F E R (gBd (K2_add kd (-1) (-1) (ci S 8 3 (S.1 8 3 + 1))) (fun v_43 S_44 => (0, 1, S_44))) := fun w kd hw hrd => by
    have s75 : (ci S 8 3 (S.1 8 3 + 1)).1 7 5 = S.1 7 5 := by rw [ci_ne (by decide)]
    have v1 : rV (ci S 8 3 (S.1 8 3 + 1)) := rV_at hv (by omega) (by omega)
    have v2 : rV (addS kd (-1) (-1) (ci S 8 3 (S.1 8 3 + 1))) := rV_addS v1 (by omega) (by omega) (by omega) (by omega) (by decide) (by decide) (by decide) (by decide)
    have e : gBd (K2_add kd (-1) (-1) (ci S 8 3 (S.1 8 3 + 1))) (fun v_43 S_44 => ((0, 1, S_44) : CR)) = (0, 1, addS kd (-1) (-1) (ci S 8 3 (S.1 8 3 + 1))) := by
      rw [K2_addQ (by omega) (by omega)]
      exact if_pos rfl
    rw [e]
    exact ANCH h0 hl hw hrd v2
  unfold K3_readTerm
  by_cases c94 : M_sign T (T.1 24) = 94
  · rw [take_y (x := 94) (by rw [kk]; exact c94)]
    have e : (gLt ((1, ci S 8 3 (S.1 8 3 + 1)) : Int × CSt) (fun v_5 S_6 => (if v_5 = 0 then (gLt (K3_take 36 S_6) (fun v_12 S_13 => (if v_12 = 0 then (gLt (K3_takeOpening 61 S_13) (fun v_19 S_20 => (if v_19 = 0 then (gLt (K3_takeOpening 33 S_20) (fun v_26 S_27 => (if v_26 = 0 then (gBd (K3_readCountedAtom G d S_27) (fun v_31 S_32 => (0, v_31, S_32))) else (gBd (K3_readLook G 15 16 d S_27) (fun v_35 S_36 => (0, v_35, S_36)))))) else (gBd (K3_readLook G 13 14 d S_20) (fun v_39 S_40 => (0, v_39, S_40)))))) else (gBd (K2_add 3 (-1) (-1) S_13) (fun v_43 S_44 => (0, 1, S_44)))))) else (gBd (K2_add 2 (-1) (-1) S_6) (fun v_47 S_48 => (0, 1, S_48)))))) = gBd (K2_add 2 (-1) (-1) (ci S 8 3 (S.1 8 3 + 1))) (fun v_43 S_44 => (0, 1, S_44)) := if_neg i10
    rw [e]
    refine anch 8 2 (Or.inl ⟨rfl, rfl⟩) ?_
    unfold rdS
    rw [if_neg n1, if_neg n2, if_pos c94]
  rw [take_n (x := 94) (by rw [kk]; exact c94)]
  have e94 : (gLt ((0, S) : Int × CSt) (fun v_5 S_6 => (if v_5 = 0 then (gLt (K3_take 36 S_6) (fun v_12 S_13 => (if v_12 = 0 then (gLt (K3_takeOpening 61 S_13) (fun v_19 S_20 => (if v_19 = 0 then (gLt (K3_takeOpening 33 S_20) (fun v_26 S_27 => (if v_26 = 0 then (gBd (K3_readCountedAtom G d S_27) (fun v_31 S_32 => (0, v_31, S_32))) else (gBd (K3_readLook G 15 16 d S_27) (fun v_35 S_36 => (0, v_35, S_36)))))) else (gBd (K3_readLook G 13 14 d S_20) (fun v_39 S_40 => (0, v_39, S_40)))))) else (gBd (K2_add 3 (-1) (-1) S_13) (fun v_43 S_44 => (0, 1, S_44)))))) else (gBd (K2_add 2 (-1) (-1) S_6) (fun v_47 S_48 => (0, 1, S_48)))))) = gLt (K3_take 36 S) (fun v_12 S_13 => (if v_12 = 0 then (gLt (K3_takeOpening 61 S_13) (fun v_19 S_20 => (if v_19 = 0 then (gLt (K3_takeOpening 33 S_20) (fun v_26 S_27 => (if v_26 = 0 then (gBd (K3_readCountedAtom G d S_27) (fun v_31 S_32 => (0, v_31, S_32))) else (gBd (K3_readLook G 15 16 d S_27) (fun v_35 S_36 => (0, v_35, S_36)))))) else (gBd (K3_readLook G 13 14 d S_20) (fun v_39 S_40 => (0, v_39, S_40)))))) else (gBd (K2_add 3 (-1) (-1) S_13) (fun v_43 S_44 => (0, 1, S_44))))) := if_pos rfl
  rw [e94]
  by_cases c36 : M_sign T (T.1 24) = 36
  · rw [take_y (x := 36) (by rw [kk]; exact c36)]
    have e : (gLt ((1, ci S 8 3 (S.1 8 3 + 1)) : Int × CSt) (fun v_12 S_13 => (if v_12 = 0 then (gLt (K3_takeOpening 61 S_13) (fun v_19 S_20 => (if v_19 = 0 then (gLt (K3_takeOpening 33 S_20) (fun v_26 S_27 => (if v_26 = 0 then (gBd (K3_readCountedAtom G d S_27) (fun v_31 S_32 => (0, v_31, S_32))) else (gBd (K3_readLook G 15 16 d S_27) (fun v_35 S_36 => (0, v_35, S_36)))))) else (gBd (K3_readLook G 13 14 d S_20) (fun v_39 S_40 => (0, v_39, S_40)))))) else (gBd (K2_add 3 (-1) (-1) S_13) (fun v_43 S_44 => (0, 1, S_44)))))) = gBd (K2_add 3 (-1) (-1) (ci S 8 3 (S.1 8 3 + 1))) (fun v_43 S_44 => (0, 1, S_44)) := if_neg i10
    rw [e]
    refine anch 9 3 (Or.inr ⟨rfl, rfl⟩) ?_
    unfold rdS
    rw [if_neg n1, if_neg n2, if_neg c94, if_pos c36]
  rw [take_n (x := 36) (by rw [kk]; exact c36)]
  have e36 : (gLt ((0, S) : Int × CSt) (fun v_12 S_13 => (if v_12 = 0 then (gLt (K3_takeOpening 61 S_13) (fun v_19 S_20 => (if v_19 = 0 then (gLt (K3_takeOpening 33 S_20) (fun v_26 S_27 => (if v_26 = 0 then (gBd (K3_readCountedAtom G d S_27) (fun v_31 S_32 => (0, v_31, S_32))) else (gBd (K3_readLook G 15 16 d S_27) (fun v_35 S_36 => (0, v_35, S_36)))))) else (gBd (K3_readLook G 13 14 d S_20) (fun v_39 S_40 => (0, v_39, S_40)))))) else (gBd (K2_add 3 (-1) (-1) S_13) (fun v_43 S_44 => (0, 1, S_44)))))) = gLt (K3_takeOpening 61 S) (fun v_19 S_20 => (if v_19 = 0 then (gLt (K3_takeOpening 33 S_20) (fun v_26 S_27 => (if v_26 = 0 then (gBd (K3_readCountedAtom G d S_27) (fun v_31 S_32 => (0, v_31, S_32))) else (gBd (K3_readLook G 15 16 d S_27) (fun v_35 S_36 => (0, v_35, S_36)))))) else (gBd (K3_readLook G 13 14 d S_20) (fun v_39 S_40 => (0, v_39, S_40))))) := if_pos rfl
  rw [e36]
  have op : ∀ x : Int, K3_takeOpening x S = (if M_sign T (T.1 24) = 40 then (if M_sign T (T.1 24 + 1) = 63 then (if M_sign T (T.1 24 + 1 + 1) = x then (1, ci S 8 3 (T.1 24 + 3)) else (0, S)) else (0, S)) else (0, S)) := fun x => by
    unfold K3_takeOpening
    rw [e1, e3 _ e2, e3 _ (by omega), e3 _ (by omega), show T.1 24 + 2 = T.1 24 + 1 + 1 by omega]
  have no61 : ¬ (M_sign T (T.1 24) = 40 ∧ M_sign T (T.1 24 + 1) = 63 ∧ M_sign T (T.1 24 + 1 + 1) = 61) → K3_takeOpening 61 S = (0, S) := fun hn => by
    rw [op 61]
    by_cases a : M_sign T (T.1 24) = 40
    · by_cases b : M_sign T (T.1 24 + 1) = 63
      · rw [if_pos a, if_pos b, if_neg (fun c => hn ⟨a, b, c⟩)]
      · rw [if_pos a, if_neg b]
    · rw [if_neg a]
  have no33 : ¬ (M_sign T (T.1 24) = 40 ∧ M_sign T (T.1 24 + 1) = 63 ∧ M_sign T (T.1 24 + 1 + 1) = 33) → K3_takeOpening 33 S = (0, S) := fun hn => by
    rw [op 33]
    by_cases a : M_sign T (T.1 24) = 40
    · by_cases b : M_sign T (T.1 24 + 1) = 63
      · rw [if_pos a, if_pos b, if_neg (fun c => hn ⟨a, b, c⟩)]
      · rw [if_pos a, if_neg b]
    · rw [if_neg a]
  by_cases k61 : M_sign T (T.1 24) = 40 ∧ M_sign T (T.1 24 + 1) = 63 ∧ M_sign T (T.1 24 + 1 + 1) = 61
  · have o1 : K3_takeOpening 61 S = (1, ci S 8 3 (T.1 24 + 3)) := by rw [op 61, if_pos k61.1, if_pos k61.2.1, if_pos k61.2.2]
    rw [o1]
    have e : (gLt ((1, ci S 8 3 (T.1 24 + 3)) : Int × CSt) (fun v_19 S_20 => (if v_19 = 0 then (gLt (K3_takeOpening 33 S_20) (fun v_26 S_27 => (if v_26 = 0 then (gBd (K3_readCountedAtom G d S_27) (fun v_31 S_32 => (0, v_31, S_32))) else (gBd (K3_readLook G 15 16 d S_27) (fun v_35 S_36 => (0, v_35, S_36)))))) else (gBd (K3_readLook G 13 14 d S_20) (fun v_39 S_40 => (0, v_39, S_40)))))) = gBd (K3_readLook G 13 14 d (ci S 8 3 (T.1 24 + 3))) (fun v_39 S_40 => (0, v_39, S_40)) := if_neg i10
    rw [e]
    exact OUT_id (LOOK (p := 1) (q := 3) h0 hz hl g1 g2 k61.1 k61.2.1 (Or.inl ⟨rfl, rfl, rfl, rfl, k61.2.2⟩))
  rw [no61 k61]
  have e61 : (gLt ((0, S) : Int × CSt) (fun v_19 S_20 => (if v_19 = 0 then (gLt (K3_takeOpening 33 S_20) (fun v_26 S_27 => (if v_26 = 0 then (gBd (K3_readCountedAtom G d S_27) (fun v_31 S_32 => (0, v_31, S_32))) else (gBd (K3_readLook G 15 16 d S_27) (fun v_35 S_36 => (0, v_35, S_36)))))) else (gBd (K3_readLook G 13 14 d S_20) (fun v_39 S_40 => (0, v_39, S_40)))))) = gLt (K3_takeOpening 33 S) (fun v_26 S_27 => (if v_26 = 0 then (gBd (K3_readCountedAtom G d S_27) (fun v_31 S_32 => (0, v_31, S_32))) else (gBd (K3_readLook G 15 16 d S_27) (fun v_35 S_36 => (0, v_35, S_36))))) := if_pos rfl
  rw [e61]
  by_cases k33 : M_sign T (T.1 24) = 40 ∧ M_sign T (T.1 24 + 1) = 63 ∧ M_sign T (T.1 24 + 1 + 1) = 33
  · have o1 : K3_takeOpening 33 S = (1, ci S 8 3 (T.1 24 + 3)) := by rw [op 33, if_pos k33.1, if_pos k33.2.1, if_pos k33.2.2]
    rw [o1]
    have e : (gLt ((1, ci S 8 3 (T.1 24 + 3)) : Int × CSt) (fun v_26 S_27 => (if v_26 = 0 then (gBd (K3_readCountedAtom G d S_27) (fun v_31 S_32 => (0, v_31, S_32))) else (gBd (K3_readLook G 15 16 d S_27) (fun v_35 S_36 => (0, v_35, S_36)))))) = gBd (K3_readLook G 15 16 d (ci S 8 3 (T.1 24 + 3))) (fun v_35 S_36 => (0, v_35, S_36)) := if_neg i10
    rw [e]
    exact OUT_id (LOOK (p := 0) (q := 4) h0 hz hl g1 g2 k33.1 k33.2.1 (Or.inr ⟨rfl, rfl, rfl, rfl, k33.2.2⟩))
  rw [no33 k33]
  have e33 : (gLt ((0, S) : Int × CSt) (fun v_26 S_27 => (if v_26 = 0 then (gBd (K3_readCountedAtom G d S_27) (fun v_31 S_32 => (0, v_31, S_32))) else (gBd (K3_readLook G 15 16 d S_27) (fun v_35 S_36 => (0, v_35, S_36)))))) = gBd (K3_readCountedAtom G d S) (fun v_31 S_32 => (0, v_31, S_32)) := if_pos rfl
  rw [e33]
  refine OUT_id ?_
  by_cases c40 : M_sign T (T.1 24) = 40
  · by_cases c63 : M_sign T (T.1 24 + 1) = 63
    · by_cases c58 : M_sign T (T.1 24 + 1 + 1) = 58
      · exact NONCAP h0 hz hl g1 g2 c40 c63 c58
      · exact BADQ h0 hl g3 c40 c63 c58 (fun y => k61 ⟨c40, c63, y⟩) (fun y => k33 ⟨c40, c63, y⟩)
    · exact GROUP h0 hz hl g1 g2 c40 c63
  · exact LF_all h0 hl n0 g1 n1 n2 c94 c36 c40
/-- a row of terms up to its end -/
def ROWO (f d : Int) (T : MSt) (S : CSt) (F E : Nat → Nat) (R : Nat → Int) (wt : Int) (r : CR) : Prop :=
  (r.1 = 1 ∧ ∃ T1, goR T T1 ∧ dmR T1) ∨
  (r.1 = 0 ∧ ∃ T' F' E' R', goR T T' ∧ RR f d T' r.2.2 F' ∧ frB T T' (r.2.1 - wt) ∧ XT T S F E R T' r.2.2 F' E' R' ∧ SEG f T' r.2.2 F' E' R' (T.1 19).toNat (T'.1 19).toNat (T.1 21) (T'.1 21) (T.1 22) (T'.1 22) (T.1 20) (T'.1 20) ∧ 3 * (R' (T'.1 19).toNat - R' (T.1 19).toNat) ≤ r.2.1 - wt ∧ 0 ≤ r.2.1 - wt ∧ (M_sign T' (T'.1 24) = 0 ∨ M_sign T' (T'.1 24) = 124 ∨ M_sign T' (T'.1 24) = 41))
theorem ROWO_nil {f d : Int} {T : MSt} {S : CSt} {F E : Nat → Nat} {R : Nat → Int} {wt : Int} (h : RR f d T S F) (he : M_sign T (T.1 24) = 0 ∨ M_sign T (T.1 24) = 124 ∨ M_sign T (T.1 24) = 41) : ROWO f d T S F E R wt (0, wt, S) := by
  have fb : frB T T (wt - wt) := by rw [show wt - wt = 0 by omega]; exact frB_refl
  exact Or.inr ⟨rfl, T, F, E, R, goR_refl, h, fb, XT_refl, SEG_nil, by show 3 * (R (T.1 19).toNat - R (T.1 19).toNat) ≤ wt - wt; omega, by show 0 ≤ wt - wt; omega, he⟩
theorem ROW {G : Int → CSt → CR} {f d : Int} (hG : HGo G f d) : ∀ (n : Nat) (wt i : Int) (T : MSt) (S : CSt) (F E : Nat → Nat) (R : Nat → Int), RR f d T S F → NZ T → (n : Int) + i = 40 → i ≤ T.1 24 → ROWO f d T S F E R wt (K3_rowL G d n wt i S)
  | 0, wt, i, T, S, F, E, R, h, hz, hn, hi => by
    rw [K3_rowL]
    refine ROWO_nil h (Or.inl ?_)
    have k0 := h.2.2.1.2.2.2.1
    unfold M_sign
    rw [if_pos (by omega)]
  | n + 1, wt, i, T, S, F, E, R, h, hz, hn, hi => by
    have h0 := h
    obtain ⟨⟨e1, e2, e3⟩, h25, hD, hsg, hlen, hg, hlp, hlk, hgr, hsz, hcd, hd, hf, hv⟩ := h
    have kk : K4_at 2 (S.1 8 3) S = M_sign T (T.1 24) := by rw [e1]; exact e3 _ e2
    rw [K3_rowL, if_neg (show ¬ 40 ≤ i by omega)]
    have go : K3_rowGoesOn S = (if M_sign T (T.1 24) = 0 then 0 else (if M_sign T (T.1 24) = 124 then 0 else (if M_sign T (T.1 24) = 41 then 0 else 1 : Int) : Int) : Int) := by
      unfold K3_rowGoesOn
      rw [kk]
    by_cases n0 : M_sign T (T.1 24) = 0
    · rw [if_pos (by rw [go, if_pos n0])]
      exact ROWO_nil h0 (Or.inl n0)
    by_cases n1 : M_sign T (T.1 24) = 124
    · rw [if_pos (by rw [go, if_neg n0, if_pos n1])]
      exact ROWO_nil h0 (Or.inr (Or.inl n1))
    by_cases n2 : M_sign T (T.1 24) = 41
    · rw [if_pos (by rw [go, if_neg n0, if_neg n1, if_pos n2])]
      exact ROWO_nil h0 (Or.inr (Or.inr n2))
    rw [if_neg (by rw [go, if_neg n0, if_neg n1, if_neg n2]; decide)]
    have hR := (K3_readTerm_R hG.1 (dp := d) hv (by rw [kk]; exact n0)).2.2.1
    rcases TERM (E := E) (R := R) h0 hz hG n0 n1 n2 with ⟨h1, T1, g1, g2⟩ | ⟨h1, T1, F1, E1, R1, g1, g2, g3, g4, g5, g6, g7⟩
    · exact Or.inl ⟨bd_1 h1, T1, g1, g2⟩
    · have e : gBd (K3_readTerm G d S) (fun v_10 S_11 => K3_rowL G d n (wt + v_10) (i + 1) S_11) = K3_rowL G d n (wt + (K3_readTerm G d S).2.1) (i + 1) (K3_readTerm G d S).2.2 := if_pos h1
      rw [e]
      have st := (hR h1).2.2.2
      generalize K3_readTerm G d S = r at h1 g2 g3 g4 g5 g6 g7 st
      have s1 := g2.1.1
      have z1 : NZ T1 := NZ_of hz (g3.2.2.2.2.1 14 (by omega)) (g3.2.2.2.2.2 13 (by omega))
      rcases ROW hG n (wt + r.2.1) (i + 1) T1 r.2.2 F1 E1 R1 g2 z1 (by omega) (by omega) with ⟨q1, T2, q2, q3⟩ | ⟨q1, T2, F2, E2, R2, q2, q3, q4, q5, q6, q7, q8, q9⟩
      · exact Or.inl ⟨q1, T2, goR_trans g1 q2, q3⟩
      · refine Or.inr ⟨q1, T2, F2, E2, R2, goR_trans g1 q2, q3, ?_, XT_trans g4 q5, ?_, ?_, ?_, q9⟩
        · have := frB_trans hD.1 g3 q4
          rw [show r.2.1 + ((K3_rowL G d n (wt + r.2.1) (i + 1) r.2.2).2.1 - (wt + r.2.1)) = (K3_rowL G d n (wt + r.2.1) (i + 1) r.2.2).2.1 - wt by omega] at this
          exact this
        · obtain ⟨r1, r2, r3, r4, r5, r6, r7, r8, r9, r10, r11, -⟩ := g2
          have hx := q5
          obtain ⟨x1, x2, x3, x4, x5, x6, x7, x8, x9, x10, x11, x12⟩ := g4
          obtain ⟨y1, y2, y3, y4, y5, y6, y7, y8, y9, y10, y11, y12⟩ := q5
          exact SEG_app x11 y11 x12 y12 x10 y10 (SEG_X hlp.2.1 (q4.2.2.2.2.2 13 (by omega)) (by omega) (by rw [r10.1]) r7.1.symm hx g5) q6
        · have z1 := (q5.2.2.1 (T1.1 19).toNat (by have := g2.2.2.2.2.2.2.2.2.2.2.1.1; omega)).2
          have z2 := (q5.2.2.1 (T.1 19).toNat (by have := g4.1; omega)).2
          omega
        · omega
