theorem RR_o {f d : Int} {T : MSt} {S S' : CSt} {F F' : Nat → Nat} (h : RR f d T S F) (so : ∀ n, n ≠ 27 → S'.1 n = S.1 n) (hF : F' (T.1 19).toNat = F (T.1 19).toNat) (hV : rV S') : RR f d T S' F' := by
  obtain ⟨⟨e1, e2, e3⟩, h25, hD, hsg, hlen, hg, hlp, hlk, hgr, hsz, hcd, hd, hf, hv⟩ := h
  have ek : ∀ k, K4_at 2 k S' = K4_at 2 k S := fun k => by
    unfold K4_at
    rw [so 2 (by decide), so (11 + 2) (by decide)]
  refine ⟨⟨by rw [so 8 (by decide)]; exact e1, e2, fun k hk => by rw [ek]; exact e3 k hk⟩, h25, hD, hsg, ?_, ?_, ?_, ?_, ?_, ?_, hcd, hd, ?_, hV⟩
  · rw [so 2 (by decide)]; exact hlen
  · rw [so 7 (by decide)]; exact hg
  · rw [so 7 (by decide)]; exact hlp
  · rw [so 7 (by decide)]; exact hlk
  · rw [so 8 (by decide)]; exact hgr
  · rw [so 7 (by decide), hF]; exact hsz
  · rw [so 7 (by decide)]; exact hf
set_option maxHeartbeats 8000000 in
/-- the body's last alternative has ended -/
theorem ALT_end {f d : Int} {T0 T : MSt} {S0 S : CSt} {F0 F E0 E : Nat → Nat} {R0 R : Nat → Int} {b m : Nat} {gs : List Nat} {bg wt j : Int} (h : ALTI f d T0 S0 F0 E0 R0 b T S F E R gs m bg wt j) (hs : M_sign T (T.1 24) = 0 ∨ M_sign T (T.1 24) = 41) (hgo : goR T0 T) (hV : rV (K2_aimChainAt 7 j (S.1 7 5) S)) : BOUT f d T0 S0 F0 E0 R0 b (0, wt, K2_aimChainAt 7 j (S.1 7 5) S) := by
  obtain ⟨a1, a2, a3, ⟨li, kk, gm, pre, ⟨w1, w2, w3⟩, seg⟩, a5, a6, a7, a8, a9, a10, a11, a12, a13, a14, a15⟩ := h
  have rr := a1
  obtain ⟨⟨e1, e2, e3⟩, h25, hD, hsg, hlen, hg, hlp, hlk, hgr, hsz, hcd, hd, hf, hv⟩ := a1
  have hz1 := hsz.1
  have hz2 := hsz.2
  have k0 := hD.2.2
  have mg : m + 1 ≤ (T.1 19).toNat := by omega
  have Fmg : F (m + 1) ≤ F (T.1 19).toNat := CERT_le seg.2.2.2.2.2.2 (Nat.le_refl _) mg (Nat.le_refl _)
  obtain ⟨p1, p2, p3, -⟩ := id pre
  obtain ⟨n1, n2, n3⟩ := clo_np (T := T) (gs := gs) (m := m) hcd.1 (by omega) a9 (by omega)
  have len := CH_len a10
  obtain ⟨c27, cO, c2⟩ := chain_CH (am := S.1 7 5) (gs.map F) 96 (F m) j 0 S a10 (by omega) (by omega) (by omega) (by omega) (by omega)
  have eY : K2_aimChainAt 7 j (S.1 7 5) S = K2_aimChainL 7 (S.1 7 5) 96 j 0 S := rfl
  rw [eY] at hV ⊢
  generalize K2_aimChainL 7 (S.1 7 5) 96 j 0 S = Y at c27 cO c2 hV
  obtain ⟨o1, o2, o3, o4⟩ := clo_o T
  have yq : ∀ i k : Nat, ¬ (i = 1 ∧ k ∈ gs.map F) → cqR Y i k = cqR S i k := fun i k hn => by
    by_cases c : i = 1
    · subst c
      show Y.1 27 k = S.1 27 k
      rw [c27]
      show (if k ∈ gs.map F then S.1 7 5 else S.1 27 k) = _
      rw [if_neg (fun y => hn ⟨rfl, y⟩)]
    · show Y.1 (26 + i) k = S.1 (26 + i) k
      rw [cO (26 + i) (by omega)]
  have yq1 : ∀ x, x ∈ gs → cqR Y 1 (F x) = S.1 7 5 := fun x hx => by
    show Y.1 27 (F x) = _
    rw [c27]
    show (if F x ∈ gs.map F then S.1 7 5 else S.1 27 (F x)) = _
    rw [if_pos (List.mem_map.mpr ⟨x, hx, rfl⟩)]
  have yw : ∀ i k, cwR Y i k = cwR S i k := fun i k => by
    show Y.2.1 (26 + i) k = S.2.1 (26 + i) k
    rw [c2]
  have mem : ∀ k, k ∈ gs.map F → F b ≤ k := fun k hk => by
    obtain ⟨x, hx, e⟩ := List.mem_map.mp hk
    have := p3 x hx
    omega
  have g1 : (fu F ((T.1 19).toNat + 1) (F (T.1 19).toNat)) ((T.1 19).toNat + 1) = F (T.1 19).toNat := fu_eq
  have g2 : ∀ k, k ≤ (T.1 19).toNat → (fu F ((T.1 19).toNat + 1) (F (T.1 19).toNat)) k = F k := fun k hk => fu_ne (by omega)
  have r1 : (zu R ((T.1 19).toNat + 1) (R (T.1 19).toNat)) ((T.1 19).toNat + 1) = R (T.1 19).toNat := zu_eq
  have r2 : ∀ k, k ≤ (T.1 19).toNat → (zu R ((T.1 19).toNat + 1) (R (T.1 19).toNat)) k = R k := fun k hk => zu_ne (by omega)
  generalize fu F ((T.1 19).toNat + 1) (F (T.1 19).toNat) = F2 at g1 g2
  generalize zu R ((T.1 19).toNat + 1) (R (T.1 19).toNat) = R2 at r1 r2
  have sg := PRE_end (T' := clo T) (S' := Y) (F' := F2) (E' := E) (R' := R2) (g := (T.1 19).toNat) pre w1 w2 w3 (by omega) seg a5 a6 a7 (o3 13 (by omega)) (fun i k hi _ hk hn => n1 i k hi (by omega) hn) (fun x hx => by rw [n2 x hx]; omega) ⟨n3.1, by rw [n3.2.1]; omega, n3.2.2.1, n3.2.2.2⟩ (fun k _ hk => ⟨g2 k hk, r2 k hk⟩) ⟨g1, r1⟩ (fun _ _ _ => rfl) (fun i k hi _ hk hn => yq i k (fun y => hn ⟨y.1, by
    obtain ⟨x, hx, e⟩ := List.mem_map.mp y.2
    exact ⟨x, hx, e.symm⟩⟩)) (fun x hx => by rw [yq1 x hx]; exact hz1) (fun i k _ _ _ => yw i k) (fun i c _ _ h5 _ => yq i c (by omega))
  have eFb := (a2.1.2.2.1 b (Nat.le_refl _)).1
  refine Or.inr ⟨rfl, T, F2, E, R2, hgo, RR_o rr cO (g2 _ (Nat.le_refl _)) hV, hs, ?_, a12, sg, ?_, ?_, a14, ?_, fun i k hi hk => n1 i k hi (by omega) (fun y => ?_)⟩
  · obtain ⟨⟨b1, b2, b3, b4⟩, ⟨d1, d2, d3, d4, d5⟩, dd, g⟩ := a2
    refine ⟨⟨b1, b2, fun k hk => ⟨(g2 k (by omega)).trans (b3 k hk).1, (r2 k (by omega)).trans (b3 k hk).2⟩, b4⟩, ⟨?_, fun i k hi hk => (yq i k (fun y => ?_)).trans (d2 i k hi hk), fun i k hi hk => (yw i k).trans (d3 i k hi hk), ?_, fun i c hc h5 h8 => (yq i c (by omega)).trans (d5 i c hc h5 h8)⟩, dd, g⟩
    · show S0.1 7 5 ≤ Y.1 7 5
      rw [cO 7 (by decide)]; exact d1
    · have := mem k y.2
      omega
    · show S0.1 7 10 ≤ Y.1 7 10
      rw [cO 7 (by decide)]; exact d4
  · rw [g1, g2 _ (Nat.le_refl _)]
  · show 3 * (R2 ((T.1 19).toNat + 1) - R2 b) ≤ wt
    rw [r1, r2 b (by omega)]; exact a13
  · rw [n1 0 b (by omega) (by omega) (by omega)]; exact a15
  · have := p3 k y.2
    omega
set_option maxHeartbeats 8000000 in
/-- the alternatives of a body in both -/
theorem ALT_all {G : Int → CSt → CR} {f d : Int} {T0 : MSt} {S0 : CSt} {F0 E0 : Nat → Nat} {R0 : Nat → Int} {b : Nat} (hG : HGo G f d) : ∀ (n : Nat) (bg wt j i : Int) (T : MSt) (S : CSt) (F E : Nat → Nat) (R : Nat → Int) (gs : List Nat) (m : Nat), ALTI f d T0 S0 F0 E0 R0 b T S F E R gs m bg wt j → (M_sign T (T.1 24) = 0 ∨ M_sign T (T.1 24) = 124 ∨ M_sign T (T.1 24) = 41) → NZ T → goR T0 T → (n : Int) + i = 40 → i ≤ T.1 24 → BOUT f d T0 S0 F0 E0 R0 b (K3_altL G d n bg wt j i S)
  | 0, bg, wt, j, i, T, S, F, E, R, gs, m, h, hs, hz, hgo, hn, hi => by
    rw [K3_altL]
    have rr := h.1
    have hv := rr.2.2.2.2.2.2.2.2.2.2.2.2.2
    have hsz := rr.2.2.2.2.2.2.2.2.2.1
    have k0 := rr.2.2.1.2.2
    have hd := rr.2.2.2.2.2.2.2.2.2.2.2.1
    refine ALT_end h (Or.inl ?_) hgo (rV_chain hv (by omega) (by omega))
    unfold M_sign
    rw [if_pos (by omega)]
  | n + 1, bg, wt, j, i, T, S, F, E, R, gs, m, h, hs, hz, hgo, hn, hi => by
    have rr := h.1
    obtain ⟨⟨e1, e2, e3⟩, h25, hD, hsg, hlen, hg, hlp, hlk, hgr, hsz, hcd, hd, hf, hv⟩ := rr
    have k0 := hD.2.2
    have hz1 := hsz.1
    have hz2 := hsz.2
    have kk : K4_at 2 (S.1 8 3) S = M_sign T (T.1 24) := by rw [e1]; exact e3 _ e2
    rw [K3_altL, if_neg (show ¬ 40 ≤ i by omega)]
    by_cases c124 : M_sign T (T.1 24) = 124
    · rw [take_y (x := 124) (by rw [kk]; exact c124)]
      have hl := sgn_lt (T := T) (k := T.1 24) (by omega)
      obtain ⟨-, -, a3, ⟨li, kk', gm, pre, w, seg⟩, -, a6, -, a8, -, a10, -⟩ := id h
      have Fmg : F (m + 1) ≤ F (T.1 19).toNat := CERT_le seg.2.2.2.2.2.2 (Nat.le_refl _) (by omega) (Nat.le_refl _)
      have jr := CH_lt a10
      have s75 : (ci S 8 3 (S.1 8 3 + 1)).1 7 5 = S.1 7 5 := by rw [ci_ne (by decide)]
      have v1 : rV (ci S 8 3 (S.1 8 3 + 1)) := rV_at hv (by omega) (by omega)
      have v2 : rV (addS 6 j (-1) (ci S 8 3 (S.1 8 3 + 1))) := rV_addS v1 (by omega) (by omega) (by decide) (by decide) (by omega) (by omega) (by decide) (by decide)
      have a75 : (addS 6 j (-1) (ci S 8 3 (S.1 8 3 + 1))).1 7 5 = S.1 7 5 + 1 := by rw [addS_75, s75]
      have v3 : rV (addS 5 (-1) (-1) (addS 6 j (-1) (ci S 8 3 (S.1 8 3 + 1)))) := rV_addS v2 (by omega) (by omega) (by decide) (by decide) (by decide) (by decide) (by decide) (by decide)
      have i1 : ¬ K2_isInstruction 7 bg (addS 5 (-1) (-1) (addS 6 j (-1) (ci S 8 3 (S.1 8 3 + 1)))) = 0 := by
        unfold K2_isInstruction
        rw [addS_75, a75, if_neg (by omega), if_neg (by omega), if_neg (by omega)]
        decide
      have ea : K2_aimAt 7 bg (S.1 7 5 + 1) (addS 5 (-1) (-1) (addS 6 j (-1) (ci S 8 3 (S.1 8 3 + 1)))) = barS j bg S := by
        unfold K2_aimAt barS
        rw [if_neg i1]
        rfl
      have vb : rV (barS j bg S) := by
        rw [← ea]
        exact rV_aim v3 (by omega) (by omega)
      have e : (gLt ((1, ci S 8 3 (S.1 8 3 + 1)) : Int × CSt) (fun v_13 S_14 => (if v_13 = 0 then (0, wt, (K2_aimChainAt 7 j (S_14.1 7 5) S_14)) else (gBd (K2_add 6 j (-1) S_14) (fun v_25 S_26 => (gBd (K2_add 5 (-1) (-1) S_26) (fun v_29 S_30 => (gBd (K3_readRow G d (K2_aimAt 7 bg v_29 S_30)) (fun v_36 S_37 => K3_altL G d n v_29 (wt + (1 + v_36)) v_25 (i + 1) S_37))))))))) = gBd (K3_readRow G d (barS j bg S)) (fun v_36 S_37 => K3_altL G d n (S.1 7 5 + 1) (wt + (1 + v_36)) (S.1 7 5) (i + 1) S_37) := by
        refine (if_neg i10).trans ?_
        show gBd (K2_add 6 j (-1) (ci S 8 3 (S.1 8 3 + 1))) _ = _
        rw [K2_addQ (by omega) (by omega)]
        refine (if_pos rfl).trans ?_
        show gBd (K2_add 5 (-1) (-1) (addS 6 j (-1) (ci S 8 3 (S.1 8 3 + 1)))) _ = _
        rw [K2_addQ (by omega) (by omega)]
        refine (if_pos rfl).trans ?_
        show gBd (K3_readRow G d (K2_aimAt 7 bg ((addS 6 j (-1) (ci S 8 3 (S.1 8 3 + 1))).1 7 5) (addS 5 (-1) (-1) (addS 6 j (-1) (ci S 8 3 (S.1 8 3 + 1)))))) (fun v_36 S_37 => K3_altL G d n ((addS 6 j (-1) (ci S 8 3 (S.1 8 3 + 1))).1 7 5) (wt + (1 + v_36)) ((ci S 8 3 (S.1 8 3 + 1)).1 7 5) (i + 1) S_37) = _
        rw [a75, s75, ea]
      rw [e]
      obtain ⟨go, hb⟩ := ALT_bar h c124 vb
      have t24 : (rdS T).1 24 = S.1 8 3 + 1 := by
        have q := hb.1.1.1
        have q' := (barS_f (j := j) (bg := bg) (S := S)).2.2.1
        omega
      have zz : NZ (rdS T) := NZ_of hz ((alt_f hcd.1 h.2.2.2.2.2.2.2.2.2.2.1 (by omega) c124).1.2.2 14 (by decide) (by decide)) ((alt_f hcd.1 h.2.2.2.2.2.2.2.2.2.2.1 (by omega) c124).2.1 13 (by omega))
      have row := ROW hG 40 0 0 (rdS T) (barS j bg S) (fu (fu F ((T.1 19).toNat + 1) (F (T.1 19).toNat + 1)) ((T.1 19).toNat + 2) (F (T.1 19).toNat + 2)) E (zu (zu R ((T.1 19).toNat + 1) (R (T.1 19).toNat)) ((T.1 19).toNat + 2) (R (T.1 19).toNat)) hb.1 zz (by decide) (by omega)
      have hR := (K3_readRow_R hG.1 (dp := d) vb).2.2.1
      have b83 := (barS_f (j := j) (bg := bg) (S := S)).2.2.1
      rcases ALT_row hb row with ⟨q1, T1, q2, q3⟩ | ⟨q1, T1, F1, E1, R1, q2, q3, q4⟩
      · exact Or.inl ⟨bd_1 q1, T1, goR_trans hgo (goR_trans go q2), q3⟩
      · have e2 : gBd (K3_readRow G d (barS j bg S)) (fun v_36 S_37 => K3_altL G d n (S.1 7 5 + 1) (wt + (1 + v_36)) (S.1 7 5) (i + 1) S_37) = K3_altL G d n (S.1 7 5 + 1) (wt + (1 + (K3_rowL G d 40 0 0 (barS j bg S)).2.1)) (S.1 7 5) (i + 1) (K3_rowL G d 40 0 0 (barS j bg S)).2.2 := if_pos q1
        rw [e2]
        have st := (hR q1).2.1
        have st' : (barS j bg S).1 8 3 ≤ (K3_rowL G d 40 0 0 (barS j bg S)).2.2.1 8 3 := st
        have s1 := q3.1.1.1
        have z1 : NZ T1 := NZ_of hz (by
          have x1 := q3.2.1.2.2.2.2.2.2.1 14 (by omega)
          have x2 := h.2.1.2.2.2.2.2.2.1 14 (by omega)
          rw [x1, x2]) (by
          have x1 := q3.2.1.2.2.2.2.2.2.2 13 (by omega)
          have x2 := h.2.1.2.2.2.2.2.2.2 13 (by omega)
          rw [x1, x2])
        rw [show wt + (1 + (K3_rowL G d 40 0 0 (barS j bg S)).2.1) = wt + 1 + (K3_rowL G d 40 0 0 (barS j bg S)).2.1 by omega]
        exact ALT_all hG n _ _ _ _ T1 _ F1 E1 R1 _ _ q3 q4 z1 (goR_trans hgo (goR_trans go q2)) (by omega) (by omega)
    · rw [take_n (x := 124) (by rw [kk]; exact c124)]
      have e : (gLt ((0, S) : Int × CSt) (fun v_13 S_14 => (if v_13 = 0 then (0, wt, (K2_aimChainAt 7 j (S_14.1 7 5) S_14)) else (gBd (K2_add 6 j (-1) S_14) (fun v_25 S_26 => (gBd (K2_add 5 (-1) (-1) S_26) (fun v_29 S_30 => (gBd (K3_readRow G d (K2_aimAt 7 bg v_29 S_30)) (fun v_36 S_37 => K3_altL G d n v_29 (wt + (1 + v_36)) v_25 (i + 1) S_37))))))))) = (0, wt, K2_aimChainAt 7 j (S.1 7 5) S) := if_pos rfl
      rw [e]
      exact ALT_end h (by omega) hgo (rV_chain hv (by omega) (by omega))
/-- A BODY in both -/
theorem BODY {G : Int → CSt → CR} {f d : Int} {T : MSt} {Sd : CSt} {F E : Nat → Nat} {R : Nat → Int} {b : Nat} (hG : HGo G f d) (h : BIN f d T (addS 5 (-1) (-1) Sd) F R b) (hz : NZ T) : BOUT f d T (addS 5 (-1) (-1) Sd) F E R b (K3_readAlternatives G d Sd) := by
  have rr := h.1
  obtain ⟨⟨e1, e2, e3⟩, h25, hD, hsg, hlen, hg, hlp, hlk, hgr, hsz, hcd, hd, hf, hv⟩ := rr
  have k0 := hD.2.2
  have hz1 := hsz.1
  have hz2 := hsz.2
  have h19 := h.2.1
  have h4 := h.2.2.2.1
  rw [show (T.1 19).toNat = b + 1 by omega, addS_75] at hz1
  rw [addS_75] at hz2
  have e : K3_readAlternatives G d Sd = gBd (K3_readRow G d (addS 5 (-1) (-1) Sd)) (fun v_7 S_8 => K3_altL G d 40 (Sd.1 7 5) v_7 (-1) 0 S_8) := by
    unfold K3_readAlternatives
    rw [K2_addQ (by omega) (by omega)]
    exact if_pos rfl
  rw [e]
  have row := ROW (E := E) (R := R) hG 40 0 0 T (addS 5 (-1) (-1) Sd) F h.1 hz (by decide) (by omega)
  have hb := ALT_bin (E := E) h
  rw [show ((F b : Nat) : Int) = Sd.1 7 5 by omega] at hb
  rcases ALT_row hb row with ⟨q1, T1, q2, q3⟩ | ⟨q1, T1, F1, E1, R1, q2, q3, q4⟩
  · exact Or.inl ⟨bd_1 q1, T1, q2, q3⟩
  · have e2 : gBd (K3_readRow G d (addS 5 (-1) (-1) Sd)) (fun v_7 S_8 => K3_altL G d 40 (Sd.1 7 5) v_7 (-1) 0 S_8) = K3_altL G d 40 (Sd.1 7 5) (K3_rowL G d 40 0 0 (addS 5 (-1) (-1) Sd)).2.1 (-1) 0 (K3_rowL G d 40 0 0 (addS 5 (-1) (-1) Sd)).2.2 := if_pos q1
    rw [e2]
    have z1 : NZ T1 := NZ_of hz (q3.2.1.2.2.2.2.2.2.1 14 (by omega)) (q3.2.1.2.2.2.2.2.2.2 13 (by omega))
    have t1 := q3.1.1.2.1
    rw [show (0 : Int) + (K3_rowL G d 40 0 0 (addS 5 (-1) (-1) Sd)).2.1 = (K3_rowL G d 40 0 0 (addS 5 (-1) (-1) Sd)).2.1 by omega] at q3
    exact ALT_all hG 40 _ _ _ 0 T1 _ F1 E1 R1 _ _ q3 q4 z1 q2 (by decide) t1
/-- the class's whole recursion -/
theorem AL_all {f : Int} : ∀ (n : Nat) (d : Int), d + n = 9 → ∀ (T : MSt) (Sd : CSt) (F E : Nat → Nat) (R : Nat → Int) (b : Nat), BIN f d T (addS 5 (-1) (-1) Sd) F R b → NZ T → BOUT f d T (addS 5 (-1) (-1) Sd) F E R b (K3_al n d Sd)
  | 0, d, hd, T, Sd, F, E, R, b, h, hz => by
    have := h.1.2.2.2.2.2.2.2.2.2.2.2.1
    omega
  | n + 1, d, hd, T, Sd, F, E, R, b, h, hz => by
    rw [K3_al]
    exact BODY ⟨K3_al_R n, fun _ => fun T Sd F E R b h hz _ => AL_all n (d + 1) (by omega) T Sd F E R b h hz, fun S dp hq => Q63 n S dp hq⟩ h hz
