/-- the reference's state as its reading begins -/
def opT (T : MSt) : MSt := M_openBody 0 0 (mi (mi (mi (mi (mi (mi (mi (mi T 19 0) 20 0) 21 0) 22 0) 23 0) 24 0) 25 0) 32 0)
theorem reads_eq (T : MSt) : M_reads T = M_readsL 100 (opT T) := rfl
/-- what both have read -/
def RDo (fl : Int) (T' : MSt) (S' : CSt) : Prop := ∃ (F E : Nat → Nat) (R : Nat → Int) (n : Nat), T'.1 19 = (n + 1 : Nat) ∧ SEG fl T' S' F E R 0 n 0 (T'.1 21) 0 (T'.1 22) 0 (T'.1 20) ∧ (np T' 0 n = 16 ∧ np T' 1 n = 0 ∧ np T' 2 n = 0 ∧ np T' 3 n = 0) ∧ F 0 = 0 ∧ S'.1 7 5 = (F n + 1 : Nat) ∧ F n + 1 ≤ 96 ∧ S'.1 26 (F n) = 0 ∧ (S'.1 7 10 = T'.1 21 ∧ T'.1 21 ≤ 20) ∧ T'.1 22 ≤ 10 ∧ (R 0 = 0 ∧ R n ≤ 40) ∧ n + 1 ≤ 125 ∧ (S'.1 7 12 = T'.1 20 ∧ 0 ≤ T'.1 20 ∧ T'.1 20 ≤ 9) ∧ S'.1 7 13 = fl
/-- what both begin to read with -/
def RIn (T : MSt) (S : CSt) : Prop := S.1 2 1 = T.1 14 ∧ (0 ≤ T.1 14 ∧ T.1 14 ≤ 40) ∧ (∀ k, 0 ≤ k → K4_at 2 k S = M_sign T k) ∧ NZ T ∧ (∀ j, 0 ≤ T.2 13 j ∧ T.2 13 j ≤ 126) ∧ (∀ j, 0 ≤ S.1 13 j ∧ S.1 13 j ≤ 126) ∧ pB 7 S ∧ rQ S
theorem BIN_top {fl : Int} {T : MSt} {S : CSt} (h : RIn T S) (f0 : 0 ≤ fl) (f7 : fl ≤ 7) : BIN fl 0 (opT T) (addS 5 (-1) (-1) (K3_r0 fl S)) (fun k => k) (fun _ => 0) 0 ∧ NZ (opT T) ∧ VRd 100 (opT T) ∧ rV (K3_r0 fl S) := by
  obtain ⟨h1, h2, h3, h4, h5, h6, h7, h8⟩ := h
  have hv : rV (K3_r0 fl S) := rV_r0 h7 (by omega) (by omega) h6 h8.1.1.1 h8.1.1.2 h8.1.2.1.1 h8.1.2.1.2 h8.1.2.2 f0 f7
  have vr := VRd_0 (S := T) h2 h5
  have hD : DMi (opT T) := by
    rcases vr with ⟨-, q, -⟩ | ⟨q, -⟩
    · exact q.1
    · exact absurd q (show ¬ (0 : Int) = 1 by decide)
  have sg : M_sign (opT T) = M_sign T := rfl
  have k75 : (K3_r0 fl S).1 7 5 = 0 := rfl
  have a75 : (addS 5 (-1) (-1) (K3_r0 fl S)).1 7 5 = 1 := by rw [addS_75, k75]; rfl
  have ek : ∀ k, K4_at 2 k (addS 5 (-1) (-1) (K3_r0 fl S)) = K4_at 2 k S := fun k => by
    rw [addS_at]; rfl
  have hva : rV (addS 5 (-1) (-1) (K3_r0 fl S)) := rV_addS hv (by omega) (by omega) (by decide) (by decide) (by decide) (by decide) (by decide) (by decide)
  have hrange : ∀ k, 0 ≤ M_sign T k ∧ M_sign T k ≤ 126 := fun k => by
    unfold M_sign
    by_cases c : T.1 14 ≤ k
    · rw [if_pos c]; decide
    · rw [if_neg c]; exact h5 _
  have ac := addS_c (kd := 5) (am := -1) (nb := -1) (S := K3_r0 fl S) (k := 0)
  refine ⟨⟨⟨⟨?_, by show (0 : Int) ≤ 0; decide, fun k hk => ?_⟩, rfl, hD, ?_, ?_, ?_, ?_, ?_, ?_, ?_, ?_, ?_, ?_, hva⟩, rfl, ⟨rfl, rfl, rfl, rfl⟩, ⟨rfl, rfl⟩, ⟨?_, ?_⟩, ⟨rfl, rfl, rfl⟩⟩, ?_, vr, hv⟩
  · rw [addS_o (by omega)]; rfl
  · rw [ek, sg]; exact h3 k hk
  · rw [sg]; exact hrange
  · rw [addS_o (by omega)]; exact h1
  · rw [addS_7 (by decide)]; exact ⟨rfl, by show (0 : Int) ≤ 0; decide, by show (0 : Int) ≤ 9; decide⟩
  · rw [addS_7 (by decide)]; exact ⟨rfl, by show (0 : Int) ≤ 0; decide, by show 2 * (0 : Int) ≤ 0; decide⟩
  · rw [addS_7 (by decide)]; exact ⟨rfl, by show (0 : Int) ≤ 0; decide, by show 4 * (0 : Int) ≤ 0 + 0; decide⟩
  · rw [addS_o (by omega)]; rfl
  · rw [a75]; exact ⟨rfl, by show (1 : Int) ≤ 2 * 0 + 1 + 0; decide⟩
  · exact ⟨by show (0 : Int) ≤ 1; decide, by show (1 : Int) ≤ 3 * 0 + 1; decide⟩
  · exact ⟨rfl, by decide, by decide⟩
  · rw [addS_7 (by decide)]; rfl
  · exact ac.1.trans (if_pos rfl)
  · exact ac.2.1.trans (if_pos rfl)
  · exact NZ_of h4 rfl rfl
theorem SEG_emit {fl : Int} {T : MSt} {S : CSt} {F E : Nat → Nat} {R : Nat → Int} {n : Nat} {hi ki gi w x y z kd am nb v : Int} (hn : (n : Int) = T.1 19) (hz : S.1 7 5 = (F n : Int)) (h : SEG fl T S F E R 0 n 0 hi 0 ki 0 gi) : SEG fl (M_emit w x y z (mi T 32 v)) (addS kd am nb S) F E R 0 n 0 hi 0 ki 0 gi := by
  refine SEG_cong (T := T) (S := S) (F := F) (E := E) (R := R) (Int.le_refl _) rfl (fun j k hj _ hk => ?_) (fun _ _ _ => rfl) (fun _ _ _ => rfl) (fun _ _ _ => rfl) (fun j k _ hk hj => ?_) (fun j k hj _ hk => rfl) (fun j c _ _ h5 _ => addS_l h5) h
  · have e : (mi T 32 v).1 19 = T.1 19 := rfl
    rw [np_emit (by rw [e]; omega)]
    rfl
  · exact addS_lo hj (by omega)
set_option maxHeartbeats 4000000 in
/-- READING, in both -/
theorem READ_all {fl : Int} {T : MSt} {S : CSt} (h : RIn T S) (f0 : 0 ≤ fl) (f7 : fl ≤ 7) : ((K3_read fl S).1 = 1 ∧ (M_reads T).1 = 0) ∨ ((K3_read fl S).1 = 0 ∧ (M_reads T).1 = 1 ∧ RDo fl (M_reads T).2 (K3_read fl S).2.2) := by
  obtain ⟨hB, hz, hV, hv⟩ := BIN_top h f0 f7
  have rv := read_V 100 (opT T) hV
  have more : ∀ T1, goR (opT T) T1 → M_reads T = M_readsL 100 T1 := fun T1 g => by
    obtain ⟨j, -, g2⟩ := g
    rw [reads_eq, ← rv.2.2.2 j, g2]
  rw [K3_read_eq]
  rcases AL_all (f := fl) 9 0 (by decide) (opT T) (K3_r0 fl S) (fun k => k) (fun k => k) (fun _ => 0) 0 hB hz with ⟨b1, T1, b2, b3⟩ | ⟨b1, Te, F', E', R', b2, b3, b4, b5, b6, b7, b8, b9, b10, b11, b12⟩
  · exact Or.inl ⟨bd_1 b1, by rw [more T1 b2]; exact b3 100⟩
  · rw [more Te b2]
    generalize K3_al 9 0 (K3_r0 fl S) = r at *
    have ebd : ∀ k : Int → CSt → CR, gBd r k = k r.2.1 r.2.2 := fun k => if_pos b1
    rw [ebd]
    have hrr := b3
    obtain ⟨⟨s1, s2, s3⟩, h25, hD, hsg, hlen, hg, hlp, hlk, hgr, hsz, hcd, hd', hf, hvr⟩ := b3
    have hD' := hD
    obtain ⟨i1, i2, i3, i4, i5, i6, i7⟩ := hD'
    have nz : NZ Te := NZ_of hz (b5.2.2.2.2.2.2.1 14 (by omega)) (b5.2.2.2.2.2.2.2 13 (by omega))
    have h32 : Te.1 32 = 1 := by omega
    by_cases c41 : M_sign Te (Te.1 24) = 41
    · left
      have l1 := sgn_lt (T := Te) (k := Te.1 24) (by omega)
      have ng : ¬ r.2.2.1 2 1 ≤ r.2.2.1 8 3 := by omega
      rw [if_neg ng]
      refine ⟨rfl, ?_⟩
      rw [show (100 : Nat) = 99 + 1 from rfl, readsL_S h25 l1]
      have e : rdS Te = mi (mi Te 24 (Te.1 24 + 1)) 25 1 := by
        unfold rdS
        have q : (if Te.1 32 = 1 then 1 else 0 : Int) = 1 := if_pos h32
        rw [if_neg (by omega), if_pos c41, q, if_neg i10]
      rw [e, readsL_bad (show ¬ (1 : Int) = 0 by decide)]
    · have c0 : M_sign Te (Te.1 24) = 0 := by omega
      have l1 : Te.1 14 ≤ Te.1 24 := by
        by_cases c : Te.1 14 ≤ Te.1 24
        · exact c
        · exact absurd c0 (nz _ s2 (by omega))
      rw [readsL_end h25 l1, if_pos (show r.2.2.1 2 1 ≤ r.2.2.1 8 3 by omega)]
      have ce := close_end h32 i7
      have o := clo_o Te
      have cE : M_closeBody Te = mi (clo Te) 32 0 := by
        have e26 : (clo Te).2 26 ((1 : Int) - 1).toNat = 0 := by rw [o.2.2.1 26 (by omega)]; exact i7
        rw [closeB_clo, h32]
        unfold closeF
        rw [if_pos e26, o.2.1 32 (by decide), h32]
        rfl
      have w0 : Te.2 30 0 = r.2.1 := by
        have q := b6
        rw [h32] at q
        exact q
      unfold endR
      rw [if_pos h32, ce.1, ce.2.1, ce.2.2, cE, show ((0 : Int)).toNat = 0 from rfl, w0, if_neg (show ¬ 9 < Te.1 20 by omega), hgr, hg.1]
      unfold K3_checkWeight
      by_cases cg : Te.1 23 ≤ Te.1 20
      · rw [if_pos cg]
        by_cases cw : r.2.1 ≤ 120
        · right
          have z0 : 0 ≤ r.2.2.1 7 5 := by rw [hsz.1]; omega
          have z2 := hsz.2
          have e1 : (if r.2.1 ≤ 120 then ((0, 0, r.2.2) : CR) else (1, 0, r.2.2)).1 = 0 := by rw [if_pos cw]
          rw [if_pos e1, if_neg (show ¬ 120 < r.2.1 by omega), if_neg (show ¬ Te.1 20 < Te.1 23 by omega), K2_addQ z0 (by omega), bd_0]
          have n1 : (Te.1 19 + 1).toNat = (Te.1 19).toNat + 1 := by omega
          have e19 : (M_emit 16 0 0 0 (mi (clo Te) 32 0)).1 19 = Te.1 19 + 1 + 1 := by
            show (clo Te).1 19 + 1 = _
            rw [o.1]
          have ek : ∀ k, k ≠ 19 → k ≠ 32 → (M_emit 16 0 0 0 (mi (clo Te) 32 0)).1 k = Te.1 k := fun k a b => by
            show (if k = 19 then _ else if k = 32 then _ else (clo Te).1 k) = _
            rw [if_neg a, if_neg b, o.2.1 k a]
          have sg := SEG_emit (w := 16) (x := 0) (y := 0) (z := 0) (kd := 0) (am := -1) (nb := -1) (v := 0) (n := (Te.1 19).toNat + 1) (by rw [o.1]; omega) (by rw [b8, hsz.1]) b7
          have em := np_emit0 (w := 16) (x := 0) (y := 0) (z := 0) (T := mi (clo Te) 32 0)
          have en : ((mi (clo Te) 32 0).1 19).toNat = (Te.1 19).toNat + 1 := by
            show ((clo Te).1 19).toNat = _
            rw [o.1]; omega
          rw [en] at em
          have x0 := b5.1.2.2.1 0 (Nat.le_refl _)
          have bf : (F' ((Te.1 19).toNat + 1) : Int) = r.2.2.1 7 5 := by rw [b8, hsz.1]
          refine ⟨rfl, rfl, F', E', R', (Te.1 19).toNat + 1, by rw [e19]; omega, ?_, em, x0.1, ?_, ?_, ?_, ?_, ?_, ⟨x0.2, ?_⟩, ?_, ?_, ?_⟩
          · rw [ek 21 (by decide) (by decide), ek 22 (by decide) (by decide), ek 20 (by decide) (by decide)]; exact sg
          · show (addS 0 (-1) (-1) r.2.2).1 7 5 = _
            rw [addS_75]; omega
          · omega
          · have q := (addS_hi (kd := 0) (am := -1) (nb := -1) (S := r.2.2)).1
            rw [show (r.2.2.1 7 5).toNat = F' ((Te.1 19).toNat + 1) by omega] at q
            exact q
          · rw [ek 21 (by decide) (by decide)]
            refine ⟨?_, by omega⟩
            show (addS 0 (-1) (-1) r.2.2).1 7 10 = _
            rw [addS_7 (by decide)]; exact hlp.1
          · rw [ek 22 (by decide) (by decide)]; omega
          · have x00 : R' 0 = 0 := x0.2
            omega
          · omega
          · rw [ek 20 (by decide) (by decide)]
            refine ⟨?_, hg.2.1, hg.2.2⟩
            show (addS 0 (-1) (-1) r.2.2).1 7 12 = _
            rw [addS_7 (by decide)]; exact hg.1
          · show (addS 0 (-1) (-1) r.2.2).1 7 13 = _
            rw [addS_7 (by decide)]; exact hf
        · left
          have e1 : ¬ (if r.2.1 ≤ 120 then ((0, 0, r.2.2) : CR) else (1, 0, r.2.2)).1 = 0 := by rw [if_neg cw]; exact i10
          rw [if_neg e1, if_pos (show 120 < r.2.1 by omega)]
          exact ⟨rfl, rfl⟩
      · left
        rw [if_neg cg, if_pos (show Te.1 20 < Te.1 23 by omega)]
        refine ⟨rfl, ?_⟩
        show (if 120 < r.2.1 then 0 else 0 : Int) = 0
        split <;> rfl
