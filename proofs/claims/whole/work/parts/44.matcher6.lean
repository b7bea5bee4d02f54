theorem K0_foundL_F {bg : Int} {a : Nat} {Vv : Nat → Int → CSt → Prop} (hVs : ∀ n k T, Vv (n + 1) k T → K0_turnOK Vv n k T) (hb0 : 0 ≤ bg) (hb1 : bg ≤ 1000) : ∀ (n : Nat) (k tr : Int) (T : CSt), Vv n k T → cFx a 6 T → cFx a 6 (K0_foundL bg n k tr T).2.2 ∧ gl T ≤ gl (K0_foundL bg n k tr T).2.2 ∧ ((K0_foundL bg n k tr T).2.1 = 0 ∨ (K0_foundL bg n k tr T).2.1 = 1)
  | 0, k, tr, T, _, hF => by
    rw [K0_foundL]
    exact ⟨hF, Nat.le_refl _, Or.inl rfl⟩
  | n + 1, k, tr, T, hW, hF => by
    obtain ⟨hX, hc4, hc3, hk0, hk1, hcA, hcB, hcC⟩ := hVs n k T hW
    obtain ⟨ho, hg, hqa, hqb, -⟩ := K0_carryOut_ok (a := a) ⟨hF, hX.1, hX.2.1, hc4, hc3⟩ hX hk0 hk1
    rw [K0_foundL]
    by_cases c1 : (K0_carryOut k T).1 = 0
    · rw [if_pos c1]
      by_cases c2 : (K0_carryOut k T).2.1 = -2
      · have h9 := hcC c1 c2
        rw [if_pos c2, if_pos K1_set_0, if_pos K1_set_0]
        exact ⟨(oK_set (oK_set ho (by omega) (by omega) (by omega)) (by omega) (by omega) (by omega)).1, Nat.le_trans hg (Nat.le_trans K1_set_gl K1_set_gl), Or.inr rfl⟩
      · rw [if_neg c2]
        by_cases c3 : (K0_carryOut k T).2.1 = -1
        · rw [if_pos c3]
          have hFb : cFx a 6 (K1_goBack (K0_carryOut k T).2.2).2 := cFx_of (congrArg Prod.snd K1_goBack_2) ho.1
          have hgb : gl T ≤ gl (K1_goBack (K0_carryOut k T).2.2).2 := Nat.le_trans hg (gl_of (congrArg Prod.snd K1_goBack_2))
          by_cases c4 : (K1_goBack (K0_carryOut k T).2.2).1 = -1
          · rw [if_pos c4]
            exact ⟨hFb, hgb, Or.inl rfl⟩
          · rw [if_neg c4]
            obtain ⟨r1, r2, r3⟩ := K0_foundL_F (bg := bg) (a := a) hVs hb0 hb1 n (K1_goBack (K0_carryOut k T).2.2).1 (tr + 1) (ci (K1_goBack (K0_carryOut k T).2.2).2 10 3 ((K1_goBack (K0_carryOut k T).2.2).2.1 11 5)) (hcB c1 c3 c4) hFb
            exact ⟨r1, Nat.le_trans hgb r2, r3⟩
        · rw [if_neg c3]
          obtain ⟨r1, r2, r3⟩ := K0_foundL_F (bg := bg) (a := a) hVs hb0 hb1 n (K0_carryOut k T).2.1 (tr + 1) (K0_carryOut k T).2.2 (hcA c1 c2 c3) ho.1
          exact ⟨r1, Nat.le_trans hg r2, r3⟩
    · rw [if_neg c1]
      exact ⟨ho.1, hg, Or.inl rfl⟩
theorem K0_isFoundAt_F {bg : Int} {a : Nat} {S : CSt} (hOK : K0_foundOK bg S) (hb0 : 0 ≤ bg) (hb1 : bg ≤ 1000) (hF : cFx a 6 S) : cFx a 6 (K0_isFoundAt bg S).2.2 ∧ gl S ≤ gl (K0_isFoundAt bg S).2.2 ∧ ((K0_isFoundAt bg S).2.1 = 0 ∨ (K0_isFoundAt bg S).2.1 = 1) := by
  obtain ⟨Vv, hVs, hW0⟩ := hOK
  have e : (ci (K1_clear S) 10 3 bg).2.2 = S.2.2 := by
    rw [ci_2, K1_clear_2]
  have hg := gl_of e
  have hF1 := cFx_of e hF
  have eq : K0_isFoundAt bg S = K0_foundL bg zM 0 0 (ci (K1_clear S) 10 3 bg) := rfl
  rw [eq]
  generalize ci (K1_clear S) 10 3 bg = T at hW0 hg hF1 ⊢
  obtain ⟨r1, r2, r3⟩ := K0_foundL_F (bg := bg) (a := a) hVs hb0 hb1 zM 0 0 T hW0 hF1
  exact ⟨r1, Nat.le_trans hg r2, r3⟩
def K0_searchOK (last bg : Int) (S : CSt) : Prop := ∃ Vs : Int → CSt → Prop, (∀ p T, Vs p T → p ≤ last → xV T ∧ 0 ≤ p ∧ p ≤ 1000 ∧ K0_foundOK p T ∧ ((K0_isFoundAt p T).1 = 0 → (K0_isFoundAt p T).2.1 = 0 → Vs (p + 1) (K0_isFoundAt p T).2.2)) ∧ Vs bg S
theorem cFx_b6 {a b : Nat} {S : CSt} (hF : cFx a b S) : cFx a 6 (cr S 10 2 6) := by
  obtain ⟨h1, h2⟩ := hF
  refine ⟨?_, h2⟩
  funext n k
  by_cases hn : n = 10
  · subst hn
    rw [cr_eq, h1]
    dsimp only
    by_cases hk : k = 2
    · rw [if_pos hk, hk]; rfl
    · rw [if_neg hk]
      rcases k with _ | _ | _ | k
      · rfl
      · rfl
      · exact absurd rfl hk
      · rfl
  · rw [cr_ne hn, h1]
    unfold cRef
    (repeat' split) <;> first | rfl | contradiction
noncomputable def K0_searchL (last : Int) : Nat → Int → CSt → CR
  | 0, p9, T => (0, (-1), T)
  | n + 1, p9, T => (if last < p9 then (0, (-1), T) else (if (K0_isFoundAt p9 T).1 = 0 then (if ((K0_isFoundAt p9 T).2.1) = 0 then K0_searchL last n (p9 + 1) ((K0_isFoundAt p9 T).2.2) else (0, p9, (K0_isFoundAt p9 T).2.2)) else (1, 0, (K0_isFoundAt p9 T).2.2)))
set_option maxHeartbeats 1000000 in
set_option maxRecDepth 100000 in
theorem lp0_search (l : Launch) (hl0 : l.stackTraces = false) (D : va_G) (cy : Nat → ClassId) (q : Nat → Nat) (V : Nat × (Nat → Nat)) (n0 a : Nat)  (last : Int) (Vs : Int → CSt → Prop) (hVs : ∀ p T, Vs p T → p ≤ last → xV T ∧ 0 ≤ p ∧ p ≤ 1000 ∧ K0_foundOK p T ∧ ((K0_isFoundAt p T).1 = 0 → (K0_isFoundAt p T).2.1 = 0 → Vs (p + 1) (K0_isFoundAt p T).2.2)) (ha36 : a < 36) (hla : -1000 ≤ last) (hlb : last ≤ 1000) (S0 : CSt) (rc : CR) {A : Nat → Prop} {p : Program} {e : Env} {s : State} {m : MethodId} {args : Array Value} {below : List Frame} {meth : Method} {c : Code} (B : zAt p s m args meth c RX0 cX0_search 5 (some .int) (.code yX0_search cX0_search 5 (some .int) :: TBC)) (hK : va_K D vwCl (zTY cy) s) (hG : gEn V n0 A s c) (hR : (headSpec (.code yX0_search cX0_search 5 (some .int) :: TBC) (gRm 10 197 S0)).room.cells = (gK - gl S0) + 1 ∧ (headSpec (.code yX0_search cX0_search 5 (some .int) :: TBC) (gRm 10 197 S0)).room.slots = 2 * (gK - gl S0) + 6) :
    ∀ (n : Nat) (p9 : Int) (T : CSt) (x y : Nat) (H : Heap) (locs : List Loc) (ls : Array Slot), (cFx a 6 T) → (gl S0 ≤ gl T) → (Vs p9 T) → (last + 1 - p9 ≤ n) → (-1000 ≤ p9) → (p9 ≤ 1001) → cH D cy (cq q x y) A s.heap T H locs → lv_has ls 5 [(0, .ref (q 10)), (3, .int (zI last)), (4, .int (zI p9))] → (rc = K0_searchL last n p9 T) → W p l e (headSpec (.code yX0_search cX0_search 5 (some .int) :: TBC) (gRm 10 197 S0)).room s m args below meth c H locs (gl T - gl S0) (2 * (gl T - gl S0)) (vx_MQ below (gQi D cy q A rc) (gX D cy q A "java/lang/UnsupportedOperationException" rc) args s (gc S0 rc) (gs S0 rc) A) (F0 m 46 ls []) := by
  intro n
  induction n with
  | zero =>
    intro p9 T x y H locs ls hF hg hW hn hz0 hz1 hM hl hpost
    refine lv_iload B.1 B.2.1 dX0_search_46 (lv_at hl 2 rfl) ?_
    refine lv_iload_n B.1 B.2.1 dX0_search_48 rfl (lv_at hl 1 rfl) ?_
    refine z_icmp_gt (tgt := 70) B.1 B.2.1 (zr_of (by omega) (by omega)) (zr_of (by omega) (by omega)) dX0_search_49 (by decide) (fun c_1 => ?_) (fun c_1 => ?_)
    · --
      refine z_iconst B.1 B.2.1 dX0_search_70 ?_
      exact g_reti (S := T) B hM (hpost.trans (by rw [K0_searchL])) dX0_search_71
    · exact absurd c_1 (by omega)
  | succ n ih =>
    intro p9 T x y H locs ls hF hg hW hn hz0 hz1 hM hl hpost
    refine lv_iload B.1 B.2.1 dX0_search_46 (lv_at hl 2 rfl) ?_
    refine lv_iload_n B.1 B.2.1 dX0_search_48 rfl (lv_at hl 1 rfl) ?_
    refine z_icmp_gt (tgt := 70) B.1 B.2.1 (zr_of (by omega) (by omega)) (zr_of (by omega) (by omega)) dX0_search_49 (by decide) (fun c_1 => ?_) (fun c_1 => ?_)
    · --
      refine z_iconst B.1 B.2.1 dX0_search_70 ?_
      exact g_reti (S := T) B hM (hpost.trans (by rw [K0_searchL]; exact (if_pos c_1))) dX0_search_71
    · --
      obtain ⟨hX, hp0, hp1, hfo, hcl⟩ := hVs p9 T hW (by omega)
      refine lv_aload_n B.1 B.2.1 dX0_search_52 rfl (lv_at hl 0 rfl) ?_
      refine lv_iload B.1 B.2.1 dX0_search_53 (lv_at hl 2 rfl) ?_
      refine g_calli (E := "java/lang/UnsupportedOperationException") (As := [.int (zI p9)]) (rest := []) B hK hG hM 10 (by decide) (by decide) rfl (cX0_isFoundAt_ok l hl0 D cy q V n0 x y a T hF  p9 ha36 hX (by show 0 ≤ p9; omega) (by show p9 ≤ 1000; omega) hfo) (cwC 1 B wC_mRX0_48 wC_im_yX0_isFoundAt wC_sl_yX0_isFoundAt wC_in_RX0 wC_cd_yX0_isFoundAt rfl rfl (by decide +kernel) ⟨Nat.le_of_ble_eq_true rfl, Nat.le_of_ble_eq_true rfl⟩) rfl hl.1 rfl (Nat.le_of_ble_eq_true rfl) dX0_search_55 hR hg (cFx_gl hF) (K0_isFoundAt_F (a := a) (bg := p9) (S := T) hfo hp0 hp1 hF).2.1 (fun c_2 => (hpost.trans (by rw [K0_searchL]; exact ((if_neg c_1).trans (if_neg c_2))))) (fun x y H locs c_2 hM => ?_)
      have hg : gl S0 ≤ gl (K0_isFoundAt p9 T).2.2 := Nat.le_trans hg (K0_isFoundAt_F (a := a) (bg := p9) (S := T) hfo hp0 hp1 hF).2.1
      obtain ⟨hF, hqg, hqb⟩ := K0_isFoundAt_F (a := a) (bg := p9) (S := T) hfo hp0 hp1 hF
      refine z_if_eq (tgt := 64) B.1 B.2.1 (zr_of (by omega) (by omega)) dX0_search_58 (by decide) (fun c_3 => ?_) (fun c_3 => ?_)
      · --
        refine z_iinc (v := p9 + 1) (lv' := [(4, .int (zI (p9 + 1))), (0, .ref (q 10)), (3, .int (zI last))]) B.1 B.2.1 dX0_search_64 hl (k := 2) rfl rfl (by decide) rfl (fun ls hl => ?_)
        refine lv_goto (tgt := 46) B.1 B.2.1 dX0_search_67 (by decide) ?_
        have hq : K0_searchL last (n + 1) p9 T = K0_searchL last n (p9 + 1) ((K0_isFoundAt p9 T).2.2) := by rw [K0_searchL]; exact ((if_neg c_1).trans ((if_pos c_2).trans (if_pos c_3)))
        rw [hq] at hpost
        exact ih (p9 + 1) ((K0_isFoundAt p9 T).2.2) x y H locs ls hF hg (hcl (by assumption) (by assumption)) (by omega) (by omega) (by omega) hM (lv_sub hl [1, 2, 0] rfl) hpost
      · --
        refine lv_iload B.1 B.2.1 dX0_search_61 (lv_at hl 2 rfl) ?_
        exact g_reti (S := (K0_isFoundAt p9 T).2.2) B hM (hpost.trans (by rw [K0_searchL]; exact ((if_neg c_1).trans ((if_pos c_2).trans (if_neg c_3))))) dX0_search_63
noncomputable def K0_search (bg : Int) (S : CSt) : CR := (K0_searchL ((if ((K2_has 6 1 (ci (cr S 10 2 6) 10 4 0))) = 0 then S.1 3 1 else (if (S.1 3 1) < bg then S.1 3 1 else bg : Int) : Int)) ((if ((K2_has 6 1 (ci (cr S 10 2 6) 10 4 0))) = 0 then S.1 3 1 else (if (S.1 3 1) < bg then S.1 3 1 else bg : Int) : Int) + 1 - bg).toNat bg (ci (cr S 10 2 6) 10 4 0))
set_option maxHeartbeats 1000000 in
set_option maxRecDepth 100000 in
theorem cX0_search_ok (l : Launch) (hl0 : l.stackTraces = false) (D : va_G) (cy : Nat → ClassId) (q : Nat → Nat) (V : Nat × (Nat → Nat)) (n0 x y a b : Nat) (S : CSt) (hF : cFx a b S) (bg : Int) (ha36 : a < 36) (hV : sV S) (hP : pB 6 S) (ht0 : 0 ≤ S.1 3 1) (ht1 : S.1 3 1 ≤ 24) (hb0 : 0 ≤ bg) (hb1 : bg ≤ 1000) (hOK : K0_searchOK (if K2_has 6 1 (ci (cr S 10 2 6) 10 4 0) = 0 then S.1 3 1 else (if S.1 3 1 < bg then S.1 3 1 else bg : Int) : Int) bg (ci (cr S 10 2 6) 10 4 0)) : gMi l D cy q V n0 x y "java/lang/UnsupportedOperationException" yX0_search (.code yX0_search cX0_search 5 (some .int) :: TBC) 10 197 S [.ref (q 10), .ref (q 6), .int (zI bg)] (K0_search bg S) := by
  refine g_of (cc := cX0_search) (maxL := 5) (ret := (some .int)) (by decide) rfl rfl (Nat.le_of_ble_eq_true rfl) ?_
  intro p e s m args below meth c ls B hK hG hM hl
  generalize gA (cq q x y) n0 = A at hG hM ⊢
  have hR : (headSpec (.code yX0_search cX0_search 5 (some .int) :: TBC) (gRm 10 197 S)).room.cells = (gK - gl S) + 1 ∧ (headSpec (.code yX0_search cX0_search 5 (some .int) :: TBC) (gRm 10 197 S)).room.slots = 2 * (gK - gl S) + 6 := ⟨rfl, rfl⟩
  have hl : lv_has ls 5 [(0, .ref (q 10)), (1, .ref (q 6)), (2, .int (zI bg))] := hl
  refine lv_aload_n B.1 B.2.1 dX0_search_0 rfl (lv_at hl 0 rfl) ?_
  refine lv_aload_n B.1 B.2.1 dX0_search_1 rfl (lv_at hl 1 rfl) ?_
  refine c_putr (r := 6) (q := (cq q x y)) B (iC0 _) tyX0 tyX0_ok nmX0 hK hM 10 2 0 (by decide) rfl rfl (by decide) (by decide) rfl rfl rfl (ty := tyX0 2) (by decide +kernel) rfl rfl rfl (List.mem_cons_of_mem _ wC_fRX0_22) dX0_search_2 (fun H locs hM => ?_)
  have hF : cFx a 6 (cr S 10 2 6) := cFx_b6 hF
  have hV : sV (cr S 10 2 6) := hV
  have hP : pB 6 (cr S 10 2 6) := hP
  refine lv_aload_n B.1 B.2.1 dX0_search_5 rfl (lv_at hl 0 rfl) ?_
  refine z_iconst B.1 B.2.1 dX0_search_6 ?_
  refine c_puti (q := (cq q x y)) B (iC0 _) tyX0 tyX0_ok nmX0 hK hM 10 4 0 (by decide) rfl rfl (by decide) (by decide) rfl rfl rfl (by decide +kernel) (by decide) (List.mem_cons_of_mem _ wC_fRX0_26) dX0_search_7 (fun H locs hM => ?_)
  have hV : sV (ci (cr S 10 2 6) 10 4 0) := sV_ci hV (by decide)
  have hP : pB 6 (ci (cr S 10 2 6) 10 4 0) := pB_ci (by decide) (by decide) hP
  refine lv_aload_n B.1 B.2.1 dX0_search_10 rfl (lv_at hl 0 rfl) ?_
  refine c_getr (q := (cq q x y)) (r := 6) B (iC0 _) hK hM 10 2 0 (by decide) rfl rfl (by decide) (by decide) rfl rfl rfl rfl (List.mem_cons_of_mem _ wC_fRX0_22) dX0_search_11 ?_
  refine z_iconst B.1 B.2.1 dX0_search_14 ?_
  refine c_calli (q := (cq q x y)) (As := [.int (zI 1)]) (rest := []) B hK hM 6 (by decide) (by decide) rfl (cX2_has_ok l D cy (cq q x y) a 6 (ci (cr S 10 2 6) 10 4 0) hF 6 (by decide) 1 hP (by show 0 ≤ 1; omega) (by show 1 ≤ 100; omega)) (cwC 1 B wC_mRX0_30 wC_im_yX2_has wC_sl_yX2_has wC_in_RX2 wC_cd_yX2_has rfl rfl (by decide +kernel) ⟨Nat.le_of_ble_eq_true rfl, Nat.le_of_ble_eq_true rfl⟩) rfl hl.1 rfl (Nat.le_of_ble_eq_true rfl) dX0_search_15 ⟨g_rc hR (Nat.le_refl _) (cFx_gl (S := (ci (cr S 10 2 6) 10 4 0)) hF), g_rs hR (Nat.le_refl _) (cFx_gl (S := (ci (cr S 10 2 6) 10 4 0)) hF)⟩ (fun z_3 S_2 H locs hp_1 hM => ?_)
  obtain ⟨hp_1, he_hp_1⟩ := hp_1
  have he_hp_1 := he_hp_1.symm
  subst he_hp_1
  have hp_1 : (K2_has 6 1 (ci (cr S 10 2 6) 10 4 0)) = z_3 := hp_1.symm
  subst hp_1
  have f_4 := K2_has_bd 6 1 (ci (cr S 10 2 6) 10 4 0)
  refine z_joinH (P := fun v H' locs' => v = (if ((K2_has 6 1 (ci (cr S 10 2 6) 10 4 0))) = 0 then S.1 3 1 else (if (S.1 3 1) < bg then S.1 3 1 else bg : Int) : Int) ∧ cH D cy (cq q x y) A s.heap (ci (cr S 10 2 6) 10 4 0) H' locs') (pcJ := 42) (lsJ := ls) (stJ := []) (fun v_5 H locs hv_6 => ?_) (fun hJ_7 => ?_)
  · --
    obtain ⟨hv_6, hM⟩ := hv_6
    have hv_6 := hv_6.symm
    subst hv_6
    have hjl : 0 ≤ (if ((K2_has 6 1 (ci (cr S 10 2 6) 10 4 0))) = 0 then S.1 3 1 else (if (S.1 3 1) < bg then S.1 3 1 else bg : Int) : Int) ∧ (if ((K2_has 6 1 (ci (cr S 10 2 6) 10 4 0))) = 0 then S.1 3 1 else (if (S.1 3 1) < bg then S.1 3 1 else bg : Int) : Int) ≤ 24 := by (repeat' split) <;> omega
    refine lv_istore_n (lv' := [(3, .int (zI ((if ((K2_has 6 1 (ci (cr S 10 2 6) 10 4 0))) = 0 then S.1 3 1 else (if (S.1 3 1) < bg then S.1 3 1 else bg : Int) : Int)))), (0, .ref (q 10)), (1, .ref (q 6)), (2, .int (zI bg))]) B.1 B.2.1 dX0_search_42 rfl hl (by decide) rfl (fun ls hl => ?_)
    refine lv_iload_n B.1 B.2.1 dX0_search_43 rfl (lv_at hl 3 rfl) ?_
    refine lv_istore (lv' := [(4, .int (zI bg)), (3, .int (zI ((if ((K2_has 6 1 (ci (cr S 10 2 6) 10 4 0))) = 0 then S.1 3 1 else (if (S.1 3 1) < bg then S.1 3 1 else bg : Int) : Int)))), (0, .ref (q 10)), (1, .ref (q 6)), (2, .int (zI bg))]) B.1 B.2.1 dX0_search_44 hl (by decide) rfl (fun ls hl => ?_)
    obtain ⟨Vs, hVs, hW0⟩ := hOK
    exact lp0_search l hl0 D cy q V n0 a ((if ((K2_has 6 1 (ci (cr S 10 2 6) 10 4 0))) = 0 then S.1 3 1 else (if (S.1 3 1) < bg then S.1 3 1 else bg : Int) : Int)) Vs hVs ha36 (by omega) (by omega) S _ B hK hG hR ((if ((K2_has 6 1 (ci (cr S 10 2 6) 10 4 0))) = 0 then S.1 3 1 else (if (S.1 3 1) < bg then S.1 3 1 else bg : Int) : Int) + 1 - bg).toNat bg (ci (cr S 10 2 6) 10 4 0) x y H locs ls hF (Nat.le_refl _) hW0 (by omega) (by omega) (by omega) hM (lv_sub hl [2, 1, 0] rfl) (by unfold K0_search; rfl)
  · --
    refine z_if_eq (tgt := 35) B.1 B.2.1 (zr_of (by omega) (by omega)) dX0_search_18 (by decide) (fun c_8 => ?_) (fun c_8 => ?_)
    · --
      refine lv_aload_n B.1 B.2.1 dX0_search_35 rfl (lv_at hl 0 rfl) ?_
      refine c_getr (q := (cq q x y)) (r := 3) B (iC0 _) hK hM 10 0 0 (by decide) rfl rfl (by decide) (by decide) rfl rfl rfl (cFx_r hF 10 0) (List.mem_cons_of_mem _ wC_fRX0_18) dX0_search_36 ?_
      refine c_calli (q := (cq q x y)) (As := []) (rest := []) B hK hM 3 (by decide) (by decide) rfl (cX4_length_ok l D cy (cq q x y) a 6 (ci (cr S 10 2 6) 10 4 0) hF 3 (by decide)  ) (cwC 0 B wC_mRX0_36 wC_im_yX4_length wC_sl_yX4_length wC_in_RX4 wC_cd_yX4_length rfl rfl (by decide +kernel) ⟨Nat.le_of_ble_eq_true rfl, Nat.le_of_ble_eq_true rfl⟩) rfl hl.1 rfl (Nat.le_of_ble_eq_true rfl) dX0_search_39 ⟨g_rc hR (Nat.le_refl _) (cFx_gl (S := (ci (cr S 10 2 6) 10 4 0)) hF), g_rs hR (Nat.le_refl _) (cFx_gl (S := (ci (cr S 10 2 6) 10 4 0)) hF)⟩ (fun z_11 S_10 H locs hp_9 hM => ?_)
      obtain ⟨hp_9, he_hp_9⟩ := hp_9
      have he_hp_9 := he_hp_9.symm
      subst he_hp_9
      have hp_9 : S.1 3 1 = z_11 := hp_9.symm
      subst hp_9
      exact hJ_7 _ _ _ ⟨(if_pos c_8).symm, hM⟩
    · --
      refine lv_iload_n B.1 B.2.1 dX0_search_21 rfl (lv_at hl 2 rfl) ?_
      refine lv_aload_n B.1 B.2.1 dX0_search_22 rfl (lv_at hl 0 rfl) ?_
      refine c_getr (q := (cq q x y)) (r := 3) B (iC0 _) hK hM 10 0 0 (by decide) rfl rfl (by decide) (by decide) rfl rfl rfl (cFx_r hF 10 0) (List.mem_cons_of_mem _ wC_fRX0_18) dX0_search_23 ?_
      refine c_calli (q := (cq q x y)) (As := []) (rest := [.int (zI bg)]) B hK hM 3 (by decide) (by decide) rfl (cX4_length_ok l D cy (cq q x y) a 6 (ci (cr S 10 2 6) 10 4 0) hF 3 (by decide)  ) (cwC 0 B wC_mRX0_36 wC_im_yX4_length wC_sl_yX4_length wC_in_RX4 wC_cd_yX4_length rfl rfl (by decide +kernel) ⟨Nat.le_of_ble_eq_true rfl, Nat.le_of_ble_eq_true rfl⟩) rfl hl.1 rfl (Nat.le_of_ble_eq_true rfl) dX0_search_26 ⟨g_rc hR (Nat.le_refl _) (cFx_gl (S := (ci (cr S 10 2 6) 10 4 0)) hF), g_rs hR (Nat.le_refl _) (cFx_gl (S := (ci (cr S 10 2 6) 10 4 0)) hF)⟩ (fun z_14 S_13 H locs hp_12 hM => ?_)
      obtain ⟨hp_12, he_hp_12⟩ := hp_12
      have he_hp_12 := he_hp_12.symm
      subst he_hp_12
      have hp_12 : S.1 3 1 = z_14 := hp_12.symm
      subst hp_12
      refine z_mmin (x := bg) (y := S.1 3 1) B (List.mem_cons_of_mem _ wC_mRX0_42) (List.mem_cons_of_mem _ wC_st_Lib_Math_min_name) (List.mem_cons_of_mem _ wC_in__java_lang_Math_) (List.mem_cons_of_mem _ wC_cd_Lib_Math_min_name) hl.1 (zr_of (by omega) (by omega)) (zr_of (by omega) (by omega)) (Nat.le_of_ble_eq_true rfl) (Nat.le_of_ble_eq_true rfl) ⟨g_rc hR (Nat.le_refl _) (cFx_gl (S := (ci (cr S 10 2 6) 10 4 0)) hF), g_rs hR (Nat.le_refl _) (cFx_gl (S := (ci (cr S 10 2 6) 10 4 0)) hF)⟩ dX0_search_29 ?_
      refine lv_goto (tgt := 42) B.1 B.2.1 dX0_search_32 (by decide) ?_
      exact hJ_7 _ _ _ ⟨(if_neg c_8).symm, hM⟩
