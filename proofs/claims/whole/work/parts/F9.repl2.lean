/-- what the class's replacing leaves alone -/
def clK (T S' : CSt) : Prop := (∀ n, n ≠ 5 → n ≠ 10 → n ≠ 11 → n ≠ 16 → n ≠ 35 → n ≠ 36 → n ≠ 37 → S'.1 n = T.1 n) ∧ S'.2.1 = T.2.1
theorem clK_refl (T : CSt) : clK T T := ⟨fun _ _ _ _ _ _ _ _ => rfl, rfl⟩
theorem clK_trans {T T1 T2 : CSt} (h : clK T T1) (h' : clK T1 T2) : clK T T2 := ⟨fun n a b c d e f g => (h'.1 n a b c d e f g).trans (h.1 n a b c d e f g), h'.2.trans h.2⟩
theorem clK_m {T T1 T2 : CSt} (h : clK T T1) (hm : mK T1 T2) : clK T T2 := clK_trans h ⟨fun n _ b c _ e f g => hm.1 n b c e f g, hm.2⟩
theorem clK_d {T T1 T2 : CSt} (h : clK T T1) (hm : dK T1 T2) : clK T T2 := clK_trans h ⟨fun n a _ _ d _ _ _ => hm.2 n a d, by rw [hm.1]⟩
/-- both before a search -/
def RLh (a : Nat) (T : CSt) (U : MSt) (s c : Int) : Prop := COR a T U ∧ DR T U ∧ TYP T U ∧ (P38 U ∨ s ≤ U.1 4) ∧ (0 ≤ s ∧ s ≤ 25) ∧ (0 ≤ c ∧ c ≤ U.1 4)
/-- what comes of replacing in both -/
def RPo (a : Nat) (T : CSt) (U : MSt) (r : CR) (m : Int × MSt) : Prop :=
  (r.1 = 1 ∧ RFo U m ∧ clK T r.2.2 ∧ COR a r.2.2 U ∧ (∀ j, 0 ≤ r.2.2.1 16 j ∧ r.2.2.1 16 j < 65536)) ∨
  (r.1 = 0 ∧ r.2.1 = m.1 ∧ ∃ S8 U8, r.2.2 = cSw 1 (K6_forgetFound (ci (ci (cSt S8) 1 1 0) 0 11 0)) ∧ m.2 = mi (mi (mi (mi (M_replC m.1 (U8.1 49).toNat 0 U8) 47 (U8.1 49)) 2 0) 5 0) 42 0 ∧ DR S8 U8 ∧ clK T S8 ∧ frP U U8 ∧ U8.1 0 = U.1 0 ∧ COR a S8 U8)
theorem DR_cg {T T' : CSt} {U U' : MSt} (h : DR T U) (h5 : T'.1 5 = T.1 5) (h16 : T'.1 16 = T.1 16) (h49 : U'.1 49 = U.1 49) (h48 : U'.2 48 = U.2 48) : DR T' U' := by
  unfold DR
  rw [h5, h16, h49, h48]
  exact h
theorem TYP_cg {T T' : CSt} {U U' : MSt} (h : TYP T U) (h1 : T'.1 1 = T.1 1) (h12 : T'.1 12 = T.1 12) (h2 : U'.1 2 = U.1 2) (h21 : U'.2 1 = U.2 1) : TYP T' U' := by
  unfold TYP I_ty
  rw [h1, h12, h2, h21]
  exact h
theorem COR_n {a : Nat} {T T' : CSt} {U N : MSt} (h : COR a T' N) (hp : frP U N) (hc : I_cf U) : COR a T' U := by
  obtain ⟨h0, h1, ⟨h2, h2'⟩, -, h4⟩ := h
  refine ⟨h0, ?_, ⟨PRG_cg h2 ⟨(hp.1 6 (by decide) (by decide) (by decide) (by decide) (by decide) (by decide) (by decide) (by decide)).symm, (hp.1 12 (by decide) (by decide) (by decide) (by decide) (by decide) (by decide) (by decide) (by decide)).symm, fun k x y => (hp.2 k (by omega) (by omega) (by omega) (by omega)).symm⟩ (pgE_o (fun _ _ => rfl) rfl), ?_⟩, hc, h4⟩
  · unfold I_tx
    rw [← hp.1 4 (by decide) (by decide) (by decide) (by decide) (by decide) (by decide) (by decide) (by decide), ← hp.2 3 (by decide) (by decide) (by decide) (by decide)]; exact h1
  · rw [← hp.1 6 (by decide) (by decide) (by decide) (by decide) (by decide) (by decide) (by decide) (by decide), ← hp.1 12 (by decide) (by decide) (by decide) (by decide) (by decide) (by decide) (by decide) (by decide)]; exact h2'
/-- the end of replacing in both -/
theorem FINr {a : Nat} {T T1 : CSt} {U N : MSt} {co c : Int} {nf : Nat} (hcU : I_cf U) (hp : frP U N) (h0 : N.1 0 = U.1 0) (hk : clK T T1) (cor : COR a T1 N) (dr : DR T1 N) (ty : TYP T1 N) (z41 : N.1 41 = 0) (c0 : 0 ≤ c) : RPo a T U (gBd (K6_writeText c (T1.1 3 1) T1) (fun _ S_8 => (0, co, (cSw 1 (K6_forgetFound (ci (ci (cSt S_8) 1 1 0) 0 11 0)))))) (M_replL nf co c (-1) N) := by
  have fv := COR_fV cor dr ty
  have tx := COR_TX cor
  have w := wt_both (fr := c) (to := N.1 4) dr tx fv (fun _ => c0) (Int.le_refl _)
  have R := K6_writeText_R (bg := c) (en := N.1 4) fv
  have wf := wt_fr (fr := c) (to := N.1 4) (U := N)
  rw [replL_end (Or.inl (by decide)), tx.1]
  have e41 : (M_writeText c (N.1 4) N).1 41 = 0 := by rw [wf.1 41 (by decide)]; exact z41
  rw [if_pos e41]
  generalize K6_writeText c (N.1 4) T1 = r at *
  rcases w with ⟨w1, w2⟩ | ⟨w1, w2, w3⟩
  · right
    have eb : ∀ k : Int → CSt → CR, gBd r k = k r.2.1 r.2.2 := fun k => if_pos w1
    rw [eb, if_pos w2.2.2.1]
    exact ⟨rfl, rfl, r.2.2, M_writeText c (N.1 4) N, rfl, rfl, w2, clK_d hk R.1, frP_w hp wf, by rw [wf.1 0 (by decide)]; exact h0, COR_w cor R.1 wf⟩
  · left
    have eb : ∀ k : Int → CSt → CR, gBd r k = (1, 0, r.2.2) := fun k => if_neg (by omega)
    rw [eb, if_neg (show ¬ (M_writeText c (N.1 4) N).1 49 ≤ 200 by omega)]
    exact ⟨rfl, RFo_end hp cor.2.2.2.1 (DR_DU dr) tx.2.2.2 0, clK_d hk R.1, COR_n (T := T) (COR_w cor R.1 (frW_refl N)) hp hcU, w3⟩
/-- one find in both, and what it leads to -/
theorem STEPr {a : Nat} {T : CSt} {U : MSt} {s c : Int} (h : RLh a T U s c) : ∃ p, RSs a p s (M_search s U) (K0_search s T) ∧ COR a (K0_search s T).2.2 (M_search s U).2 ∧ DR (K0_search s T).2.2 (M_search s U).2 ∧ TYP (K0_search s T).2.2 (M_search s U).2 ∧ (0 ≤ (M_search s U).1 → FK (M_search s U).1 (K0_search s T).2.2 (M_search s U).2 ∧ (M_search s U).1 ≤ (M_search s U).2.1 38) := by
  obtain ⟨cor, dr, ty, hp, hs, hc⟩ := h
  obtain ⟨p, rs, -, -, -, cor'⟩ := SRCH cor hs.1 (by omega)
  have fm := frM_search s U
  have km := (mK.search (bg := s) (S := T)).1
  refine ⟨p, rs, cor', DR_cg dr (km 5 (by decide) (by decide) (by decide) (by decide) (by decide)) (km 16 (by decide) (by decide) (by decide) (by decide) (by decide)) (fm.1 49 (by omega)) (fm.2 48 (by omega)), TYP_cg ty (km 1 (by decide) (by decide) (by decide) (by decide) (by decide)) (km 12 (by decide) (by decide) (by decide) (by decide) (by decide)) (fm.1 2 (by omega)) (fm.2 1 (by omega)), fun h0 => ⟨?_, PB_search cor hs.1 h0⟩⟩
  obtain ⟨-, -, rr⟩ := rs
  rcases rr with z | z | z
  · obtain ⟨-, -, z3, -, -, -, ⟨w1, w2, w3, w4, w5, w6, w7⟩⟩ := z
    refine ⟨w6, w7, ⟨h0, z3⟩, ⟨w3, w4⟩, fun g g0 g9 => ?_, COR_12 cor'⟩
    obtain ⟨v1, v2, v3, v4, v5, v6, v7, v8⟩ := w5 g g0 g9
    exact ⟨v1, v2, v3, v4, v5, v6, fun q => by omega⟩
  · omega
  · omega
theorem nx_eq {pl e : Int} (h : pl ≤ e) : (if e ≤ pl then e + 1 else e : Int) = nxS pl e := by
  unfold nxS
  by_cases c : e = pl
  · rw [if_pos c, if_pos (by omega)]
  · rw [if_neg c, if_neg (by omega)]
/-- writing between two finds, in both -/
theorem WRTr {a : Nat} {T1 : CSt} {N : MSt} {pl c : Int} (cor : COR a T1 N) (dr : DR T1 N) (ty : TYP T1 N) (fk : FK pl T1 N) (hb : pl ≤ N.1 38) (c0 : 0 ≤ c) : ((K6_writeText c pl T1).1 = 1 ∧ 200 < (M_writeText c pl N).1 49 ∧ (∀ j, 0 ≤ (K6_writeText c pl T1).2.2.1 16 j ∧ (K6_writeText c pl T1).2.2.1 16 j < 65536)) ∨ ((K6_writeText c pl T1).1 = 0 ∧ dK T1 (K6_writeTemplate (K6_writeText c pl T1).2.2).2.2 ∧ (((K6_writeTemplate (K6_writeText c pl T1).2.2).1 = 1 ∧ 200 < (M_writeTemplate pl (M_writeText c pl N)).1 49 ∧ (∀ j, 0 ≤ (K6_writeTemplate (K6_writeText c pl T1).2.2).2.2.1 16 j ∧ (K6_writeTemplate (K6_writeText c pl T1).2.2).2.2.1 16 j < 65536)) ∨ ((K6_writeTemplate (K6_writeText c pl T1).2.2).1 = 0 ∧ RLh a (K6_writeTemplate (K6_writeText c pl T1).2.2).2.2 (M_writeTemplate pl (M_writeText c pl N)) (nxS pl (N.1 38)) (N.1 38)))) := by
  have fv := COR_fV cor dr ty
  have tx := COR_TX cor
  have w := wt_both (fr := c) (to := pl) dr tx fv (fun _ => c0) fk.2.2.1.2
  have R := K6_writeText_R (bg := c) (en := pl) fv
  have wf := wt_fr (fr := c) (to := pl) (U := N)
  have wd := (wt_DU (fr := c) (to := pl) (DR_DU dr) tx.2.2.2).1
  generalize K6_writeText c pl T1 = r at *
  generalize M_writeText c pl N = N1 at *
  rcases w with ⟨w1, w2⟩ | w
  · right
    have ty1 := TY_cg ty R.1 wf
    have fk1 := FK_cg fk R.1 wf
    have t := tm_both (pl := pl) 40 (N1.1 2).toNat 0 0 r.2.2 N1 w2 (TX_cg tx R.1 wf) fk1 ty1 R.2.1 (Int.le_refl _) (Int.le_refl _) (by decide) (by omega)
    have R2 := K6_writeTemplate_R R.2.1
    have m := tm_mono (pl := pl) (N1.1 2).toNat 0 N1 wd (by rw [wf.2 3 (by decide)]; exact tx.2.2.2) ty1.2.2
    have t' : WO (M_writeTemplate pl N1) (K6_writeTemplate r.2.2) := t
    have m1 : frW N1 (M_writeTemplate pl N1) := m.1
    generalize K6_writeTemplate r.2.2 = r2 at *
    generalize M_writeTemplate pl N1 = N2 at *
    have dk : dK T1 r2.2.2 := dK.tr R.1 R2.1
    have fw : frW N N2 := frW_trans wf m1
    refine ⟨w1, dk, ?_⟩
    rcases t' with ⟨t1, t2⟩ | t'
    · right
      have f4 := fk.2.2.2.1
      have l4 := tx.2.1
      refine ⟨t1, COR_w cor dk fw, t2, TY_cg ty dk fw, ?_, ?_, f4.1, by rw [fw.1 4 (by decide)]; exact f4.2⟩
      · left
        unfold P38
        rw [fw.1 38 (by decide)]; omega
      · unfold nxS
        by_cases e : N.1 38 = pl
        · rw [if_pos e]; omega
        · rw [if_neg e]; omega
    · exact Or.inl t'
  · exact Or.inl w
theorem frP_s {U : MSt} {s : Int} : frP U (M_search s U).2 := frP_m (frP_refl U) (frM_search s U)
theorem REP {a : Nat} : ∀ (n nf : Nat) (co s c tr : Int) (T : CSt) (U : MSt), RLh a T U s c → (n : Int) + tr = 25 → 0 ≤ tr → tr ≤ s → 25 - s ≤ nf → RPo a T U (K6_repL n co s c tr T) (M_replL nf co c (M_search s U).1 (M_search s U).2)
  | 0, nf, co, s, c, tr, T, U, h, hn, t0, ts, hf => by
    obtain ⟨cor, dr, ty, hp, hs, hc⟩ := h
    have tx := COR_TX cor
    have es : M_search s U = (-1, M_searchS U) := by
      show M_searchL s 25 s (M_searchS U) = _
      have e4 : (M_searchS U).1 4 = U.1 4 := rfl
      rw [M_searchL, if_pos (by have := tx.2.1; omega)]
    rw [es, K6_repL]
    have icf : I_cf (M_searchS U) := by
      obtain ⟨p, hp⟩ := cor.2.2.2.1
      exact ⟨p, CfT_S hp⟩
    have hS1 : ∀ k, k ≠ 40 → k ≠ 41 → (M_searchS U).1 k = U.1 k := fun k a1 a2 => by
      show (if k = 41 then 0 else if k = 40 then 0 else U.1 k) = U.1 k
      rw [if_neg a2, if_neg a1]
    refine FINr cor.2.2.2.1 ⟨fun k _ _ _ _ _ x y _ => hS1 k x y, fun _ _ _ _ _ => rfl⟩ (hS1 0 (by decide) (by decide)) (clK_refl T) (COR_cg cor (fun _ _ _ _ _ => rfl) rfl (fun k _ x y _ => hS1 k x y) (fun _ _ => rfl) icf) (DR_cg dr rfl rfl (hS1 49 (by decide) (by decide)) rfl) (TYP_cg ty rfl rfl (hS1 2 (by decide) (by decide)) rfl) rfl hc.1
  | n + 1, nf, co, s, c, tr, T, U, h, hn, t0, ts, hf => by
    obtain ⟨p, ⟨cf, cb, rr⟩, cor', dr', ty', fk'⟩ := STEPr h
    have h' := h
    obtain ⟨cor, dr, ty, hp, hs, hc⟩ := h'
    have tx := COR_TX cor
    have l4 := tx.2.1
    have vr := (srch_V (n := nf) (m := co) (c := c) cor (DR_DU dr) ⟨ty.1.2.1, ty.1.2.2.1⟩ ty.2.2 hs.1 (by omega) hp hc.1 (by omega) hf).1
    have fp := frP_s (U := U) (s := s)
    have m0 : (M_search s U).2.1 0 = U.1 0 := (frM_search s U).1 0 (by omega)
    have km := mK.search (bg := s) (S := T)
    have ck : clK T (K0_search s T).2.2 := clK_m (clK_refl T) km
    have c16 : (K0_search s T).2.2.1 16 = T.1 16 := km.1 16 (by decide) (by decide) (by decide) (by decide) (by decide)
    have cu : ∀ N1 T', COR a T' N1 → frP U N1 → COR a T' U := fun N1 T' x y => COR_n (T := T) x y cor.2.2.2.1
    have icf := cor'.2.2.2.1
    rw [K6_repL, if_neg (show ¬ 24 < tr by omega)]
    generalize K0_search s T = k at *
    generalize M_search s U = m at *
    obtain ⟨e, w, S18⟩ := k
    obtain ⟨pl, N⟩ := m
    have rr' : (s ≤ pl ∧ 0 ≤ pl ∧ pl ≤ N.1 4 ∧ N.1 41 = 0 ∧ e = 0 ∧ w = pl ∧ FNd pl N S18) ∨ (pl = -1 ∧ N.1 41 = 0 ∧ e = 0 ∧ w = -1 ∧ S18.1 10 4 = N.1 40) ∨ (pl = -1 ∧ N.1 41 = 1 ∧ e = 1) := rr
    have cor2 : COR a S18 N := cor'
    have dr2 : DR S18 N := dr'
    have ty2 : TYP S18 N := ty'
    have vr2 : VRp nf co c pl N := vr
    have fp2 : frP U N := fp
    have ck2 : clK T S18 := ck
    show RPo a T U (gBd (e, w, S18) _) (M_replL nf co c pl N)
    rcases rr' with ⟨y1, y2, y3, y4, y5, y6, y7⟩ | ⟨y1, y2, y3, y4, y5⟩ | ⟨y1, y2, y3⟩
    · subst y5
      subst y6
      rw [bd_0, if_neg (show ¬ w = -1 by omega)]
      obtain ⟨fk2, hb⟩ := fk' y2
      have fk3 : FK w S18 N := fk2
      have hb3 : w ≤ N.1 38 := hb
      have tt : K0_tookTo 0 S18 = N.1 38 := fk3.2.1
      rw [tt, nx_eq hb3]
      have nn := vr2.2.2.2.2.2.2.2.2.2 y2
      have st := VRp_step vr2
      obtain ⟨nf', en, -, -, -, v⟩ := st.2.2.2.2.2.2.1 y2 y4
      subst en
      rw [replL_go (show ¬ w < 0 by omega) y4]
      have v' : VRp nf' (co + 1) (N.1 38) (M_search (nxS w (N.1 38)) (M_writeTemplate w (M_writeText c w N))).1 (M_search (nxS w (N.1 38)) (M_writeTemplate w (M_writeText c w N))).2 := v
      have fm2 := frM_search (nxS w (N.1 38)) (M_writeTemplate w (M_writeText c w N))
      have x4 := (COR_TX cor2).2.2.2
      have w1 := wt_fr (fr := c) (to := w) (U := N)
      obtain ⟨w2, w3⟩ := wt_DU (fr := c) (to := w) (DR_DU dr2) x4
      obtain ⟨m1, m2, m3⟩ := tm_mono (pl := w) ((M_writeText c w N).1 2).toNat 0 (M_writeText c w N) w2 (by rw [w1.2 3 (by decide)]; exact x4) (by rw [w1.2 1 (by decide)]; exact ty2.2.2)
      have m1' : frW (M_writeText c w N) (M_writeTemplate w (M_writeText c w N)) := m1
      have m3' : (M_writeText c w N).1 49 ≤ (M_writeTemplate w (M_writeText c w N)).1 49 := m3
      have fpe : frP U (M_writeTemplate w (M_writeText c w N)) := frP_w (frP_w fp2 w1) m1'
      have bg : 200 < (M_writeTemplate w (M_writeText c w N)).1 49 → RFo U (M_replL nf' (co + 1) (N.1 38) (M_search (nxS w (N.1 38)) (M_writeTemplate w (M_writeText c w N))).1 (M_search (nxS w (N.1 38)) (M_writeTemplate w (M_writeText c w N))).2) := fun y => big nf' _ _ _ U _ v' (frP_m fpe fm2) (by rw [fm2.1 49 (by omega)]; exact y)
      have R := K6_writeText_R (bg := c) (en := w) (COR_fV cor2 dr2 ty2)
      rcases WRTr cor2 dr2 ty2 fk3 hb3 hc.1 with ⟨z1, z2, z3⟩ | ⟨z1, z2, z3⟩
      · left
        have eb : ∀ kk : Int → CSt → CR, gBd (K6_writeText c w S18) kk = (1, 0, (K6_writeText c w S18).2.2) := fun kk => if_neg (by omega)
        rw [eb]
        exact ⟨rfl, bg (by omega), clK_d ck2 R.1, cu N _ (COR_w cor2 R.1 (frW_refl N)) fp2, z3⟩
      · have eb : ∀ kk : Int → CSt → CR, gBd (K6_writeText c w S18) kk = kk (K6_writeText c w S18).2.1 (K6_writeText c w S18).2.2 := fun kk => if_pos z1
        rw [eb]
        rcases z3 with ⟨z4, z5, z6⟩ | ⟨z4, z5⟩
        · left
          have eb2 : ∀ kk : Int → CSt → CR, gBd (K6_writeTemplate (K6_writeText c w S18).2.2) kk = (1, 0, (K6_writeTemplate (K6_writeText c w S18).2.2).2.2) := fun kk => if_neg (by omega)
          rw [eb2]
          exact ⟨rfl, bg z5, clK_d ck2 z2, cu N _ (COR_w cor2 z2 (frW_refl N)) fp2, z6⟩
        · have eb2 : ∀ kk : Int → CSt → CR, gBd (K6_writeTemplate (K6_writeText c w S18).2.2) kk = kk (K6_writeTemplate (K6_writeText c w S18).2.2).2.1 (K6_writeTemplate (K6_writeText c w S18).2.2).2.2 := fun kk => if_pos z4
          rw [eb2]
          have nxg : w + 1 ≤ nxS w (N.1 38) := by
            unfold nxS
            by_cases e : N.1 38 = w
            · rw [if_pos e]; omega
            · rw [if_neg e]; omega
          have ih := REP n nf' (co + 1) (nxS w (N.1 38)) (N.1 38) (tr + 1) _ _ z5 (by omega) (by omega) (by omega) (by omega)
          rcases ih with ⟨i1, i2, i3, i4, i5⟩ | ⟨i1, i2, S8, U8, i3, i4, i5, i6, i7, i8, i9⟩
          · left
            obtain ⟨j1, j2, j3, j4⟩ := i2
            exact ⟨i1, ⟨j1, frP_trans fpe j2, j3, j4⟩, clK_trans (clK_d ck2 z2) i3, cu _ _ i4 fpe, i5⟩
          · right
            refine ⟨i1, i2, S8, U8, i3, i4, i5, clK_trans (clK_d ck2 z2) i6, frP_trans fpe i7, ?_, i9⟩
            rw [i8, m1'.1 0 (by decide), w1.1 0 (by decide)]; exact m0
    · subst y3
      subst y4
      subst y1
      rw [bd_0, if_pos rfl]
      exact FINr cor.2.2.2.1 fp2 m0 ck2 cor2 dr2 ty2 y2 hc.1
    · subst y3
      subst y1
      left
      have x4 := (COR_TX cor2).2.2.2
      have eb : ∀ kk : Int → CSt → CR, gBd ((1, w, S18) : CR) kk = (1, 0, S18) := fun kk => if_neg i10
      rw [eb, replL_end (Or.inl (by decide))]
      have wf := wt_fr (fr := c) (to := N.1 4) (U := N)
      rw [if_neg (show ¬ (M_writeText c (N.1 4) N).1 41 = 0 by rw [wf.1 41 (by decide)]; omega)]
      have c16' : S18.1 16 = T.1 16 := c16
      exact ⟨rfl, RFo_end fp2 icf (DR_DU dr2) x4 0, ck2, cu N _ cor2 fp2, by show ∀ j, 0 ≤ S18.1 16 j ∧ S18.1 16 j < 65536; rw [c16']; exact dr.2.2.2.2.1⟩
