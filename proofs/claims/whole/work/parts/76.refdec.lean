theorem StR_ad {p : Nat → Nat → Int} {R : Nat → Int} {N : Nat} {len md : Int} {x : Nat → Int} {Q : Nat → Int} {cnt : Nat} {T T' : MSt} {rg : Nat → Int} {d : Int} (a : AdT T T' rg d) (h : StR p R N len md x Q (snT T) cnt (T.1 35).toNat) : StR p R N len md x Q (snT T') cnt (T'.1 35).toNat := by
  obtain ⟨-, a2, a3, a4, -⟩ := a
  exact StR_cong (Int.le_refl _) (Nat.le_refl _) (fun i _ y => by omega) (fun _ _ => rfl) (fun _ _ _ _ => rfl) (fun m _ b c => a4 _ (by omega)) h
theorem RSb_ad {p : Nat → Nat → Int} {R : Nat → Int} {N : Nat} {len md : Int} {x : Nat → Int} {Q : Nat → Int} {cnt pos : Nat} {T T' : MSt} {rg g : Nat → Int} {d pl : Int} (a : AdT T T' rg d) (h : StR p R N len md x Q (snT T) cnt (T.1 35).toNat) (h' : RSb p N len x Q (snT T) pos g pl cnt) : RSb p N len x Q (snT T') pos g pl cnt := by
  obtain ⟨-, a2, a3, a4, -⟩ := a
  exact RSb_cong (fun _ _ => rfl) (fun _ _ _ _ => rfl) (fun m hm => a4 _ (by have := (h.1 m hm).1.1; have := (h.1 m hm).2; omega)) h'
theorem qT_ad {T T' : MSt} {rg : Nat → Int} {d : Int} (a : AdT T T' rg d) : qT T' = qT T := by
  funext c
  exact a.1.2.2 _ (by omega)
theorem snT_now {T : MSt} (h : 0 ≤ T.1 35) : snT T (T.1 35).toNat = gT T := snT_top (by omega)
theorem dcp_nn (q : Int) : 0 ≤ dcp q ∧ dcp q ≤ 8 := by unfold dcp; (repeat' split) <;> omega
theorem crp_nn (q : Int) : 0 ≤ crp q ∧ crp q ≤ 1 := by unfold crp; split <;> omega
theorem stp_nn (q : Int) : 0 ≤ stp q ∧ stp q ≤ 1 := by unfold stp; split <;> omega
theorem stp_dcp {q : Int} (h : stp q = 1) : 3 ≤ dcp q := by
  unfold stp at h
  unfold dcp
  split at h
  · (repeat' split) <;> omega
  · omega
theorem nzE_push {x : Nat → Int} {n : Nat} {v : Int} : nzE (zu x n v) (n + 1) = nzE x n + (if v % 4 = 1 then 0 else 1) := by
  rw [nzE, zu_eq, nzE_cong (x := zu x n v) (y := x) n (fun i hi => zu_ne (by omega))]
/-- what an order costs: it falls at every order -/
def MU (p : Nat → Nat → Int) (N : Nat) (T : MSt) : Int := 376 * (501 - T.1 40) + 250 - 250 * stp (p 0 (T.1 39).toNat) + 125 * nzE (T.2 36) (T.1 37).toNat + ((N : Int) - T.1 39)
/-- the state in which a loop decides -/
def LpT (p : Nat → Nat → Int) (R : Nat → Int) (N : Nat) (k : Nat) (T : MSt) : Prop := CfT p T ∧ k < N ∧ p 0 k = 14 ∧ RSb p N (T.1 4) (T.2 36) (qT T) (snT T) k (gT T) (T.1 38) (T.1 37).toNat ∧ T.1 35 + Wr (gT T) 130 + 4 * cntB p 10 k N ≤ 8 * T.1 40 + 40 ∧ StR p R N (T.1 4) (T.1 40) (T.2 36) (qT T) (snT T) (T.1 37).toNat (T.1 35).toNat
theorem RI_passT {p : Nat → Nat → Int} {R : Nat → Int} {N : Nat} {k : Nat} {T : MSt} (hp : prR p R N) (h : LpT p R N k T) (t0 : 0 ≤ gT T (reL p k)) (t1 : gT T (reL p k) ≤ leL p k + T.1 38) (hc : ((T.1 37).toNat : Int) + Ps p R N (passG p k (gT T) (T.1 38)) (T.1 38) N (k + 1) ≤ 79 * (T.1 38 + 1) + 2 * T.1 40) : RI p R N (M_pass k T) ∧ MU p N (M_pass k T) = 376 * (501 - T.1 40) + 125 * nzE (T.2 36) (T.1 37).toNat + ((N : Int) - (k + 1)) := by
  obtain ⟨c, hk, k14, i1, i2, i4⟩ := h
  have c' := c
  obtain ⟨q8, q9, q10, q11, q4, -, -, -, -, -, q35, q37, q40, -, -, -⟩ := c'
  obtain ⟨l0, l1, l2, l3, l4, l5, l6, l7, l8, l9, l10, l11, l12, l13⟩ := loop_in hp hk k14
  have w1 := i1.2.1
  have w2 := i1.2.2.1
  have a := AdT_pass (p := p) (k := k) (T := T) q10 q11 q35 i1.2.2.2.1 l3 l4 l0 l1 l2 t0 (by omega) w1 (by omega)
  rw [M_pass_T]
  have f := a.1
  have c2 : CfT p (mi (passT k T) 39 ((k : Int) + 1)) := CfT_39 (CfT_ad c a)
  have hb := RSb_pass hp hk k14 q4 i1 t0 t1
  have cn : cntB p 10 (k + 1) N = cntB p 10 k N := by
    rw [cntB_but (q := 10) (hp.1.2.2.2.2.1 k hk k14).2.2.2.2.2.2.2.2.2.2.2.2.2.2.1 inB_not_self l5 N, if_neg (fun y => by rw [k14] at y; exact absurd y.2 (by decide))]
    omega
  have e4 := f.1 4 (by decide)
  have e37 := f.1 37 (by decide)
  have e38 := f.1 38 (by decide)
  have e40 := f.1 40 (by decide)
  have e36 := f.2.1 36 (by decide) (by decide)
  have d3 := stp_dcp l13
  have cr := crp_nn (p 0 (k + 1))
  refine ⟨⟨c2, by show 0 ≤ (k : Int) + 1; omega, ?_⟩, ?_⟩
  · show RIc p R N ((passT k T).1 4) ((passT k T).2 36) (qT (passT k T)) (snT (passT k T)) (gT (passT k T)) ((passT k T).1 35).toNat ((passT k T).1 37).toNat ((k : Int) + 1).toNat ((passT k T).1 38) ((passT k T).1 40)
    rw [e4, e37, e38, e40, e36, qT_ad a, show ((k : Int) + 1).toNat = k + 1 by omega]
    have h5 : 0 ≤ (passT k T).1 35 := by have := a.2.2.1; omega
    refine ⟨?_, ?_, ?_, StR_ad a i4, snT_now h5⟩
    · rw [a.2.2.2.2.1]
      exact RSb_ad a i4 hb
    · rw [a.2.2.2.2.1, cn]
      have := a.2.2.2.2.2.1
      omega
    · rw [a.2.2.2.2.1]
      omega
  · show 376 * (501 - (passT k T).1 40) + 250 - 250 * stp (p 0 ((k : Int) + 1).toNat) + 125 * nzE ((passT k T).2 36) ((passT k T).1 37).toNat + ((N : Int) - ((k : Int) + 1)) = _
    rw [e37, e40, e36, show ((k : Int) + 1).toNat = k + 1 by omega, l13]
    omega
theorem LpT_choose0 {p : Nat → Nat → Int} {R : Nat → Int} {N : Nat} {k : Nat} {T : MSt} (hp : prR p R N) (h : LpT p R N k T) (hc : ((T.1 37).toNat : Int) + Ps p R N (gT T) (T.1 38) k (enL p k + 1) ≤ 79 * (T.1 38 + 1) + 2 * T.1 40) : LpT p R N k (M_choose 0 ((enL p k : Int) + 1) T) := by
  obtain ⟨c, hk, k14, i1, i2, i4⟩ := h
  have c' := c
  obtain ⟨q8, q9, q10, q11, q4, -, -, -, -, -, q35, q37, q40, q41, -, -⟩ := c'
  obtain ⟨l0, l1, l2, l3, l4, l5, l6, l7, l8, l9, l10, l11, l12, l13⟩ := loop_in hp hk k14
  have wn := Wr_nn (gT T) 130
  have cn := cntB_nn (p := p) (q := 10) (r := k) N
  have e35 : ((T.1 35).toNat : Int) = T.1 35 := by omega
  have sB : sameB p k (enL p k + 1) := fun h => (loop_out (h := h) hp hk k14).1.symm
  have st := St_push0 (w := enL p k + 1) (tr := (T.1 35).toNat) (R := R) (md := T.1 40) q4 hp.2.1 (RSb_go sB l10 i1) (by omega) (by rw [← cntB_same sB]; have := dcp_nn (p 0 (enL p k + 1)); omega) (by rw [(Ps_out hp hk k14).1]; have := crp_nn (p 0 (enL p k + 1)); omega) i4 (snT_now q35)
  rw [e35] at st
  refine ⟨CfT_choose c, hk, k14, ?_, i2, ?_⟩
  · show RSb p N (T.1 4) (zu (T.2 36) (T.1 37).toNat (0 + 4 * (((enL p k : Int) + 1) + 256 * (T.1 38 + 32 * T.1 35)))) (qT T) (snT T) k (gT T) (T.1 38) (T.1 37 + 1).toNat
    rw [show (T.1 37 + 1).toNat = (T.1 37).toNat + 1 by omega]
    exact RSb_push i1 (by omega)
  · show StR p R N (T.1 4) (T.1 40) (zu (T.2 36) (T.1 37).toNat (0 + 4 * (((enL p k : Int) + 1) + 256 * (T.1 38 + 32 * T.1 35)))) (qT T) (snT T) (T.1 37 + 1).toNat (T.1 35).toNat
    rw [show (T.1 37 + 1).toNat = (T.1 37).toNat + 1 by omega]
    exact st
/-- out of a loop -/
theorem RI_leave {p : Nat → Nat → Int} {R : Nat → Int} {N : Nat} {k : Nat} {T : MSt} (hp : prR p R N) (h : LpT p R N k T) (hc : ((T.1 37).toNat : Int) + Ps p R N (gT T) (T.1 38) k (enL p k + 1) ≤ 79 * (T.1 38 + 1) + 2 * T.1 40) : RI p R N (mi T 39 ((enL p k : Int) + 1)) ∧ MU p N (mi T 39 ((enL p k : Int) + 1)) ≤ 376 * (501 - T.1 40) + 250 + 125 * nzE (T.2 36) (T.1 37).toNat + ((N : Int) - (enL p k + 1)) := by
  obtain ⟨c, hk, k14, i1, i2, i4⟩ := h
  have c' := c
  obtain ⟨q8, q9, q10, q11, q4, -, -, -, -, -, q35, q37, q40, q41, -, -⟩ := c'
  obtain ⟨l0, l1, l2, l3, l4, l5, l6, l7, l8, l9, l10, l11, l12, l13⟩ := loop_in hp hk k14
  have sB : sameB p k (enL p k + 1) := fun h => (loop_out (h := h) hp hk k14).1.symm
  refine ⟨⟨CfT_39 c, by show 0 ≤ (enL p k : Int) + 1; omega, ?_⟩, ?_⟩
  · show RIc p R N (T.1 4) (T.2 36) (qT T) (snT T) (gT T) (T.1 35).toNat (T.1 37).toNat ((enL p k : Int) + 1).toNat (T.1 38) (T.1 40)
    rw [show ((enL p k : Int) + 1).toNat = enL p k + 1 by omega]
    refine ⟨RSb_go sB l10 i1, ?_, ?_, i4, snT_now q35⟩
    · rw [← cntB_same sB]
      have := dcp_nn (p 0 (enL p k + 1))
      omega
    · rw [(Ps_out hp hk k14).1]
      have := crp_nn (p 0 (enL p k + 1))
      omega
  · show 376 * (501 - T.1 40) + 250 - 250 * stp (p 0 ((enL p k : Int) + 1).toNat) + 125 * nzE (T.2 36) (T.1 37).toNat + ((N : Int) - ((enL p k : Int) + 1)) ≤ _
    have := stp_nn (p 0 ((enL p k : Int) + 1).toNat)
    omega
theorem LpT_choose1 {p : Nat → Nat → Int} {R : Nat → Int} {N : Nat} {k : Nat} {T : MSt} (hp : prR p R N) (h : LpT p R N k T) (t0 : 0 ≤ gT T (reL p k)) (t1 : gT T (reL p k) ≤ leL p k + T.1 38) (t2 : leL p k ≤ gT T (reL p k)) (hc : ((T.1 37).toNat : Int) + (R (enL p k) - R (k + 1)) ≤ 79 * (T.1 38 + 1) + 2 * T.1 40) : LpT p R N k (M_choose 1 (k : Int) T) := by
  obtain ⟨c, hk, k14, i1, i2, i4⟩ := h
  have c' := c
  obtain ⟨q8, q9, q10, q11, q4, -, -, -, -, -, q35, q37, q40, q41, -, -⟩ := c'
  obtain ⟨l0, l1, l2, l3, l4, l5, l6, l7, l8, l9, l10, l11, l12, l13⟩ := loop_in hp hk k14
  have wn := Wr_nn (gT T) 130
  have cn := cntB_nn (p := p) (q := 10) (r := k) N
  have e35 : ((T.1 35).toNat : Int) = T.1 35 := by omega
  have st := St_push1 (w := k) (tr := (T.1 35).toNat) (R := R) (md := T.1 40) q4 hp.2.1 i1 (by omega) (by have := dcp_nn (p 0 k); omega) k14 t0 t1 t2 hc i4 (snT_now q35)
  rw [e35] at st
  refine ⟨CfT_choose c, hk, k14, ?_, i2, ?_⟩
  · show RSb p N (T.1 4) (zu (T.2 36) (T.1 37).toNat (1 + 4 * ((k : Int) + 256 * (T.1 38 + 32 * T.1 35)))) (qT T) (snT T) k (gT T) (T.1 38) (T.1 37 + 1).toNat
    rw [show (T.1 37 + 1).toNat = (T.1 37).toNat + 1 by omega]
    exact RSb_push i1 (by omega)
  · show StR p R N (T.1 4) (T.1 40) (zu (T.2 36) (T.1 37).toNat (1 + 4 * ((k : Int) + 256 * (T.1 38 + 32 * T.1 35)))) (qT T) (snT T) (T.1 37 + 1).toNat (T.1 35).toNat
    rw [show (T.1 37 + 1).toNat = (T.1 37).toNat + 1 by omega]
    exact st
/-- what decide does, by cases -/
theorem M_decide_by {p : Nat → Nat → Int} {k : Nat} {T : MSt} (h9 : T.2 9 = p 1) (h10 : T.2 10 = p 2) (h11 : T.2 11 = p 3) (h0 : 0 ≤ p 2 k) (hr : reL p k < 130) : M_decide k T = if leL p k ≤ gT T (reL p k) then (if moL p k ≠ 99 ∧ moL p k ≤ gT T (reL p k) then mi T 39 ((enL p k : Int) + 1) else if p 1 k < 65536 then M_pass k (M_choose 0 ((enL p k : Int) + 1) T) else mi (M_choose 1 k T) 39 ((enL p k : Int) + 1)) else M_pass k T := by
  have e1 : ((enL p k : Nat) : Int) = p 2 k / 4096 := by unfold enL; omega
  have g1 : gT T (reL p k) = T.2 33 (30 + p 3 k).toNat := by rw [gT_at hr]; rfl
  unfold M_decide
  rw [h9, h10, h11, show ((k : Int)).toNat = k by omega, e1, g1]
  show (if p 1 k % 128 ≤ T.2 33 (30 + p 3 k).toNat then _ else _) = (if p 1 k % 128 ≤ T.2 33 (30 + p 3 k).toNat then _ else _)
  by_cases c1 : p 1 k % 128 ≤ T.2 33 (30 + p 3 k).toNat
  · rw [if_pos c1, if_pos c1]
    show _ = (if p 1 k / 128 % 512 ≠ 99 ∧ p 1 k / 128 % 512 ≤ T.2 33 (30 + p 3 k).toNat then _ else _)
    by_cases c2 : p 1 k / 128 % 512 = 99
    · have nc : ¬ (p 1 k / 128 % 512 ≠ 99 ∧ p 1 k / 128 % 512 ≤ T.2 33 (30 + p 3 k).toNat) := fun y => y.1 c2
      rw [if_pos c2, if_neg nc]
      by_cases c3 : p 1 k < 65536
      · rw [if_pos c3, if_pos c3, if_pos rfl]
      · rw [if_neg c3, if_neg c3, if_neg (by decide)]
    · rw [if_neg c2]
      by_cases c4 : T.2 33 (30 + p 3 k).toNat < p 1 k / 128 % 512
      · have nc : ¬ (p 1 k / 128 % 512 ≠ 99 ∧ p 1 k / 128 % 512 ≤ T.2 33 (30 + p 3 k).toNat) := fun y => by omega
        rw [if_pos c4, if_neg nc]
        by_cases c3 : p 1 k < 65536
        · rw [if_pos c3, if_pos c3, if_pos rfl]
        · rw [if_neg c3, if_neg c3, if_neg (by decide)]
      · rw [if_neg c4, if_pos ⟨c2, by omega⟩]
  · rw [if_neg c1, if_neg c1]
theorem RI_decide {p : Nat → Nat → Int} {R : Nat → Int} {N : Nat} {k : Nat} {T : MSt} (hp : prR p R N) (h : LpT p R N k T) (hd : DPr p R N (gT T) (T.1 38) (T.1 37).toNat (T.1 40) k) : RI p R N (M_decide k T) ∧ (MU p N (M_decide k T) ≤ 376 * (501 - T.1 40) + 125 + 125 * nzE (T.2 36) (T.1 37).toNat + ((N : Int) - (k + 1)) ∨ MU p N (M_decide k T) ≤ 376 * (501 - T.1 40) + 250 + 125 * nzE (T.2 36) (T.1 37).toNat + ((N : Int) - (enL p k + 1))) := by
  have h' := h
  obtain ⟨c, hk, k14, i1, i2, i4⟩ := h'
  have c' := c
  obtain ⟨q8, q9, q10, q11, q4, -, -, -, -, -, q35, q37, q40, q41, -, -⟩ := c'
  obtain ⟨l0, l1, l2, l3, l4, l5, l6, l7, l8, l9, l10, l11, l12, l13⟩ := loop_in hp hk k14
  obtain ⟨d0, d1, d2, d3, d4⟩ := hd
  have hr : reL p k < 130 := by unfold reL; omega
  rw [M_decide_by q9 q10 q11 l0 hr]
  have ps := Ps_pass (rg := gT T) (pl := T.1 38) hp hk k14
  by_cases c1 : leL p k ≤ gT T (reL p k)
  · rw [if_pos c1]
    rw [if_pos c1] at ps
    have d4' := d4 c1
    by_cases c2 : moL p k ≠ 99 ∧ moL p k ≤ gT T (reL p k)
    · rw [if_pos c2]
      have := RI_leave hp h (by omega)
      exact ⟨this.1, Or.inr this.2⟩
    · rw [if_neg c2]
      have d3' := d3 c1 (by omega)
      by_cases c3 : p 1 k < 65536
      · rw [if_pos c3]
        have hL := LpT_choose0 hp h (by omega)
        have := RI_passT hp hL d0 d1 (by
          show ((T.1 37 + 1).toNat : Int) + Ps p R N (passG p k (gT T) (T.1 38)) (T.1 38) N (k + 1) ≤ 79 * (T.1 38 + 1) + 2 * T.1 40
          omega)
        refine ⟨this.1, Or.inl ?_⟩
        rw [this.2]
        show 376 * (501 - T.1 40) + 125 * nzE (zu (T.2 36) (T.1 37).toNat (0 + 4 * (((enL p k : Int) + 1) + 256 * (T.1 38 + 32 * T.1 35)))) (T.1 37 + 1).toNat + ((N : Int) - (k + 1)) ≤ _
        rw [show (T.1 37 + 1).toNat = (T.1 37).toNat + 1 by omega, nzE_push]
        split <;> omega
      · rw [if_neg c3]
        have hL := LpT_choose1 hp h d0 d1 c1 (by omega)
        have := RI_leave hp hL (by
          show ((T.1 37 + 1).toNat : Int) + Ps p R N (gT T) (T.1 38) k (enL p k + 1) ≤ 79 * (T.1 38 + 1) + 2 * T.1 40
          omega)
        refine ⟨this.1, Or.inr ?_⟩
        have m := this.2
        have e : nzE (zu (T.2 36) (T.1 37).toNat (1 + 4 * ((k : Int) + 256 * (T.1 38 + 32 * T.1 35)))) (T.1 37 + 1).toNat = nzE (T.2 36) (T.1 37).toNat := by
          rw [show (T.1 37 + 1).toNat = (T.1 37).toNat + 1 by omega, nzE_push, if_pos (by omega)]
          omega
        refine Int.le_trans m ?_
        show 376 * (501 - T.1 40) + 250 + 125 * nzE (zu (T.2 36) (T.1 37).toNat (1 + 4 * ((k : Int) + 256 * (T.1 38 + 32 * T.1 35)))) (T.1 37 + 1).toNat + ((N : Int) - (enL p k + 1)) ≤ _
        rw [e]
        exact Int.le_refl _
  · rw [if_neg c1]
    rw [if_neg c1] at ps
    have d2' := d2 (by omega)
    have := RI_passT hp h d0 d1 (by omega)
    refine ⟨this.1, Or.inl ?_⟩
    rw [this.2]
    omega
