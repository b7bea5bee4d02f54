theorem z1n0 : ¬ (1 : Int) = 0 := by decide
/-- what holds of a Program -/
def pB (t : Nat) (S : CSt) : Prop := (∀ j i, j < 9 → -1 ≤ S.1 (pA t j) i ∧ S.1 (pA t j) i ≤ 1000000) ∧ 0 ≤ S.1 t 5 ∧ S.1 t 5 ≤ 96 ∧ 0 ≤ S.1 t 10 ∧ S.1 t 10 ≤ 20 ∧ 0 ≤ S.1 t 11 ∧ S.1 t 11 ≤ 10 ∧ 0 ≤ S.1 t 12 ∧ S.1 t 12 ≤ 9 ∧ 0 ≤ S.1 t 13 ∧ S.1 t 13 ≤ 7
theorem pB_of {t : Nat} {S S' : CSt} (h1 : S'.1 t = S.1 t) (h2 : ∀ j, j < 9 → S'.1 (pA t j) = S.1 (pA t j)) (h : pB t S) : pB t S' := by
  obtain ⟨h0, hr⟩ := h
  refine ⟨fun j i hj => ?_, ?_⟩
  · rw [h2 j hj]
    exact h0 j i hj
  · rw [h1]
    exact hr
theorem pB_ci {t n k : Nat} {S : CSt} {v : Int} (ht : t = 6 ∨ t = 7) (hn : n < 6 ∨ (7 < n ∧ n < 17) ∨ 34 < n) (h : pB t S) : pB t (ci S n k v) :=
  pB_of (ci_ne (by omega)) (fun j hj => ci_ne (by unfold pA; omega)) h
def K2_clear (t : Nat) (nf : Int) (S : CSt) : CSt := (ci (ci (ci (ci (ci S t 5 0) t 10 0) t 11 0) t 12 0) t 13 nf)
set_option maxHeartbeats 1000000 in
set_option maxRecDepth 100000 in
theorem cX2_clear_ok (l : Launch) (D : va_G) (cy : Nat → ClassId) (q : Nat → Nat) (a b : Nat) (S : CSt) (hF : cFx a b S) (t : Nat) (ht : t = 6 ∨ t = 7) (nf : Int)  : cMv l D cy q yX2_clear (.code yX2_clear cX2_clear 2 none :: TBC) ({ frames := 0, cells := 0, slots := 0, locals := 0 }) S t [.int (zI nf)] (fun S' => S' = K2_clear t nf S) := by
  refine c_of (cc := cX2_clear) (maxL := 2) (ret := none) (C := RX2) (by decide) rfl rfl (Nat.le_of_ble_eq_true rfl) ?_
  intro p e s m args below meth c ls B hK hM hl
  have hl : lv_has ls 2 [(0, .ref (q t)), (1, .int (zI nf))] := hl
  refine lv_aload_n B.1 B.2.1 dX2_clear_0 rfl (lv_at hl 0 rfl) ?_
  refine z_iconst B.1 B.2.1 dX2_clear_1 ?_
  refine c_puti (q := q) B (iC2 _) tyX2 tyX2_ok nmX2 hK hM t 5 2 (by omega) (cK_pr ht) rfl (by decide) (by decide) rfl rfl rfl (by decide +kernel) (by decide) (List.mem_cons_of_mem _ wC_fRX2_40) dX2_clear_2 (fun H locs hM => ?_)
  refine lv_aload_n B.1 B.2.1 dX2_clear_5 rfl (lv_at hl 0 rfl) ?_
  refine z_iconst B.1 B.2.1 dX2_clear_6 ?_
  refine c_puti (q := q) B (iC2 _) tyX2 tyX2_ok nmX2 hK hM t 10 2 (by omega) (cK_pr ht) rfl (by decide) (by decide) rfl rfl rfl (by decide +kernel) (by decide) (List.mem_cons_of_mem _ wC_fRX2_44) dX2_clear_7 (fun H locs hM => ?_)
  refine lv_aload_n B.1 B.2.1 dX2_clear_10 rfl (lv_at hl 0 rfl) ?_
  refine z_iconst B.1 B.2.1 dX2_clear_11 ?_
  refine c_puti (q := q) B (iC2 _) tyX2 tyX2_ok nmX2 hK hM t 11 2 (by omega) (cK_pr ht) rfl (by decide) (by decide) rfl rfl rfl (by decide +kernel) (by decide) (List.mem_cons_of_mem _ wC_fRX2_47) dX2_clear_12 (fun H locs hM => ?_)
  refine lv_aload_n B.1 B.2.1 dX2_clear_15 rfl (lv_at hl 0 rfl) ?_
  refine z_iconst B.1 B.2.1 dX2_clear_16 ?_
  refine c_puti (q := q) B (iC2 _) tyX2 tyX2_ok nmX2 hK hM t 12 2 (by omega) (cK_pr ht) rfl (by decide) (by decide) rfl rfl rfl (by decide +kernel) (by decide) (List.mem_cons_of_mem _ wC_fRX2_50) dX2_clear_17 (fun H locs hM => ?_)
  refine lv_aload_n B.1 B.2.1 dX2_clear_20 rfl (lv_at hl 0 rfl) ?_
  refine lv_iload_n B.1 B.2.1 dX2_clear_21 rfl (lv_at hl 1 rfl) ?_
  refine c_puti (q := q) B (iC2 _) tyX2 tyX2_ok nmX2 hK hM t 13 2 (by omega) (cK_pr ht) rfl (by decide) (by decide) rfl rfl rfl (by decide +kernel) (by decide) (List.mem_cons_of_mem _ wC_fRX2_53) dX2_clear_22 (fun H locs hM => ?_)
  exact c_retv B hM (rfl) dX2_clear_25
def K2_size (t : Nat) (S : CSt) : Int := S.1 t 5
set_option maxHeartbeats 1000000 in
set_option maxRecDepth 100000 in
theorem cX2_size_ok (l : Launch) (D : va_G) (cy : Nat → ClassId) (q : Nat → Nat) (a b : Nat) (S : CSt) (hF : cFx a b S) (t : Nat) (ht : t = 6 ∨ t = 7)  : cMi l D cy q yX2_size (.code yX2_size cX2_size 1 (some .int) :: TBC) ({ frames := 0, cells := 0, slots := 0, locals := 0 }) S t [] (fun r S' => r = K2_size t S ∧ S' = S) := by
  refine c_of (cc := cX2_size) (maxL := 1) (ret := (some .int)) (C := RX2) (by decide) rfl rfl (Nat.le_of_ble_eq_true rfl) ?_
  intro p e s m args below meth c ls B hK hM hl
  have hl : lv_has ls 1 [(0, .ref (q t))] := hl
  refine lv_aload_n B.1 B.2.1 dX2_size_0 rfl (lv_at hl 0 rfl) ?_
  refine c_geti (q := q) (x := S.1 t 5) B (iC2 _) hK hM t 5 2 (by omega) (cK_pr ht) rfl (by decide) (by decide) rfl rfl (by decide) rfl (List.mem_cons_of_mem _ wC_fRX2_40) dX2_size_1 ?_
  exact c_reti B hM (⟨rfl, rfl⟩) dX2_size_4
def K2_groups (t : Nat) (S : CSt) : Int := S.1 t 12
set_option maxHeartbeats 1000000 in
set_option maxRecDepth 100000 in
theorem cX2_groups_ok (l : Launch) (D : va_G) (cy : Nat → ClassId) (q : Nat → Nat) (a b : Nat) (S : CSt) (hF : cFx a b S) (t : Nat) (ht : t = 6 ∨ t = 7)  : cMi l D cy q yX2_groups (.code yX2_groups cX2_groups 1 (some .int) :: TBC) ({ frames := 0, cells := 0, slots := 0, locals := 0 }) S t [] (fun r S' => r = K2_groups t S ∧ S' = S) := by
  refine c_of (cc := cX2_groups) (maxL := 1) (ret := (some .int)) (C := RX2) (by decide) rfl rfl (Nat.le_of_ble_eq_true rfl) ?_
  intro p e s m args below meth c ls B hK hM hl
  have hl : lv_has ls 1 [(0, .ref (q t))] := hl
  refine lv_aload_n B.1 B.2.1 dX2_groups_0 rfl (lv_at hl 0 rfl) ?_
  refine c_geti (q := q) (x := S.1 t 12) B (iC2 _) hK hM t 12 2 (by omega) (cK_pr ht) rfl (by decide) (by decide) rfl rfl (by decide) rfl (List.mem_cons_of_mem _ wC_fRX2_50) dX2_groups_1 ?_
  exact c_reti B hM (⟨rfl, rfl⟩) dX2_groups_4
def K2_has (t : Nat) (flag : Int) (S : CSt) : Int := (if (zand (S.1 t 13) flag) = 0 then 0 else 1 : Int)
set_option maxHeartbeats 1000000 in
set_option maxRecDepth 100000 in
theorem cX2_has_ok (l : Launch) (D : va_G) (cy : Nat → ClassId) (q : Nat → Nat) (a b : Nat) (S : CSt) (hF : cFx a b S) (t : Nat) (ht : t = 6 ∨ t = 7) (flag : Int) (hP : pB t S) (h0 : 0 ≤ flag) (h1 : flag ≤ 100) : cMi l D cy q yX2_has (.code yX2_has cX2_has 2 (some .boolean) :: TBC) ({ frames := 0, cells := 0, slots := 0, locals := 0 }) S t [.int (zI flag)] (fun r S' => r = K2_has t flag S ∧ S' = S) := by
  refine c_of (cc := cX2_has) (maxL := 2) (ret := (some .boolean)) (C := RX2) (by decide) rfl rfl (Nat.le_of_ble_eq_true rfl) ?_
  intro p e s m args below meth c ls B hK hM hl
  have hl : lv_has ls 2 [(0, .ref (q t)), (1, .int (zI flag))] := hl
  obtain ⟨hPa, p5a, p5b, pla, plb, pka, pkb, pga, pgb, pfa, pfb⟩ := id hP
  refine lv_aload_n B.1 B.2.1 dX2_has_0 rfl (lv_at hl 0 rfl) ?_
  refine c_geti (q := q) (x := S.1 t 13) B (iC2 _) hK hM t 13 2 (by omega) (cK_pr ht) rfl (by decide) (by decide) rfl rfl (by decide) rfl (List.mem_cons_of_mem _ wC_fRX2_53) dX2_has_1 ?_
  refine lv_iload_n B.1 B.2.1 dX2_has_4 rfl (lv_at hl 1 rfl) ?_
  refine z_iand (x := zand (S.1 t 13) flag) B.1 B.2.1 rfl (by omega) (by omega) dX2_has_5 ?_
  have f_1 := zand_bd (a := S.1 t 13) (b := flag) (by omega)
  refine z_joinH (P := fun v H' locs' => v = (if (zand (S.1 t 13) flag) = 0 then 0 else 1 : Int) ∧ cH D cy q (cA q) s.heap S H' locs') (pcJ := 14) (lsJ := ls) (stJ := []) (fun v_2 H locs hv_3 => ?_) (fun hJ_4 => ?_)
  · --
    obtain ⟨hv_3, hM⟩ := hv_3
    have hb_5 : (if (zand (S.1 t 13) flag) = 0 then 0 else 1 : Int) = 0 ∨ (if (zand (S.1 t 13) flag) = 0 then 0 else 1 : Int) = 1 := by (repeat' split) <;> simp
    have hv_3 := hv_3.symm
    subst hv_3
    exact c_retz B hM (by omega) (⟨rfl, rfl⟩) dX2_has_14
  · --
    refine z_if_eq (tgt := 13) B.1 B.2.1 (zr_of (by omega) (by omega)) dX2_has_6 (by decide) (fun c_6 => ?_) (fun c_6 => ?_)
    · --
      refine z_iconst B.1 B.2.1 dX2_has_13 ?_
      exact hJ_4 _ _ _ ⟨(if_pos c_6).symm, hM⟩
    · --
      refine z_iconst B.1 B.2.1 dX2_has_9 ?_
      refine lv_goto (tgt := 14) B.1 B.2.1 dX2_has_10 (by decide) ?_
      exact hJ_4 _ _ _ ⟨(if_neg c_6).symm, hM⟩
theorem K2_has_bd (t : Nat) (flag : Int) (S : CSt) : K2_has t flag S = 0 ∨ K2_has t flag S = 1 := by
  unfold K2_has
  (repeat' split) <;> simp
def K2_isInstruction (t : Nat) (i : Int) (S : CSt) : Int := (if i < 0 then 0 else (if (S.1 t 5) ≤ i then 0 else (if 96 ≤ i then 0 else 1 : Int) : Int) : Int)
set_option maxHeartbeats 1000000 in
set_option maxRecDepth 100000 in
theorem cX2_isInstruction_ok (l : Launch) (D : va_G) (cy : Nat → ClassId) (q : Nat → Nat) (a b : Nat) (S : CSt) (hF : cFx a b S) (t : Nat) (ht : t = 6 ∨ t = 7) (i : Int) (hP : pB t S) (ha0 : -1000000000 ≤ i) (ha1 : i ≤ 1000000000) : cMi l D cy q yX2_isInstruction (.code yX2_isInstruction cX2_isInstruction 2 (some .boolean) :: TBC) ({ frames := 0, cells := 0, slots := 0, locals := 0 }) S t [.int (zI i)] (fun r S' => r = K2_isInstruction t i S ∧ S' = S) := by
  refine c_of (cc := cX2_isInstruction) (maxL := 2) (ret := (some .boolean)) (C := RX2) (by decide) rfl rfl (Nat.le_of_ble_eq_true rfl) ?_
  intro p e s m args below meth c ls B hK hM hl
  have hl : lv_has ls 2 [(0, .ref (q t)), (1, .int (zI i))] := hl
  obtain ⟨hPa, p5a, p5b, pla, plb, pka, pkb, pga, pgb, pfa, pfb⟩ := id hP
  refine lv_iload_n B.1 B.2.1 dX2_isInstruction_0 rfl (lv_at hl 1 rfl) ?_
  refine z_joinH (P := fun v H' locs' => v = (if i < 0 then 0 else (if (S.1 t 5) ≤ i then 0 else (if 96 ≤ i then 0 else 1 : Int) : Int) : Int) ∧ cH D cy q (cA q) s.heap S H' locs') (pcJ := 23) (lsJ := ls) (stJ := []) (fun v_1 H locs hv_2 => ?_) (fun hJ_3 => ?_)
  · --
    obtain ⟨hv_2, hM⟩ := hv_2
    have hb_4 : (if i < 0 then 0 else (if (S.1 t 5) ≤ i then 0 else (if 96 ≤ i then 0 else 1 : Int) : Int) : Int) = 0 ∨ (if i < 0 then 0 else (if (S.1 t 5) ≤ i then 0 else (if 96 ≤ i then 0 else 1 : Int) : Int) : Int) = 1 := by (repeat' split) <;> simp
    have hv_2 := hv_2.symm
    subst hv_2
    exact c_retz B hM (by omega) (⟨rfl, rfl⟩) dX2_isInstruction_23
  · --
    refine z_if_lt (tgt := 22) B.1 B.2.1 (zr_of (by omega) (by omega)) dX2_isInstruction_1 (by decide) (fun c_5 => ?_) (fun c_5 => ?_)
    · --
      refine z_iconst B.1 B.2.1 dX2_isInstruction_22 ?_
      exact hJ_3 _ _ _ ⟨(if_pos c_5).symm, hM⟩
    · --
      refine lv_iload_n B.1 B.2.1 dX2_isInstruction_4 rfl (lv_at hl 1 rfl) ?_
      refine lv_aload_n B.1 B.2.1 dX2_isInstruction_5 rfl (lv_at hl 0 rfl) ?_
      refine c_geti (q := q) (x := S.1 t 5) B (iC2 _) hK hM t 5 2 (by omega) (cK_pr ht) rfl (by decide) (by decide) rfl rfl (by decide) rfl (List.mem_cons_of_mem _ wC_fRX2_40) dX2_isInstruction_6 ?_
      refine z_icmp_ge (tgt := 22) B.1 B.2.1 (zr_of (by omega) (by omega)) (zr_of (by omega) (by omega)) dX2_isInstruction_9 (by decide) (fun c_6 => ?_) (fun c_6 => ?_)
      · --
        refine z_iconst B.1 B.2.1 dX2_isInstruction_22 ?_
        exact hJ_3 _ _ _ ⟨((if_neg c_5).trans (if_pos c_6)).symm, hM⟩
      · --
        refine lv_iload_n B.1 B.2.1 dX2_isInstruction_12 rfl (lv_at hl 1 rfl) ?_
        refine z_bipush B.1 B.2.1 (by decide) dX2_isInstruction_13 ?_
        refine z_icmp_ge (tgt := 22) B.1 B.2.1 (zr_of (by omega) (by omega)) (zr_of (by decide) (by decide)) dX2_isInstruction_15 (by decide) (fun c_7 => ?_) (fun c_7 => ?_)
        · --
          refine z_iconst B.1 B.2.1 dX2_isInstruction_22 ?_
          exact hJ_3 _ _ _ ⟨((if_neg c_5).trans ((if_neg c_6).trans (if_pos c_7))).symm, hM⟩
        · --
          refine z_iconst B.1 B.2.1 dX2_isInstruction_18 ?_
          refine lv_goto (tgt := 23) B.1 B.2.1 dX2_isInstruction_19 (by decide) ?_
          exact hJ_3 _ _ _ ⟨((if_neg c_5).trans ((if_neg c_6).trans (if_neg c_7))).symm, hM⟩
theorem K2_isInstruction_bd (t : Nat) (i : Int) (S : CSt) : K2_isInstruction t i S = 0 ∨ (K2_isInstruction t i S = 1 ∧ 0 ≤ i ∧ i < S.1 t 5 ∧ i < 96) := by
  unfold K2_isInstruction
  (repeat' split) <;> omega
def K2_isLoop (t : Nat) (i : Int) (S : CSt) : Int := (if i < 0 then 0 else (if (S.1 t 10) ≤ i then 0 else (if 20 ≤ i then 0 else 1 : Int) : Int) : Int)
set_option maxHeartbeats 1000000 in
set_option maxRecDepth 100000 in
theorem cX2_isLoop_ok (l : Launch) (D : va_G) (cy : Nat → ClassId) (q : Nat → Nat) (a b : Nat) (S : CSt) (hF : cFx a b S) (t : Nat) (ht : t = 6 ∨ t = 7) (i : Int) (hP : pB t S) (ha0 : -1000000000 ≤ i) (ha1 : i ≤ 1000000000) : cMi l D cy q yX2_isLoop (.code yX2_isLoop cX2_isLoop 2 (some .boolean) :: TBC) ({ frames := 0, cells := 0, slots := 0, locals := 0 }) S t [.int (zI i)] (fun r S' => r = K2_isLoop t i S ∧ S' = S) := by
  refine c_of (cc := cX2_isLoop) (maxL := 2) (ret := (some .boolean)) (C := RX2) (by decide) rfl rfl (Nat.le_of_ble_eq_true rfl) ?_
  intro p e s m args below meth c ls B hK hM hl
  have hl : lv_has ls 2 [(0, .ref (q t)), (1, .int (zI i))] := hl
  obtain ⟨hPa, p5a, p5b, pla, plb, pka, pkb, pga, pgb, pfa, pfb⟩ := id hP
  refine lv_iload_n B.1 B.2.1 dX2_isLoop_0 rfl (lv_at hl 1 rfl) ?_
  refine z_joinH (P := fun v H' locs' => v = (if i < 0 then 0 else (if (S.1 t 10) ≤ i then 0 else (if 20 ≤ i then 0 else 1 : Int) : Int) : Int) ∧ cH D cy q (cA q) s.heap S H' locs') (pcJ := 23) (lsJ := ls) (stJ := []) (fun v_1 H locs hv_2 => ?_) (fun hJ_3 => ?_)
  · --
    obtain ⟨hv_2, hM⟩ := hv_2
    have hb_4 : (if i < 0 then 0 else (if (S.1 t 10) ≤ i then 0 else (if 20 ≤ i then 0 else 1 : Int) : Int) : Int) = 0 ∨ (if i < 0 then 0 else (if (S.1 t 10) ≤ i then 0 else (if 20 ≤ i then 0 else 1 : Int) : Int) : Int) = 1 := by (repeat' split) <;> simp
    have hv_2 := hv_2.symm
    subst hv_2
    exact c_retz B hM (by omega) (⟨rfl, rfl⟩) dX2_isLoop_23
  · --
    refine z_if_lt (tgt := 22) B.1 B.2.1 (zr_of (by omega) (by omega)) dX2_isLoop_1 (by decide) (fun c_5 => ?_) (fun c_5 => ?_)
    · --
      refine z_iconst B.1 B.2.1 dX2_isLoop_22 ?_
      exact hJ_3 _ _ _ ⟨(if_pos c_5).symm, hM⟩
    · --
      refine lv_iload_n B.1 B.2.1 dX2_isLoop_4 rfl (lv_at hl 1 rfl) ?_
      refine lv_aload_n B.1 B.2.1 dX2_isLoop_5 rfl (lv_at hl 0 rfl) ?_
      refine c_geti (q := q) (x := S.1 t 10) B (iC2 _) hK hM t 10 2 (by omega) (cK_pr ht) rfl (by decide) (by decide) rfl rfl (by decide) rfl (List.mem_cons_of_mem _ wC_fRX2_44) dX2_isLoop_6 ?_
      refine z_icmp_ge (tgt := 22) B.1 B.2.1 (zr_of (by omega) (by omega)) (zr_of (by omega) (by omega)) dX2_isLoop_9 (by decide) (fun c_6 => ?_) (fun c_6 => ?_)
      · --
        refine z_iconst B.1 B.2.1 dX2_isLoop_22 ?_
        exact hJ_3 _ _ _ ⟨((if_neg c_5).trans (if_pos c_6)).symm, hM⟩
      · --
        refine lv_iload_n B.1 B.2.1 dX2_isLoop_12 rfl (lv_at hl 1 rfl) ?_
        refine z_bipush B.1 B.2.1 (by decide) dX2_isLoop_13 ?_
        refine z_icmp_ge (tgt := 22) B.1 B.2.1 (zr_of (by omega) (by omega)) (zr_of (by decide) (by decide)) dX2_isLoop_15 (by decide) (fun c_7 => ?_) (fun c_7 => ?_)
        · --
          refine z_iconst B.1 B.2.1 dX2_isLoop_22 ?_
          exact hJ_3 _ _ _ ⟨((if_neg c_5).trans ((if_neg c_6).trans (if_pos c_7))).symm, hM⟩
        · --
          refine z_iconst B.1 B.2.1 dX2_isLoop_18 ?_
          refine lv_goto (tgt := 23) B.1 B.2.1 dX2_isLoop_19 (by decide) ?_
          exact hJ_3 _ _ _ ⟨((if_neg c_5).trans ((if_neg c_6).trans (if_neg c_7))).symm, hM⟩
theorem K2_isLoop_bd (t : Nat) (i : Int) (S : CSt) : K2_isLoop t i S = 0 ∨ (K2_isLoop t i S = 1 ∧ 0 ≤ i ∧ i < S.1 t 10 ∧ i < 20) := by
  unfold K2_isLoop
  (repeat' split) <;> omega
def K2_kind (t : Nat) (i : Int) (S : CSt) : Int := (if ((K2_isInstruction t i S)) = 0 then (-1) else S.1 (pA t 0) i.toNat : Int)
set_option maxHeartbeats 1000000 in
set_option maxRecDepth 100000 in
theorem cX2_kind_ok (l : Launch) (D : va_G) (cy : Nat → ClassId) (q : Nat → Nat) (a b : Nat) (S : CSt) (hF : cFx a b S) (t : Nat) (ht : t = 6 ∨ t = 7) (i : Int) (hP : pB t S) (ha0 : -1000000000 ≤ i) (ha1 : i ≤ 1000000000) : cMi l D cy q yX2_kind (.code yX2_kind cX2_kind 2 (some .int) :: TBC) ({ frames := 1, cells := 0, slots := 0, locals := 21 }) S t [.int (zI i)] (fun r S' => r = K2_kind t i S ∧ S' = S) := by
  refine c_of (cc := cX2_kind) (maxL := 2) (ret := (some .int)) (C := RX2) (by decide) rfl rfl (Nat.le_of_ble_eq_true rfl) ?_
  intro p e s m args below meth c ls B hK hM hl
  have hl : lv_has ls 2 [(0, .ref (q t)), (1, .int (zI i))] := hl
  obtain ⟨hPa, p5a, p5b, pla, plb, pka, pkb, pga, pgb, pfa, pfb⟩ := id hP
  refine lv_aload_n B.1 B.2.1 dX2_kind_0 rfl (lv_at hl 0 rfl) ?_
  refine lv_iload_n B.1 B.2.1 dX2_kind_1 rfl (lv_at hl 1 rfl) ?_
  refine c_calli (q := q) (As := [.int (zI i)]) (rest := []) B hK hM t (by omega) (by rw [(cK_pr ht)]; decide) (by rw [(cK_pr ht)]; rfl) (cX2_isInstruction_ok l D cy q a b S hF t ht i hP (by show -1000000000 ≤ i; omega) (by show i ≤ 1000000000; omega)) (cwC 1 B wC_mRX2_56 wC_im_yX2_isInstruction wC_sl_yX2_isInstruction wC_in_RX2 wC_cd_yX2_isInstruction rfl rfl (by decide +kernel) ⟨Nat.le_of_ble_eq_true rfl, Nat.le_of_ble_eq_true rfl⟩) rfl hl.1 rfl (Nat.le_of_ble_eq_true rfl) dX2_kind_2 ⟨Nat.zero_le _, Nat.zero_le _⟩ (fun z_4 S_3 H locs hp_2 hM => ?_)
  obtain ⟨hp_2, he_hp_2⟩ := hp_2
  have he_hp_2 := he_hp_2.symm
  subst he_hp_2
  have hp_2 : (K2_isInstruction t i S) = z_4 := hp_2.symm
  subst hp_2
  have f_5 := K2_isInstruction_bd t i S
  refine z_joinH (P := fun v H' locs' => v = (if ((K2_isInstruction t i S)) = 0 then (-1) else S.1 (pA t 0) i.toNat : Int) ∧ cH D cy q (cA q) s.heap S H' locs') (pcJ := 18) (lsJ := ls) (stJ := []) (fun v_6 H locs hv_7 => ?_) (fun hJ_8 => ?_)
  · --
    obtain ⟨hv_7, hM⟩ := hv_7
    have hv_7 := hv_7.symm
    subst hv_7
    exact c_reti B hM (⟨rfl, rfl⟩) dX2_kind_18
  · --
    refine z_if_eq (tgt := 17) B.1 B.2.1 (zr_of (by omega) (by omega)) dX2_kind_5 (by decide) (fun c_9 => ?_) (fun c_9 => ?_)
    · --
      refine z_iconst B.1 B.2.1 dX2_kind_17 ?_
      exact hJ_8 _ _ _ ⟨(if_pos c_9).symm, hM⟩
    · --
      refine lv_aload_n B.1 B.2.1 dX2_kind_8 rfl (lv_at hl 0 rfl) ?_
      refine c_getr (q := q) (r := (pA t 0)) B (iC2 _) hK hM t 0 2 (by omega) (cK_pr ht) rfl (by decide) (by decide) rfl rfl rfl (cFx_pa hF ht 0 (by decide)) (List.mem_cons_of_mem _ wC_fRX2_9) dX2_kind_9 ?_
      refine lv_iload_n B.1 B.2.1 dX2_kind_12 rfl (lv_at hl 1 rfl) ?_
      refine c_iald (q := q) (x := S.1 (pA t 0) i.toNat) B hK hM (pA t 0) (pA_lt ht 0 (by decide)) (cK_pi ht 0 (by decide)) (zr_of (by omega) (by omega)) (by omega) (by rw [show S.2.2.2 (pA t 0) = 96 from cFx_ll hF ht 0 (by decide)]; omega) rfl dX2_kind_13 ?_
      refine lv_goto (tgt := 18) B.1 B.2.1 dX2_kind_14 (by decide) ?_
      exact hJ_8 _ _ _ ⟨(if_neg c_9).symm, hM⟩
theorem K2_kind_bd {t : Nat} {S : CSt} (i : Int) (hP : pB t S) : -1 ≤ K2_kind t i S ∧ K2_kind t i S ≤ 1000000 := by
  unfold K2_kind
  (repeat' split) <;> first | omega | exact hP.1 0 _ (by omega)
def K2_aim (t : Nat) (i : Int) (S : CSt) : Int := (if ((K2_isInstruction t i S)) = 0 then (-1) else S.1 (pA t 1) i.toNat : Int)
set_option maxHeartbeats 1000000 in
set_option maxRecDepth 100000 in
theorem cX2_aim_ok (l : Launch) (D : va_G) (cy : Nat → ClassId) (q : Nat → Nat) (a b : Nat) (S : CSt) (hF : cFx a b S) (t : Nat) (ht : t = 6 ∨ t = 7) (i : Int) (hP : pB t S) (ha0 : -1000000000 ≤ i) (ha1 : i ≤ 1000000000) : cMi l D cy q yX2_aim (.code yX2_aim cX2_aim 2 (some .int) :: TBC) ({ frames := 1, cells := 0, slots := 0, locals := 21 }) S t [.int (zI i)] (fun r S' => r = K2_aim t i S ∧ S' = S) := by
  refine c_of (cc := cX2_aim) (maxL := 2) (ret := (some .int)) (C := RX2) (by decide) rfl rfl (Nat.le_of_ble_eq_true rfl) ?_
  intro p e s m args below meth c ls B hK hM hl
  have hl : lv_has ls 2 [(0, .ref (q t)), (1, .int (zI i))] := hl
  obtain ⟨hPa, p5a, p5b, pla, plb, pka, pkb, pga, pgb, pfa, pfb⟩ := id hP
  refine lv_aload_n B.1 B.2.1 dX2_aim_0 rfl (lv_at hl 0 rfl) ?_
  refine lv_iload_n B.1 B.2.1 dX2_aim_1 rfl (lv_at hl 1 rfl) ?_
  refine c_calli (q := q) (As := [.int (zI i)]) (rest := []) B hK hM t (by omega) (by rw [(cK_pr ht)]; decide) (by rw [(cK_pr ht)]; rfl) (cX2_isInstruction_ok l D cy q a b S hF t ht i hP (by show -1000000000 ≤ i; omega) (by show i ≤ 1000000000; omega)) (cwC 1 B wC_mRX2_56 wC_im_yX2_isInstruction wC_sl_yX2_isInstruction wC_in_RX2 wC_cd_yX2_isInstruction rfl rfl (by decide +kernel) ⟨Nat.le_of_ble_eq_true rfl, Nat.le_of_ble_eq_true rfl⟩) rfl hl.1 rfl (Nat.le_of_ble_eq_true rfl) dX2_aim_2 ⟨Nat.zero_le _, Nat.zero_le _⟩ (fun z_4 S_3 H locs hp_2 hM => ?_)
  obtain ⟨hp_2, he_hp_2⟩ := hp_2
  have he_hp_2 := he_hp_2.symm
  subst he_hp_2
  have hp_2 : (K2_isInstruction t i S) = z_4 := hp_2.symm
  subst hp_2
  have f_5 := K2_isInstruction_bd t i S
  refine z_joinH (P := fun v H' locs' => v = (if ((K2_isInstruction t i S)) = 0 then (-1) else S.1 (pA t 1) i.toNat : Int) ∧ cH D cy q (cA q) s.heap S H' locs') (pcJ := 18) (lsJ := ls) (stJ := []) (fun v_6 H locs hv_7 => ?_) (fun hJ_8 => ?_)
  · --
    obtain ⟨hv_7, hM⟩ := hv_7
    have hv_7 := hv_7.symm
    subst hv_7
    exact c_reti B hM (⟨rfl, rfl⟩) dX2_aim_18
  · --
    refine z_if_eq (tgt := 17) B.1 B.2.1 (zr_of (by omega) (by omega)) dX2_aim_5 (by decide) (fun c_9 => ?_) (fun c_9 => ?_)
    · --
      refine z_iconst B.1 B.2.1 dX2_aim_17 ?_
      exact hJ_8 _ _ _ ⟨(if_pos c_9).symm, hM⟩
    · --
      refine lv_aload_n B.1 B.2.1 dX2_aim_8 rfl (lv_at hl 0 rfl) ?_
      refine c_getr (q := q) (r := (pA t 1)) B (iC2 _) hK hM t 1 2 (by omega) (cK_pr ht) rfl (by decide) (by decide) rfl rfl rfl (cFx_pa hF ht 1 (by decide)) (List.mem_cons_of_mem _ wC_fRX2_15) dX2_aim_9 ?_
      refine lv_iload_n B.1 B.2.1 dX2_aim_12 rfl (lv_at hl 1 rfl) ?_
      refine c_iald (q := q) (x := S.1 (pA t 1) i.toNat) B hK hM (pA t 1) (pA_lt ht 1 (by decide)) (cK_pi ht 1 (by decide)) (zr_of (by omega) (by omega)) (by omega) (by rw [show S.2.2.2 (pA t 1) = 96 from cFx_ll hF ht 1 (by decide)]; omega) rfl dX2_aim_13 ?_
      refine lv_goto (tgt := 18) B.1 B.2.1 dX2_aim_14 (by decide) ?_
      exact hJ_8 _ _ _ ⟨(if_neg c_9).symm, hM⟩
theorem K2_aim_bd {t : Nat} {S : CSt} (i : Int) (hP : pB t S) : -1 ≤ K2_aim t i S ∧ K2_aim t i S ≤ 1000000 := by
  unfold K2_aim
  (repeat' split) <;> first | omega | exact hP.1 1 _ (by omega)
def K2_number (t : Nat) (i : Int) (S : CSt) : Int := (if ((K2_isInstruction t i S)) = 0 then (-1) else S.1 (pA t 2) i.toNat : Int)
set_option maxHeartbeats 1000000 in
set_option maxRecDepth 100000 in
theorem cX2_number_ok (l : Launch) (D : va_G) (cy : Nat → ClassId) (q : Nat → Nat) (a b : Nat) (S : CSt) (hF : cFx a b S) (t : Nat) (ht : t = 6 ∨ t = 7) (i : Int) (hP : pB t S) (ha0 : -1000000000 ≤ i) (ha1 : i ≤ 1000000000) : cMi l D cy q yX2_number (.code yX2_number cX2_number 2 (some .int) :: TBC) ({ frames := 1, cells := 0, slots := 0, locals := 21 }) S t [.int (zI i)] (fun r S' => r = K2_number t i S ∧ S' = S) := by
  refine c_of (cc := cX2_number) (maxL := 2) (ret := (some .int)) (C := RX2) (by decide) rfl rfl (Nat.le_of_ble_eq_true rfl) ?_
  intro p e s m args below meth c ls B hK hM hl
  have hl : lv_has ls 2 [(0, .ref (q t)), (1, .int (zI i))] := hl
  obtain ⟨hPa, p5a, p5b, pla, plb, pka, pkb, pga, pgb, pfa, pfb⟩ := id hP
  refine lv_aload_n B.1 B.2.1 dX2_number_0 rfl (lv_at hl 0 rfl) ?_
  refine lv_iload_n B.1 B.2.1 dX2_number_1 rfl (lv_at hl 1 rfl) ?_
  refine c_calli (q := q) (As := [.int (zI i)]) (rest := []) B hK hM t (by omega) (by rw [(cK_pr ht)]; decide) (by rw [(cK_pr ht)]; rfl) (cX2_isInstruction_ok l D cy q a b S hF t ht i hP (by show -1000000000 ≤ i; omega) (by show i ≤ 1000000000; omega)) (cwC 1 B wC_mRX2_56 wC_im_yX2_isInstruction wC_sl_yX2_isInstruction wC_in_RX2 wC_cd_yX2_isInstruction rfl rfl (by decide +kernel) ⟨Nat.le_of_ble_eq_true rfl, Nat.le_of_ble_eq_true rfl⟩) rfl hl.1 rfl (Nat.le_of_ble_eq_true rfl) dX2_number_2 ⟨Nat.zero_le _, Nat.zero_le _⟩ (fun z_4 S_3 H locs hp_2 hM => ?_)
  obtain ⟨hp_2, he_hp_2⟩ := hp_2
  have he_hp_2 := he_hp_2.symm
  subst he_hp_2
  have hp_2 : (K2_isInstruction t i S) = z_4 := hp_2.symm
  subst hp_2
  have f_5 := K2_isInstruction_bd t i S
  refine z_joinH (P := fun v H' locs' => v = (if ((K2_isInstruction t i S)) = 0 then (-1) else S.1 (pA t 2) i.toNat : Int) ∧ cH D cy q (cA q) s.heap S H' locs') (pcJ := 18) (lsJ := ls) (stJ := []) (fun v_6 H locs hv_7 => ?_) (fun hJ_8 => ?_)
  · --
    obtain ⟨hv_7, hM⟩ := hv_7
    have hv_7 := hv_7.symm
    subst hv_7
    exact c_reti B hM (⟨rfl, rfl⟩) dX2_number_18
  · --
    refine z_if_eq (tgt := 17) B.1 B.2.1 (zr_of (by omega) (by omega)) dX2_number_5 (by decide) (fun c_9 => ?_) (fun c_9 => ?_)
    · --
      refine z_iconst B.1 B.2.1 dX2_number_17 ?_
      exact hJ_8 _ _ _ ⟨(if_pos c_9).symm, hM⟩
    · --
      refine lv_aload_n B.1 B.2.1 dX2_number_8 rfl (lv_at hl 0 rfl) ?_
      refine c_getr (q := q) (r := (pA t 2)) B (iC2 _) hK hM t 2 2 (by omega) (cK_pr ht) rfl (by decide) (by decide) rfl rfl rfl (cFx_pa hF ht 2 (by decide)) (List.mem_cons_of_mem _ wC_fRX2_18) dX2_number_9 ?_
      refine lv_iload_n B.1 B.2.1 dX2_number_12 rfl (lv_at hl 1 rfl) ?_
      refine c_iald (q := q) (x := S.1 (pA t 2) i.toNat) B hK hM (pA t 2) (pA_lt ht 2 (by decide)) (cK_pi ht 2 (by decide)) (zr_of (by omega) (by omega)) (by omega) (by rw [show S.2.2.2 (pA t 2) = 96 from cFx_ll hF ht 2 (by decide)]; omega) rfl dX2_number_13 ?_
      refine lv_goto (tgt := 18) B.1 B.2.1 dX2_number_14 (by decide) ?_
      exact hJ_8 _ _ _ ⟨(if_neg c_9).symm, hM⟩
theorem K2_number_bd {t : Nat} {S : CSt} (i : Int) (hP : pB t S) : -1 ≤ K2_number t i S ∧ K2_number t i S ≤ 1000000 := by
  unfold K2_number
  (repeat' split) <;> first | omega | exact hP.1 2 _ (by omega)
def K2_least (t : Nat) (i : Int) (S : CSt) : Int := (if ((K2_isLoop t i S)) = 0 then 0 else S.1 (pA t 5) i.toNat : Int)
set_option maxHeartbeats 1000000 in
set_option maxRecDepth 100000 in
theorem cX2_least_ok (l : Launch) (D : va_G) (cy : Nat → ClassId) (q : Nat → Nat) (a b : Nat) (S : CSt) (hF : cFx a b S) (t : Nat) (ht : t = 6 ∨ t = 7) (i : Int) (hP : pB t S) (ha0 : -1000000000 ≤ i) (ha1 : i ≤ 1000000000) : cMi l D cy q yX2_least (.code yX2_least cX2_least 2 (some .int) :: TBC) ({ frames := 1, cells := 0, slots := 0, locals := 21 }) S t [.int (zI i)] (fun r S' => r = K2_least t i S ∧ S' = S) := by
  refine c_of (cc := cX2_least) (maxL := 2) (ret := (some .int)) (C := RX2) (by decide) rfl rfl (Nat.le_of_ble_eq_true rfl) ?_
  intro p e s m args below meth c ls B hK hM hl
  have hl : lv_has ls 2 [(0, .ref (q t)), (1, .int (zI i))] := hl
  obtain ⟨hPa, p5a, p5b, pla, plb, pka, pkb, pga, pgb, pfa, pfb⟩ := id hP
  refine lv_aload_n B.1 B.2.1 dX2_least_0 rfl (lv_at hl 0 rfl) ?_
  refine lv_iload_n B.1 B.2.1 dX2_least_1 rfl (lv_at hl 1 rfl) ?_
  refine c_calli (q := q) (As := [.int (zI i)]) (rest := []) B hK hM t (by omega) (by rw [(cK_pr ht)]; decide) (by rw [(cK_pr ht)]; rfl) (cX2_isLoop_ok l D cy q a b S hF t ht i hP (by show -1000000000 ≤ i; omega) (by show i ≤ 1000000000; omega)) (cwC 1 B wC_mRX2_60 wC_im_yX2_isLoop wC_sl_yX2_isLoop wC_in_RX2 wC_cd_yX2_isLoop rfl rfl (by decide +kernel) ⟨Nat.le_of_ble_eq_true rfl, Nat.le_of_ble_eq_true rfl⟩) rfl hl.1 rfl (Nat.le_of_ble_eq_true rfl) dX2_least_2 ⟨Nat.zero_le _, Nat.zero_le _⟩ (fun z_4 S_3 H locs hp_2 hM => ?_)
  obtain ⟨hp_2, he_hp_2⟩ := hp_2
  have he_hp_2 := he_hp_2.symm
  subst he_hp_2
  have hp_2 : (K2_isLoop t i S) = z_4 := hp_2.symm
  subst hp_2
  have f_5 := K2_isLoop_bd t i S
  refine z_joinH (P := fun v H' locs' => v = (if ((K2_isLoop t i S)) = 0 then 0 else S.1 (pA t 5) i.toNat : Int) ∧ cH D cy q (cA q) s.heap S H' locs') (pcJ := 18) (lsJ := ls) (stJ := []) (fun v_6 H locs hv_7 => ?_) (fun hJ_8 => ?_)
  · --
    obtain ⟨hv_7, hM⟩ := hv_7
    have hv_7 := hv_7.symm
    subst hv_7
    exact c_reti B hM (⟨rfl, rfl⟩) dX2_least_18
  · --
    refine z_if_eq (tgt := 17) B.1 B.2.1 (zr_of (by omega) (by omega)) dX2_least_5 (by decide) (fun c_9 => ?_) (fun c_9 => ?_)
    · --
      refine z_iconst B.1 B.2.1 dX2_least_17 ?_
      exact hJ_8 _ _ _ ⟨(if_pos c_9).symm, hM⟩
    · --
      refine lv_aload_n B.1 B.2.1 dX2_least_8 rfl (lv_at hl 0 rfl) ?_
      refine c_getr (q := q) (r := (pA t 5)) B (iC2 _) hK hM t 6 2 (by omega) (cK_pr ht) rfl (by decide) (by decide) rfl rfl rfl (cFx_pb hF ht 5 (by decide)) (List.mem_cons_of_mem _ wC_fRX2_28) dX2_least_9 ?_
      refine lv_iload_n B.1 B.2.1 dX2_least_12 rfl (lv_at hl 1 rfl) ?_
      refine c_iald (q := q) (x := S.1 (pA t 5) i.toNat) B hK hM (pA t 5) (pA_lt ht 5 (by decide)) (cK_pi ht 5 (by decide)) (zr_of (by omega) (by omega)) (by omega) (by rw [show S.2.2.2 (pA t 5) = 20 from cFx_lm hF ht 5 (by decide)]; omega) rfl dX2_least_13 ?_
      refine lv_goto (tgt := 18) B.1 B.2.1 dX2_least_14 (by decide) ?_
      exact hJ_8 _ _ _ ⟨(if_neg c_9).symm, hM⟩
theorem K2_least_bd {t : Nat} {S : CSt} (i : Int) (hP : pB t S) : -1 ≤ K2_least t i S ∧ K2_least t i S ≤ 1000000 := by
  unfold K2_least
  (repeat' split) <;> first | omega | exact hP.1 5 _ (by omega)
def K2_most (t : Nat) (i : Int) (S : CSt) : Int := (if ((K2_isLoop t i S)) = 0 then 0 else S.1 (pA t 6) i.toNat : Int)
set_option maxHeartbeats 1000000 in
set_option maxRecDepth 100000 in
theorem cX2_most_ok (l : Launch) (D : va_G) (cy : Nat → ClassId) (q : Nat → Nat) (a b : Nat) (S : CSt) (hF : cFx a b S) (t : Nat) (ht : t = 6 ∨ t = 7) (i : Int) (hP : pB t S) (ha0 : -1000000000 ≤ i) (ha1 : i ≤ 1000000000) : cMi l D cy q yX2_most (.code yX2_most cX2_most 2 (some .int) :: TBC) ({ frames := 1, cells := 0, slots := 0, locals := 21 }) S t [.int (zI i)] (fun r S' => r = K2_most t i S ∧ S' = S) := by
  refine c_of (cc := cX2_most) (maxL := 2) (ret := (some .int)) (C := RX2) (by decide) rfl rfl (Nat.le_of_ble_eq_true rfl) ?_
  intro p e s m args below meth c ls B hK hM hl
  have hl : lv_has ls 2 [(0, .ref (q t)), (1, .int (zI i))] := hl
  obtain ⟨hPa, p5a, p5b, pla, plb, pka, pkb, pga, pgb, pfa, pfb⟩ := id hP
  refine lv_aload_n B.1 B.2.1 dX2_most_0 rfl (lv_at hl 0 rfl) ?_
  refine lv_iload_n B.1 B.2.1 dX2_most_1 rfl (lv_at hl 1 rfl) ?_
  refine c_calli (q := q) (As := [.int (zI i)]) (rest := []) B hK hM t (by omega) (by rw [(cK_pr ht)]; decide) (by rw [(cK_pr ht)]; rfl) (cX2_isLoop_ok l D cy q a b S hF t ht i hP (by show -1000000000 ≤ i; omega) (by show i ≤ 1000000000; omega)) (cwC 1 B wC_mRX2_60 wC_im_yX2_isLoop wC_sl_yX2_isLoop wC_in_RX2 wC_cd_yX2_isLoop rfl rfl (by decide +kernel) ⟨Nat.le_of_ble_eq_true rfl, Nat.le_of_ble_eq_true rfl⟩) rfl hl.1 rfl (Nat.le_of_ble_eq_true rfl) dX2_most_2 ⟨Nat.zero_le _, Nat.zero_le _⟩ (fun z_4 S_3 H locs hp_2 hM => ?_)
  obtain ⟨hp_2, he_hp_2⟩ := hp_2
  have he_hp_2 := he_hp_2.symm
  subst he_hp_2
  have hp_2 : (K2_isLoop t i S) = z_4 := hp_2.symm
  subst hp_2
  have f_5 := K2_isLoop_bd t i S
  refine z_joinH (P := fun v H' locs' => v = (if ((K2_isLoop t i S)) = 0 then 0 else S.1 (pA t 6) i.toNat : Int) ∧ cH D cy q (cA q) s.heap S H' locs') (pcJ := 18) (lsJ := ls) (stJ := []) (fun v_6 H locs hv_7 => ?_) (fun hJ_8 => ?_)
  · --
    obtain ⟨hv_7, hM⟩ := hv_7
    have hv_7 := hv_7.symm
    subst hv_7
    exact c_reti B hM (⟨rfl, rfl⟩) dX2_most_18
  · --
    refine z_if_eq (tgt := 17) B.1 B.2.1 (zr_of (by omega) (by omega)) dX2_most_5 (by decide) (fun c_9 => ?_) (fun c_9 => ?_)
    · --
      refine z_iconst B.1 B.2.1 dX2_most_17 ?_
      exact hJ_8 _ _ _ ⟨(if_pos c_9).symm, hM⟩
    · --
      refine lv_aload_n B.1 B.2.1 dX2_most_8 rfl (lv_at hl 0 rfl) ?_
      refine c_getr (q := q) (r := (pA t 6)) B (iC2 _) hK hM t 7 2 (by omega) (cK_pr ht) rfl (by decide) (by decide) rfl rfl rfl (cFx_pb hF ht 6 (by decide)) (List.mem_cons_of_mem _ wC_fRX2_31) dX2_most_9 ?_
      refine lv_iload_n B.1 B.2.1 dX2_most_12 rfl (lv_at hl 1 rfl) ?_
      refine c_iald (q := q) (x := S.1 (pA t 6) i.toNat) B hK hM (pA t 6) (pA_lt ht 6 (by decide)) (cK_pi ht 6 (by decide)) (zr_of (by omega) (by omega)) (by omega) (by rw [show S.2.2.2 (pA t 6) = 20 from cFx_lm hF ht 6 (by decide)]; omega) rfl dX2_most_13 ?_
      refine lv_goto (tgt := 18) B.1 B.2.1 dX2_most_14 (by decide) ?_
      exact hJ_8 _ _ _ ⟨(if_neg c_9).symm, hM⟩
theorem K2_most_bd {t : Nat} {S : CSt} (i : Int) (hP : pB t S) : -1 ≤ K2_most t i S ∧ K2_most t i S ≤ 1000000 := by
  unfold K2_most
  (repeat' split) <;> first | omega | exact hP.1 6 _ (by omega)
def K2_firstGroup (t : Nat) (i : Int) (S : CSt) : Int := (if ((K2_isLoop t i S)) = 0 then 0 else S.1 (pA t 7) i.toNat : Int)
set_option maxHeartbeats 1000000 in
set_option maxRecDepth 100000 in
theorem cX2_firstGroup_ok (l : Launch) (D : va_G) (cy : Nat → ClassId) (q : Nat → Nat) (a b : Nat) (S : CSt) (hF : cFx a b S) (t : Nat) (ht : t = 6 ∨ t = 7) (i : Int) (hP : pB t S) (ha0 : -1000000000 ≤ i) (ha1 : i ≤ 1000000000) : cMi l D cy q yX2_firstGroup (.code yX2_firstGroup cX2_firstGroup 2 (some .int) :: TBC) ({ frames := 1, cells := 0, slots := 0, locals := 21 }) S t [.int (zI i)] (fun r S' => r = K2_firstGroup t i S ∧ S' = S) := by
  refine c_of (cc := cX2_firstGroup) (maxL := 2) (ret := (some .int)) (C := RX2) (by decide) rfl rfl (Nat.le_of_ble_eq_true rfl) ?_
  intro p e s m args below meth c ls B hK hM hl
  have hl : lv_has ls 2 [(0, .ref (q t)), (1, .int (zI i))] := hl
  obtain ⟨hPa, p5a, p5b, pla, plb, pka, pkb, pga, pgb, pfa, pfb⟩ := id hP
  refine lv_aload_n B.1 B.2.1 dX2_firstGroup_0 rfl (lv_at hl 0 rfl) ?_
  refine lv_iload_n B.1 B.2.1 dX2_firstGroup_1 rfl (lv_at hl 1 rfl) ?_
  refine c_calli (q := q) (As := [.int (zI i)]) (rest := []) B hK hM t (by omega) (by rw [(cK_pr ht)]; decide) (by rw [(cK_pr ht)]; rfl) (cX2_isLoop_ok l D cy q a b S hF t ht i hP (by show -1000000000 ≤ i; omega) (by show i ≤ 1000000000; omega)) (cwC 1 B wC_mRX2_60 wC_im_yX2_isLoop wC_sl_yX2_isLoop wC_in_RX2 wC_cd_yX2_isLoop rfl rfl (by decide +kernel) ⟨Nat.le_of_ble_eq_true rfl, Nat.le_of_ble_eq_true rfl⟩) rfl hl.1 rfl (Nat.le_of_ble_eq_true rfl) dX2_firstGroup_2 ⟨Nat.zero_le _, Nat.zero_le _⟩ (fun z_4 S_3 H locs hp_2 hM => ?_)
  obtain ⟨hp_2, he_hp_2⟩ := hp_2
  have he_hp_2 := he_hp_2.symm
  subst he_hp_2
  have hp_2 : (K2_isLoop t i S) = z_4 := hp_2.symm
  subst hp_2
  have f_5 := K2_isLoop_bd t i S
  refine z_joinH (P := fun v H' locs' => v = (if ((K2_isLoop t i S)) = 0 then 0 else S.1 (pA t 7) i.toNat : Int) ∧ cH D cy q (cA q) s.heap S H' locs') (pcJ := 18) (lsJ := ls) (stJ := []) (fun v_6 H locs hv_7 => ?_) (fun hJ_8 => ?_)
  · --
    obtain ⟨hv_7, hM⟩ := hv_7
    have hv_7 := hv_7.symm
    subst hv_7
    exact c_reti B hM (⟨rfl, rfl⟩) dX2_firstGroup_18
  · --
    refine z_if_eq (tgt := 17) B.1 B.2.1 (zr_of (by omega) (by omega)) dX2_firstGroup_5 (by decide) (fun c_9 => ?_) (fun c_9 => ?_)
    · --
      refine z_iconst B.1 B.2.1 dX2_firstGroup_17 ?_
      exact hJ_8 _ _ _ ⟨(if_pos c_9).symm, hM⟩
    · --
      refine lv_aload_n B.1 B.2.1 dX2_firstGroup_8 rfl (lv_at hl 0 rfl) ?_
      refine c_getr (q := q) (r := (pA t 7)) B (iC2 _) hK hM t 8 2 (by omega) (cK_pr ht) rfl (by decide) (by decide) rfl rfl rfl (cFx_pb hF ht 7 (by decide)) (List.mem_cons_of_mem _ wC_fRX2_34) dX2_firstGroup_9 ?_
      refine lv_iload_n B.1 B.2.1 dX2_firstGroup_12 rfl (lv_at hl 1 rfl) ?_
      refine c_iald (q := q) (x := S.1 (pA t 7) i.toNat) B hK hM (pA t 7) (pA_lt ht 7 (by decide)) (cK_pi ht 7 (by decide)) (zr_of (by omega) (by omega)) (by omega) (by rw [show S.2.2.2 (pA t 7) = 20 from cFx_lm hF ht 7 (by decide)]; omega) rfl dX2_firstGroup_13 ?_
      refine lv_goto (tgt := 18) B.1 B.2.1 dX2_firstGroup_14 (by decide) ?_
      exact hJ_8 _ _ _ ⟨(if_neg c_9).symm, hM⟩
theorem K2_firstGroup_bd {t : Nat} {S : CSt} (i : Int) (hP : pB t S) : -1 ≤ K2_firstGroup t i S ∧ K2_firstGroup t i S ≤ 1000000 := by
  unfold K2_firstGroup
  (repeat' split) <;> first | omega | exact hP.1 7 _ (by omega)
def K2_lastGroup (t : Nat) (i : Int) (S : CSt) : Int := (if ((K2_isLoop t i S)) = 0 then (-1) else S.1 (pA t 8) i.toNat : Int)
set_option maxHeartbeats 1000000 in
set_option maxRecDepth 100000 in
theorem cX2_lastGroup_ok (l : Launch) (D : va_G) (cy : Nat → ClassId) (q : Nat → Nat) (a b : Nat) (S : CSt) (hF : cFx a b S) (t : Nat) (ht : t = 6 ∨ t = 7) (i : Int) (hP : pB t S) (ha0 : -1000000000 ≤ i) (ha1 : i ≤ 1000000000) : cMi l D cy q yX2_lastGroup (.code yX2_lastGroup cX2_lastGroup 2 (some .int) :: TBC) ({ frames := 1, cells := 0, slots := 0, locals := 21 }) S t [.int (zI i)] (fun r S' => r = K2_lastGroup t i S ∧ S' = S) := by
  refine c_of (cc := cX2_lastGroup) (maxL := 2) (ret := (some .int)) (C := RX2) (by decide) rfl rfl (Nat.le_of_ble_eq_true rfl) ?_
  intro p e s m args below meth c ls B hK hM hl
  have hl : lv_has ls 2 [(0, .ref (q t)), (1, .int (zI i))] := hl
  obtain ⟨hPa, p5a, p5b, pla, plb, pka, pkb, pga, pgb, pfa, pfb⟩ := id hP
  refine lv_aload_n B.1 B.2.1 dX2_lastGroup_0 rfl (lv_at hl 0 rfl) ?_
  refine lv_iload_n B.1 B.2.1 dX2_lastGroup_1 rfl (lv_at hl 1 rfl) ?_
  refine c_calli (q := q) (As := [.int (zI i)]) (rest := []) B hK hM t (by omega) (by rw [(cK_pr ht)]; decide) (by rw [(cK_pr ht)]; rfl) (cX2_isLoop_ok l D cy q a b S hF t ht i hP (by show -1000000000 ≤ i; omega) (by show i ≤ 1000000000; omega)) (cwC 1 B wC_mRX2_60 wC_im_yX2_isLoop wC_sl_yX2_isLoop wC_in_RX2 wC_cd_yX2_isLoop rfl rfl (by decide +kernel) ⟨Nat.le_of_ble_eq_true rfl, Nat.le_of_ble_eq_true rfl⟩) rfl hl.1 rfl (Nat.le_of_ble_eq_true rfl) dX2_lastGroup_2 ⟨Nat.zero_le _, Nat.zero_le _⟩ (fun z_4 S_3 H locs hp_2 hM => ?_)
  obtain ⟨hp_2, he_hp_2⟩ := hp_2
  have he_hp_2 := he_hp_2.symm
  subst he_hp_2
  have hp_2 : (K2_isLoop t i S) = z_4 := hp_2.symm
  subst hp_2
  have f_5 := K2_isLoop_bd t i S
  refine z_joinH (P := fun v H' locs' => v = (if ((K2_isLoop t i S)) = 0 then (-1) else S.1 (pA t 8) i.toNat : Int) ∧ cH D cy q (cA q) s.heap S H' locs') (pcJ := 18) (lsJ := ls) (stJ := []) (fun v_6 H locs hv_7 => ?_) (fun hJ_8 => ?_)
  · --
    obtain ⟨hv_7, hM⟩ := hv_7
    have hv_7 := hv_7.symm
    subst hv_7
    exact c_reti B hM (⟨rfl, rfl⟩) dX2_lastGroup_18
  · --
    refine z_if_eq (tgt := 17) B.1 B.2.1 (zr_of (by omega) (by omega)) dX2_lastGroup_5 (by decide) (fun c_9 => ?_) (fun c_9 => ?_)
    · --
      refine z_iconst B.1 B.2.1 dX2_lastGroup_17 ?_
      exact hJ_8 _ _ _ ⟨(if_pos c_9).symm, hM⟩
    · --
      refine lv_aload_n B.1 B.2.1 dX2_lastGroup_8 rfl (lv_at hl 0 rfl) ?_
      refine c_getr (q := q) (r := (pA t 8)) B (iC2 _) hK hM t 9 2 (by omega) (cK_pr ht) rfl (by decide) (by decide) rfl rfl rfl (cFx_pb hF ht 8 (by decide)) (List.mem_cons_of_mem _ wC_fRX2_37) dX2_lastGroup_9 ?_
      refine lv_iload_n B.1 B.2.1 dX2_lastGroup_12 rfl (lv_at hl 1 rfl) ?_
      refine c_iald (q := q) (x := S.1 (pA t 8) i.toNat) B hK hM (pA t 8) (pA_lt ht 8 (by decide)) (cK_pi ht 8 (by decide)) (zr_of (by omega) (by omega)) (by omega) (by rw [show S.2.2.2 (pA t 8) = 20 from cFx_lm hF ht 8 (by decide)]; omega) rfl dX2_lastGroup_13 ?_
      refine lv_goto (tgt := 18) B.1 B.2.1 dX2_lastGroup_14 (by decide) ?_
      exact hJ_8 _ _ _ ⟨(if_neg c_9).symm, hM⟩
theorem K2_lastGroup_bd {t : Nat} {S : CSt} (i : Int) (hP : pB t S) : -1 ≤ K2_lastGroup t i S ∧ K2_lastGroup t i S ≤ 1000000 := by
  unfold K2_lastGroup
  (repeat' split) <;> first | omega | exact hP.1 8 _ (by omega)
def K2_fits (t : Nat) (i : Int) (sign : Int) (S : CSt) : Int := (if ((K2_isInstruction t i S)) = 0 then 0 else (if 64 ≤ sign then (if (zlc ((zushr (S.2.1 (pA t 4) i.toNat) (zand sign 63)) &&& 1) 0) = 0 then 0 else 1 : Int) else (if (zlc ((zushr (S.2.1 (pA t 3) i.toNat) (zand sign 63)) &&& 1) 0) = 0 then 0 else 1 : Int)))
set_option maxHeartbeats 1000000 in
set_option maxRecDepth 100000 in
theorem cX2_fits_ok (l : Launch) (D : va_G) (cy : Nat → ClassId) (q : Nat → Nat) (a b : Nat) (S : CSt) (hF : cFx a b S) (t : Nat) (ht : t = 6 ∨ t = 7) (i : Int) (sign : Int) (hP : pB t S) (ha0 : -1000000000 ≤ i) (ha1 : i ≤ 1000000000) (hs0 : 0 ≤ sign) (hs1 : sign < 65536) : cMi l D cy q yX2_fits (.code yX2_fits cX2_fits 5 (some .boolean) :: TBC) ({ frames := 1, cells := 0, slots := 0, locals := 21 }) S t [.int (zI i), .int (zI sign)] (fun r S' => r = K2_fits t i sign S ∧ S' = S) := by
  refine c_of (cc := cX2_fits) (maxL := 5) (ret := (some .boolean)) (C := RX2) (by decide) rfl rfl (Nat.le_of_ble_eq_true rfl) ?_
  intro p e s m args below meth c ls B hK hM hl
  have hl : lv_has ls 5 [(0, .ref (q t)), (1, .int (zI i)), (2, .int (zI sign))] := hl
  obtain ⟨hPa, p5a, p5b, pla, plb, pka, pkb, pga, pgb, pfa, pfb⟩ := id hP
  refine lv_aload_n B.1 B.2.1 dX2_fits_0 rfl (lv_at hl 0 rfl) ?_
  refine lv_iload_n B.1 B.2.1 dX2_fits_1 rfl (lv_at hl 1 rfl) ?_
  refine c_calli (q := q) (As := [.int (zI i)]) (rest := []) B hK hM t (by omega) (by rw [(cK_pr ht)]; decide) (by rw [(cK_pr ht)]; rfl) (cX2_isInstruction_ok l D cy q a b S hF t ht i hP (by show -1000000000 ≤ i; omega) (by show i ≤ 1000000000; omega)) (cwC 1 B wC_mRX2_56 wC_im_yX2_isInstruction wC_sl_yX2_isInstruction wC_in_RX2 wC_cd_yX2_isInstruction rfl rfl (by decide +kernel) ⟨Nat.le_of_ble_eq_true rfl, Nat.le_of_ble_eq_true rfl⟩) rfl hl.1 rfl (Nat.le_of_ble_eq_true rfl) dX2_fits_2 ⟨Nat.zero_le _, Nat.zero_le _⟩ (fun z_4 S_3 H locs hp_2 hM => ?_)
  obtain ⟨hp_2, he_hp_2⟩ := hp_2
  have he_hp_2 := he_hp_2.symm
  subst he_hp_2
  have hp_2 : (K2_isInstruction t i S) = z_4 := hp_2.symm
  subst hp_2
  have f_5 := K2_isInstruction_bd t i S
  refine z_if_ne (tgt := 10) B.1 B.2.1 (zr_of (by omega) (by omega)) dX2_fits_5 (by decide) (fun c_6 => ?_) (fun c_6 => ?_)
  · --
    refine lv_iload_n B.1 B.2.1 dX2_fits_10 rfl (lv_at hl 2 rfl) ?_
    refine z_bipush B.1 B.2.1 (by decide) dX2_fits_11 ?_
    refine z_icmp_ge (tgt := 25) B.1 B.2.1 (zr_of (by omega) (by omega)) (zr_of (by decide) (by decide)) dX2_fits_13 (by decide) (fun c_7 => ?_) (fun c_7 => ?_)
    · --
      refine lv_aload_n B.1 B.2.1 dX2_fits_25 rfl (lv_at hl 0 rfl) ?_
      refine c_getr (q := q) (r := (pA t 4)) B (iC2 _) hK hM t 4 2 (by omega) (cK_pr ht) rfl (by decide) (by decide) rfl rfl rfl (cFx_pa hF ht 4 (by decide)) (List.mem_cons_of_mem _ wC_fRX2_25) dX2_fits_26 ?_
      refine lv_iload_n B.1 B.2.1 dX2_fits_29 rfl (lv_at hl 1 rfl) ?_
      refine c_lald (q := q) B hK hM (pA t 4) (pA_lt ht 4 (by decide)) (cK_pl ht 4 (by decide)) (zr_of (by omega) (by omega)) (by omega) (by rw [show S.2.2.2 (pA t 4) = 96 from cFx_ll hF ht 4 (by decide)]; omega) dX2_fits_30 ?_
      refine lv_lstore_n (lv' := [(3, .long (S.2.1 (pA t 4) i.toNat)), (0, .ref (q t)), (1, .int (zI i)), (2, .int (zI sign))]) B.1 B.2.1 dX2_fits_31 rfl hl (by decide) rfl (fun ls hl => ?_)
      refine lv_lload_n B.1 B.2.1 dX2_fits_32 rfl (lv_at hl 0 rfl) ?_
      refine lv_iload_n B.1 B.2.1 dX2_fits_33 rfl (lv_at hl 3 rfl) ?_
      refine z_bipush B.1 B.2.1 (by decide) dX2_fits_34 ?_
      refine z_iand (x := zand sign 63) B.1 B.2.1 rfl (by omega) (by omega) dX2_fits_36 ?_
      have f_8 := zand_bd (a := sign) (b := 63) (by omega)
      refine lv_lushr (v := zushr (S.2.1 (pA t 4) i.toNat) (zand sign 63)) B.1 B.2.1 dX2_fits_37 rfl ?_
      refine lv_lconst (v := 1) B.1 B.2.1 dX2_fits_38 rfl ?_
      refine lv_land B.1 B.2.1 dX2_fits_39 ?_
      refine lv_lconst (v := 0) B.1 B.2.1 dX2_fits_40 rfl ?_
      refine z_lc B.1 B.2.1 dX2_fits_41 ?_
      have f_9 := zlc_bd ((zushr (S.2.1 (pA t 4) i.toNat) (zand sign 63)) &&& 1) 0
      refine z_joinH (P := fun v H' locs' => v = (if (zlc ((zushr (S.2.1 (pA t 4) i.toNat) (zand sign 63)) &&& 1) 0) = 0 then 0 else 1 : Int) ∧ cH D cy q (cA q) s.heap S H' locs') (pcJ := 50) (lsJ := ls) (stJ := []) (fun v_10 H locs hv_11 => ?_) (fun hJ_12 => ?_)
      · --
        obtain ⟨hv_11, hM⟩ := hv_11
        have hb_13 : (if (zlc ((zushr (S.2.1 (pA t 4) i.toNat) (zand sign 63)) &&& 1) 0) = 0 then 0 else 1 : Int) = 0 ∨ (if (zlc ((zushr (S.2.1 (pA t 4) i.toNat) (zand sign 63)) &&& 1) 0) = 0 then 0 else 1 : Int) = 1 := by (repeat' split) <;> simp
        have hv_11 := hv_11.symm
        subst hv_11
        exact c_retz B hM (by omega) (⟨by unfold K2_fits; exact ((if_neg c_6).trans (if_pos c_7)).symm, rfl⟩) dX2_fits_50
      · --
        refine z_if_eq (tgt := 49) B.1 B.2.1 (zr_of (by omega) (by omega)) dX2_fits_42 (by decide) (fun c_14 => ?_) (fun c_14 => ?_)
        · --
          refine z_iconst B.1 B.2.1 dX2_fits_49 ?_
          exact hJ_12 _ _ _ ⟨(if_pos c_14).symm, hM⟩
        · --
          refine z_iconst B.1 B.2.1 dX2_fits_45 ?_
          refine lv_goto (tgt := 50) B.1 B.2.1 dX2_fits_46 (by decide) ?_
          exact hJ_12 _ _ _ ⟨(if_neg c_14).symm, hM⟩
    · --
      refine lv_aload_n B.1 B.2.1 dX2_fits_16 rfl (lv_at hl 0 rfl) ?_
      refine c_getr (q := q) (r := (pA t 3)) B (iC2 _) hK hM t 3 2 (by omega) (cK_pr ht) rfl (by decide) (by decide) rfl rfl rfl (cFx_pa hF ht 3 (by decide)) (List.mem_cons_of_mem _ wC_fRX2_21) dX2_fits_17 ?_
      refine lv_iload_n B.1 B.2.1 dX2_fits_20 rfl (lv_at hl 1 rfl) ?_
      refine c_lald (q := q) B hK hM (pA t 3) (pA_lt ht 3 (by decide)) (cK_pl ht 3 (by decide)) (zr_of (by omega) (by omega)) (by omega) (by rw [show S.2.2.2 (pA t 3) = 96 from cFx_ll hF ht 3 (by decide)]; omega) dX2_fits_21 ?_
      refine lv_goto (tgt := 31) B.1 B.2.1 dX2_fits_22 (by decide) ?_
      refine lv_lstore_n (lv' := [(3, .long (S.2.1 (pA t 3) i.toNat)), (0, .ref (q t)), (1, .int (zI i)), (2, .int (zI sign))]) B.1 B.2.1 dX2_fits_31 rfl hl (by decide) rfl (fun ls hl => ?_)
      refine lv_lload_n B.1 B.2.1 dX2_fits_32 rfl (lv_at hl 0 rfl) ?_
      refine lv_iload_n B.1 B.2.1 dX2_fits_33 rfl (lv_at hl 3 rfl) ?_
      refine z_bipush B.1 B.2.1 (by decide) dX2_fits_34 ?_
      refine z_iand (x := zand sign 63) B.1 B.2.1 rfl (by omega) (by omega) dX2_fits_36 ?_
      have f_15 := zand_bd (a := sign) (b := 63) (by omega)
      refine lv_lushr (v := zushr (S.2.1 (pA t 3) i.toNat) (zand sign 63)) B.1 B.2.1 dX2_fits_37 rfl ?_
      refine lv_lconst (v := 1) B.1 B.2.1 dX2_fits_38 rfl ?_
      refine lv_land B.1 B.2.1 dX2_fits_39 ?_
      refine lv_lconst (v := 0) B.1 B.2.1 dX2_fits_40 rfl ?_
      refine z_lc B.1 B.2.1 dX2_fits_41 ?_
      have f_16 := zlc_bd ((zushr (S.2.1 (pA t 3) i.toNat) (zand sign 63)) &&& 1) 0
      refine z_joinH (P := fun v H' locs' => v = (if (zlc ((zushr (S.2.1 (pA t 3) i.toNat) (zand sign 63)) &&& 1) 0) = 0 then 0 else 1 : Int) ∧ cH D cy q (cA q) s.heap S H' locs') (pcJ := 50) (lsJ := ls) (stJ := []) (fun v_17 H locs hv_18 => ?_) (fun hJ_19 => ?_)
      · --
        obtain ⟨hv_18, hM⟩ := hv_18
        have hb_20 : (if (zlc ((zushr (S.2.1 (pA t 3) i.toNat) (zand sign 63)) &&& 1) 0) = 0 then 0 else 1 : Int) = 0 ∨ (if (zlc ((zushr (S.2.1 (pA t 3) i.toNat) (zand sign 63)) &&& 1) 0) = 0 then 0 else 1 : Int) = 1 := by (repeat' split) <;> simp
        have hv_18 := hv_18.symm
        subst hv_18
        exact c_retz B hM (by omega) (⟨by unfold K2_fits; exact ((if_neg c_6).trans (if_neg c_7)).symm, rfl⟩) dX2_fits_50
      · --
        refine z_if_eq (tgt := 49) B.1 B.2.1 (zr_of (by omega) (by omega)) dX2_fits_42 (by decide) (fun c_21 => ?_) (fun c_21 => ?_)
        · --
          refine z_iconst B.1 B.2.1 dX2_fits_49 ?_
          exact hJ_19 _ _ _ ⟨(if_pos c_21).symm, hM⟩
        · --
          refine z_iconst B.1 B.2.1 dX2_fits_45 ?_
          refine lv_goto (tgt := 50) B.1 B.2.1 dX2_fits_46 (by decide) ?_
          exact hJ_19 _ _ _ ⟨(if_neg c_21).symm, hM⟩
  · --
    refine z_iconst B.1 B.2.1 dX2_fits_8 ?_
    exact c_retz B hM (by decide) (⟨by unfold K2_fits; exact (if_pos c_6).symm, rfl⟩) dX2_fits_9
theorem K2_fits_bd (t : Nat) (i sign : Int) (S : CSt) : K2_fits t i sign S = 0 ∨ K2_fits t i sign S = 1 := by
  unfold K2_fits
  (repeat' split) <;> simp
def K2_add (kd : Int) (am : Int) (nb : Int) (S : CSt) : CR := (if (S.1 7 5) < 0 then (1, 0, S) else (if (S.1 7 5) < 96 then (0, ((S.1 7 5) + 1) - 1, (ci (ci (ci (ci S 26 (S.1 7 5).toNat kd) 27 (S.1 7 5).toNat am) 28 (S.1 7 5).toNat nb) 7 5 ((S.1 7 5) + 1))) else (1, 0, S)))
set_option maxHeartbeats 1000000 in
set_option maxRecDepth 100000 in
theorem cX2_add_ok (l : Launch) (hl0 : l.stackTraces = false) (D : va_G) (cy : Nat → ClassId) (q : Nat → Nat) (V : Nat × (Nat → Nat)) (n0 x y a b : Nat) (S : CSt) (hF : cFx a b S) (kd : Int) (am : Int) (nb : Int) (hP : pB 7 S) : gMi l D cy q V n0 x y "java/lang/IllegalArgumentException" yX2_add (.code yX2_add cX2_add 4 (some .int) :: TBC) 6 90 S [.ref (q 7), .int (zI kd), .int (zI am), .int (zI nb)] (K2_add kd am nb S) := by
  refine g_of (cc := cX2_add) (maxL := 4) (ret := (some .int)) (by decide) rfl rfl (Nat.le_of_ble_eq_true rfl) ?_
  intro p e s m args below meth c ls B hK hG hM hl
  generalize gA (cq q x y) n0 = A at hG hM ⊢
  have hR : (headSpec (.code yX2_add cX2_add 4 (some .int) :: TBC) (gRm 6 90 S)).room.cells = (gK - gl S) + 1 ∧ (headSpec (.code yX2_add cX2_add 4 (some .int) :: TBC) (gRm 6 90 S)).room.slots = 2 * (gK - gl S) + 6 := ⟨rfl, rfl⟩
  have hl : lv_has ls 4 [(0, .ref (q 7)), (1, .int (zI kd)), (2, .int (zI am)), (3, .int (zI nb))] := hl
  obtain ⟨hPa, p5a, p5b, pla, plb, pka, pkb, pga, pgb, pfa, pfb⟩ := id hP
  refine lv_aload_n B.1 B.2.1 dX2_add_0 rfl (lv_at hl 0 rfl) ?_
  refine c_geti (q := (cq q x y)) (x := S.1 7 5) B (iC2 _) hK hM 7 5 2 (by decide) rfl rfl (by decide) (by decide) rfl rfl (by decide) rfl (List.mem_cons_of_mem _ wC_fRX2_40) dX2_add_1 ?_
  refine z_if_lt (tgt := 16) B.1 B.2.1 (zr_of (by omega) (by omega)) dX2_add_4 (by decide) (fun c_1 => ?_) (fun c_1 => ?_)
  · --
    exact g_throw (S := S) (E := "java/lang/IllegalArgumentException") (ik := 63) (is := 65) (ic := 67) 9 (by decide) hl0 B hG hM rfl sX_java_lang_IllegalArgumentException (by decide +kernel) (List.mem_cons_of_mem _ wC_cRX2_63) (List.mem_cons_of_mem _ wC_in__java_lang_IllegalArgumentException_) (tC_RX2_67 _) tN_RX2_67 hl.1 (Nat.le_of_ble_eq_true rfl) hR (Nat.le_of_ble_eq_true rfl) (Nat.le_of_ble_eq_true rfl) (Nat.le_refl _) (cFx_gl hF) (tO_RX2_67 _) dX2_add_16 dX2_add_19 dX2_add_20 dX2_add_22 dX2_add_25 (by unfold K2_add; exact (if_pos c_1))
  · --
    refine lv_aload_n B.1 B.2.1 dX2_add_7 rfl (lv_at hl 0 rfl) ?_
    refine c_geti (q := (cq q x y)) (x := S.1 7 5) B (iC2 _) hK hM 7 5 2 (by decide) rfl rfl (by decide) (by decide) rfl rfl (by decide) rfl (List.mem_cons_of_mem _ wC_fRX2_40) dX2_add_8 ?_
    refine z_bipush B.1 B.2.1 (by decide) dX2_add_11 ?_
    refine z_icmp_lt (tgt := 26) B.1 B.2.1 (zr_of (by omega) (by omega)) (zr_of (by decide) (by decide)) dX2_add_13 (by decide) (fun c_2 => ?_) (fun c_2 => ?_)
    · --
      refine lv_aload_n B.1 B.2.1 dX2_add_26 rfl (lv_at hl 0 rfl) ?_
      refine c_getr (q := (cq q x y)) (r := 26) B (iC2 _) hK hM 7 0 2 (by decide) rfl rfl (by decide) (by decide) rfl rfl rfl (cFx_r hF 7 0) (List.mem_cons_of_mem _ wC_fRX2_9) dX2_add_27 ?_
      refine lv_aload_n B.1 B.2.1 dX2_add_30 rfl (lv_at hl 0 rfl) ?_
      refine c_geti (q := (cq q x y)) (x := S.1 7 5) B (iC2 _) hK hM 7 5 2 (by decide) rfl rfl (by decide) (by decide) rfl rfl (by decide) rfl (List.mem_cons_of_mem _ wC_fRX2_40) dX2_add_31 ?_
      refine lv_iload_n B.1 B.2.1 dX2_add_34 rfl (lv_at hl 1 rfl) ?_
      refine c_iast (q := (cq q x y)) B hK hM 26 (by decide) rfl (zr_of (by omega) (by omega)) (by omega) (by rw [show S.2.2.2 26 = 96 from hF.2.1 26 (by decide) (by decide)]; omega) dX2_add_35 (fun H locs hM => ?_)
      refine lv_aload_n B.1 B.2.1 dX2_add_36 rfl (lv_at hl 0 rfl) ?_
      refine c_getr (q := (cq q x y)) (r := 27) B (iC2 _) hK hM 7 1 2 (by decide) rfl rfl (by decide) (by decide) rfl rfl rfl (cFx_r hF 7 1) (List.mem_cons_of_mem _ wC_fRX2_15) dX2_add_37 ?_
      refine lv_aload_n B.1 B.2.1 dX2_add_40 rfl (lv_at hl 0 rfl) ?_
      refine c_geti (q := (cq q x y)) (x := S.1 7 5) B (iC2 _) hK hM 7 5 2 (by decide) rfl rfl (by decide) (by decide) rfl rfl (by decide) rfl (List.mem_cons_of_mem _ wC_fRX2_40) dX2_add_41 ?_
      refine lv_iload_n B.1 B.2.1 dX2_add_44 rfl (lv_at hl 2 rfl) ?_
      refine c_iast (q := (cq q x y)) B hK hM 27 (by decide) rfl (zr_of (by omega) (by omega)) (by omega) (by rw [show (ci S 26 (S.1 7 5).toNat kd).2.2.2 27 = 96 from hF.2.1 27 (by decide) (by decide)]; omega) dX2_add_45 (fun H locs hM => ?_)
      refine lv_aload_n B.1 B.2.1 dX2_add_46 rfl (lv_at hl 0 rfl) ?_
      refine c_getr (q := (cq q x y)) (r := 28) B (iC2 _) hK hM 7 2 2 (by decide) rfl rfl (by decide) (by decide) rfl rfl rfl (cFx_r hF 7 2) (List.mem_cons_of_mem _ wC_fRX2_18) dX2_add_47 ?_
      refine lv_aload_n B.1 B.2.1 dX2_add_50 rfl (lv_at hl 0 rfl) ?_
      refine c_geti (q := (cq q x y)) (x := S.1 7 5) B (iC2 _) hK hM 7 5 2 (by decide) rfl rfl (by decide) (by decide) rfl rfl (by decide) rfl (List.mem_cons_of_mem _ wC_fRX2_40) dX2_add_51 ?_
      refine lv_iload_n B.1 B.2.1 dX2_add_54 rfl (lv_at hl 3 rfl) ?_
      refine c_iast (q := (cq q x y)) B hK hM 28 (by decide) rfl (zr_of (by omega) (by omega)) (by omega) (by rw [show (ci (ci S 26 (S.1 7 5).toNat kd) 27 (S.1 7 5).toNat am).2.2.2 28 = 96 from hF.2.1 28 (by decide) (by decide)]; omega) dX2_add_55 (fun H locs hM => ?_)
      refine lv_aload_n B.1 B.2.1 dX2_add_56 rfl (lv_at hl 0 rfl) ?_
      refine lv_dup B.1 B.2.1 dX2_add_57 rfl ?_
      refine c_geti (q := (cq q x y)) (x := S.1 7 5) B (iC2 _) hK hM 7 5 2 (by decide) rfl rfl (by decide) (by decide) rfl rfl (by decide) rfl (List.mem_cons_of_mem _ wC_fRX2_40) dX2_add_58 ?_
      refine z_iconst B.1 B.2.1 dX2_add_61 ?_
      refine z_iadd (x := (S.1 7 5) + 1) B.1 B.2.1 rfl dX2_add_62 ?_
      refine c_puti (q := (cq q x y)) B (iC2 _) tyX2 tyX2_ok nmX2 hK hM 7 5 2 (by decide) rfl rfl (by decide) (by decide) rfl rfl rfl (by decide +kernel) (by decide) (List.mem_cons_of_mem _ wC_fRX2_40) dX2_add_63 (fun H locs hM => ?_)
      refine lv_aload_n B.1 B.2.1 dX2_add_66 rfl (lv_at hl 0 rfl) ?_
      refine c_geti (q := (cq q x y)) (x := (S.1 7 5) + 1) B (iC2 _) hK hM 7 5 2 (by decide) rfl rfl (by decide) (by decide) rfl rfl (by decide) rfl (List.mem_cons_of_mem _ wC_fRX2_40) dX2_add_67 ?_
      refine z_iconst B.1 B.2.1 dX2_add_70 ?_
      refine z_isub (x := ((S.1 7 5) + 1) - 1) B.1 B.2.1 rfl dX2_add_71 ?_
      exact g_reti (S := (ci (ci (ci (ci S 26 (S.1 7 5).toNat kd) 27 (S.1 7 5).toNat am) 28 (S.1 7 5).toNat nb) 7 5 ((S.1 7 5) + 1))) B hM (by unfold K2_add; exact ((if_neg c_1).trans (if_pos c_2))) dX2_add_72
    · --
      exact g_throw (S := S) (E := "java/lang/IllegalArgumentException") (ik := 63) (is := 65) (ic := 67) 9 (by decide) hl0 B hG hM rfl sX_java_lang_IllegalArgumentException (by decide +kernel) (List.mem_cons_of_mem _ wC_cRX2_63) (List.mem_cons_of_mem _ wC_in__java_lang_IllegalArgumentException_) (tC_RX2_67 _) tN_RX2_67 hl.1 (Nat.le_of_ble_eq_true rfl) hR (Nat.le_of_ble_eq_true rfl) (Nat.le_of_ble_eq_true rfl) (Nat.le_refl _) (cFx_gl hF) (tO_RX2_67 _) dX2_add_16 dX2_add_19 dX2_add_20 dX2_add_22 dX2_add_25 (by unfold K2_add; exact ((if_neg c_1).trans (if_neg c_2)))
theorem K2_add_1 {n : Nat} {kd am nb : Int} {S : CSt} (h : n < 6 ∨ (7 < n ∧ n < 17) ∨ 34 < n) : (K2_add kd am nb S).2.2.1 n = S.1 n := by
  unfold K2_add
  (repeat' split) <;> (try rfl)
  all_goals
    simp only []
    rw [ci_ne (show n ≠ 7 by omega), ci_ne (show n ≠ 28 by omega), ci_ne (show n ≠ 27 by omega), ci_ne (show n ≠ 26 by omega)]
theorem K2_add_2 {kd am nb : Int} {S : CSt} : (K2_add kd am nb S).2.2.2 = S.2 := by
  unfold K2_add
  (repeat' split) <;> rfl
theorem K2_add_v {kd am nb : Int} {S : CSt} (h : (K2_add kd am nb S).1 = 0) : (K2_add kd am nb S).2.1 = S.1 7 5 ∧ 0 ≤ S.1 7 5 ∧ S.1 7 5 < 96 ∧ (K2_add kd am nb S).2.2 = ci (ci (ci (ci S 26 (S.1 7 5).toNat kd) 27 (S.1 7 5).toNat am) 28 (S.1 7 5).toNat nb) 7 5 (S.1 7 5 + 1) := by
  revert h
  unfold K2_add
  (repeat' split) <;> intro h
  all_goals first
    | exact absurd h z1n0
    | exact ⟨Int.add_sub_cancel _ _, by omega, by omega, rfl⟩
theorem pB_add {kd am nb : Int} {S : CSt} (hP : pB 7 S) (h : (K2_add kd am nb S).1 = 0) (h0 : -1 ≤ kd) (h1 : kd ≤ 1000000) (h2 : -1 ≤ am) (h3 : am ≤ 1000000) (h4 : -1 ≤ nb) (h5 : nb ≤ 1000000) : pB 7 (K2_add kd am nb S).2.2 := by
  obtain ⟨-, h6, h7, he⟩ := K2_add_v h
  rw [he]
  obtain ⟨hPa, p5a, p5b, pr⟩ := hP
  refine ⟨fun j i hj => ?_, ?_⟩
  · rw [ci_ne (show pA 7 j ≠ 7 by unfold pA; omega)]
    have key : ∀ (x : CSt) (a k : Nat) (v : Int), (∀ n i, (-1 ≤ x.1 (pA 7 n) i ∧ x.1 (pA 7 n) i ≤ 1000000) ∨ 9 ≤ n) → (-1 ≤ v ∧ v ≤ 1000000) → ∀ n i, (-1 ≤ (ci x a k v).1 (pA 7 n) i ∧ (ci x a k v).1 (pA 7 n) i ≤ 1000000) ∨ 9 ≤ n := by
      intro x a k v hx hv n i
      by_cases e : pA 7 n = a
      · subst e
        rw [ci_eq]
        by_cases e : i = k
        · subst e; rw [zu_eq]; exact Or.inl hv
        · rw [zu_ne e]; exact hx n i
      · rw [ci_ne e]; exact hx n i
    have := key _ 28 (S.1 7 5).toNat nb (key _ 27 (S.1 7 5).toNat am (key S 26 (S.1 7 5).toNat kd (fun n i => if h9 : n < 9 then Or.inl (hPa n i h9) else Or.inr (by omega)) ⟨h0, h1⟩) ⟨h2, h3⟩) ⟨h4, h5⟩ j i
    exact this.resolve_right (by omega)
  · rw [ci_eq, ci_ne (show 7 ≠ 28 by omega), ci_ne (show 7 ≠ 27 by omega), ci_ne (show 7 ≠ 26 by omega), zu_eq]
    refine ⟨by omega, by omega, ?_⟩
    rw [zu_ne (by decide), zu_ne (by decide), zu_ne (by decide), zu_ne (by decide)]
    exact pr
theorem K2_add_s {kd am nb : Int} {S : CSt} (h : (K2_add kd am nb S).1 = 0) : (K2_add kd am nb S).2.2.1 7 5 = S.1 7 5 + 1 := by
  rw [(K2_add_v h).2.2.2, ci_eq, zu_eq]
def K2_addOneSign (S : CSt) : CR := (if (K2_add 1 (-1) (-1) S).1 = 0 then (if ((K2_isInstruction 7 ((K2_add 1 (-1) (-1) S).2.1) (K2_add 1 (-1) (-1) S).2.2)) = 0 then (0, 0, (K2_add 1 (-1) (-1) S).2.2) else (0, 0, (cj (cj (K2_add 1 (-1) (-1) S).2.2 29 ((K2_add 1 (-1) (-1) S).2.1).toNat ((K2_add 1 (-1) (-1) S).2.2.2.1 9 0)) 30 ((K2_add 1 (-1) (-1) S).2.1).toNat ((cj (K2_add 1 (-1) (-1) S).2.2 29 ((K2_add 1 (-1) (-1) S).2.1).toNat ((K2_add 1 (-1) (-1) S).2.2.2.1 9 0)).2.1 9 1)))) else (1, 0, (K2_add 1 (-1) (-1) S).2.2))
set_option maxHeartbeats 1000000 in
set_option maxRecDepth 100000 in
theorem cX2_addOneSign_ok (l : Launch) (hl0 : l.stackTraces = false) (D : va_G) (cy : Nat → ClassId) (q : Nat → Nat) (V : Nat × (Nat → Nat)) (n0 x y a b : Nat) (S : CSt) (hF : cFx a b S) (hP : pB 7 S) : gMv l D cy q V n0 x y "java/lang/IllegalArgumentException" yX2_addOneSign (.code yX2_addOneSign cX2_addOneSign 3 none :: TBC) 7 113 S [.ref (q 7), .ref (q 9)] (K2_addOneSign S) := by
  refine g_of (cc := cX2_addOneSign) (maxL := 3) (ret := none) (by decide) rfl rfl (Nat.le_of_ble_eq_true rfl) ?_
  intro p e s m args below meth c ls B hK hG hM hl
  generalize gA (cq q x y) n0 = A at hG hM ⊢
  have hR : (headSpec (.code yX2_addOneSign cX2_addOneSign 3 none :: TBC) (gRm 7 113 S)).room.cells = (gK - gl S) + 1 ∧ (headSpec (.code yX2_addOneSign cX2_addOneSign 3 none :: TBC) (gRm 7 113 S)).room.slots = 2 * (gK - gl S) + 6 := ⟨rfl, rfl⟩
  have hl : lv_has ls 3 [(0, .ref (q 7)), (1, .ref (q 9))] := hl
  obtain ⟨hPa, p5a, p5b, pla, plb, pka, pkb, pga, pgb, pfa, pfb⟩ := id hP
  refine lv_aload_n B.1 B.2.1 dX2_addOneSign_0 rfl (lv_at hl 0 rfl) ?_
  refine z_iconst B.1 B.2.1 dX2_addOneSign_1 ?_
  refine z_iconst B.1 B.2.1 dX2_addOneSign_2 ?_
  refine z_iconst B.1 B.2.1 dX2_addOneSign_3 ?_
  refine g_calli (E := "java/lang/IllegalArgumentException") (As := [.int (zI 1), .int (zI (-1)), .int (zI (-1))]) (rest := []) B hK hG hM 7 (by decide) (by decide) rfl (cX2_add_ok l hl0 D cy q V n0 x y a b S hF  1 (-1) (-1) hP) (cwC 3 B wC_mRX2_70 wC_im_yX2_add wC_sl_yX2_add wC_in_RX2 wC_cd_yX2_add rfl rfl (by decide +kernel) ⟨Nat.le_of_ble_eq_true rfl, Nat.le_of_ble_eq_true rfl⟩) rfl hl.1 rfl (Nat.le_of_ble_eq_true rfl) dX2_addOneSign_4 hR (Nat.le_refl _) (cFx_gl hF) (gl_of (congrArg Prod.snd K2_add_2)) (fun c_2 => (by unfold K2_addOneSign; exact (if_neg c_2))) (fun x y H locs c_2 hM => ?_)
  have hg : gl S ≤ gl (K2_add 1 (-1) (-1) S).2.2 := Nat.le_trans (Nat.le_refl _) (gl_of (congrArg Prod.snd K2_add_2))
  have hP := pB_add  hP c_2 (by omega) (by omega) (by omega) (by omega) (by omega) (by omega)
  have hF : cFx a b (K2_add 1 (-1) (-1) S).2.2 := cFx_of (congrArg Prod.snd K2_add_2) hF
  obtain ⟨f_3, f_3a, f_3b, f_3e⟩ := K2_add_v  c_2
  refine lv_istore_n (lv' := [(2, .int (zI ((K2_add 1 (-1) (-1) S).2.1))), (0, .ref (q 7)), (1, .ref (q 9))]) B.1 B.2.1 dX2_addOneSign_7 rfl hl (by decide) rfl (fun ls hl => ?_)
  have hs5 := K2_add_s c_2
  have hPb := hP.2
  refine lv_aload_n B.1 B.2.1 dX2_addOneSign_8 rfl (lv_at hl 1 rfl) ?_
  refine lv_iload_n B.1 B.2.1 dX2_addOneSign_9 rfl (lv_at hl 0 rfl) ?_
  refine c_calli (q := (cq q x y)) (As := [.int (zI ((K2_add 1 (-1) (-1) S).2.1))]) (rest := []) B hK hM 7 (by decide) (by decide) rfl (cX2_isInstruction_ok l D cy (cq q x y) a b (K2_add 1 (-1) (-1) S).2.2 hF 7 (by decide) ((K2_add 1 (-1) (-1) S).2.1) hP (by show -1000000000 ≤ ((K2_add 1 (-1) (-1) S).2.1); omega) (by show ((K2_add 1 (-1) (-1) S).2.1) ≤ 1000000000; omega)) (cwC 1 B wC_mRX2_56 wC_im_yX2_isInstruction wC_sl_yX2_isInstruction wC_in_RX2 wC_cd_yX2_isInstruction rfl rfl (by decide +kernel) ⟨Nat.le_of_ble_eq_true rfl, Nat.le_of_ble_eq_true rfl⟩) rfl hl.1 rfl (Nat.le_of_ble_eq_true rfl) dX2_addOneSign_10 ⟨g_rc hR hg (cFx_gl (S := (K2_add 1 (-1) (-1) S).2.2) hF), g_rs hR hg (cFx_gl (S := (K2_add 1 (-1) (-1) S).2.2) hF)⟩ (fun z_7 S_6 H locs hp_5 hM => ?_)
  obtain ⟨hp_5, he_hp_5⟩ := hp_5
  have he_hp_5 := he_hp_5.symm
  subst he_hp_5
  have hp_5 : (K2_isInstruction 7 ((K2_add 1 (-1) (-1) S).2.1) (K2_add 1 (-1) (-1) S).2.2) = z_7 := hp_5.symm
  subst hp_5
  have f_8 := K2_isInstruction_bd 7 ((K2_add 1 (-1) (-1) S).2.1) (K2_add 1 (-1) (-1) S).2.2
  refine z_if_eq (tgt := 36) B.1 B.2.1 (zr_of (by omega) (by omega)) dX2_addOneSign_13 (by decide) (fun c_9 => ?_) (fun c_9 => ?_)
  · --
    exact g_retv (S := (K2_add 1 (-1) (-1) S).2.2) B hM (by unfold K2_addOneSign; exact ((if_pos c_2).trans (if_pos c_9))) dX2_addOneSign_36
  · --
    refine lv_aload_n B.1 B.2.1 dX2_addOneSign_16 rfl (lv_at hl 1 rfl) ?_
    refine c_getr (q := (cq q x y)) (r := 29) B (iC2 _) hK hM 7 3 2 (by decide) rfl rfl (by decide) (by decide) rfl rfl rfl (cFx_r hF 7 3) (List.mem_cons_of_mem _ wC_fRX2_21) dX2_addOneSign_17 ?_
    refine lv_iload_n B.1 B.2.1 dX2_addOneSign_20 rfl (lv_at hl 0 rfl) ?_
    refine lv_aload_n B.1 B.2.1 dX2_addOneSign_21 rfl (lv_at hl 2 rfl) ?_
    refine c_calll (q := (cq q x y)) (As := []) (rest := [.int (zI ((K2_add 1 (-1) (-1) S).2.1)), .ref (q 29)]) B hK hM 9 (by decide) (by decide) rfl (cX5_lower_ok l D cy (cq q x y) a b (K2_add 1 (-1) (-1) S).2.2 hF   ) (cwC 0 B wC_mRX2_74 wC_im_yX5_lower wC_sl_yX5_lower wC_in_RX5 wC_cd_yX5_lower rfl rfl (by decide +kernel) ⟨Nat.le_of_ble_eq_true rfl, Nat.le_of_ble_eq_true rfl⟩) rfl hl.1 rfl (Nat.le_of_ble_eq_true rfl) dX2_addOneSign_22 ⟨g_rc hR hg (cFx_gl (S := (K2_add 1 (-1) (-1) S).2.2) hF), g_rs hR hg (cFx_gl (S := (K2_add 1 (-1) (-1) S).2.2) hF)⟩ (fun z_13 S_12 H locs hp_11 hM => ?_)
    obtain ⟨hp_11, he_hp_11⟩ := hp_11
    have he_hp_11 := he_hp_11.symm
    subst he_hp_11
    have hp_11 : (K2_add 1 (-1) (-1) S).2.2.2.1 9 0 = z_13 := hp_11.symm
    subst hp_11
    refine c_last (q := (cq q x y)) B hK hM 29 (by decide) rfl (zr_of (by omega) (by omega)) (by omega) (by rw [show (K2_add 1 (-1) (-1) S).2.2.2.2.2 29 = 96 from hF.2.1 29 (by decide) (by decide)]; omega) dX2_addOneSign_25 (fun H locs hM => ?_)
    refine lv_aload_n B.1 B.2.1 dX2_addOneSign_26 rfl (lv_at hl 1 rfl) ?_
    refine c_getr (q := (cq q x y)) (r := 30) B (iC2 _) hK hM 7 4 2 (by decide) rfl rfl (by decide) (by decide) rfl rfl rfl (cFx_r hF 7 4) (List.mem_cons_of_mem _ wC_fRX2_25) dX2_addOneSign_27 ?_
    refine lv_iload_n B.1 B.2.1 dX2_addOneSign_30 rfl (lv_at hl 0 rfl) ?_
    refine lv_aload_n B.1 B.2.1 dX2_addOneSign_31 rfl (lv_at hl 2 rfl) ?_
    refine c_calll (q := (cq q x y)) (As := []) (rest := [.int (zI ((K2_add 1 (-1) (-1) S).2.1)), .ref (q 30)]) B hK hM 9 (by decide) (by decide) rfl (cX5_upper_ok l D cy (cq q x y) a b (cj (K2_add 1 (-1) (-1) S).2.2 29 ((K2_add 1 (-1) (-1) S).2.1).toNat ((K2_add 1 (-1) (-1) S).2.2.2.1 9 0)) hF   ) (cwC 0 B wC_mRX2_79 wC_im_yX5_upper wC_sl_yX5_upper wC_in_RX5 wC_cd_yX5_upper rfl rfl (by decide +kernel) ⟨Nat.le_of_ble_eq_true rfl, Nat.le_of_ble_eq_true rfl⟩) rfl hl.1 rfl (Nat.le_of_ble_eq_true rfl) dX2_addOneSign_32 ⟨g_rc hR hg (cFx_gl (S := (cj (K2_add 1 (-1) (-1) S).2.2 29 ((K2_add 1 (-1) (-1) S).2.1).toNat ((K2_add 1 (-1) (-1) S).2.2.2.1 9 0))) hF), g_rs hR hg (cFx_gl (S := (cj (K2_add 1 (-1) (-1) S).2.2 29 ((K2_add 1 (-1) (-1) S).2.1).toNat ((K2_add 1 (-1) (-1) S).2.2.2.1 9 0))) hF)⟩ (fun z_17 S_16 H locs hp_15 hM => ?_)
    obtain ⟨hp_15, he_hp_15⟩ := hp_15
    have he_hp_15 := he_hp_15.symm
    subst he_hp_15
    have hp_15 : (cj (K2_add 1 (-1) (-1) S).2.2 29 ((K2_add 1 (-1) (-1) S).2.1).toNat ((K2_add 1 (-1) (-1) S).2.2.2.1 9 0)).2.1 9 1 = z_17 := hp_15.symm
    subst hp_15
    refine c_last (q := (cq q x y)) B hK hM 30 (by decide) rfl (zr_of (by omega) (by omega)) (by omega) (by rw [show (cj (K2_add 1 (-1) (-1) S).2.2 29 ((K2_add 1 (-1) (-1) S).2.1).toNat ((K2_add 1 (-1) (-1) S).2.2.2.1 9 0)).2.2.2 30 = 96 from hF.2.1 30 (by decide) (by decide)]; omega) dX2_addOneSign_35 (fun H locs hM => ?_)
    exact g_retv (S := (cj (cj (K2_add 1 (-1) (-1) S).2.2 29 ((K2_add 1 (-1) (-1) S).2.1).toNat ((K2_add 1 (-1) (-1) S).2.2.2.1 9 0)) 30 ((K2_add 1 (-1) (-1) S).2.1).toNat ((cj (K2_add 1 (-1) (-1) S).2.2 29 ((K2_add 1 (-1) (-1) S).2.1).toNat ((K2_add 1 (-1) (-1) S).2.2.2.1 9 0)).2.1 9 1))) B hM (by unfold K2_addOneSign; exact ((if_pos c_2).trans (if_neg c_9))) dX2_addOneSign_36
theorem K2_addOneSign_v {S : CSt} (h : (K2_addOneSign S).1 = 0) : (K2_add 1 (-1) (-1) S).1 = 0 ∧ (K2_addOneSign S).2.2 = cj (cj (K2_add 1 (-1) (-1) S).2.2 29 (S.1 7 5).toNat (S.2.1 9 0)) 30 (S.1 7 5).toNat (S.2.1 9 1) := by
  by_cases c : (K2_add 1 (-1) (-1) S).1 = 0
  · refine ⟨c, ?_⟩
    obtain ⟨e1, e2, e3, e4⟩ := K2_add_v c
    have e5 := K2_add_s c
    have e6 : ¬ K2_isInstruction 7 (K2_add 1 (-1) (-1) S).2.1 (K2_add 1 (-1) (-1) S).2.2 = 0 := by
      unfold K2_isInstruction
      rw [e1, e5, if_neg (by omega), if_neg (by omega), if_neg (by omega)]
      decide
    unfold K2_addOneSign
    rw [if_pos c, if_neg e6, e1]
    simp only [K2_add_2, cj_ne (show (9 : Nat) ≠ 29 by decide)]
  · unfold K2_addOneSign at h
    rw [if_neg c] at h
    exact absurd h z1n0
theorem K2_addOneSign_1 {n : Nat} {S : CSt} (h : n < 6 ∨ (7 < n ∧ n < 17) ∨ 34 < n) : (K2_addOneSign S).2.2.1 n = S.1 n := by
  unfold K2_addOneSign
  (repeat' split) <;> exact K2_add_1 h
theorem K2_addOneSign_22 {S : CSt} : (K2_addOneSign S).2.2.2.2 = S.2.2 := by
  unfold K2_addOneSign
  (repeat' split) <;> (show (K2_add 1 (-1) (-1) S).2.2.2.2 = S.2.2; rw [K2_add_2])
theorem K2_addOneSign_j {n : Nat} {S : CSt} (h : n < 6 ∨ (7 < n ∧ n < 17) ∨ 34 < n) : (K2_addOneSign S).2.2.2.1 n = S.2.1 n := by
  unfold K2_addOneSign
  (repeat' split)
  · exact congrFun (congrArg Prod.fst K2_add_2) n
  · simp only []
    rw [cj_ne (show n ≠ 30 by omega), cj_ne (show n ≠ 29 by omega)]
    exact congrFun (congrArg Prod.fst K2_add_2) n
  · exact congrFun (congrArg Prod.fst K2_add_2) n
theorem pB_addOneSign {S : CSt} (hP : pB 7 S) (h : (K2_addOneSign S).1 = 0) : pB 7 (K2_addOneSign S).2.2 := by
  obtain ⟨h1, h2⟩ := K2_addOneSign_v h
  rw [h2]
  exact pB_of (S := (K2_add 1 (-1) (-1) S).2.2) rfl (fun _ _ => rfl) (pB_add hP h1 (by omega) (by omega) (by omega) (by omega) (by omega) (by omega))
def K2_aimAt (t : Nat) (i : Int) (am : Int) (S : CSt) : CSt := (if ((K2_isInstruction t i S)) = 0 then S else (ci S (pA t 1) i.toNat am))
set_option maxHeartbeats 1000000 in
set_option maxRecDepth 100000 in
theorem cX2_aimAt_ok (l : Launch) (D : va_G) (cy : Nat → ClassId) (q : Nat → Nat) (a b : Nat) (S : CSt) (hF : cFx a b S) (t : Nat) (ht : t = 6 ∨ t = 7) (i : Int) (am : Int) (hP : pB t S) (ha0 : -1000000000 ≤ i) (ha1 : i ≤ 1000000000) : cMv l D cy q yX2_aimAt (.code yX2_aimAt cX2_aimAt 3 none :: TBC) ({ frames := 1, cells := 0, slots := 0, locals := 21 }) S t [.int (zI i), .int (zI am)] (fun S' => S' = K2_aimAt t i am S) := by
  refine c_of (cc := cX2_aimAt) (maxL := 3) (ret := none) (C := RX2) (by decide) rfl rfl (Nat.le_of_ble_eq_true rfl) ?_
  intro p e s m args below meth c ls B hK hM hl
  have hl : lv_has ls 3 [(0, .ref (q t)), (1, .int (zI i)), (2, .int (zI am))] := hl
  obtain ⟨hPa, p5a, p5b, pla, plb, pka, pkb, pga, pgb, pfa, pfb⟩ := id hP
  refine lv_aload_n B.1 B.2.1 dX2_aimAt_0 rfl (lv_at hl 0 rfl) ?_
  refine lv_iload_n B.1 B.2.1 dX2_aimAt_1 rfl (lv_at hl 1 rfl) ?_
  refine c_calli (q := q) (As := [.int (zI i)]) (rest := []) B hK hM t (by omega) (by rw [(cK_pr ht)]; decide) (by rw [(cK_pr ht)]; rfl) (cX2_isInstruction_ok l D cy q a b S hF t ht i hP (by show -1000000000 ≤ i; omega) (by show i ≤ 1000000000; omega)) (cwC 1 B wC_mRX2_56 wC_im_yX2_isInstruction wC_sl_yX2_isInstruction wC_in_RX2 wC_cd_yX2_isInstruction rfl rfl (by decide +kernel) ⟨Nat.le_of_ble_eq_true rfl, Nat.le_of_ble_eq_true rfl⟩) rfl hl.1 rfl (Nat.le_of_ble_eq_true rfl) dX2_aimAt_2 ⟨Nat.zero_le _, Nat.zero_le _⟩ (fun z_4 S_3 H locs hp_2 hM => ?_)
  obtain ⟨hp_2, he_hp_2⟩ := hp_2
  have he_hp_2 := he_hp_2.symm
  subst he_hp_2
  have hp_2 : (K2_isInstruction t i S) = z_4 := hp_2.symm
  subst hp_2
  have f_5 := K2_isInstruction_bd t i S
  refine z_if_eq (tgt := 15) B.1 B.2.1 (zr_of (by omega) (by omega)) dX2_aimAt_5 (by decide) (fun c_6 => ?_) (fun c_6 => ?_)
  · --
    exact c_retv B hM (by unfold K2_aimAt; exact (if_pos c_6).symm) dX2_aimAt_15
  · --
    refine lv_aload_n B.1 B.2.1 dX2_aimAt_8 rfl (lv_at hl 0 rfl) ?_
    refine c_getr (q := q) (r := (pA t 1)) B (iC2 _) hK hM t 1 2 (by omega) (cK_pr ht) rfl (by decide) (by decide) rfl rfl rfl (cFx_pa hF ht 1 (by decide)) (List.mem_cons_of_mem _ wC_fRX2_15) dX2_aimAt_9 ?_
    refine lv_iload_n B.1 B.2.1 dX2_aimAt_12 rfl (lv_at hl 1 rfl) ?_
    refine lv_iload_n B.1 B.2.1 dX2_aimAt_13 rfl (lv_at hl 2 rfl) ?_
    refine c_iast (q := q) B hK hM (pA t 1) (pA_lt ht 1 (by decide)) (cK_pi ht 1 (by decide)) (zr_of (by omega) (by omega)) (by omega) (by rw [show S.2.2.2 (pA t 1) = 96 from cFx_ll hF ht 1 (by decide)]; omega) dX2_aimAt_14 (fun H locs hM => ?_)
    exact c_retv B hM (by unfold K2_aimAt; exact (if_neg c_6).symm) dX2_aimAt_15
theorem K2_aimAt_1 {t n : Nat} {i am : Int} {S : CSt} (ht : t = 6 ∨ t = 7) (h : n < 6 ∨ (7 < n ∧ n < 17) ∨ 34 < n) : (K2_aimAt t i am S).1 n = S.1 n := by
  unfold K2_aimAt
  (repeat' split) <;> first | rfl | exact ci_ne (by unfold pA; omega)
theorem K2_aimAt_t {t : Nat} {i am : Int} {S : CSt} (ht : t = 6 ∨ t = 7) : (K2_aimAt t i am S).1 t = S.1 t := by
  unfold K2_aimAt
  (repeat' split) <;> first | rfl | exact ci_ne (by unfold pA; omega)
theorem K2_aimAt_2 {t : Nat} {i am : Int} {S : CSt} : (K2_aimAt t i am S).2 = S.2 := by
  unfold K2_aimAt
  (repeat' split) <;> rfl
theorem pB_aimAt {t : Nat} {i am : Int} {S : CSt} (ht : t = 6 ∨ t = 7) (hP : pB t S) (h0 : -1 ≤ am) (h1 : am ≤ 1000000) : pB t (K2_aimAt t i am S) := by
  unfold K2_aimAt
  split
  · exact hP
  · obtain ⟨hPa, hr⟩ := hP
    refine ⟨fun j k hj => ?_, ?_⟩
    · by_cases e : pA t j = pA t 1
      · rw [e, ci_eq]
        by_cases e2 : k = i.toNat
        · rw [e2, zu_eq]; exact ⟨h0, h1⟩
        · rw [zu_ne e2]; exact hPa 1 k (by decide)
      · rw [ci_ne e]; exact hPa j k hj
    · rw [ci_ne (show t ≠ pA t 1 by unfold pA; omega)]
      exact hr
def K2_aimChainL (t : Nat) (am : Int) : Nat → Int → Int → CSt → CSt
  | 0, j, i, T => T
  | n + 1, j, i, T => (if 96 ≤ i then T else (if j = (-1) then T else K2_aimChainL t am n ((K2_aim t j T)) (i + 1) ((K2_aimAt t j am T))))
set_option maxHeartbeats 1000000 in
set_option maxRecDepth 100000 in
theorem lp2_aimChainAt (l : Launch) (D : va_G) (cy : Nat → ClassId) (q : Nat → Nat) (a b : Nat)  (t : Nat) (am : Int) (ht : t = 6 ∨ t = 7) (hm0 : -1 ≤ am) (hm1 : am ≤ 1000000) {p : Program} {e : Env} {s : State} {m : MethodId} {args : Array Value} {below : List Frame} {meth : Method} {c : Code} (B : zAt p s m args meth c RX2 cX2_aimChainAt 6 none (.code yX2_aimChainAt cX2_aimChainAt 6 none :: TBC)) (hK : va_K D vwCl (zTY cy) s) (post : CSt → Prop) :
    ∀ (n : Nat) (j : Int) (i : Int) (T : CSt) (H : Heap) (locs : List Loc) (ls : Array Slot), (cFx a b T) → (pB t T) → (-1 ≤ j) → (j ≤ 1000000) → (0 ≤ i) → (i ≤ 96) → (96 - i = n) → cH D cy q (cA q) s.heap T H locs → lv_has ls 6 [(0, .ref (q t)), (2, .int (zI am)), (3, .int (zI j)), (4, .int (zI i))] → post (K2_aimChainL t am n j i T) → W p l e (headSpec (.code yX2_aimChainAt cX2_aimChainAt 6 none :: TBC) ({ frames := 2, cells := 0, slots := 0, locals := 43 })).room s m args below meth c H locs 0 0 (MQ below (cQv D cy q post) args s 0 0 (cA q)) (F0 m 5 ls []) := by
  intro n
  induction n with
  | zero =>
    intro j i T H locs ls hF hP hj0 hj1 hi0 hi1 hn hM hl hpost
    obtain ⟨hPa, p5a, p5b, pla, plb, pka, pkb, pga, pgb, pfa, pfb⟩ := id hP
    refine lv_iload B.1 B.2.1 dX2_aimChainAt_5 (lv_at hl 3 rfl) ?_
    refine z_bipush B.1 B.2.1 (by decide) dX2_aimChainAt_7 ?_
    refine z_icmp_ge (tgt := 39) B.1 B.2.1 (zr_of (by omega) (by omega)) (zr_of (by decide) (by decide)) dX2_aimChainAt_9 (by decide) (fun c_1 => ?_) (fun c_1 => ?_)
    · --
      have hq : K2_aimChainL t am 0 j i T = T := rfl
      rw [hq] at hpost
      exact c_retv B hM (hpost) dX2_aimChainAt_39
    · exact absurd c_1 (by omega)
  | succ n ih =>
    intro j i T H locs ls hF hP hj0 hj1 hi0 hi1 hn hM hl hpost
    obtain ⟨hPa, p5a, p5b, pla, plb, pka, pkb, pga, pgb, pfa, pfb⟩ := id hP
    refine lv_iload B.1 B.2.1 dX2_aimChainAt_5 (lv_at hl 3 rfl) ?_
    refine z_bipush B.1 B.2.1 (by decide) dX2_aimChainAt_7 ?_
    refine z_icmp_ge (tgt := 39) B.1 B.2.1 (zr_of (by omega) (by omega)) (zr_of (by decide) (by decide)) dX2_aimChainAt_9 (by decide) (fun c_1 => ?_) (fun c_1 => ?_)
    · --
      have hq : K2_aimChainL t am (n + 1) j i T = T := by rw [K2_aimChainL]; exact (if_pos c_1)
      rw [hq] at hpost
      exact c_retv B hM (hpost) dX2_aimChainAt_39
    · --
      refine lv_iload_n B.1 B.2.1 dX2_aimChainAt_12 rfl (lv_at hl 2 rfl) ?_
      refine z_iconst B.1 B.2.1 dX2_aimChainAt_13 ?_
      refine z_icmp_eq (tgt := 39) B.1 B.2.1 (zr_of (by omega) (by omega)) (zr_of (by decide) (by decide)) dX2_aimChainAt_14 (by decide) (fun c_2 => ?_) (fun c_2 => ?_)
      · --
        have hq : K2_aimChainL t am (n + 1) j i T = T := by rw [K2_aimChainL]; exact ((if_neg c_1).trans (if_pos c_2))
        rw [hq] at hpost
        exact c_retv B hM (hpost) dX2_aimChainAt_39
      · --
        refine lv_aload_n B.1 B.2.1 dX2_aimChainAt_17 rfl (lv_at hl 0 rfl) ?_
        refine lv_iload_n B.1 B.2.1 dX2_aimChainAt_18 rfl (lv_at hl 2 rfl) ?_
        refine c_calli (q := q) (As := [.int (zI j)]) (rest := []) B hK hM t (by omega) (by rw [(cK_pr ht)]; decide) (by rw [(cK_pr ht)]; rfl) (cX2_aim_ok l D cy q a b T hF t ht j hP (by show -1000000000 ≤ j; omega) (by show j ≤ 1000000000; omega)) (cwC 1 B wC_mRX2_81 wC_im_yX2_aim wC_sl_yX2_aim wC_in_RX2 wC_cd_yX2_aim rfl rfl (by decide +kernel) ⟨Nat.le_of_ble_eq_true rfl, Nat.le_of_ble_eq_true rfl⟩) rfl hl.1 rfl (Nat.le_of_ble_eq_true rfl) dX2_aimChainAt_19 ⟨Nat.zero_le _, Nat.zero_le _⟩ (fun z_6 S_5 H locs hp_4 hM => ?_)
        obtain ⟨hp_4, he_hp_4⟩ := hp_4
        have he_hp_4 := he_hp_4.symm
        subst he_hp_4
        have hp_4 : (K2_aim t j T) = z_6 := hp_4.symm
        subst hp_4
        have f_7 := K2_aim_bd j hP
        refine lv_istore (lv' := [(5, .int (zI ((K2_aim t j T)))), (0, .ref (q t)), (2, .int (zI am)), (3, .int (zI j)), (4, .int (zI i))]) B.1 B.2.1 dX2_aimChainAt_22 hl (by decide) rfl (fun ls hl => ?_)
        refine lv_aload_n B.1 B.2.1 dX2_aimChainAt_24 rfl (lv_at hl 1 rfl) ?_
        refine lv_iload_n B.1 B.2.1 dX2_aimChainAt_25 rfl (lv_at hl 3 rfl) ?_
        refine lv_iload_n B.1 B.2.1 dX2_aimChainAt_26 rfl (lv_at hl 2 rfl) ?_
        refine c_callv (q := q) (As := [.int (zI j), .int (zI am)]) (rest := []) B hK hM t (by omega) (by rw [(cK_pr ht)]; decide) (by rw [(cK_pr ht)]; rfl) (cX2_aimAt_ok l D cy q a b T hF t ht j am hP (by show -1000000000 ≤ j; omega) (by show j ≤ 1000000000; omega)) (cwC 2 B wC_mRX2_85 wC_im_yX2_aimAt wC_sl_yX2_aimAt wC_in_RX2 wC_cd_yX2_aimAt rfl rfl (by decide +kernel) ⟨Nat.le_of_ble_eq_true rfl, Nat.le_of_ble_eq_true rfl⟩) rfl hl.1 rfl (Nat.le_of_ble_eq_true rfl) dX2_aimChainAt_27 ⟨Nat.zero_le _, Nat.zero_le _⟩ (fun S_10 H locs hp_9 hM => ?_)
        have hp_9 := hp_9.symm
        subst hp_9
        have hP : pB t (K2_aimAt t j am T) := pB_aimAt ht hP (by omega) (by omega)
        have hF : cFx a b (K2_aimAt t j am T) := cFx_of (congrArg Prod.snd K2_aimAt_2) hF
        refine lv_iload B.1 B.2.1 dX2_aimChainAt_30 (lv_at hl 0 rfl) ?_
        refine lv_istore_n (lv' := [(3, .int (zI ((K2_aim t j T)))), (5, .int (zI ((K2_aim t j T)))), (0, .ref (q t)), (2, .int (zI am)), (4, .int (zI i))]) B.1 B.2.1 dX2_aimChainAt_32 rfl hl (by decide) rfl (fun ls hl => ?_)
        refine z_iinc (v := i + 1) (lv' := [(4, .int (zI (i + 1))), (3, .int (zI ((K2_aim t j T)))), (5, .int (zI ((K2_aim t j T)))), (0, .ref (q t)), (2, .int (zI am))]) B.1 B.2.1 dX2_aimChainAt_33 hl (k := 4) rfl rfl (by decide) rfl (fun ls hl => ?_)
        refine lv_goto (tgt := 5) B.1 B.2.1 dX2_aimChainAt_36 (by decide) ?_
        have hq : K2_aimChainL t am (n + 1) j i T = K2_aimChainL t am n ((K2_aim t j T)) (i + 1) ((K2_aimAt t j am T)) := by rw [K2_aimChainL]; exact ((if_neg c_1).trans (if_neg c_2))
        rw [hq] at hpost
        exact ih ((K2_aim t j T)) (i + 1) ((K2_aimAt t j am T)) H locs ls hF  hP (by omega) (by omega) (by omega) (by omega) (by omega) hM (lv_sub hl [3, 4, 1, 0] rfl) hpost
def K2_aimChainAt (t : Nat) (j am : Int) (S : CSt) : CSt := K2_aimChainL t am 96 j 0 S
set_option maxHeartbeats 1000000 in
set_option maxRecDepth 100000 in
theorem cX2_aimChainAt_ok (l : Launch) (D : va_G) (cy : Nat → ClassId) (q : Nat → Nat) (a b : Nat) (S : CSt) (hF : cFx a b S) (t : Nat) (ht : t = 6 ∨ t = 7) (j : Int) (am : Int) (hP : pB t S) (hj0 : -1 ≤ j) (hj1 : j ≤ 1000000) (hm0 : -1 ≤ am) (hm1 : am ≤ 1000000) : cMv l D cy q yX2_aimChainAt (.code yX2_aimChainAt cX2_aimChainAt 6 none :: TBC) ({ frames := 2, cells := 0, slots := 0, locals := 43 }) S t [.int (zI j), .int (zI am)] (fun S' => S' = K2_aimChainAt t j am S) := by
  refine c_of (cc := cX2_aimChainAt) (maxL := 6) (ret := none) (C := RX2) (by decide) rfl rfl (Nat.le_of_ble_eq_true rfl) ?_
  intro p e s m args below meth c ls B hK hM hl
  have hl : lv_has ls 6 [(0, .ref (q t)), (1, .int (zI j)), (2, .int (zI am))] := hl
  refine lv_iload_n B.1 B.2.1 dX2_aimChainAt_0 rfl (lv_at hl 1 rfl) ?_
  refine lv_istore_n (lv' := [(3, .int (zI j)), (0, .ref (q t)), (1, .int (zI j)), (2, .int (zI am))]) B.1 B.2.1 dX2_aimChainAt_1 rfl hl (by decide) rfl (fun ls hl => ?_)
  refine z_iconst B.1 B.2.1 dX2_aimChainAt_2 ?_
  refine lv_istore (lv' := [(4, .int (zI 0)), (3, .int (zI j)), (0, .ref (q t)), (1, .int (zI j)), (2, .int (zI am))]) B.1 B.2.1 dX2_aimChainAt_3 hl (by decide) rfl (fun ls hl => ?_)
  exact lp2_aimChainAt l D cy q a b t am ht hm0 hm1 B hK _ 96 j 0 S _ _ ls hF hP hj0 hj1 (by omega) (by omega) (by omega) hM (lv_sub hl [2, 4, 1, 0] rfl) rfl
theorem K2_aimChainL_1 {t : Nat} {am : Int} (ht : t = 6 ∨ t = 7) : ∀ (n : Nat) (j i : Int) (S : CSt), (∀ m, m < 6 ∨ (7 < m ∧ m < 17) ∨ 34 < m ∨ m = t → (K2_aimChainL t am n j i S).1 m = S.1 m) ∧ (K2_aimChainL t am n j i S).2 = S.2 ∧ (pB t S → -1 ≤ am → am ≤ 1000000 → pB t (K2_aimChainL t am n j i S))
  | 0, _, _, S => by rw [K2_aimChainL]; exact ⟨fun _ _ => rfl, rfl, fun h _ _ => h⟩
  | n + 1, j, i, S => by
    rw [K2_aimChainL]
    (repeat' split)
    all_goals first
      | exact ⟨fun _ _ => rfl, rfl, fun h _ _ => h⟩
      | (obtain ⟨h1, h2, h3⟩ := K2_aimChainL_1 (am := am) ht n (K2_aim t j S) (i + 1) (K2_aimAt t j am S)
         refine ⟨fun m hm => (h1 m hm).trans ?_, h2.trans K2_aimAt_2, fun h a1 a2 => h3 (pB_aimAt ht h a1 a2) a1 a2⟩
         rcases hm with h | h | h | h
         · exact K2_aimAt_1 ht (Or.inl h)
         · exact K2_aimAt_1 ht (Or.inr (Or.inl h))
         · exact K2_aimAt_1 ht (Or.inr (Or.inr h))
         · subst h; exact K2_aimAt_t ht)
theorem K2_aimChainAt_1 {t n : Nat} {j am : Int} {S : CSt} (ht : t = 6 ∨ t = 7) (h : n < 6 ∨ (7 < n ∧ n < 17) ∨ 34 < n) : (K2_aimChainAt t j am S).1 n = S.1 n := (K2_aimChainL_1 ht _ _ _ _).1 n (by omega)
theorem K2_aimChainAt_t {t : Nat} {j am : Int} {S : CSt} (ht : t = 6 ∨ t = 7) : (K2_aimChainAt t j am S).1 t = S.1 t := (K2_aimChainL_1 ht _ _ _ _).1 t (by omega)
theorem K2_aimChainAt_2 {t : Nat} {j am : Int} {S : CSt} (ht : t = 6 ∨ t = 7) : (K2_aimChainAt t j am S).2 = S.2 := (K2_aimChainL_1 ht _ _ _ _).2.1
theorem pB_aimChainAt {t : Nat} {j am : Int} {S : CSt} (ht : t = 6 ∨ t = 7) (hP : pB t S) (h0 : -1 ≤ am) (h1 : am ≤ 1000000) : pB t (K2_aimChainAt t j am S) := (K2_aimChainL_1 ht _ _ _ _).2.2 hP h0 h1
def K2_addGroup (S : CSt) : CR := (if (S.1 7 12) < 9 then (0, (S.1 7 12) + 1, (ci S 7 12 ((S.1 7 12) + 1))) else (1, 0, S))
set_option maxHeartbeats 1000000 in
set_option maxRecDepth 100000 in
theorem cX2_addGroup_ok (l : Launch) (hl0 : l.stackTraces = false) (D : va_G) (cy : Nat → ClassId) (q : Nat → Nat) (V : Nat × (Nat → Nat)) (n0 x y a b : Nat) (S : CSt) (hF : cFx a b S) (hP : pB 7 S) : gMi l D cy q V n0 x y "java/lang/IllegalArgumentException" yX2_addGroup (.code yX2_addGroup cX2_addGroup 1 (some .int) :: TBC) 6 90 S [.ref (q 7)] (K2_addGroup S) := by
  refine g_of (cc := cX2_addGroup) (maxL := 1) (ret := (some .int)) (by decide) rfl rfl (Nat.le_of_ble_eq_true rfl) ?_
  intro p e s m args below meth c ls B hK hG hM hl
  generalize gA (cq q x y) n0 = A at hG hM ⊢
  have hR : (headSpec (.code yX2_addGroup cX2_addGroup 1 (some .int) :: TBC) (gRm 6 90 S)).room.cells = (gK - gl S) + 1 ∧ (headSpec (.code yX2_addGroup cX2_addGroup 1 (some .int) :: TBC) (gRm 6 90 S)).room.slots = 2 * (gK - gl S) + 6 := ⟨rfl, rfl⟩
  have hl : lv_has ls 1 [(0, .ref (q 7))] := hl
  obtain ⟨hPa, p5a, p5b, pla, plb, pka, pkb, pga, pgb, pfa, pfb⟩ := id hP
  refine lv_aload_n B.1 B.2.1 dX2_addGroup_0 rfl (lv_at hl 0 rfl) ?_
  refine c_geti (q := (cq q x y)) (x := S.1 7 12) B (iC2 _) hK hM 7 12 2 (by decide) rfl rfl (by decide) (by decide) rfl rfl (by decide) rfl (List.mem_cons_of_mem _ wC_fRX2_50) dX2_addGroup_1 ?_
  refine z_bipush B.1 B.2.1 (by decide) dX2_addGroup_4 ?_
  refine z_icmp_lt (tgt := 19) B.1 B.2.1 (zr_of (by omega) (by omega)) (zr_of (by decide) (by decide)) dX2_addGroup_6 (by decide) (fun c_1 => ?_) (fun c_1 => ?_)
  · --
    refine lv_aload_n B.1 B.2.1 dX2_addGroup_19 rfl (lv_at hl 0 rfl) ?_
    refine lv_dup B.1 B.2.1 dX2_addGroup_20 rfl ?_
    refine c_geti (q := (cq q x y)) (x := S.1 7 12) B (iC2 _) hK hM 7 12 2 (by decide) rfl rfl (by decide) (by decide) rfl rfl (by decide) rfl (List.mem_cons_of_mem _ wC_fRX2_50) dX2_addGroup_21 ?_
    refine z_iconst B.1 B.2.1 dX2_addGroup_24 ?_
    refine z_iadd (x := (S.1 7 12) + 1) B.1 B.2.1 rfl dX2_addGroup_25 ?_
    refine c_puti (q := (cq q x y)) B (iC2 _) tyX2 tyX2_ok nmX2 hK hM 7 12 2 (by decide) rfl rfl (by decide) (by decide) rfl rfl rfl (by decide +kernel) (by decide) (List.mem_cons_of_mem _ wC_fRX2_50) dX2_addGroup_26 (fun H locs hM => ?_)
    refine lv_aload_n B.1 B.2.1 dX2_addGroup_29 rfl (lv_at hl 0 rfl) ?_
    refine c_geti (q := (cq q x y)) (x := (S.1 7 12) + 1) B (iC2 _) hK hM 7 12 2 (by decide) rfl rfl (by decide) (by decide) rfl rfl (by decide) rfl (List.mem_cons_of_mem _ wC_fRX2_50) dX2_addGroup_30 ?_
    exact g_reti (S := (ci S 7 12 ((S.1 7 12) + 1))) B hM (by unfold K2_addGroup; exact (if_pos c_1)) dX2_addGroup_33
  · --
    exact g_throw (S := S) (E := "java/lang/IllegalArgumentException") (ik := 63) (is := 89) (ic := 67) 10 (by decide) hl0 B hG hM rfl sX_java_lang_IllegalArgumentException (by decide +kernel) (List.mem_cons_of_mem _ wC_cRX2_63) (List.mem_cons_of_mem _ wC_in__java_lang_IllegalArgumentException_) (tC_RX2_67 _) tN_RX2_67 hl.1 (Nat.le_of_ble_eq_true rfl) hR (Nat.le_of_ble_eq_true rfl) (Nat.le_of_ble_eq_true rfl) (Nat.le_refl _) (cFx_gl hF) (tO_RX2_67 _) dX2_addGroup_9 dX2_addGroup_12 dX2_addGroup_13 dX2_addGroup_15 dX2_addGroup_18 (by unfold K2_addGroup; exact (if_neg c_1))
theorem K2_addGroup_v {S : CSt} (h : (K2_addGroup S).1 = 0) : S.1 7 12 < 9 ∧ (K2_addGroup S).2.1 = S.1 7 12 + 1 ∧ (K2_addGroup S).2.2 = ci S 7 12 (S.1 7 12 + 1) := by
  revert h
  unfold K2_addGroup
  (repeat' split) <;> intro h
  all_goals first
    | exact absurd h z1n0
    | exact ⟨by omega, rfl, rfl⟩
theorem K2_addGroup_1 {n : Nat} {S : CSt} (h : n < 6 ∨ (7 < n ∧ n < 17) ∨ 34 < n) : (K2_addGroup S).2.2.1 n = S.1 n := by
  unfold K2_addGroup
  (repeat' split) <;> first | rfl | exact ci_ne (by omega)
theorem K2_addGroup_2 {S : CSt} : (K2_addGroup S).2.2.2 = S.2 := by
  unfold K2_addGroup
  (repeat' split) <;> rfl
theorem pB_addGroup {S : CSt} (hP : pB 7 S) (h : (K2_addGroup S).1 = 0) : pB 7 (K2_addGroup S).2.2 := by
  obtain ⟨h1, -, h2⟩ := K2_addGroup_v h
  rw [h2]
  obtain ⟨hPa, p5a, p5b, pla, plb, pka, pkb, pga, pgb, pfa, pfb⟩ := hP
  refine ⟨fun j i hj => ?_, ?_⟩
  · rw [ci_ne (show pA 7 j ≠ 7 by unfold pA; omega)]
    exact hPa j i hj
  · rw [ci_eq]
    simp only [zu_eq, zu_ne (show (5 : Nat) ≠ 12 by decide), zu_ne (show (10 : Nat) ≠ 12 by decide), zu_ne (show (11 : Nat) ≠ 12 by decide), zu_ne (show (13 : Nat) ≠ 12 by decide)]
    omega
def K2_addLook (S : CSt) : CR := (if (S.1 7 11) < 10 then (0, ((S.1 7 11) + 1) - 1, (ci S 7 11 ((S.1 7 11) + 1))) else (1, 0, S))
set_option maxHeartbeats 1000000 in
set_option maxRecDepth 100000 in
theorem cX2_addLook_ok (l : Launch) (hl0 : l.stackTraces = false) (D : va_G) (cy : Nat → ClassId) (q : Nat → Nat) (V : Nat × (Nat → Nat)) (n0 x y a b : Nat) (S : CSt) (hF : cFx a b S) (hP : pB 7 S) : gMi l D cy q V n0 x y "java/lang/IllegalArgumentException" yX2_addLook (.code yX2_addLook cX2_addLook 1 (some .int) :: TBC) 6 90 S [.ref (q 7)] (K2_addLook S) := by
  refine g_of (cc := cX2_addLook) (maxL := 1) (ret := (some .int)) (by decide) rfl rfl (Nat.le_of_ble_eq_true rfl) ?_
  intro p e s m args below meth c ls B hK hG hM hl
  generalize gA (cq q x y) n0 = A at hG hM ⊢
  have hR : (headSpec (.code yX2_addLook cX2_addLook 1 (some .int) :: TBC) (gRm 6 90 S)).room.cells = (gK - gl S) + 1 ∧ (headSpec (.code yX2_addLook cX2_addLook 1 (some .int) :: TBC) (gRm 6 90 S)).room.slots = 2 * (gK - gl S) + 6 := ⟨rfl, rfl⟩
  have hl : lv_has ls 1 [(0, .ref (q 7))] := hl
  obtain ⟨hPa, p5a, p5b, pla, plb, pka, pkb, pga, pgb, pfa, pfb⟩ := id hP
  refine lv_aload_n B.1 B.2.1 dX2_addLook_0 rfl (lv_at hl 0 rfl) ?_
  refine c_geti (q := (cq q x y)) (x := S.1 7 11) B (iC2 _) hK hM 7 11 2 (by decide) rfl rfl (by decide) (by decide) rfl rfl (by decide) rfl (List.mem_cons_of_mem _ wC_fRX2_47) dX2_addLook_1 ?_
  refine z_bipush B.1 B.2.1 (by decide) dX2_addLook_4 ?_
  refine z_icmp_lt (tgt := 19) B.1 B.2.1 (zr_of (by omega) (by omega)) (zr_of (by decide) (by decide)) dX2_addLook_6 (by decide) (fun c_1 => ?_) (fun c_1 => ?_)
  · --
    refine lv_aload_n B.1 B.2.1 dX2_addLook_19 rfl (lv_at hl 0 rfl) ?_
    refine lv_dup B.1 B.2.1 dX2_addLook_20 rfl ?_
    refine c_geti (q := (cq q x y)) (x := S.1 7 11) B (iC2 _) hK hM 7 11 2 (by decide) rfl rfl (by decide) (by decide) rfl rfl (by decide) rfl (List.mem_cons_of_mem _ wC_fRX2_47) dX2_addLook_21 ?_
    refine z_iconst B.1 B.2.1 dX2_addLook_24 ?_
    refine z_iadd (x := (S.1 7 11) + 1) B.1 B.2.1 rfl dX2_addLook_25 ?_
    refine c_puti (q := (cq q x y)) B (iC2 _) tyX2 tyX2_ok nmX2 hK hM 7 11 2 (by decide) rfl rfl (by decide) (by decide) rfl rfl rfl (by decide +kernel) (by decide) (List.mem_cons_of_mem _ wC_fRX2_47) dX2_addLook_26 (fun H locs hM => ?_)
    refine lv_aload_n B.1 B.2.1 dX2_addLook_29 rfl (lv_at hl 0 rfl) ?_
    refine c_geti (q := (cq q x y)) (x := (S.1 7 11) + 1) B (iC2 _) hK hM 7 11 2 (by decide) rfl rfl (by decide) (by decide) rfl rfl (by decide) rfl (List.mem_cons_of_mem _ wC_fRX2_47) dX2_addLook_30 ?_
    refine z_iconst B.1 B.2.1 dX2_addLook_33 ?_
    refine z_isub (x := ((S.1 7 11) + 1) - 1) B.1 B.2.1 rfl dX2_addLook_34 ?_
    exact g_reti (S := (ci S 7 11 ((S.1 7 11) + 1))) B hM (by unfold K2_addLook; exact (if_pos c_1)) dX2_addLook_35
  · --
    exact g_throw (S := S) (E := "java/lang/IllegalArgumentException") (ik := 63) (is := 91) (ic := 67) 11 (by decide) hl0 B hG hM rfl sX_java_lang_IllegalArgumentException (by decide +kernel) (List.mem_cons_of_mem _ wC_cRX2_63) (List.mem_cons_of_mem _ wC_in__java_lang_IllegalArgumentException_) (tC_RX2_67 _) tN_RX2_67 hl.1 (Nat.le_of_ble_eq_true rfl) hR (Nat.le_of_ble_eq_true rfl) (Nat.le_of_ble_eq_true rfl) (Nat.le_refl _) (cFx_gl hF) (tO_RX2_67 _) dX2_addLook_9 dX2_addLook_12 dX2_addLook_13 dX2_addLook_15 dX2_addLook_18 (by unfold K2_addLook; exact (if_neg c_1))
theorem K2_addLook_v {S : CSt} (h : (K2_addLook S).1 = 0) : S.1 7 11 < 10 ∧ (K2_addLook S).2.1 = S.1 7 11 + 1 - 1 ∧ (K2_addLook S).2.2 = ci S 7 11 (S.1 7 11 + 1) := by
  revert h
  unfold K2_addLook
  (repeat' split) <;> intro h
  all_goals first
    | exact absurd h z1n0
    | exact ⟨by omega, rfl, rfl⟩
theorem K2_addLook_1 {n : Nat} {S : CSt} (h : n < 6 ∨ (7 < n ∧ n < 17) ∨ 34 < n) : (K2_addLook S).2.2.1 n = S.1 n := by
  unfold K2_addLook
  (repeat' split) <;> first | rfl | exact ci_ne (by omega)
theorem K2_addLook_2 {S : CSt} : (K2_addLook S).2.2.2 = S.2 := by
  unfold K2_addLook
  (repeat' split) <;> rfl
theorem pB_addLook {S : CSt} (hP : pB 7 S) (h : (K2_addLook S).1 = 0) : pB 7 (K2_addLook S).2.2 := by
  obtain ⟨h1, -, h2⟩ := K2_addLook_v h
  rw [h2]
  obtain ⟨hPa, p5a, p5b, pla, plb, pka, pkb, pga, pgb, pfa, pfb⟩ := hP
  refine ⟨fun j i hj => ?_, ?_⟩
  · rw [ci_ne (show pA 7 j ≠ 7 by unfold pA; omega)]
    exact hPa j i hj
  · rw [ci_eq]
    simp only [zu_eq, zu_ne (show (5 : Nat) ≠ 11 by decide), zu_ne (show (10 : Nat) ≠ 11 by decide), zu_ne (show (12 : Nat) ≠ 11 by decide), zu_ne (show (13 : Nat) ≠ 11 by decide)]
    omega
def K2_addLoop (ls9 : Int) (ms9 : Int) (fg : Int) (S : CSt) : CR := (if (S.1 7 10) < 0 then (1, 0, S) else (if (S.1 7 10) < 20 then (0, ((S.1 7 10) + 1) - 1, (ci (ci (ci (ci (ci S 31 (S.1 7 10).toNat ls9) 32 (S.1 7 10).toNat ms9) 33 (S.1 7 10).toNat fg) 34 (S.1 7 10).toNat (S.1 7 12)) 7 10 ((S.1 7 10) + 1))) else (1, 0, S)))
set_option maxHeartbeats 1000000 in
set_option maxRecDepth 100000 in
theorem cX2_addLoop_ok (l : Launch) (hl0 : l.stackTraces = false) (D : va_G) (cy : Nat → ClassId) (q : Nat → Nat) (V : Nat × (Nat → Nat)) (n0 x y a b : Nat) (S : CSt) (hF : cFx a b S) (ls9 : Int) (ms9 : Int) (fg : Int) (hP : pB 7 S) : gMi l D cy q V n0 x y "java/lang/IllegalArgumentException" yX2_addLoop (.code yX2_addLoop cX2_addLoop 4 (some .int) :: TBC) 6 90 S [.ref (q 7), .int (zI ls9), .int (zI ms9), .int (zI fg)] (K2_addLoop ls9 ms9 fg S) := by
  refine g_of (cc := cX2_addLoop) (maxL := 4) (ret := (some .int)) (by decide) rfl rfl (Nat.le_of_ble_eq_true rfl) ?_
  intro p e s m args below meth c ls B hK hG hM hl
  generalize gA (cq q x y) n0 = A at hG hM ⊢
  have hR : (headSpec (.code yX2_addLoop cX2_addLoop 4 (some .int) :: TBC) (gRm 6 90 S)).room.cells = (gK - gl S) + 1 ∧ (headSpec (.code yX2_addLoop cX2_addLoop 4 (some .int) :: TBC) (gRm 6 90 S)).room.slots = 2 * (gK - gl S) + 6 := ⟨rfl, rfl⟩
  have hl : lv_has ls 4 [(0, .ref (q 7)), (1, .int (zI ls9)), (2, .int (zI ms9)), (3, .int (zI fg))] := hl
  obtain ⟨hPa, p5a, p5b, pla, plb, pka, pkb, pga, pgb, pfa, pfb⟩ := id hP
  refine lv_aload_n B.1 B.2.1 dX2_addLoop_0 rfl (lv_at hl 0 rfl) ?_
  refine c_geti (q := (cq q x y)) (x := S.1 7 10) B (iC2 _) hK hM 7 10 2 (by decide) rfl rfl (by decide) (by decide) rfl rfl (by decide) rfl (List.mem_cons_of_mem _ wC_fRX2_44) dX2_addLoop_1 ?_
  refine z_if_lt (tgt := 16) B.1 B.2.1 (zr_of (by omega) (by omega)) dX2_addLoop_4 (by decide) (fun c_1 => ?_) (fun c_1 => ?_)
  · --
    exact g_throw (S := S) (E := "java/lang/IllegalArgumentException") (ik := 63) (is := 93) (ic := 67) 12 (by decide) hl0 B hG hM rfl sX_java_lang_IllegalArgumentException (by decide +kernel) (List.mem_cons_of_mem _ wC_cRX2_63) (List.mem_cons_of_mem _ wC_in__java_lang_IllegalArgumentException_) (tC_RX2_67 _) tN_RX2_67 hl.1 (Nat.le_of_ble_eq_true rfl) hR (Nat.le_of_ble_eq_true rfl) (Nat.le_of_ble_eq_true rfl) (Nat.le_refl _) (cFx_gl hF) (tO_RX2_67 _) dX2_addLoop_16 dX2_addLoop_19 dX2_addLoop_20 dX2_addLoop_22 dX2_addLoop_25 (by unfold K2_addLoop; exact (if_pos c_1))
  · --
    refine lv_aload_n B.1 B.2.1 dX2_addLoop_7 rfl (lv_at hl 0 rfl) ?_
    refine c_geti (q := (cq q x y)) (x := S.1 7 10) B (iC2 _) hK hM 7 10 2 (by decide) rfl rfl (by decide) (by decide) rfl rfl (by decide) rfl (List.mem_cons_of_mem _ wC_fRX2_44) dX2_addLoop_8 ?_
    refine z_bipush B.1 B.2.1 (by decide) dX2_addLoop_11 ?_
    refine z_icmp_lt (tgt := 26) B.1 B.2.1 (zr_of (by omega) (by omega)) (zr_of (by decide) (by decide)) dX2_addLoop_13 (by decide) (fun c_2 => ?_) (fun c_2 => ?_)
    · --
      refine lv_aload_n B.1 B.2.1 dX2_addLoop_26 rfl (lv_at hl 0 rfl) ?_
      refine c_getr (q := (cq q x y)) (r := 31) B (iC2 _) hK hM 7 6 2 (by decide) rfl rfl (by decide) (by decide) rfl rfl rfl (cFx_r hF 7 6) (List.mem_cons_of_mem _ wC_fRX2_28) dX2_addLoop_27 ?_
      refine lv_aload_n B.1 B.2.1 dX2_addLoop_30 rfl (lv_at hl 0 rfl) ?_
      refine c_geti (q := (cq q x y)) (x := S.1 7 10) B (iC2 _) hK hM 7 10 2 (by decide) rfl rfl (by decide) (by decide) rfl rfl (by decide) rfl (List.mem_cons_of_mem _ wC_fRX2_44) dX2_addLoop_31 ?_
      refine lv_iload_n B.1 B.2.1 dX2_addLoop_34 rfl (lv_at hl 1 rfl) ?_
      refine c_iast (q := (cq q x y)) B hK hM 31 (by decide) rfl (zr_of (by omega) (by omega)) (by omega) (by rw [show S.2.2.2 31 = 20 from hF.2.1 31 (by decide) (by decide)]; omega) dX2_addLoop_35 (fun H locs hM => ?_)
      refine lv_aload_n B.1 B.2.1 dX2_addLoop_36 rfl (lv_at hl 0 rfl) ?_
      refine c_getr (q := (cq q x y)) (r := 32) B (iC2 _) hK hM 7 7 2 (by decide) rfl rfl (by decide) (by decide) rfl rfl rfl (cFx_r hF 7 7) (List.mem_cons_of_mem _ wC_fRX2_31) dX2_addLoop_37 ?_
      refine lv_aload_n B.1 B.2.1 dX2_addLoop_40 rfl (lv_at hl 0 rfl) ?_
      refine c_geti (q := (cq q x y)) (x := S.1 7 10) B (iC2 _) hK hM 7 10 2 (by decide) rfl rfl (by decide) (by decide) rfl rfl (by decide) rfl (List.mem_cons_of_mem _ wC_fRX2_44) dX2_addLoop_41 ?_
      refine lv_iload_n B.1 B.2.1 dX2_addLoop_44 rfl (lv_at hl 2 rfl) ?_
      refine c_iast (q := (cq q x y)) B hK hM 32 (by decide) rfl (zr_of (by omega) (by omega)) (by omega) (by rw [show (ci S 31 (S.1 7 10).toNat ls9).2.2.2 32 = 20 from hF.2.1 32 (by decide) (by decide)]; omega) dX2_addLoop_45 (fun H locs hM => ?_)
      refine lv_aload_n B.1 B.2.1 dX2_addLoop_46 rfl (lv_at hl 0 rfl) ?_
      refine c_getr (q := (cq q x y)) (r := 33) B (iC2 _) hK hM 7 8 2 (by decide) rfl rfl (by decide) (by decide) rfl rfl rfl (cFx_r hF 7 8) (List.mem_cons_of_mem _ wC_fRX2_34) dX2_addLoop_47 ?_
      refine lv_aload_n B.1 B.2.1 dX2_addLoop_50 rfl (lv_at hl 0 rfl) ?_
      refine c_geti (q := (cq q x y)) (x := S.1 7 10) B (iC2 _) hK hM 7 10 2 (by decide) rfl rfl (by decide) (by decide) rfl rfl (by decide) rfl (List.mem_cons_of_mem _ wC_fRX2_44) dX2_addLoop_51 ?_
      refine lv_iload_n B.1 B.2.1 dX2_addLoop_54 rfl (lv_at hl 3 rfl) ?_
      refine c_iast (q := (cq q x y)) B hK hM 33 (by decide) rfl (zr_of (by omega) (by omega)) (by omega) (by rw [show (ci (ci S 31 (S.1 7 10).toNat ls9) 32 (S.1 7 10).toNat ms9).2.2.2 33 = 20 from hF.2.1 33 (by decide) (by decide)]; omega) dX2_addLoop_55 (fun H locs hM => ?_)
      refine lv_aload_n B.1 B.2.1 dX2_addLoop_56 rfl (lv_at hl 0 rfl) ?_
      refine c_getr (q := (cq q x y)) (r := 34) B (iC2 _) hK hM 7 9 2 (by decide) rfl rfl (by decide) (by decide) rfl rfl rfl (cFx_r hF 7 9) (List.mem_cons_of_mem _ wC_fRX2_37) dX2_addLoop_57 ?_
      refine lv_aload_n B.1 B.2.1 dX2_addLoop_60 rfl (lv_at hl 0 rfl) ?_
      refine c_geti (q := (cq q x y)) (x := S.1 7 10) B (iC2 _) hK hM 7 10 2 (by decide) rfl rfl (by decide) (by decide) rfl rfl (by decide) rfl (List.mem_cons_of_mem _ wC_fRX2_44) dX2_addLoop_61 ?_
      refine lv_aload_n B.1 B.2.1 dX2_addLoop_64 rfl (lv_at hl 0 rfl) ?_
      refine c_geti (q := (cq q x y)) (x := S.1 7 12) B (iC2 _) hK hM 7 12 2 (by decide) rfl rfl (by decide) (by decide) rfl rfl (by decide) rfl (List.mem_cons_of_mem _ wC_fRX2_50) dX2_addLoop_65 ?_
      refine c_iast (q := (cq q x y)) B hK hM 34 (by decide) rfl (zr_of (by omega) (by omega)) (by omega) (by rw [show (ci (ci (ci S 31 (S.1 7 10).toNat ls9) 32 (S.1 7 10).toNat ms9) 33 (S.1 7 10).toNat fg).2.2.2 34 = 20 from hF.2.1 34 (by decide) (by decide)]; omega) dX2_addLoop_68 (fun H locs hM => ?_)
      refine lv_aload_n B.1 B.2.1 dX2_addLoop_69 rfl (lv_at hl 0 rfl) ?_
      refine lv_dup B.1 B.2.1 dX2_addLoop_70 rfl ?_
      refine c_geti (q := (cq q x y)) (x := S.1 7 10) B (iC2 _) hK hM 7 10 2 (by decide) rfl rfl (by decide) (by decide) rfl rfl (by decide) rfl (List.mem_cons_of_mem _ wC_fRX2_44) dX2_addLoop_71 ?_
      refine z_iconst B.1 B.2.1 dX2_addLoop_74 ?_
      refine z_iadd (x := (S.1 7 10) + 1) B.1 B.2.1 rfl dX2_addLoop_75 ?_
      refine c_puti (q := (cq q x y)) B (iC2 _) tyX2 tyX2_ok nmX2 hK hM 7 10 2 (by decide) rfl rfl (by decide) (by decide) rfl rfl rfl (by decide +kernel) (by decide) (List.mem_cons_of_mem _ wC_fRX2_44) dX2_addLoop_76 (fun H locs hM => ?_)
      refine lv_aload_n B.1 B.2.1 dX2_addLoop_79 rfl (lv_at hl 0 rfl) ?_
      refine c_geti (q := (cq q x y)) (x := (S.1 7 10) + 1) B (iC2 _) hK hM 7 10 2 (by decide) rfl rfl (by decide) (by decide) rfl rfl (by decide) rfl (List.mem_cons_of_mem _ wC_fRX2_44) dX2_addLoop_80 ?_
      refine z_iconst B.1 B.2.1 dX2_addLoop_83 ?_
      refine z_isub (x := ((S.1 7 10) + 1) - 1) B.1 B.2.1 rfl dX2_addLoop_84 ?_
      exact g_reti (S := (ci (ci (ci (ci (ci S 31 (S.1 7 10).toNat ls9) 32 (S.1 7 10).toNat ms9) 33 (S.1 7 10).toNat fg) 34 (S.1 7 10).toNat (S.1 7 12)) 7 10 ((S.1 7 10) + 1))) B hM (by unfold K2_addLoop; exact ((if_neg c_1).trans (if_pos c_2))) dX2_addLoop_85
    · --
      exact g_throw (S := S) (E := "java/lang/IllegalArgumentException") (ik := 63) (is := 93) (ic := 67) 12 (by decide) hl0 B hG hM rfl sX_java_lang_IllegalArgumentException (by decide +kernel) (List.mem_cons_of_mem _ wC_cRX2_63) (List.mem_cons_of_mem _ wC_in__java_lang_IllegalArgumentException_) (tC_RX2_67 _) tN_RX2_67 hl.1 (Nat.le_of_ble_eq_true rfl) hR (Nat.le_of_ble_eq_true rfl) (Nat.le_of_ble_eq_true rfl) (Nat.le_refl _) (cFx_gl hF) (tO_RX2_67 _) dX2_addLoop_16 dX2_addLoop_19 dX2_addLoop_20 dX2_addLoop_22 dX2_addLoop_25 (by unfold K2_addLoop; exact ((if_neg c_1).trans (if_neg c_2)))
theorem K2_addLoop_v {ls9 ms9 fg : Int} {S : CSt} (h : (K2_addLoop ls9 ms9 fg S).1 = 0) : 0 ≤ S.1 7 10 ∧ S.1 7 10 < 20 ∧ (K2_addLoop ls9 ms9 fg S).2.1 = S.1 7 10 ∧ (K2_addLoop ls9 ms9 fg S).2.2 = ci (ci (ci (ci (ci S 31 (S.1 7 10).toNat ls9) 32 (S.1 7 10).toNat ms9) 33 (S.1 7 10).toNat fg) 34 (S.1 7 10).toNat (S.1 7 12)) 7 10 (S.1 7 10 + 1) := by
  revert h
  unfold K2_addLoop
  (repeat' split) <;> intro h
  all_goals first
    | exact absurd h z1n0
    | exact ⟨by omega, by omega, Int.add_sub_cancel _ _, rfl⟩
theorem K2_addLoop_1 {n : Nat} {ls9 ms9 fg : Int} {S : CSt} (h : n < 6 ∨ (7 < n ∧ n < 17) ∨ 34 < n) : (K2_addLoop ls9 ms9 fg S).2.2.1 n = S.1 n := by
  unfold K2_addLoop
  (repeat' split) <;> (try rfl)
  all_goals
    simp only []
    rw [ci_ne (show n ≠ 7 by omega), ci_ne (show n ≠ 34 by omega), ci_ne (show n ≠ 33 by omega), ci_ne (show n ≠ 32 by omega), ci_ne (show n ≠ 31 by omega)]
theorem K2_addLoop_2 {ls9 ms9 fg : Int} {S : CSt} : (K2_addLoop ls9 ms9 fg S).2.2.2 = S.2 := by
  unfold K2_addLoop
  (repeat' split) <;> rfl
theorem pB_addLoop {ls9 ms9 fg : Int} {S : CSt} (hP : pB 7 S) (h : (K2_addLoop ls9 ms9 fg S).1 = 0) (h0 : -1 ≤ ls9) (h1 : ls9 ≤ 1000000) (h2 : -1 ≤ ms9) (h3 : ms9 ≤ 1000000) (h4 : -1 ≤ fg) (h5 : fg ≤ 1000000) : pB 7 (K2_addLoop ls9 ms9 fg S).2.2 := by
  obtain ⟨h6, h7, -, he⟩ := K2_addLoop_v h
  rw [he]
  obtain ⟨hPa, p5a, p5b, pla, plb, pka, pkb, pga, pgb, pfa, pfb⟩ := hP
  have key : ∀ (x : CSt) (a k : Nat) (v : Int), (∀ n i, (-1 ≤ x.1 (pA 7 n) i ∧ x.1 (pA 7 n) i ≤ 1000000) ∨ 9 ≤ n) → (-1 ≤ v ∧ v ≤ 1000000) → ∀ n i, (-1 ≤ (ci x a k v).1 (pA 7 n) i ∧ (ci x a k v).1 (pA 7 n) i ≤ 1000000) ∨ 9 ≤ n := by
    intro x a k v hx hv n i
    by_cases e : pA 7 n = a
    · subst e
      rw [ci_eq]
      by_cases e : i = k
      · subst e; rw [zu_eq]; exact Or.inl hv
      · rw [zu_ne e]; exact hx n i
    · rw [ci_ne e]; exact hx n i
  refine ⟨fun j i hj => ?_, ?_⟩
  · rw [ci_ne (show pA 7 j ≠ 7 by unfold pA; omega)]
    have := key _ 34 (S.1 7 10).toNat (S.1 7 12) (key _ 33 (S.1 7 10).toNat fg (key _ 32 (S.1 7 10).toNat ms9 (key S 31 (S.1 7 10).toNat ls9 (fun n i => if h9 : n < 9 then Or.inl (hPa n i h9) else Or.inr (by omega)) ⟨h0, h1⟩) ⟨h2, h3⟩) ⟨h4, h5⟩) ⟨by omega, by omega⟩ j i
    exact this.resolve_right (by omega)
  · rw [ci_eq, ci_ne (show 7 ≠ 34 by omega), ci_ne (show 7 ≠ 33 by omega), ci_ne (show 7 ≠ 32 by omega), ci_ne (show 7 ≠ 31 by omega)]
    simp only [zu_eq, zu_ne (show (5 : Nat) ≠ 10 by decide), zu_ne (show (11 : Nat) ≠ 10 by decide), zu_ne (show (12 : Nat) ≠ 10 by decide), zu_ne (show (13 : Nat) ≠ 10 by decide)]
    omega
