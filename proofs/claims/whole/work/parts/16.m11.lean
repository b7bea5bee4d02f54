/-- what order needs of the state -/
def M_orderOK (S : MSt) : Prop :=
  (0 ≤ S.1 39) ∧
  (S.1 39 < 219) ∧
  (1 ≤ S.2 8 (S.1 39).toNat) ∧
  (S.2 8 (S.1 39).toNat ≤ 17) ∧
  (¬ S.2 8 (S.1 39).toNat = 16) ∧
  (0 ≤ S.1 38) ∧
  (S.1 38 ≤ S.1 4) ∧
  (S.1 4 ≤ 24) ∧
  (0 ≤ S.1 6) ∧
  (S.1 6 ≤ 7) ∧
  (∀ j, 0 ≤ S.2 3 j ∧ S.2 3 j ≤ 126) ∧
  (∀ j, 0 ≤ S.2 7 j ∧ S.2 7 j ≤ 126) ∧
  (0 ≤ S.1 41) ∧
  (S.1 41 ≤ 1) ∧
  (0 ≤ S.1 40) ∧
  (S.1 40 ≤ 1000) ∧
  (0 ≤ S.1 35) ∧
  (S.1 35 ≤ 5800) ∧
  (0 ≤ S.1 37) ∧
  (S.1 37 < 3000) ∧
  (∀ j, -100000 ≤ S.2 33 j ∧ S.2 33 j ≤ 100000) ∧
  (-1000 ≤ S.2 9 (S.1 39).toNat) ∧
  (S.2 9 (S.1 39).toNat ≤ 200000) ∧
  (-1000 ≤ S.2 10 (S.1 39).toNat ∧ S.2 10 (S.1 39).toNat ≤ 100000000) ∧
  (3 ≤ S.2 8 (S.1 39).toNat → S.2 8 (S.1 39).toNat ≤ 6 → 3 ≤ S.2 8 (S.1 39).toNat ∧ S.2 8 (S.1 39).toNat ≤ 6 ∧ 0 ≤ S.2 9 (S.1 39).toNat ∧ S.2 9 (S.1 39).toNat ≤ 1000 ∧ 0 ≤ S.2 10 (S.1 39).toNat ∧ (S.2 8 (S.1 39).toNat = 6 → S.2 9 (S.1 39).toNat ≤ 41 ∧ S.2 10 (S.1 39).toNat ≤ 39) ∧ S.2 10 (S.1 39).toNat ≤ 100000000 ∧ -1000 ≤ S.2 11 (S.1 39).toNat ∧ S.2 11 (S.1 39).toNat ≤ 100000) ∧
  (S.2 8 (S.1 39).toNat = 7 → 0 ≤ S.2 9 (S.1 39).toNat ∧ S.2 9 (S.1 39).toNat ≤ 9 ∧ -1 ≤ S.2 33 (S.2 9 (S.1 39).toNat).toNat ∧ S.2 33 (S.2 9 (S.1 39).toNat).toNat ≤ 24 ∧ (0 ≤ S.2 33 (S.2 9 (S.1 39).toNat).toNat → S.2 33 (S.2 9 (S.1 39).toNat).toNat ≤ S.2 33 (10 + S.2 9 (S.1 39).toNat).toNat) ∧ S.2 33 (10 + S.2 9 (S.1 39).toNat).toNat ≤ 24 ∧ -1 ≤ S.2 33 (10 + S.2 9 (S.1 39).toNat).toNat) ∧
  (S.2 8 (S.1 39).toNat = 10 ∨ S.2 8 (S.1 39).toNat = 11 → 0 ≤ S.2 9 (S.1 39).toNat ∧ S.2 9 (S.1 39).toNat ≤ 9) ∧
  (S.2 8 (S.1 39).toNat = 12 → 0 ≤ S.2 11 (S.1 39).toNat ∧ S.2 11 (S.1 39).toNat < 50) ∧
  (S.2 8 (S.1 39).toNat = 13 → 0 ≤ S.2 11 (S.1 39).toNat ∧ S.2 11 (S.1 39).toNat < 50 ∧ 0 ≤ S.2 33 (130 + S.2 11 (S.1 39).toNat).toNat ∧ S.2 33 (130 + S.2 11 (S.1 39).toNat).toNat < 3000 ∧ 0 ≤ S.2 36 (S.2 33 (130 + S.2 11 (S.1 39).toNat).toNat).toNat ∧ S.2 36 (S.2 33 (130 + S.2 11 (S.1 39).toNat).toNat).toNat ≤ 2000000000) ∧
  (S.2 8 (S.1 39).toNat = 14 → 0 ≤ S.2 11 (S.1 39).toNat ∧ S.2 11 (S.1 39).toNat < 50 ∧ 0 ≤ S.2 10 (S.1 39).toNat ∧ S.2 10 (S.1 39).toNat ≤ 2000000 ∧ S.2 10 (S.1 39).toNat / 16 % 256 ≤ S.2 10 (S.1 39).toNat % 16 ∧ 0 ≤ S.2 9 (S.1 39).toNat ∧ S.2 9 (S.1 39).toNat ≤ 200000 ∧ S.2 33 (30 + S.2 11 (S.1 39).toNat).toNat < 100000) ∧
  (S.2 8 (S.1 39).toNat = 15 → 0 ≤ S.2 9 (S.1 39).toNat ∧ S.2 9 (S.1 39).toNat < 220 ∧ 0 ≤ S.2 11 (S.2 9 (S.1 39).toNat).toNat ∧ S.2 11 (S.2 9 (S.1 39).toNat).toNat < 50 ∧ 0 ≤ S.2 10 (S.2 9 (S.1 39).toNat).toNat ∧ S.2 10 (S.2 9 (S.1 39).toNat).toNat ≤ 2000000 ∧ S.2 10 (S.2 9 (S.1 39).toNat).toNat / 16 % 256 ≤ S.2 10 (S.2 9 (S.1 39).toNat).toNat % 16 ∧ 0 ≤ S.2 9 (S.2 9 (S.1 39).toNat).toNat ∧ S.2 9 (S.2 9 (S.1 39).toNat).toNat ≤ 200000 ∧ S.2 33 (30 + S.2 11 (S.2 9 (S.1 39).toNat).toNat).toNat < 100000)
theorem cX7_order_ok' (l : Launch) (D : va_G) (cy : Nat → ClassId) (o : Nat) (q : Nat → Nat) (S : MSt) (h : M_orderOK S) : mMi l D cy o q yX7_order (.code yX7_order cX7_order 2 (some .boolean) :: TB7) ({ frames := 6, cells := 0, slots := 0, locals := 139 }) S [] (fun r S' => r = (M_order S).1 ∧ S' = (M_order S).2) := by
  obtain ⟨hk0, hk1, hop0, hop1, hop2, hp0, hp1, hn1, hg0, hg1, htx, hsg, hv0, hv1, hm0, hm1, ht0, ht1, hc0, hc1, hr, haa, hab, hbb, hh3, hh7, hh10, hh12, hh13, hh14, hh15⟩ := h
  exact cX7_order_ok l D cy o q S hk0 hk1 hop0 hop1 hop2 hp0 hp1 hn1 hg0 hg1 htx hsg hv0 hv1 hm0 hm1 ht0 ht1 hc0 hc1 hr haa hab hbb hh3 hh7 hh10 hh12 hh13 hh14 hh15
/-- what goBack needs of the state -/
def M_goBackOK (S : MSt) : Prop :=
  (0 ≤ S.1 37) ∧
  (S.1 37 ≤ 3000) ∧
  (∀ j : Nat, 0 ≤ S.2 34 j ∧ S.2 34 j < 11520) ∧
  (0 ≤ S.1 35) ∧
  (S.1 35 ≤ 5800) ∧
  (∀ j, -100000 ≤ S.2 33 j ∧ S.2 33 j ≤ 99999) ∧
  (M_chOK S) ∧
  (M_chMono S)
theorem cX7_goBack_ok' (l : Launch) (D : va_G) (cy : Nat → ClassId) (o : Nat) (q : Nat → Nat) (S : MSt) (h : M_goBackOK S) : mMi l D cy o q yX7_goBack (.code yX7_goBack cX7_goBack 4 (some .boolean) :: TB7) ({ frames := 2, cells := 0, slots := 0, locals := 46 }) S [] (fun r S' => r = (M_goBack S).1 ∧ S' = (M_goBack S).2) := by
  obtain ⟨hc0, hc1, ht, ht0, ht1, hr, hch, hmo⟩ := h
  exact cX7_goBack_ok l D cy o q S hc0 hc1 ht ht0 ht1 hr hch hmo
/-- one turn of tries: 'V n T' stays true of what comes (n falls), and order and goBack have what they need -/
def M_runOK (V : Nat → MSt → Prop) (n : Nat) (T : MSt) : Prop := 0 ≤ T.1 39 ∧ T.1 39 < 220 ∧ -1000 ≤ T.2 8 (T.1 39).toNat ∧ T.2 8 (T.1 39).toNat ≤ 1000 ∧ 0 ≤ T.1 41 ∧ T.1 41 ≤ 1 ∧
  (¬ T.2 8 (T.1 39).toNat = 16 → T.1 41 = 0 → ∃ n', n = n' + 1 ∧ M_orderOK T ∧ ((M_order T).1 = 0 ∨ (M_order T).1 = 1) ∧ (¬ (M_order T).1 = 0 → V n' (M_order T).2) ∧
    ((M_order T).1 = 0 → M_goBackOK (M_order T).2 ∧ ((M_goBack (M_order T).2).1 = 0 ∨ (M_goBack (M_order T).2).1 = 1) ∧ (¬ (M_goBack (M_order T).2).1 = 0 → V n' (M_goBack (M_order T).2).2)))
def M_runL (pp : Int) : Nat → MSt → Int × MSt
  | 0, T => (if (T.2 8 (T.1 39).toNat) = 16 then ((if (T.1 41) = 0 then 1 else 0 : Int), T) else (if (T.1 41) = 0 then (0, T) else (0, T)))
  | n + 1, T => (if (T.2 8 (T.1 39).toNat) = 16 then ((if (T.1 41) = 0 then 1 else 0 : Int), T) else (if (T.1 41) = 0 then (if ((M_order T).1) = 0 then (if ((M_goBack (M_order T).2).1) = 0 then (0, (M_goBack (M_order T).2).2) else M_runL pp n ((M_goBack (M_order T).2).2)) else M_runL pp n ((M_order T).2)) else (0, T)))
set_option maxHeartbeats 4000000 in
set_option maxRecDepth 100000 in
theorem lp7_tries (l : Launch) (D : va_G) (cy : Nat → ClassId) (o : Nat) (q : Nat → Nat) (pp : Int) (V : Nat → MSt → Prop) (hV : ∀ n T, V n T → M_runOK V n T) {p : Program} {e : Env} {s : State} {m : MethodId} {args : Array Value} {below : List Frame} {meth : Method} {c : Code} (B : zAt p s m args meth c RX7 cX7_tries 3 (some .boolean) (.code yX7_tries cX7_tries 3 (some .boolean) :: TB7)) (hK : va_K D vwCl (zTY cy) s) (post : Int → MSt → Prop) :
    ∀ (n : Nat) (T : MSt) (H : Heap) (locs : List Loc) (ls : Array Slot), (V n T) → mH D cy o q (mA o q) s.heap T H locs → lv_has ls 3 [(0, .ref o), (1, .int (zI pp))] → post (M_runL pp n T).1 (M_runL pp n T).2 → W p l e (headSpec (.code yX7_tries cX7_tries 3 (some .boolean) :: TB7) ({ frames := 7, cells := 0, slots := 0, locals := 160 })).room s m args below meth c H locs 0 0 (MQ below (mQi D cy o q post) args s 0 0 (mA o q)) (F0 m 42 ls []) := by
  intro n
  induction n with
  | zero =>
    intro T H locs ls hv hM hl hpost
    obtain ⟨r1, r2, r3, r4, r5, r6, r7⟩ := hV _ _ hv
    refine lv_aload_n B.1 B.2.1 dX7_tries_42 rfl (lv_at hl 0 rfl) ?_
    refine m_getr B (i7 _) hK hM 8 (by decide) rfl (List.mem_cons_of_mem _ w7_fRX7_19) dX7_tries_43 ?_
    refine lv_aload_n B.1 B.2.1 dX7_tries_46 rfl (lv_at hl 0 rfl) ?_
    refine m_get (x := T.1 39) B (i7 _) hK hM 39 (by decide) rfl rfl (List.mem_cons_of_mem _ w7_fRX7_235) dX7_tries_47 ?_
    refine m_iald (x := T.2 8 (T.1 39).toNat) B hK hM 3 8 rfl rfl (by omega) (by simp only [mN]; omega) rfl dX7_tries_50 ?_
    refine z_bipush B.1 B.2.1 (by decide) dX7_tries_51 ?_
    refine z_icmp_eq (tgt := 79) B.1 B.2.1 (zr_of (by omega) (by omega)) (zr_of (by decide) (by decide)) dX7_tries_53 (by decide) (fun c_1 => ?_) (fun c_1 => ?_)
    · --
      refine lv_aload_n B.1 B.2.1 dX7_tries_79 rfl (lv_at hl 0 rfl) ?_
      refine m_get (x := T.1 41) B (i7 _) hK hM 41 (by decide) rfl rfl (List.mem_cons_of_mem _ w7_fRX7_247) dX7_tries_80 ?_
      refine z_joinH (P := fun v H' locs' => v = (if (T.1 41) = 0 then 1 else 0 : Int) ∧ mH D cy o q (mA o q) s.heap T H' locs') (pcJ := 91) (lsJ := ls) (stJ := []) (fun v_2 H locs hv_3 => ?_) (fun hJ_4 => ?_)
      · --
        obtain ⟨hv_3, hM⟩ := hv_3
        have hb_5 : (if (T.1 41) = 0 then 1 else 0 : Int) = 0 ∨ (if (T.1 41) = 0 then 1 else 0 : Int) = 1 := by (repeat' split) <;> simp
        have hv_3 := hv_3.symm
        subst hv_3
        have hq : M_runL pp 0 T = ((if (T.1 41) = 0 then 1 else 0 : Int), T) := by rw [M_runL]; exact (if_pos c_1)
        rw [hq] at hpost
        exact m_retz B hM (by omega) (hpost) dX7_tries_91
      · --
        refine z_if_ne (tgt := 90) B.1 B.2.1 (zr_of (by omega) (by omega)) dX7_tries_83 (by decide) (fun c_6 => ?_) (fun c_6 => ?_)
        · --
          refine z_iconst B.1 B.2.1 dX7_tries_90 ?_
          exact hJ_4 _ _ _ ⟨(if_neg c_6).symm, hM⟩
        · --
          refine z_iconst B.1 B.2.1 dX7_tries_86 ?_
          refine lv_goto (tgt := 91) B.1 B.2.1 dX7_tries_87 (by decide) ?_
          exact hJ_4 _ _ _ ⟨(if_pos c_6).symm, hM⟩
    · --
      refine lv_aload_n B.1 B.2.1 dX7_tries_56 rfl (lv_at hl 0 rfl) ?_
      refine m_get (x := T.1 41) B (i7 _) hK hM 41 (by decide) rfl rfl (List.mem_cons_of_mem _ w7_fRX7_247) dX7_tries_57 ?_
      refine z_if_ne (tgt := 79) B.1 B.2.1 (zr_of (by omega) (by omega)) dX7_tries_60 (by decide) (fun c_7 => ?_) (fun c_7 => ?_)
      · --
        refine lv_aload_n B.1 B.2.1 dX7_tries_79 rfl (lv_at hl 0 rfl) ?_
        refine m_get (x := T.1 41) B (i7 _) hK hM 41 (by decide) rfl rfl (List.mem_cons_of_mem _ w7_fRX7_247) dX7_tries_80 ?_
        refine z_if_ne (tgt := 90) B.1 B.2.1 (zr_of (by omega) (by omega)) dX7_tries_83 (by decide) (fun c_8 => ?_) (fun c_8 => ?_)
        · --
          refine z_iconst B.1 B.2.1 dX7_tries_90 ?_
          have hq : M_runL pp 0 T = (0, T) := by rw [M_runL]; exact ((if_neg c_1).trans (if_neg c_7))
          rw [hq] at hpost
          exact m_retz B hM (by decide) (hpost) dX7_tries_91
        · exact absurd c_8 (by omega)
      · --
        obtain ⟨n', hn', -⟩ := r7 c_1 c_7
        exact absurd hn' (by omega)
  | succ n ih =>
    intro T H locs ls hv hM hl hpost
    obtain ⟨r1, r2, r3, r4, r5, r6, r7⟩ := hV _ _ hv
    refine lv_aload_n B.1 B.2.1 dX7_tries_42 rfl (lv_at hl 0 rfl) ?_
    refine m_getr B (i7 _) hK hM 8 (by decide) rfl (List.mem_cons_of_mem _ w7_fRX7_19) dX7_tries_43 ?_
    refine lv_aload_n B.1 B.2.1 dX7_tries_46 rfl (lv_at hl 0 rfl) ?_
    refine m_get (x := T.1 39) B (i7 _) hK hM 39 (by decide) rfl rfl (List.mem_cons_of_mem _ w7_fRX7_235) dX7_tries_47 ?_
    refine m_iald (x := T.2 8 (T.1 39).toNat) B hK hM 3 8 rfl rfl (by omega) (by simp only [mN]; omega) rfl dX7_tries_50 ?_
    refine z_bipush B.1 B.2.1 (by decide) dX7_tries_51 ?_
    refine z_icmp_eq (tgt := 79) B.1 B.2.1 (zr_of (by omega) (by omega)) (zr_of (by decide) (by decide)) dX7_tries_53 (by decide) (fun c_1 => ?_) (fun c_1 => ?_)
    · --
      refine lv_aload_n B.1 B.2.1 dX7_tries_79 rfl (lv_at hl 0 rfl) ?_
      refine m_get (x := T.1 41) B (i7 _) hK hM 41 (by decide) rfl rfl (List.mem_cons_of_mem _ w7_fRX7_247) dX7_tries_80 ?_
      refine z_joinH (P := fun v H' locs' => v = (if (T.1 41) = 0 then 1 else 0 : Int) ∧ mH D cy o q (mA o q) s.heap T H' locs') (pcJ := 91) (lsJ := ls) (stJ := []) (fun v_2 H locs hv_3 => ?_) (fun hJ_4 => ?_)
      · --
        obtain ⟨hv_3, hM⟩ := hv_3
        have hb_5 : (if (T.1 41) = 0 then 1 else 0 : Int) = 0 ∨ (if (T.1 41) = 0 then 1 else 0 : Int) = 1 := by (repeat' split) <;> simp
        have hv_3 := hv_3.symm
        subst hv_3
        have hq : M_runL pp (n + 1) T = ((if (T.1 41) = 0 then 1 else 0 : Int), T) := by rw [M_runL]; exact (if_pos c_1)
        rw [hq] at hpost
        exact m_retz B hM (by omega) (hpost) dX7_tries_91
      · --
        refine z_if_ne (tgt := 90) B.1 B.2.1 (zr_of (by omega) (by omega)) dX7_tries_83 (by decide) (fun c_6 => ?_) (fun c_6 => ?_)
        · --
          refine z_iconst B.1 B.2.1 dX7_tries_90 ?_
          exact hJ_4 _ _ _ ⟨(if_neg c_6).symm, hM⟩
        · --
          refine z_iconst B.1 B.2.1 dX7_tries_86 ?_
          refine lv_goto (tgt := 91) B.1 B.2.1 dX7_tries_87 (by decide) ?_
          exact hJ_4 _ _ _ ⟨(if_pos c_6).symm, hM⟩
    · --
      refine lv_aload_n B.1 B.2.1 dX7_tries_56 rfl (lv_at hl 0 rfl) ?_
      refine m_get (x := T.1 41) B (i7 _) hK hM 41 (by decide) rfl rfl (List.mem_cons_of_mem _ w7_fRX7_247) dX7_tries_57 ?_
      refine z_if_ne (tgt := 79) B.1 B.2.1 (zr_of (by omega) (by omega)) dX7_tries_60 (by decide) (fun c_7 => ?_) (fun c_7 => ?_)
      · --
        refine lv_aload_n B.1 B.2.1 dX7_tries_79 rfl (lv_at hl 0 rfl) ?_
        refine m_get (x := T.1 41) B (i7 _) hK hM 41 (by decide) rfl rfl (List.mem_cons_of_mem _ w7_fRX7_247) dX7_tries_80 ?_
        refine z_if_ne (tgt := 90) B.1 B.2.1 (zr_of (by omega) (by omega)) dX7_tries_83 (by decide) (fun c_8 => ?_) (fun c_8 => ?_)
        · --
          refine z_iconst B.1 B.2.1 dX7_tries_90 ?_
          have hq : M_runL pp (n + 1) T = (0, T) := by rw [M_runL]; exact ((if_neg c_1).trans (if_neg c_7))
          rw [hq] at hpost
          exact m_retz B hM (by decide) (hpost) dX7_tries_91
        · exact absurd c_8 (by omega)
      · --
        obtain ⟨n', hn', hO, hO1, hA, hB⟩ := r7 c_1 c_7
        obtain rfl : n = n' := by omega
        refine lv_aload_n B.1 B.2.1 dX7_tries_63 rfl (lv_at hl 0 rfl) ?_
        refine m_calli (As := []) (rest := []) B hK hM (cX7_order_ok' l D cy o q T  hO) (cw7 0 B w7_mRX7_274 w7_im_yX7_order w7_sl_yX7_order w7_cd_yX7_order rfl rfl (by decide +kernel) ⟨Nat.le_of_ble_eq_true rfl, Nat.le_of_ble_eq_true rfl⟩) rfl hl.1 rfl (Nat.le_of_ble_eq_true rfl) dX7_tries_64 ⟨Nat.zero_le _, Nat.zero_le _⟩ (fun z_11 S_10 H locs hp_9 hM => ?_)
        obtain ⟨hp_9, he_hp_9⟩ := hp_9
        have he_hp_9 := he_hp_9.symm
        subst he_hp_9
        have hp_9 : (M_order T).1 = z_11 := hp_9.symm
        subst hp_9
        have ho01 := hO1
        refine z_if_ne (tgt := 42) B.1 B.2.1 (zr_of (by omega) (by omega)) dX7_tries_67 (by decide) (fun c_12 => ?_) (fun c_12 => ?_)
        · --
          have hq : M_runL pp (n + 1) T = M_runL pp n ((M_order T).2) := by rw [M_runL]; exact ((if_neg c_1).trans ((if_pos c_7).trans (if_neg c_12)))
          rw [hq] at hpost
          exact ih ((M_order T).2) H locs ls (hA c_12) hM (lv_sub hl [0, 1] rfl) hpost
        · --
          have hG := hB c_12
          refine lv_aload_n B.1 B.2.1 dX7_tries_70 rfl (lv_at hl 0 rfl) ?_
          refine m_calli (As := []) (rest := []) B hK hM (cX7_goBack_ok' l D cy o q (M_order T).2  hG.1) (cw7 0 B w7_mRX7_277 w7_im_yX7_goBack w7_sl_yX7_goBack w7_cd_yX7_goBack rfl rfl (by decide +kernel) ⟨Nat.le_of_ble_eq_true rfl, Nat.le_of_ble_eq_true rfl⟩) rfl hl.1 rfl (Nat.le_of_ble_eq_true rfl) dX7_tries_71 ⟨Nat.zero_le _, Nat.zero_le _⟩ (fun z_15 S_14 H locs hp_13 hM => ?_)
          obtain ⟨hp_13, he_hp_13⟩ := hp_13
          have he_hp_13 := he_hp_13.symm
          subst he_hp_13
          have hp_13 : (M_goBack (M_order T).2).1 = z_15 := hp_13.symm
          subst hp_13
          have hg01 := hG.2.1
          refine z_if_ne (tgt := 42) B.1 B.2.1 (zr_of (by omega) (by omega)) dX7_tries_74 (by decide) (fun c_16 => ?_) (fun c_16 => ?_)
          · --
            have hq : M_runL pp (n + 1) T = M_runL pp n ((M_goBack (M_order T).2).2) := by rw [M_runL]; exact ((if_neg c_1).trans ((if_pos c_7).trans ((if_pos c_12).trans (if_neg c_16))))
            rw [hq] at hpost
            exact ih ((M_goBack (M_order T).2).2) H locs ls (hG.2.2 c_16) hM (lv_sub hl [0, 1] rfl) hpost
          · --
            refine z_iconst B.1 B.2.1 dX7_tries_77 ?_
            have hq : M_runL pp (n + 1) T = (0, (M_goBack (M_order T).2).2) := by rw [M_runL]; exact ((if_neg c_1).trans ((if_pos c_7).trans ((if_pos c_12).trans (if_pos c_16))))
            rw [hq] at hpost
            exact m_retz B hM (by decide) (hpost) dX7_tries_78
/-- the state with which tries begins its turns -/
def M_triesS (pp : Int) (S : MSt) : MSt := mi (mi (mi (mi (M_resetL pp 180 0 S) 35 0) 37 0) 38 pp) 39 0
def M_triesOK (pp : Int) (S : MSt) : Prop := ∃ V : Nat → MSt → Prop, (∀ n T, V n T → M_runOK V n T) ∧ V 1000000 (M_triesS pp S)
def M_tries (pp : Int) (S : MSt) : Int × MSt := M_runL pp 1000000 (M_triesS pp S)
set_option maxHeartbeats 4000000 in
set_option maxRecDepth 100000 in
theorem cX7_tries_ok (l : Launch) (D : va_G) (cy : Nat → ClassId) (o : Nat) (q : Nat → Nat) (S : MSt) (pp : Int) (hok : M_triesOK pp S) : mMi l D cy o q yX7_tries (.code yX7_tries cX7_tries 3 (some .boolean) :: TB7) ({ frames := 7, cells := 0, slots := 0, locals := 160 }) S [.int (zI pp)] (fun r S' => r = (M_tries pp S).1 ∧ S' = (M_tries pp S).2) := by
  refine m_of (cc := cX7_tries) (maxL := 3) (ret := (some .boolean)) (by decide) rfl rfl (Nat.le_of_ble_eq_true rfl) ?_
  intro p e s m args below meth c ls B hK hM hl
  have hl : lv_has ls 3 [(0, .ref o), (1, .int (zI pp))] := hl
  refine z_iconst B.1 B.2.1 dX7_tries_0 ?_
  refine lv_istore_n (lv' := [(2, .int (zI 0)), (0, .ref o), (1, .int (zI pp))]) B.1 B.2.1 dX7_tries_1 rfl hl (by decide) rfl (fun ls hl => ?_)
  refine lp7_reset l D cy o q pp B hK 180 0 S _ _ ls (by omega) (by decide) hM (lv_sub hl [1, 2, 0] rfl) (fun ls H locs hM hl => ?_)
  refine lv_aload_n B.1 B.2.1 dX7_tries_22 rfl (lv_at hl 0 rfl) ?_
  refine z_iconst B.1 B.2.1 dX7_tries_23 ?_
  refine m_put B (i7 _) hK hM 35 (by decide) rfl (by decide +kernel) (List.mem_cons_of_mem _ w7_fRX7_225) dX7_tries_24 (fun H locs hM => ?_)
  refine lv_aload_n B.1 B.2.1 dX7_tries_27 rfl (lv_at hl 0 rfl) ?_
  refine z_iconst B.1 B.2.1 dX7_tries_28 ?_
  refine m_put B (i7 _) hK hM 37 (by decide) rfl (by decide +kernel) (List.mem_cons_of_mem _ w7_fRX7_228) dX7_tries_29 (fun H locs hM => ?_)
  refine lv_aload_n B.1 B.2.1 dX7_tries_32 rfl (lv_at hl 0 rfl) ?_
  refine lv_iload_n B.1 B.2.1 dX7_tries_33 rfl (lv_at hl 1 rfl) ?_
  refine m_put B (i7 _) hK hM 38 (by decide) rfl (by decide +kernel) (List.mem_cons_of_mem _ w7_fRX7_216) dX7_tries_34 (fun H locs hM => ?_)
  refine lv_aload_n B.1 B.2.1 dX7_tries_37 rfl (lv_at hl 0 rfl) ?_
  refine z_iconst B.1 B.2.1 dX7_tries_38 ?_
  refine m_put B (i7 _) hK hM 39 (by decide) rfl (by decide +kernel) (List.mem_cons_of_mem _ w7_fRX7_235) dX7_tries_39 (fun H locs hM => ?_)
  obtain ⟨V, hV, hv⟩ := hok
  exact lp7_tries l D cy o q pp V hV B hK _ 1000000 _ _ _ ls hv hM (lv_sub hl [0, 1] rfl) ⟨rfl, rfl⟩
