theorem M_one_01 (k : Int) (S : MSt) : (M_one k S).1 = 0 ∨ (M_one k S).1 = 1 := by
  unfold M_one
  split <;> simp
theorem M_isSameL_01 (g fr n3 : Int) (T : MSt) : ∀ (n : Nat) (same k : Int), (same = 0 ∨ same = 1) → (M_isSameL g fr n3 T n same k).1 = 0 ∨ (M_isSameL g fr n3 T n same k).1 = 1 := by
  intro n
  induction n with
  | zero =>
    intro same k h
    rw [M_isSameL]
    split <;> exact h
  | succ n ih =>
    intro same k h
    rw [M_isSameL]
    by_cases c : n3 ≤ k
    · rw [if_pos c]
      split <;> exact h
    · rw [if_neg c]
      refine ih _ _ ?_
      repeat' (first | exact Or.inl rfl | exact Or.inr rfl | apply ite01)
theorem M_isSame_01 (g : Int) (S : MSt) : (M_isSame g S).1 = 0 ∨ (M_isSame g S).1 = 1 := by
  unfold M_isSame
  split
  · split
    · exact M_isSameL_01 _ _ _ _ _ _ _ (Or.inr rfl)
    · exact Or.inl rfl
  · exact Or.inr rfl
def M_order (S : MSt) : Int × MSt := (if (S.2 8 (S.1 39).toNat) = 1 then (if (S.2 9 (S.1 39).toNat) < 0 then (1, (M_step (mi S 39 ((S.1 39) + 1)))) else (1, (M_choose 0 (S.2 9 (S.1 39).toNat) (M_step (mi S 39 ((S.1 39) + 1)))))) else (if (S.2 8 (S.1 39).toNat) = 2 then (1, (mi (mi S 39 ((S.1 39) + 1)) 39 (S.2 9 (S.1 39).toNat))) else (if (S.2 8 (S.1 39).toNat) = 3 then ((M_one (S.1 39) (mi S 39 ((S.1 39) + 1))).1, (M_one (S.1 39) (mi S 39 ((S.1 39) + 1))).2) else (if (S.2 8 (S.1 39).toNat) = 4 then ((M_one (S.1 39) (mi S 39 ((S.1 39) + 1))).1, (M_one (S.1 39) (mi S 39 ((S.1 39) + 1))).2) else (if (S.2 8 (S.1 39).toNat) = 5 then ((M_one (S.1 39) (mi S 39 ((S.1 39) + 1))).1, (M_one (S.1 39) (mi S 39 ((S.1 39) + 1))).2) else (if (S.2 8 (S.1 39).toNat) = 6 then ((M_one (S.1 39) (mi S 39 ((S.1 39) + 1))).1, (M_one (S.1 39) (mi S 39 ((S.1 39) + 1))).2) else (if (S.2 8 (S.1 39).toNat) = 7 then ((M_isSame (S.2 9 (S.1 39).toNat) (M_step (mi S 39 ((S.1 39) + 1)))).1, (M_isSame (S.2 9 (S.1 39).toNat) (M_step (mi S 39 ((S.1 39) + 1)))).2) else (if (S.2 8 (S.1 39).toNat) = 8 then ((if (S.1 38) = 0 then 1 else (if (M_has 2 S) = 0 then 0 else (if (S.2 3 ((S.1 38) - 1).toNat) = 47 then 1 else 0 : Int) : Int) : Int), (mi S 39 ((S.1 39) + 1))) else (if (S.2 8 (S.1 39).toNat) = 9 then ((if (S.1 38) = (S.1 4) then 1 else (if (M_has 2 S) = 0 then 0 else (if (S.2 3 (S.1 38).toNat) = 47 then 1 else 0 : Int) : Int) : Int), (mi S 39 ((S.1 39) + 1))) else (if (S.2 8 (S.1 39).toNat) = 10 then (1, (M_put (20 + (S.2 9 (S.1 39).toNat)) (S.1 38) (mi S 39 ((S.1 39) + 1)))) else (if (S.2 8 (S.1 39).toNat) = 11 then (1, (M_put (10 + (S.2 9 (S.1 39).toNat)) (S.1 38) (M_put (S.2 9 (S.1 39).toNat) (S.2 33 (20 + (S.2 9 (S.1 39).toNat)).toNat) (mi S 39 ((S.1 39) + 1))))) else (if (S.2 8 (S.1 39).toNat) = 12 then (1, (M_choose 2 (S.1 39) (ma (mi S 39 ((S.1 39) + 1)) 33 (130 + (S.2 11 (S.1 39).toNat)).toNat (S.1 37)))) else (if (S.2 8 (S.1 39).toNat) = 13 then ((if (S.2 10 (S.1 39).toNat) = 1 then 1 else 0 : Int), (M_looked (S.1 39) (mi S 39 ((S.1 39) + 1)))) else (if (S.2 8 (S.1 39).toNat) = 14 then (1, (M_decide (S.1 39) (M_put (30 + (S.2 11 (S.1 39).toNat)) 0 (mi S 39 ((S.1 39) + 1))))) else (if (S.2 8 (S.1 39).toNat) = 15 then (if (zb (M_isIdle (S.2 9 (S.1 39).toNat) (mi S 39 ((S.1 39) + 1)))) = 0 then (1, (M_decide (S.2 9 (S.1 39).toNat) (mi S 39 ((S.1 39) + 1)))) else (0, (mi S 39 ((S.1 39) + 1)))) else (if (S.2 8 (S.1 39).toNat) = 16 then ((M_one (S.1 39) (mi S 39 ((S.1 39) + 1))).1, (M_one (S.1 39) (mi S 39 ((S.1 39) + 1))).2) else (if (S.2 8 (S.1 39).toNat) = 17 then (1, (mi S 39 ((S.1 39) + 1))) else ((M_one (S.1 39) (mi S 39 ((S.1 39) + 1))).1, (M_one (S.1 39) (mi S 39 ((S.1 39) + 1))).2))))))))))))))))))
set_option maxHeartbeats 4000000 in
set_option maxRecDepth 100000 in
theorem cX7_order_ok (l : Launch) (D : va_G) (cy : Nat → ClassId) (o : Nat) (q : Nat → Nat) (S : MSt) (hk0 : 0 ≤ S.1 39) (hk1 : S.1 39 < 219) (hop0 : 1 ≤ S.2 8 (S.1 39).toNat) (hop1 : S.2 8 (S.1 39).toNat ≤ 17) (hop2 : ¬ S.2 8 (S.1 39).toNat = 16) (hp0 : 0 ≤ S.1 38) (hp1 : S.1 38 ≤ S.1 4) (hn1 : S.1 4 ≤ 24) (hg0 : 0 ≤ S.1 6) (hg1 : S.1 6 ≤ 7) (htx : ∀ j, 0 ≤ S.2 3 j ∧ S.2 3 j ≤ 126) (hsg : ∀ j, 0 ≤ S.2 7 j ∧ S.2 7 j ≤ 126) (hv0 : 0 ≤ S.1 41) (hv1 : S.1 41 ≤ 1) (hm0 : 0 ≤ S.1 40) (hm1 : S.1 40 ≤ 1000) (ht0 : 0 ≤ S.1 35) (ht1 : S.1 35 ≤ 5800) (hc0 : 0 ≤ S.1 37) (hc1 : S.1 37 < 3000) (hr : ∀ j, -100000 ≤ S.2 33 j ∧ S.2 33 j ≤ 100000) (haa : -1000 ≤ S.2 9 (S.1 39).toNat) (hab : S.2 9 (S.1 39).toNat ≤ 200000) (hbb : -1000 ≤ S.2 10 (S.1 39).toNat ∧ S.2 10 (S.1 39).toNat ≤ 100000000)
    (hh3 : 3 ≤ S.2 8 (S.1 39).toNat → S.2 8 (S.1 39).toNat ≤ 6 → 3 ≤ S.2 8 (S.1 39).toNat ∧ S.2 8 (S.1 39).toNat ≤ 6 ∧ 0 ≤ S.2 9 (S.1 39).toNat ∧ S.2 9 (S.1 39).toNat ≤ 1000 ∧ 0 ≤ S.2 10 (S.1 39).toNat ∧ (S.2 8 (S.1 39).toNat = 6 → S.2 9 (S.1 39).toNat ≤ 41 ∧ S.2 10 (S.1 39).toNat ≤ 39) ∧ S.2 10 (S.1 39).toNat ≤ 100000000 ∧ -1000 ≤ S.2 11 (S.1 39).toNat ∧ S.2 11 (S.1 39).toNat ≤ 100000)
    (hh7 : S.2 8 (S.1 39).toNat = 7 → 0 ≤ S.2 9 (S.1 39).toNat ∧ S.2 9 (S.1 39).toNat ≤ 9 ∧ -1 ≤ S.2 33 (S.2 9 (S.1 39).toNat).toNat ∧ S.2 33 (S.2 9 (S.1 39).toNat).toNat ≤ 24 ∧ (0 ≤ S.2 33 (S.2 9 (S.1 39).toNat).toNat → S.2 33 (S.2 9 (S.1 39).toNat).toNat ≤ S.2 33 (10 + S.2 9 (S.1 39).toNat).toNat) ∧ S.2 33 (10 + S.2 9 (S.1 39).toNat).toNat ≤ 24 ∧ -1 ≤ S.2 33 (10 + S.2 9 (S.1 39).toNat).toNat)
    (hh10 : S.2 8 (S.1 39).toNat = 10 ∨ S.2 8 (S.1 39).toNat = 11 → 0 ≤ S.2 9 (S.1 39).toNat ∧ S.2 9 (S.1 39).toNat ≤ 9)
    (hh12 : S.2 8 (S.1 39).toNat = 12 → 0 ≤ S.2 11 (S.1 39).toNat ∧ S.2 11 (S.1 39).toNat < 50)
    (hh13 : S.2 8 (S.1 39).toNat = 13 → 0 ≤ S.2 11 (S.1 39).toNat ∧ S.2 11 (S.1 39).toNat < 50 ∧ 0 ≤ S.2 33 (130 + S.2 11 (S.1 39).toNat).toNat ∧ S.2 33 (130 + S.2 11 (S.1 39).toNat).toNat < 3000 ∧ 0 ≤ S.2 36 (S.2 33 (130 + S.2 11 (S.1 39).toNat).toNat).toNat ∧ S.2 36 (S.2 33 (130 + S.2 11 (S.1 39).toNat).toNat).toNat ≤ 2000000000)
    (hh14 : S.2 8 (S.1 39).toNat = 14 → 0 ≤ S.2 11 (S.1 39).toNat ∧ S.2 11 (S.1 39).toNat < 50 ∧ 0 ≤ S.2 10 (S.1 39).toNat ∧ S.2 10 (S.1 39).toNat ≤ 2000000 ∧ S.2 10 (S.1 39).toNat / 16 % 256 ≤ S.2 10 (S.1 39).toNat % 16 ∧ 0 ≤ S.2 9 (S.1 39).toNat ∧ S.2 9 (S.1 39).toNat ≤ 200000 ∧ S.2 33 (30 + S.2 11 (S.1 39).toNat).toNat < 100000)
    (hh15 : S.2 8 (S.1 39).toNat = 15 → 0 ≤ S.2 9 (S.1 39).toNat ∧ S.2 9 (S.1 39).toNat < 220 ∧ 0 ≤ S.2 11 (S.2 9 (S.1 39).toNat).toNat ∧ S.2 11 (S.2 9 (S.1 39).toNat).toNat < 50 ∧ 0 ≤ S.2 10 (S.2 9 (S.1 39).toNat).toNat ∧ S.2 10 (S.2 9 (S.1 39).toNat).toNat ≤ 2000000 ∧ S.2 10 (S.2 9 (S.1 39).toNat).toNat / 16 % 256 ≤ S.2 10 (S.2 9 (S.1 39).toNat).toNat % 16 ∧ 0 ≤ S.2 9 (S.2 9 (S.1 39).toNat).toNat ∧ S.2 9 (S.2 9 (S.1 39).toNat).toNat ≤ 200000 ∧ S.2 33 (30 + S.2 11 (S.2 9 (S.1 39).toNat).toNat).toNat < 100000) : mMi l D cy o q yX7_order (.code yX7_order cX7_order 2 (some .boolean) :: TB7) ({ frames := 6, cells := 0, slots := 0, locals := 139 }) S [] (fun r S' => r = (M_order S).1 ∧ S' = (M_order S).2) := by
  refine m_of (cc := cX7_order) (maxL := 2) (ret := (some .boolean)) (by decide) rfl rfl (Nat.le_of_ble_eq_true rfl) ?_
  intro p e s m args below meth c ls B hK hM hl
  have hl : lv_has ls 2 [(0, .ref o)] := hl
  refine lv_aload_n B.1 B.2.1 dX7_order_0 rfl (lv_at hl 0 rfl) ?_
  refine m_get (x := S.1 39) B (i7 _) hK hM 39 (by decide) rfl rfl (List.mem_cons_of_mem _ w7_fRX7_235) dX7_order_1 ?_
  refine lv_istore_n (lv' := [(1, .int (zI (S.1 39))), (0, .ref o)]) B.1 B.2.1 dX7_order_4 rfl hl (by decide) rfl (fun ls hl => ?_)
  refine lv_aload_n B.1 B.2.1 dX7_order_5 rfl (lv_at hl 1 rfl) ?_
  refine lv_iload_n B.1 B.2.1 dX7_order_6 rfl (lv_at hl 0 rfl) ?_
  refine z_iconst B.1 B.2.1 dX7_order_7 ?_
  refine z_iadd (x := (S.1 39) + 1) B.1 B.2.1 rfl dX7_order_8 ?_
  refine m_put B (i7 _) hK hM 39 (by decide) rfl (by decide +kernel) (List.mem_cons_of_mem _ w7_fRX7_235) dX7_order_9 (fun H locs hM => ?_)
  refine lv_aload_n B.1 B.2.1 dX7_order_12 rfl (lv_at hl 1 rfl) ?_
  refine m_getr B (i7 _) hK hM 8 (by decide) rfl (List.mem_cons_of_mem _ w7_fRX7_19) dX7_order_13 ?_
  refine lv_iload_n B.1 B.2.1 dX7_order_16 rfl (lv_at hl 0 rfl) ?_
  refine m_iald (x := S.2 8 (S.1 39).toNat) B hK hM 3 8 rfl rfl (by omega) (by simp only [mN]; omega) rfl dX7_order_17 ?_
  rcases (show (S.2 8 (S.1 39).toNat) = 1 ∨ (S.2 8 (S.1 39).toNat) = 2 ∨ (S.2 8 (S.1 39).toNat) = 3 ∨ (S.2 8 (S.1 39).toNat) = 4 ∨ (S.2 8 (S.1 39).toNat) = 5 ∨ (S.2 8 (S.1 39).toNat) = 6 ∨ (S.2 8 (S.1 39).toNat) = 7 ∨ (S.2 8 (S.1 39).toNat) = 8 ∨ (S.2 8 (S.1 39).toNat) = 9 ∨ (S.2 8 (S.1 39).toNat) = 10 ∨ (S.2 8 (S.1 39).toNat) = 11 ∨ (S.2 8 (S.1 39).toNat) = 12 ∨ (S.2 8 (S.1 39).toNat) = 13 ∨ (S.2 8 (S.1 39).toNat) = 14 ∨ (S.2 8 (S.1 39).toNat) = 15 ∨ (S.2 8 (S.1 39).toNat) = 16 ∨ (S.2 8 (S.1 39).toNat) = 17 ∨ ((S.2 8 (S.1 39).toNat) < 1 ∨ 17 < (S.2 8 (S.1 39).toNat)) by omega) with c_1 | c_1 | c_1 | c_1 | c_1 | c_1 | c_1 | c_1 | c_1 | c_1 | c_1 | c_1 | c_1 | c_1 | c_1 | c_1 | c_1 | c_1
  · --
    refine z_tableIn (tgt := 100) (off := 82) B.1 B.2.1 (zr_of (by omega) (by omega)) dX7_order_18 (by omega) (by omega) (by rw [c_1]; rfl) (by decide) ?_
    refine lv_aload_n B.1 B.2.1 dX7_order_100 rfl (lv_at hl 1 rfl) ?_
    refine m_callv (As := []) (rest := []) B hK hM (cX7_step_ok l D cy o q (mi S 39 ((S.1 39) + 1))  (by show 0 ≤ (S.1 41); omega) (by show (S.1 41) ≤ 1; omega) (by show 0 ≤ (S.1 40); omega) (by show (S.1 40) ≤ 1000; omega)) (cw7 0 B w7_mRX7_253 w7_im_yX7_step w7_sl_yX7_step w7_cd_yX7_step rfl rfl (by decide +kernel) ⟨Nat.le_of_ble_eq_true rfl, Nat.le_of_ble_eq_true rfl⟩) rfl hl.1 rfl (Nat.le_of_ble_eq_true rfl) dX7_order_101 ⟨Nat.zero_le _, Nat.zero_le _⟩ (fun S_3 H locs hp_2 hM => ?_)
    have hp_2 := hp_2.symm
    subst hp_2
    refine lv_aload_n B.1 B.2.1 dX7_order_104 rfl (lv_at hl 1 rfl) ?_
    refine m_getr B (i7 _) hK hM 9 (by decide) rfl (List.mem_cons_of_mem _ w7_fRX7_23) dX7_order_105 ?_
    refine lv_iload_n B.1 B.2.1 dX7_order_108 rfl (lv_at hl 0 rfl) ?_
    refine m_iald (x := S.2 9 (S.1 39).toNat) B hK hM 4 9 rfl rfl (by omega) (by simp only [mN]; omega) rfl dX7_order_109 ?_
    refine z_if_lt (tgt := 124) B.1 B.2.1 (zr_of (by omega) (by omega)) dX7_order_110 (by decide) (fun c_4 => ?_) (fun c_4 => ?_)
    · --
      refine z_iconst B.1 B.2.1 dX7_order_124 ?_
      have hq : M_order S = (1, (M_step (mi S 39 ((S.1 39) + 1)))) := by unfold M_order; exact ((if_pos c_1).trans (if_pos c_4))
      exact m_retz B hM (by decide) (⟨(congrArg Prod.fst hq).symm, (congrArg Prod.snd hq).symm⟩) dX7_order_125
    · --
      refine lv_aload_n B.1 B.2.1 dX7_order_113 rfl (lv_at hl 1 rfl) ?_
      refine z_iconst B.1 B.2.1 dX7_order_114 ?_
      refine lv_aload_n B.1 B.2.1 dX7_order_115 rfl (lv_at hl 1 rfl) ?_
      refine m_getr B (i7 _) hK hM 9 (by decide) rfl (List.mem_cons_of_mem _ w7_fRX7_23) dX7_order_116 ?_
      refine lv_iload_n B.1 B.2.1 dX7_order_119 rfl (lv_at hl 0 rfl) ?_
      refine m_iald (x := S.2 9 (S.1 39).toNat) B hK hM 4 9 rfl rfl (by omega) (by simp only [mN]; omega) rfl dX7_order_120 ?_
      refine m_callv (As := [.int (zI 0), .int (zI (S.2 9 (S.1 39).toNat))]) (rest := []) B hK hM (cX7_choose_ok l D cy o q (M_step (mi S 39 ((S.1 39) + 1))) 0 (S.2 9 (S.1 39).toNat) (by show 0 ≤ (S.1 37); omega) (by show (S.1 37) < 3000; omega)) (cw7 2 B w7_mRX7_244 w7_im_yX7_choose w7_sl_yX7_choose w7_cd_yX7_choose rfl rfl (by decide +kernel) ⟨Nat.le_of_ble_eq_true rfl, Nat.le_of_ble_eq_true rfl⟩) rfl hl.1 rfl (Nat.le_of_ble_eq_true rfl) dX7_order_121 ⟨Nat.zero_le _, Nat.zero_le _⟩ (fun S_6 H locs hp_5 hM => ?_)
      have hp_5 := hp_5.symm
      subst hp_5
      refine z_iconst B.1 B.2.1 dX7_order_124 ?_
      have hq : M_order S = (1, (M_choose 0 (S.2 9 (S.1 39).toNat) (M_step (mi S 39 ((S.1 39) + 1))))) := by unfold M_order; exact ((if_pos c_1).trans (if_neg c_4))
      exact m_retz B hM (by decide) (⟨(congrArg Prod.fst hq).symm, (congrArg Prod.snd hq).symm⟩) dX7_order_125
  · --
    have n_7 : ¬ (S.2 8 (S.1 39).toNat) = 1 := by omega
    refine z_tableIn (tgt := 126) (off := 108) B.1 B.2.1 (zr_of (by omega) (by omega)) dX7_order_18 (by omega) (by omega) (by rw [c_1]; rfl) (by decide) ?_
    refine lv_aload_n B.1 B.2.1 dX7_order_126 rfl (lv_at hl 1 rfl) ?_
    refine lv_aload_n B.1 B.2.1 dX7_order_127 rfl (lv_at hl 1 rfl) ?_
    refine m_getr B (i7 _) hK hM 9 (by decide) rfl (List.mem_cons_of_mem _ w7_fRX7_23) dX7_order_128 ?_
    refine lv_iload_n B.1 B.2.1 dX7_order_131 rfl (lv_at hl 0 rfl) ?_
    refine m_iald (x := S.2 9 (S.1 39).toNat) B hK hM 4 9 rfl rfl (by omega) (by simp only [mN]; omega) rfl dX7_order_132 ?_
    refine m_put B (i7 _) hK hM 39 (by decide) rfl (by decide +kernel) (List.mem_cons_of_mem _ w7_fRX7_235) dX7_order_133 (fun H locs hM => ?_)
    refine z_iconst B.1 B.2.1 dX7_order_136 ?_
    have hq : M_order S = (1, (mi (mi S 39 ((S.1 39) + 1)) 39 (S.2 9 (S.1 39).toNat))) := by unfold M_order; exact ((if_neg n_7).trans (if_pos c_1))
    exact m_retz B hM (by decide) (⟨(congrArg Prod.fst hq).symm, (congrArg Prod.snd hq).symm⟩) dX7_order_137
  · --
    have n_8 : ¬ (S.2 8 (S.1 39).toNat) = 1 := by omega
    have n_9 : ¬ (S.2 8 (S.1 39).toNat) = 2 := by omega
    refine z_tableIn (tgt := 389) (off := 371) B.1 B.2.1 (zr_of (by omega) (by omega)) dX7_order_18 (by omega) (by omega) (by rw [c_1]; rfl) (by decide) ?_
    have h3 := hh3 (by omega) (by omega)
    refine lv_aload_n B.1 B.2.1 dX7_order_389 rfl (lv_at hl 1 rfl) ?_
    refine lv_iload_n B.1 B.2.1 dX7_order_390 rfl (lv_at hl 0 rfl) ?_
    refine m_calli (As := [.int (zI (S.1 39))]) (rest := []) B hK hM (cX7_one_ok l D cy o q (mi S 39 ((S.1 39) + 1)) (S.1 39) (by show 0 ≤ (S.1 39); omega) (by show (S.1 39) < 220; omega) h3.1 h3.2.1 h3.2.2.1 h3.2.2.2.1 h3.2.2.2.2.1 h3.2.2.2.2.2.1 h3.2.2.2.2.2.2.1 hg0 hg1 hsg hp0 hp1 hn1 htx h3.2.2.2.2.2.2.2.1 h3.2.2.2.2.2.2.2.2 hv0 hv1 hm0 hm1) (cw7 1 B w7_mRX7_268 w7_im_yX7_one w7_sl_yX7_one w7_cd_yX7_one rfl rfl (by decide +kernel) ⟨Nat.le_of_ble_eq_true rfl, Nat.le_of_ble_eq_true rfl⟩) rfl hl.1 rfl (Nat.le_of_ble_eq_true rfl) dX7_order_391 ⟨Nat.zero_le _, Nat.zero_le _⟩ (fun z_12 S_11 H locs hp_10 hM => ?_)
    obtain ⟨hp_10, he_hp_10⟩ := hp_10
    have he_hp_10 := he_hp_10.symm
    subst he_hp_10
    have hp_10 : (M_one (S.1 39) (mi S 39 ((S.1 39) + 1))).1 = z_12 := hp_10.symm
    subst hp_10
    have f_13 := M_one_01 (S.1 39) (mi S 39 ((S.1 39) + 1))
    have hq : M_order S = ((M_one (S.1 39) (mi S 39 ((S.1 39) + 1))).1, (M_one (S.1 39) (mi S 39 ((S.1 39) + 1))).2) := by unfold M_order; exact ((if_neg n_8).trans ((if_neg n_9).trans (if_pos c_1)))
    exact m_retz B hM (by omega) (⟨(congrArg Prod.fst hq).symm, (congrArg Prod.snd hq).symm⟩) dX7_order_394
  · --
    have n_14 : ¬ (S.2 8 (S.1 39).toNat) = 1 := by omega
    have n_15 : ¬ (S.2 8 (S.1 39).toNat) = 2 := by omega
    have n_16 : ¬ (S.2 8 (S.1 39).toNat) = 3 := by omega
    refine z_tableIn (tgt := 389) (off := 371) B.1 B.2.1 (zr_of (by omega) (by omega)) dX7_order_18 (by omega) (by omega) (by rw [c_1]; rfl) (by decide) ?_
    have h3 := hh3 (by omega) (by omega)
    refine lv_aload_n B.1 B.2.1 dX7_order_389 rfl (lv_at hl 1 rfl) ?_
    refine lv_iload_n B.1 B.2.1 dX7_order_390 rfl (lv_at hl 0 rfl) ?_
    refine m_calli (As := [.int (zI (S.1 39))]) (rest := []) B hK hM (cX7_one_ok l D cy o q (mi S 39 ((S.1 39) + 1)) (S.1 39) (by show 0 ≤ (S.1 39); omega) (by show (S.1 39) < 220; omega) h3.1 h3.2.1 h3.2.2.1 h3.2.2.2.1 h3.2.2.2.2.1 h3.2.2.2.2.2.1 h3.2.2.2.2.2.2.1 hg0 hg1 hsg hp0 hp1 hn1 htx h3.2.2.2.2.2.2.2.1 h3.2.2.2.2.2.2.2.2 hv0 hv1 hm0 hm1) (cw7 1 B w7_mRX7_268 w7_im_yX7_one w7_sl_yX7_one w7_cd_yX7_one rfl rfl (by decide +kernel) ⟨Nat.le_of_ble_eq_true rfl, Nat.le_of_ble_eq_true rfl⟩) rfl hl.1 rfl (Nat.le_of_ble_eq_true rfl) dX7_order_391 ⟨Nat.zero_le _, Nat.zero_le _⟩ (fun z_19 S_18 H locs hp_17 hM => ?_)
    obtain ⟨hp_17, he_hp_17⟩ := hp_17
    have he_hp_17 := he_hp_17.symm
    subst he_hp_17
    have hp_17 : (M_one (S.1 39) (mi S 39 ((S.1 39) + 1))).1 = z_19 := hp_17.symm
    subst hp_17
    have f_20 := M_one_01 (S.1 39) (mi S 39 ((S.1 39) + 1))
    have hq : M_order S = ((M_one (S.1 39) (mi S 39 ((S.1 39) + 1))).1, (M_one (S.1 39) (mi S 39 ((S.1 39) + 1))).2) := by unfold M_order; exact ((if_neg n_14).trans ((if_neg n_15).trans ((if_neg n_16).trans (if_pos c_1))))
    exact m_retz B hM (by omega) (⟨(congrArg Prod.fst hq).symm, (congrArg Prod.snd hq).symm⟩) dX7_order_394
  · --
    have n_21 : ¬ (S.2 8 (S.1 39).toNat) = 1 := by omega
    have n_22 : ¬ (S.2 8 (S.1 39).toNat) = 2 := by omega
    have n_23 : ¬ (S.2 8 (S.1 39).toNat) = 3 := by omega
    have n_24 : ¬ (S.2 8 (S.1 39).toNat) = 4 := by omega
    refine z_tableIn (tgt := 389) (off := 371) B.1 B.2.1 (zr_of (by omega) (by omega)) dX7_order_18 (by omega) (by omega) (by rw [c_1]; rfl) (by decide) ?_
    have h3 := hh3 (by omega) (by omega)
    refine lv_aload_n B.1 B.2.1 dX7_order_389 rfl (lv_at hl 1 rfl) ?_
    refine lv_iload_n B.1 B.2.1 dX7_order_390 rfl (lv_at hl 0 rfl) ?_
    refine m_calli (As := [.int (zI (S.1 39))]) (rest := []) B hK hM (cX7_one_ok l D cy o q (mi S 39 ((S.1 39) + 1)) (S.1 39) (by show 0 ≤ (S.1 39); omega) (by show (S.1 39) < 220; omega) h3.1 h3.2.1 h3.2.2.1 h3.2.2.2.1 h3.2.2.2.2.1 h3.2.2.2.2.2.1 h3.2.2.2.2.2.2.1 hg0 hg1 hsg hp0 hp1 hn1 htx h3.2.2.2.2.2.2.2.1 h3.2.2.2.2.2.2.2.2 hv0 hv1 hm0 hm1) (cw7 1 B w7_mRX7_268 w7_im_yX7_one w7_sl_yX7_one w7_cd_yX7_one rfl rfl (by decide +kernel) ⟨Nat.le_of_ble_eq_true rfl, Nat.le_of_ble_eq_true rfl⟩) rfl hl.1 rfl (Nat.le_of_ble_eq_true rfl) dX7_order_391 ⟨Nat.zero_le _, Nat.zero_le _⟩ (fun z_27 S_26 H locs hp_25 hM => ?_)
    obtain ⟨hp_25, he_hp_25⟩ := hp_25
    have he_hp_25 := he_hp_25.symm
    subst he_hp_25
    have hp_25 : (M_one (S.1 39) (mi S 39 ((S.1 39) + 1))).1 = z_27 := hp_25.symm
    subst hp_25
    have f_28 := M_one_01 (S.1 39) (mi S 39 ((S.1 39) + 1))
    have hq : M_order S = ((M_one (S.1 39) (mi S 39 ((S.1 39) + 1))).1, (M_one (S.1 39) (mi S 39 ((S.1 39) + 1))).2) := by unfold M_order; exact ((if_neg n_21).trans ((if_neg n_22).trans ((if_neg n_23).trans ((if_neg n_24).trans (if_pos c_1)))))
    exact m_retz B hM (by omega) (⟨(congrArg Prod.fst hq).symm, (congrArg Prod.snd hq).symm⟩) dX7_order_394
  · --
    have n_29 : ¬ (S.2 8 (S.1 39).toNat) = 1 := by omega
    have n_30 : ¬ (S.2 8 (S.1 39).toNat) = 2 := by omega
    have n_31 : ¬ (S.2 8 (S.1 39).toNat) = 3 := by omega
    have n_32 : ¬ (S.2 8 (S.1 39).toNat) = 4 := by omega
    have n_33 : ¬ (S.2 8 (S.1 39).toNat) = 5 := by omega
    refine z_tableIn (tgt := 389) (off := 371) B.1 B.2.1 (zr_of (by omega) (by omega)) dX7_order_18 (by omega) (by omega) (by rw [c_1]; rfl) (by decide) ?_
    have h3 := hh3 (by omega) (by omega)
    refine lv_aload_n B.1 B.2.1 dX7_order_389 rfl (lv_at hl 1 rfl) ?_
    refine lv_iload_n B.1 B.2.1 dX7_order_390 rfl (lv_at hl 0 rfl) ?_
    refine m_calli (As := [.int (zI (S.1 39))]) (rest := []) B hK hM (cX7_one_ok l D cy o q (mi S 39 ((S.1 39) + 1)) (S.1 39) (by show 0 ≤ (S.1 39); omega) (by show (S.1 39) < 220; omega) h3.1 h3.2.1 h3.2.2.1 h3.2.2.2.1 h3.2.2.2.2.1 h3.2.2.2.2.2.1 h3.2.2.2.2.2.2.1 hg0 hg1 hsg hp0 hp1 hn1 htx h3.2.2.2.2.2.2.2.1 h3.2.2.2.2.2.2.2.2 hv0 hv1 hm0 hm1) (cw7 1 B w7_mRX7_268 w7_im_yX7_one w7_sl_yX7_one w7_cd_yX7_one rfl rfl (by decide +kernel) ⟨Nat.le_of_ble_eq_true rfl, Nat.le_of_ble_eq_true rfl⟩) rfl hl.1 rfl (Nat.le_of_ble_eq_true rfl) dX7_order_391 ⟨Nat.zero_le _, Nat.zero_le _⟩ (fun z_36 S_35 H locs hp_34 hM => ?_)
    obtain ⟨hp_34, he_hp_34⟩ := hp_34
    have he_hp_34 := he_hp_34.symm
    subst he_hp_34
    have hp_34 : (M_one (S.1 39) (mi S 39 ((S.1 39) + 1))).1 = z_36 := hp_34.symm
    subst hp_34
    have f_37 := M_one_01 (S.1 39) (mi S 39 ((S.1 39) + 1))
    have hq : M_order S = ((M_one (S.1 39) (mi S 39 ((S.1 39) + 1))).1, (M_one (S.1 39) (mi S 39 ((S.1 39) + 1))).2) := by unfold M_order; exact ((if_neg n_29).trans ((if_neg n_30).trans ((if_neg n_31).trans ((if_neg n_32).trans ((if_neg n_33).trans (if_pos c_1))))))
    exact m_retz B hM (by omega) (⟨(congrArg Prod.fst hq).symm, (congrArg Prod.snd hq).symm⟩) dX7_order_394
  · --
    have n_38 : ¬ (S.2 8 (S.1 39).toNat) = 1 := by omega
    have n_39 : ¬ (S.2 8 (S.1 39).toNat) = 2 := by omega
    have n_40 : ¬ (S.2 8 (S.1 39).toNat) = 3 := by omega
    have n_41 : ¬ (S.2 8 (S.1 39).toNat) = 4 := by omega
    have n_42 : ¬ (S.2 8 (S.1 39).toNat) = 5 := by omega
    have n_43 : ¬ (S.2 8 (S.1 39).toNat) = 6 := by omega
    refine z_tableIn (tgt := 138) (off := 120) B.1 B.2.1 (zr_of (by omega) (by omega)) dX7_order_18 (by omega) (by omega) (by rw [c_1]; rfl) (by decide) ?_
    obtain ⟨h7a, h7b, h7⟩ := hh7 (by omega)
    refine lv_aload_n B.1 B.2.1 dX7_order_138 rfl (lv_at hl 1 rfl) ?_
    refine m_callv (As := []) (rest := []) B hK hM (cX7_step_ok l D cy o q (mi S 39 ((S.1 39) + 1))  (by show 0 ≤ (S.1 41); omega) (by show (S.1 41) ≤ 1; omega) (by show 0 ≤ (S.1 40); omega) (by show (S.1 40) ≤ 1000; omega)) (cw7 0 B w7_mRX7_253 w7_im_yX7_step w7_sl_yX7_step w7_cd_yX7_step rfl rfl (by decide +kernel) ⟨Nat.le_of_ble_eq_true rfl, Nat.le_of_ble_eq_true rfl⟩) rfl hl.1 rfl (Nat.le_of_ble_eq_true rfl) dX7_order_139 ⟨Nat.zero_le _, Nat.zero_le _⟩ (fun S_45 H locs hp_44 hM => ?_)
    have hp_44 := hp_44.symm
    subst hp_44
    refine lv_aload_n B.1 B.2.1 dX7_order_142 rfl (lv_at hl 1 rfl) ?_
    refine lv_aload_n B.1 B.2.1 dX7_order_143 rfl (lv_at hl 1 rfl) ?_
    refine m_getr B (i7 _) hK hM 9 (by decide) rfl (List.mem_cons_of_mem _ w7_fRX7_23) dX7_order_144 ?_
    refine lv_iload_n B.1 B.2.1 dX7_order_147 rfl (lv_at hl 0 rfl) ?_
    refine m_iald (x := S.2 9 (S.1 39).toNat) B hK hM 4 9 rfl rfl (by omega) (by simp only [mN]; omega) rfl dX7_order_148 ?_
    refine m_calli (As := [.int (zI (S.2 9 (S.1 39).toNat))]) (rest := []) B hK hM (cX7_isSame_ok l D cy o q (M_step (mi S 39 ((S.1 39) + 1))) (S.2 9 (S.1 39).toNat) (by show 0 ≤ (S.2 9 (S.1 39).toNat); omega) (by show (S.2 9 (S.1 39).toNat) ≤ 9; omega) h7.1 h7.2.1 h7.2.2.1 h7.2.2.2.1 h7.2.2.2.2 hp0 hp1 hn1 hg0 hg1 htx) (cw7 1 B w7_mRX7_256 w7_im_yX7_isSame w7_sl_yX7_isSame w7_cd_yX7_isSame rfl rfl (by decide +kernel) ⟨Nat.le_of_ble_eq_true rfl, Nat.le_of_ble_eq_true rfl⟩) rfl hl.1 rfl (Nat.le_of_ble_eq_true rfl) dX7_order_149 ⟨Nat.zero_le _, Nat.zero_le _⟩ (fun z_48 S_47 H locs hp_46 hM => ?_)
    obtain ⟨hp_46, he_hp_46⟩ := hp_46
    have he_hp_46 := he_hp_46.symm
    subst he_hp_46
    have hp_46 : (M_isSame (S.2 9 (S.1 39).toNat) (M_step (mi S 39 ((S.1 39) + 1)))).1 = z_48 := hp_46.symm
    subst hp_46
    have f_49 := M_isSame_01 (S.2 9 (S.1 39).toNat) (M_step (mi S 39 ((S.1 39) + 1)))
    have hq : M_order S = ((M_isSame (S.2 9 (S.1 39).toNat) (M_step (mi S 39 ((S.1 39) + 1)))).1, (M_isSame (S.2 9 (S.1 39).toNat) (M_step (mi S 39 ((S.1 39) + 1)))).2) := by unfold M_order; exact ((if_neg n_38).trans ((if_neg n_39).trans ((if_neg n_40).trans ((if_neg n_41).trans ((if_neg n_42).trans ((if_neg n_43).trans (if_pos c_1)))))))
    exact m_retz B hM (by omega) (⟨(congrArg Prod.fst hq).symm, (congrArg Prod.snd hq).symm⟩) dX7_order_152
  · --
    have n_50 : ¬ (S.2 8 (S.1 39).toNat) = 1 := by omega
    have n_51 : ¬ (S.2 8 (S.1 39).toNat) = 2 := by omega
    have n_52 : ¬ (S.2 8 (S.1 39).toNat) = 3 := by omega
    have n_53 : ¬ (S.2 8 (S.1 39).toNat) = 4 := by omega
    have n_54 : ¬ (S.2 8 (S.1 39).toNat) = 5 := by omega
    have n_55 : ¬ (S.2 8 (S.1 39).toNat) = 6 := by omega
    have n_56 : ¬ (S.2 8 (S.1 39).toNat) = 7 := by omega
    refine z_tableIn (tgt := 153) (off := 135) B.1 B.2.1 (zr_of (by omega) (by omega)) dX7_order_18 (by omega) (by omega) (by rw [c_1]; rfl) (by decide) ?_
    refine lv_aload_n B.1 B.2.1 dX7_order_153 rfl (lv_at hl 1 rfl) ?_
    refine m_get (x := S.1 38) B (i7 _) hK hM 38 (by decide) rfl rfl (List.mem_cons_of_mem _ w7_fRX7_216) dX7_order_154 ?_
    refine z_joinH (P := fun v H' locs' => v = (if (S.1 38) = 0 then 1 else (if (M_has 2 S) = 0 then 0 else (if (S.2 3 ((S.1 38) - 1).toNat) = 47 then 1 else 0 : Int) : Int) : Int) ∧ mH D cy o q (mA o q) s.heap (mi S 39 ((S.1 39) + 1)) H' locs') (pcJ := 189) (lsJ := ls) (stJ := []) (fun v_57 H locs hv_58 => ?_) (fun hJ_59 => ?_)
    · --
      obtain ⟨hv_58, hM⟩ := hv_58
      have hb_60 : (if (S.1 38) = 0 then 1 else (if (M_has 2 S) = 0 then 0 else (if (S.2 3 ((S.1 38) - 1).toNat) = 47 then 1 else 0 : Int) : Int) : Int) = 0 ∨ (if (S.1 38) = 0 then 1 else (if (M_has 2 S) = 0 then 0 else (if (S.2 3 ((S.1 38) - 1).toNat) = 47 then 1 else 0 : Int) : Int) : Int) = 1 := by (repeat' split) <;> simp
      have hv_58 := hv_58.symm
      subst hv_58
      have hq : M_order S = ((if (S.1 38) = 0 then 1 else (if (M_has 2 S) = 0 then 0 else (if (S.2 3 ((S.1 38) - 1).toNat) = 47 then 1 else 0 : Int) : Int) : Int), (mi S 39 ((S.1 39) + 1))) := by unfold M_order; exact ((if_neg n_50).trans ((if_neg n_51).trans ((if_neg n_52).trans ((if_neg n_53).trans ((if_neg n_54).trans ((if_neg n_55).trans ((if_neg n_56).trans (if_pos c_1))))))))
      exact m_retz B hM (by omega) (⟨(congrArg Prod.fst hq).symm, (congrArg Prod.snd hq).symm⟩) dX7_order_189
    · --
      refine z_if_eq (tgt := 184) B.1 B.2.1 (zr_of (by omega) (by omega)) dX7_order_157 (by decide) (fun c_61 => ?_) (fun c_61 => ?_)
      · --
        refine z_iconst B.1 B.2.1 dX7_order_184 ?_
        refine lv_goto (tgt := 189) B.1 B.2.1 dX7_order_185 (by decide) ?_
        exact hJ_59 _ _ _ ⟨(if_pos c_61).symm, hM⟩
      · --
        refine lv_aload_n B.1 B.2.1 dX7_order_160 rfl (lv_at hl 1 rfl) ?_
        refine z_iconst B.1 B.2.1 dX7_order_161 ?_
        refine m_calli (As := [.int (zI 2)]) (rest := []) B hK hM (cX7_has_ok l D cy o q (mi S 39 ((S.1 39) + 1)) 2 (by show 0 ≤ 2; omega) (by show 2 ≤ 7; omega) (by show 0 ≤ (S.1 6); omega) (by show (S.1 6) ≤ 7; omega)) (cw7 1 B w7_mRX7_209 w7_im_yX7_has w7_sl_yX7_has w7_cd_yX7_has rfl rfl (by decide +kernel) ⟨Nat.le_of_ble_eq_true rfl, Nat.le_of_ble_eq_true rfl⟩) rfl hl.1 rfl (Nat.le_of_ble_eq_true rfl) dX7_order_162 ⟨Nat.zero_le _, Nat.zero_le _⟩ (fun z_64 S_63 H locs hp_62 hM => ?_)
        obtain ⟨hp_62, he_hp_62⟩ := hp_62
        have he_hp_62 := he_hp_62.symm
        subst he_hp_62
        have hp_62 : M_has 2 S = z_64 := hp_62.symm
        subst hp_62
        have f_65 := M_has_01 2 S
        refine z_if_eq (tgt := 188) B.1 B.2.1 (zr_of (by omega) (by omega)) dX7_order_165 (by decide) (fun c_66 => ?_) (fun c_66 => ?_)
        · --
          refine z_iconst B.1 B.2.1 dX7_order_188 ?_
          exact hJ_59 _ _ _ ⟨((if_neg c_61).trans (if_pos c_66)).symm, hM⟩
        · --
          refine lv_aload_n B.1 B.2.1 dX7_order_168 rfl (lv_at hl 1 rfl) ?_
          refine m_getr B (i7 _) hK hM 3 (by decide) rfl (List.mem_cons_of_mem _ w7_fRX7_13) dX7_order_169 ?_
          refine lv_aload_n B.1 B.2.1 dX7_order_172 rfl (lv_at hl 1 rfl) ?_
          refine m_get (x := S.1 38) B (i7 _) hK hM 38 (by decide) rfl rfl (List.mem_cons_of_mem _ w7_fRX7_216) dX7_order_173 ?_
          refine z_iconst B.1 B.2.1 dX7_order_176 ?_
          refine z_isub (x := (S.1 38) - 1) B.1 B.2.1 rfl dX7_order_177 ?_
          have f_67 := htx ((S.1 38) - 1).toNat
          refine m_cald (x := S.2 3 ((S.1 38) - 1).toNat) B hK hM 1 3 rfl rfl (by omega) (by simp only [mN]; omega) rfl dX7_order_178 ?_
          refine z_bipush B.1 B.2.1 (by decide) dX7_order_179 ?_
          refine z_icmp_ne (tgt := 188) B.1 B.2.1 (zr_of (by omega) (by omega)) (zr_of (by decide) (by decide)) dX7_order_181 (by decide) (fun c_68 => ?_) (fun c_68 => ?_)
          · --
            refine z_iconst B.1 B.2.1 dX7_order_188 ?_
            exact hJ_59 _ _ _ ⟨((if_neg c_61).trans ((if_neg c_66).trans (if_neg c_68))).symm, hM⟩
          · --
            refine z_iconst B.1 B.2.1 dX7_order_184 ?_
            refine lv_goto (tgt := 189) B.1 B.2.1 dX7_order_185 (by decide) ?_
            exact hJ_59 _ _ _ ⟨((if_neg c_61).trans ((if_neg c_66).trans (if_pos c_68))).symm, hM⟩
  · --
    have n_69 : ¬ (S.2 8 (S.1 39).toNat) = 1 := by omega
    have n_70 : ¬ (S.2 8 (S.1 39).toNat) = 2 := by omega
    have n_71 : ¬ (S.2 8 (S.1 39).toNat) = 3 := by omega
    have n_72 : ¬ (S.2 8 (S.1 39).toNat) = 4 := by omega
    have n_73 : ¬ (S.2 8 (S.1 39).toNat) = 5 := by omega
    have n_74 : ¬ (S.2 8 (S.1 39).toNat) = 6 := by omega
    have n_75 : ¬ (S.2 8 (S.1 39).toNat) = 7 := by omega
    have n_76 : ¬ (S.2 8 (S.1 39).toNat) = 8 := by omega
    refine z_tableIn (tgt := 190) (off := 172) B.1 B.2.1 (zr_of (by omega) (by omega)) dX7_order_18 (by omega) (by omega) (by rw [c_1]; rfl) (by decide) ?_
    refine lv_aload_n B.1 B.2.1 dX7_order_190 rfl (lv_at hl 1 rfl) ?_
    refine m_get (x := S.1 38) B (i7 _) hK hM 38 (by decide) rfl rfl (List.mem_cons_of_mem _ w7_fRX7_216) dX7_order_191 ?_
    refine lv_aload_n B.1 B.2.1 dX7_order_194 rfl (lv_at hl 1 rfl) ?_
    refine m_get (x := S.1 4) B (i7 _) hK hM 4 (by decide) rfl rfl (List.mem_cons_of_mem _ w7_fRX7_202) dX7_order_195 ?_
    refine z_joinH (P := fun v H' locs' => v = (if (S.1 38) = (S.1 4) then 1 else (if (M_has 2 S) = 0 then 0 else (if (S.2 3 (S.1 38).toNat) = 47 then 1 else 0 : Int) : Int) : Int) ∧ mH D cy o q (mA o q) s.heap (mi S 39 ((S.1 39) + 1)) H' locs') (pcJ := 228) (lsJ := ls) (stJ := []) (fun v_77 H locs hv_78 => ?_) (fun hJ_79 => ?_)
    · --
      obtain ⟨hv_78, hM⟩ := hv_78
      have hb_80 : (if (S.1 38) = (S.1 4) then 1 else (if (M_has 2 S) = 0 then 0 else (if (S.2 3 (S.1 38).toNat) = 47 then 1 else 0 : Int) : Int) : Int) = 0 ∨ (if (S.1 38) = (S.1 4) then 1 else (if (M_has 2 S) = 0 then 0 else (if (S.2 3 (S.1 38).toNat) = 47 then 1 else 0 : Int) : Int) : Int) = 1 := by (repeat' split) <;> simp
      have hv_78 := hv_78.symm
      subst hv_78
      have hq : M_order S = ((if (S.1 38) = (S.1 4) then 1 else (if (M_has 2 S) = 0 then 0 else (if (S.2 3 (S.1 38).toNat) = 47 then 1 else 0 : Int) : Int) : Int), (mi S 39 ((S.1 39) + 1))) := by unfold M_order; exact ((if_neg n_69).trans ((if_neg n_70).trans ((if_neg n_71).trans ((if_neg n_72).trans ((if_neg n_73).trans ((if_neg n_74).trans ((if_neg n_75).trans ((if_neg n_76).trans (if_pos c_1)))))))))
      exact m_retz B hM (by omega) (⟨(congrArg Prod.fst hq).symm, (congrArg Prod.snd hq).symm⟩) dX7_order_228
    · --
      refine z_icmp_eq (tgt := 223) B.1 B.2.1 (zr_of (by omega) (by omega)) (zr_of (by omega) (by omega)) dX7_order_198 (by decide) (fun c_81 => ?_) (fun c_81 => ?_)
      · --
        refine z_iconst B.1 B.2.1 dX7_order_223 ?_
        refine lv_goto (tgt := 228) B.1 B.2.1 dX7_order_224 (by decide) ?_
        exact hJ_79 _ _ _ ⟨(if_pos c_81).symm, hM⟩
      · --
        refine lv_aload_n B.1 B.2.1 dX7_order_201 rfl (lv_at hl 1 rfl) ?_
        refine z_iconst B.1 B.2.1 dX7_order_202 ?_
        refine m_calli (As := [.int (zI 2)]) (rest := []) B hK hM (cX7_has_ok l D cy o q (mi S 39 ((S.1 39) + 1)) 2 (by show 0 ≤ 2; omega) (by show 2 ≤ 7; omega) (by show 0 ≤ (S.1 6); omega) (by show (S.1 6) ≤ 7; omega)) (cw7 1 B w7_mRX7_209 w7_im_yX7_has w7_sl_yX7_has w7_cd_yX7_has rfl rfl (by decide +kernel) ⟨Nat.le_of_ble_eq_true rfl, Nat.le_of_ble_eq_true rfl⟩) rfl hl.1 rfl (Nat.le_of_ble_eq_true rfl) dX7_order_203 ⟨Nat.zero_le _, Nat.zero_le _⟩ (fun z_84 S_83 H locs hp_82 hM => ?_)
        obtain ⟨hp_82, he_hp_82⟩ := hp_82
        have he_hp_82 := he_hp_82.symm
        subst he_hp_82
        have hp_82 : M_has 2 S = z_84 := hp_82.symm
        subst hp_82
        have f_85 := M_has_01 2 S
        refine z_if_eq (tgt := 227) B.1 B.2.1 (zr_of (by omega) (by omega)) dX7_order_206 (by decide) (fun c_86 => ?_) (fun c_86 => ?_)
        · --
          refine z_iconst B.1 B.2.1 dX7_order_227 ?_
          exact hJ_79 _ _ _ ⟨((if_neg c_81).trans (if_pos c_86)).symm, hM⟩
        · --
          refine lv_aload_n B.1 B.2.1 dX7_order_209 rfl (lv_at hl 1 rfl) ?_
          refine m_getr B (i7 _) hK hM 3 (by decide) rfl (List.mem_cons_of_mem _ w7_fRX7_13) dX7_order_210 ?_
          refine lv_aload_n B.1 B.2.1 dX7_order_213 rfl (lv_at hl 1 rfl) ?_
          refine m_get (x := S.1 38) B (i7 _) hK hM 38 (by decide) rfl rfl (List.mem_cons_of_mem _ w7_fRX7_216) dX7_order_214 ?_
          have f_87 := htx (S.1 38).toNat
          refine m_cald (x := S.2 3 (S.1 38).toNat) B hK hM 1 3 rfl rfl (by omega) (by simp only [mN]; omega) rfl dX7_order_217 ?_
          refine z_bipush B.1 B.2.1 (by decide) dX7_order_218 ?_
          refine z_icmp_ne (tgt := 227) B.1 B.2.1 (zr_of (by omega) (by omega)) (zr_of (by decide) (by decide)) dX7_order_220 (by decide) (fun c_88 => ?_) (fun c_88 => ?_)
          · --
            refine z_iconst B.1 B.2.1 dX7_order_227 ?_
            exact hJ_79 _ _ _ ⟨((if_neg c_81).trans ((if_neg c_86).trans (if_neg c_88))).symm, hM⟩
          · --
            refine z_iconst B.1 B.2.1 dX7_order_223 ?_
            refine lv_goto (tgt := 228) B.1 B.2.1 dX7_order_224 (by decide) ?_
            exact hJ_79 _ _ _ ⟨((if_neg c_81).trans ((if_neg c_86).trans (if_pos c_88))).symm, hM⟩
  · --
    have n_89 : ¬ (S.2 8 (S.1 39).toNat) = 1 := by omega
    have n_90 : ¬ (S.2 8 (S.1 39).toNat) = 2 := by omega
    have n_91 : ¬ (S.2 8 (S.1 39).toNat) = 3 := by omega
    have n_92 : ¬ (S.2 8 (S.1 39).toNat) = 4 := by omega
    have n_93 : ¬ (S.2 8 (S.1 39).toNat) = 5 := by omega
    have n_94 : ¬ (S.2 8 (S.1 39).toNat) = 6 := by omega
    have n_95 : ¬ (S.2 8 (S.1 39).toNat) = 7 := by omega
    have n_96 : ¬ (S.2 8 (S.1 39).toNat) = 8 := by omega
    have n_97 : ¬ (S.2 8 (S.1 39).toNat) = 9 := by omega
    refine z_tableIn (tgt := 229) (off := 211) B.1 B.2.1 (zr_of (by omega) (by omega)) dX7_order_18 (by omega) (by omega) (by rw [c_1]; rfl) (by decide) ?_
    obtain ⟨h10a, h10b⟩ := hh10 (by omega)
    refine lv_aload_n B.1 B.2.1 dX7_order_229 rfl (lv_at hl 1 rfl) ?_
    refine z_bipush B.1 B.2.1 (by decide) dX7_order_230 ?_
    refine lv_aload_n B.1 B.2.1 dX7_order_232 rfl (lv_at hl 1 rfl) ?_
    refine m_getr B (i7 _) hK hM 9 (by decide) rfl (List.mem_cons_of_mem _ w7_fRX7_23) dX7_order_233 ?_
    refine lv_iload_n B.1 B.2.1 dX7_order_236 rfl (lv_at hl 0 rfl) ?_
    refine m_iald (x := S.2 9 (S.1 39).toNat) B hK hM 4 9 rfl rfl (by omega) (by simp only [mN]; omega) rfl dX7_order_237 ?_
    refine z_iadd (x := 20 + (S.2 9 (S.1 39).toNat)) B.1 B.2.1 rfl dX7_order_238 ?_
    refine lv_aload_n B.1 B.2.1 dX7_order_239 rfl (lv_at hl 1 rfl) ?_
    refine m_get (x := S.1 38) B (i7 _) hK hM 38 (by decide) rfl rfl (List.mem_cons_of_mem _ w7_fRX7_216) dX7_order_240 ?_
    refine m_callv (As := [.int (zI (20 + (S.2 9 (S.1 39).toNat))), .int (zI (S.1 38))]) (rest := []) B hK hM (cX7_put_ok l D cy o q (mi S 39 ((S.1 39) + 1)) (20 + (S.2 9 (S.1 39).toNat)) (S.1 38) (by show 0 ≤ (20 + (S.2 9 (S.1 39).toNat)); omega) (by show (20 + (S.2 9 (S.1 39).toNat)) < 180; omega) (by show -100000 ≤ (S.1 38); omega) (by show (S.1 38) ≤ 100000; omega) (by show 0 ≤ (S.1 35); omega) (by show (S.1 35) < 6000; omega) (hr _).1 (hr _).2) (cw7 2 B w7_mRX7_241 w7_im_yX7_put w7_sl_yX7_put w7_cd_yX7_put rfl rfl (by decide +kernel) ⟨Nat.le_of_ble_eq_true rfl, Nat.le_of_ble_eq_true rfl⟩) rfl hl.1 rfl (Nat.le_of_ble_eq_true rfl) dX7_order_243 ⟨Nat.zero_le _, Nat.zero_le _⟩ (fun S_99 H locs hp_98 hM => ?_)
    have hp_98 := hp_98.symm
    subst hp_98
    have f_101 : (S.1 35) ≤ (M_put (20 + (S.2 9 (S.1 39).toNat)) (S.1 38) (mi S 39 ((S.1 39) + 1))).1 35 ∧ (M_put (20 + (S.2 9 (S.1 39).toNat)) (S.1 38) (mi S 39 ((S.1 39) + 1))).1 35 ≤ (S.1 35) + 1 := M_put_35 (20 + (S.2 9 (S.1 39).toNat)) (S.1 38) (mi S 39 ((S.1 39) + 1))
    have hr_100 := M_put_reg (r := (20 + (S.2 9 (S.1 39).toNat))) (v := (S.1 38)) (S := (mi S 39 ((S.1 39) + 1))) hr (by omega) (by omega)
    refine z_iconst B.1 B.2.1 dX7_order_246 ?_
    have hq : M_order S = (1, (M_put (20 + (S.2 9 (S.1 39).toNat)) (S.1 38) (mi S 39 ((S.1 39) + 1)))) := by unfold M_order; exact ((if_neg n_89).trans ((if_neg n_90).trans ((if_neg n_91).trans ((if_neg n_92).trans ((if_neg n_93).trans ((if_neg n_94).trans ((if_neg n_95).trans ((if_neg n_96).trans ((if_neg n_97).trans (if_pos c_1))))))))))
    exact m_retz B hM (by decide) (⟨(congrArg Prod.fst hq).symm, (congrArg Prod.snd hq).symm⟩) dX7_order_247
  · --
    have n_102 : ¬ (S.2 8 (S.1 39).toNat) = 1 := by omega
    have n_103 : ¬ (S.2 8 (S.1 39).toNat) = 2 := by omega
    have n_104 : ¬ (S.2 8 (S.1 39).toNat) = 3 := by omega
    have n_105 : ¬ (S.2 8 (S.1 39).toNat) = 4 := by omega
    have n_106 : ¬ (S.2 8 (S.1 39).toNat) = 5 := by omega
    have n_107 : ¬ (S.2 8 (S.1 39).toNat) = 6 := by omega
    have n_108 : ¬ (S.2 8 (S.1 39).toNat) = 7 := by omega
    have n_109 : ¬ (S.2 8 (S.1 39).toNat) = 8 := by omega
    have n_110 : ¬ (S.2 8 (S.1 39).toNat) = 9 := by omega
    have n_111 : ¬ (S.2 8 (S.1 39).toNat) = 10 := by omega
    refine z_tableIn (tgt := 248) (off := 230) B.1 B.2.1 (zr_of (by omega) (by omega)) dX7_order_18 (by omega) (by omega) (by rw [c_1]; rfl) (by decide) ?_
    obtain ⟨h11a, h11b⟩ := hh10 (by omega)
    have hr8 := hr (20 + S.2 9 (S.1 39).toNat).toNat
    refine lv_aload_n B.1 B.2.1 dX7_order_248 rfl (lv_at hl 1 rfl) ?_
    refine lv_aload_n B.1 B.2.1 dX7_order_249 rfl (lv_at hl 1 rfl) ?_
    refine m_getr B (i7 _) hK hM 9 (by decide) rfl (List.mem_cons_of_mem _ w7_fRX7_23) dX7_order_250 ?_
    refine lv_iload_n B.1 B.2.1 dX7_order_253 rfl (lv_at hl 0 rfl) ?_
    refine m_iald (x := S.2 9 (S.1 39).toNat) B hK hM 4 9 rfl rfl (by omega) (by simp only [mN]; omega) rfl dX7_order_254 ?_
    refine lv_aload_n B.1 B.2.1 dX7_order_255 rfl (lv_at hl 1 rfl) ?_
    refine m_getr B (i7 _) hK hM 33 (by decide) rfl (List.mem_cons_of_mem _ w7_fRX7_65) dX7_order_256 ?_
    refine z_bipush B.1 B.2.1 (by decide) dX7_order_259 ?_
    refine lv_aload_n B.1 B.2.1 dX7_order_261 rfl (lv_at hl 1 rfl) ?_
    refine m_getr B (i7 _) hK hM 9 (by decide) rfl (List.mem_cons_of_mem _ w7_fRX7_23) dX7_order_262 ?_
    refine lv_iload_n B.1 B.2.1 dX7_order_265 rfl (lv_at hl 0 rfl) ?_
    refine m_iald (x := S.2 9 (S.1 39).toNat) B hK hM 4 9 rfl rfl (by omega) (by simp only [mN]; omega) rfl dX7_order_266 ?_
    refine z_iadd (x := 20 + (S.2 9 (S.1 39).toNat)) B.1 B.2.1 rfl dX7_order_267 ?_
    refine m_iald (x := S.2 33 (20 + (S.2 9 (S.1 39).toNat)).toNat) B hK hM 18 33 rfl rfl (by omega) (by simp only [mN]; omega) rfl dX7_order_268 ?_
    refine m_callv (As := [.int (zI (S.2 9 (S.1 39).toNat)), .int (zI (S.2 33 (20 + (S.2 9 (S.1 39).toNat)).toNat))]) (rest := []) B hK hM (cX7_put_ok l D cy o q (mi S 39 ((S.1 39) + 1)) (S.2 9 (S.1 39).toNat) (S.2 33 (20 + (S.2 9 (S.1 39).toNat)).toNat) (by show 0 ≤ (S.2 9 (S.1 39).toNat); omega) (by show (S.2 9 (S.1 39).toNat) < 180; omega) (by show -100000 ≤ (S.2 33 (20 + (S.2 9 (S.1 39).toNat)).toNat); omega) (by show (S.2 33 (20 + (S.2 9 (S.1 39).toNat)).toNat) ≤ 100000; omega) (by show 0 ≤ (S.1 35); omega) (by show (S.1 35) < 6000; omega) (hr _).1 (hr _).2) (cw7 2 B w7_mRX7_241 w7_im_yX7_put w7_sl_yX7_put w7_cd_yX7_put rfl rfl (by decide +kernel) ⟨Nat.le_of_ble_eq_true rfl, Nat.le_of_ble_eq_true rfl⟩) rfl hl.1 rfl (Nat.le_of_ble_eq_true rfl) dX7_order_269 ⟨Nat.zero_le _, Nat.zero_le _⟩ (fun S_113 H locs hp_112 hM => ?_)
    have hp_112 := hp_112.symm
    subst hp_112
    have f_115 : (S.1 35) ≤ (M_put (S.2 9 (S.1 39).toNat) (S.2 33 (20 + (S.2 9 (S.1 39).toNat)).toNat) (mi S 39 ((S.1 39) + 1))).1 35 ∧ (M_put (S.2 9 (S.1 39).toNat) (S.2 33 (20 + (S.2 9 (S.1 39).toNat)).toNat) (mi S 39 ((S.1 39) + 1))).1 35 ≤ (S.1 35) + 1 := M_put_35 (S.2 9 (S.1 39).toNat) (S.2 33 (20 + (S.2 9 (S.1 39).toNat)).toNat) (mi S 39 ((S.1 39) + 1))
    have hr_114 := M_put_reg (r := (S.2 9 (S.1 39).toNat)) (v := (S.2 33 (20 + (S.2 9 (S.1 39).toNat)).toNat)) (S := (mi S 39 ((S.1 39) + 1))) hr (by omega) (by omega)
    refine lv_aload_n B.1 B.2.1 dX7_order_272 rfl (lv_at hl 1 rfl) ?_
    refine z_bipush B.1 B.2.1 (by decide) dX7_order_273 ?_
    refine lv_aload_n B.1 B.2.1 dX7_order_275 rfl (lv_at hl 1 rfl) ?_
    refine m_getr B (i7 _) hK hM 9 (by decide) rfl (List.mem_cons_of_mem _ w7_fRX7_23) dX7_order_276 ?_
    refine lv_iload_n B.1 B.2.1 dX7_order_279 rfl (lv_at hl 0 rfl) ?_
    refine m_iald (x := S.2 9 (S.1 39).toNat) B hK hM 4 9 rfl rfl (by omega) (by simp only [mN]; omega) (by simp only [M_put_a9, mi_2]) dX7_order_280 ?_
    refine z_iadd (x := 10 + (S.2 9 (S.1 39).toNat)) B.1 B.2.1 rfl dX7_order_281 ?_
    refine lv_aload_n B.1 B.2.1 dX7_order_282 rfl (lv_at hl 1 rfl) ?_
    refine m_get (x := S.1 38) B (i7 _) hK hM 38 (by decide) rfl (by simp only [M_put_i38, mi_ne (show (38 : Nat) ≠ 39 by decide)]) (List.mem_cons_of_mem _ w7_fRX7_216) dX7_order_283 ?_
    refine m_callv (As := [.int (zI (10 + (S.2 9 (S.1 39).toNat))), .int (zI (S.1 38))]) (rest := []) B hK hM (cX7_put_ok l D cy o q (M_put (S.2 9 (S.1 39).toNat) (S.2 33 (20 + (S.2 9 (S.1 39).toNat)).toNat) (mi S 39 ((S.1 39) + 1))) (10 + (S.2 9 (S.1 39).toNat)) (S.1 38) (by show 0 ≤ (10 + (S.2 9 (S.1 39).toNat)); omega) (by show (10 + (S.2 9 (S.1 39).toNat)) < 180; omega) (by show -100000 ≤ (S.1 38); omega) (by show (S.1 38) ≤ 100000; omega) (by show 0 ≤ ((M_put (S.2 9 (S.1 39).toNat) (S.2 33 (20 + (S.2 9 (S.1 39).toNat)).toNat) (mi S 39 ((S.1 39) + 1))).1 35); omega) (by show ((M_put (S.2 9 (S.1 39).toNat) (S.2 33 (20 + (S.2 9 (S.1 39).toNat)).toNat) (mi S 39 ((S.1 39) + 1))).1 35) < 6000; omega) (hr_114 _).1 (hr_114 _).2) (cw7 2 B w7_mRX7_241 w7_im_yX7_put w7_sl_yX7_put w7_cd_yX7_put rfl rfl (by decide +kernel) ⟨Nat.le_of_ble_eq_true rfl, Nat.le_of_ble_eq_true rfl⟩) rfl hl.1 rfl (Nat.le_of_ble_eq_true rfl) dX7_order_286 ⟨Nat.zero_le _, Nat.zero_le _⟩ (fun S_117 H locs hp_116 hM => ?_)
    have hp_116 := hp_116.symm
    subst hp_116
    have f_119 : ((M_put (S.2 9 (S.1 39).toNat) (S.2 33 (20 + (S.2 9 (S.1 39).toNat)).toNat) (mi S 39 ((S.1 39) + 1))).1 35) ≤ (M_put (10 + (S.2 9 (S.1 39).toNat)) (S.1 38) (M_put (S.2 9 (S.1 39).toNat) (S.2 33 (20 + (S.2 9 (S.1 39).toNat)).toNat) (mi S 39 ((S.1 39) + 1)))).1 35 ∧ (M_put (10 + (S.2 9 (S.1 39).toNat)) (S.1 38) (M_put (S.2 9 (S.1 39).toNat) (S.2 33 (20 + (S.2 9 (S.1 39).toNat)).toNat) (mi S 39 ((S.1 39) + 1)))).1 35 ≤ ((M_put (S.2 9 (S.1 39).toNat) (S.2 33 (20 + (S.2 9 (S.1 39).toNat)).toNat) (mi S 39 ((S.1 39) + 1))).1 35) + 1 := M_put_35 (10 + (S.2 9 (S.1 39).toNat)) (S.1 38) (M_put (S.2 9 (S.1 39).toNat) (S.2 33 (20 + (S.2 9 (S.1 39).toNat)).toNat) (mi S 39 ((S.1 39) + 1)))
    have hr_118 := M_put_reg (r := (10 + (S.2 9 (S.1 39).toNat))) (v := (S.1 38)) (S := (M_put (S.2 9 (S.1 39).toNat) (S.2 33 (20 + (S.2 9 (S.1 39).toNat)).toNat) (mi S 39 ((S.1 39) + 1)))) hr_114 (by omega) (by omega)
    refine z_iconst B.1 B.2.1 dX7_order_289 ?_
    have hq : M_order S = (1, (M_put (10 + (S.2 9 (S.1 39).toNat)) (S.1 38) (M_put (S.2 9 (S.1 39).toNat) (S.2 33 (20 + (S.2 9 (S.1 39).toNat)).toNat) (mi S 39 ((S.1 39) + 1))))) := by unfold M_order; exact ((if_neg n_102).trans ((if_neg n_103).trans ((if_neg n_104).trans ((if_neg n_105).trans ((if_neg n_106).trans ((if_neg n_107).trans ((if_neg n_108).trans ((if_neg n_109).trans ((if_neg n_110).trans ((if_neg n_111).trans (if_pos c_1)))))))))))
    exact m_retz B hM (by decide) (⟨(congrArg Prod.fst hq).symm, (congrArg Prod.snd hq).symm⟩) dX7_order_290
  · --
    have n_120 : ¬ (S.2 8 (S.1 39).toNat) = 1 := by omega
    have n_121 : ¬ (S.2 8 (S.1 39).toNat) = 2 := by omega
    have n_122 : ¬ (S.2 8 (S.1 39).toNat) = 3 := by omega
    have n_123 : ¬ (S.2 8 (S.1 39).toNat) = 4 := by omega
    have n_124 : ¬ (S.2 8 (S.1 39).toNat) = 5 := by omega
    have n_125 : ¬ (S.2 8 (S.1 39).toNat) = 6 := by omega
    have n_126 : ¬ (S.2 8 (S.1 39).toNat) = 7 := by omega
    have n_127 : ¬ (S.2 8 (S.1 39).toNat) = 8 := by omega
    have n_128 : ¬ (S.2 8 (S.1 39).toNat) = 9 := by omega
    have n_129 : ¬ (S.2 8 (S.1 39).toNat) = 10 := by omega
    have n_130 : ¬ (S.2 8 (S.1 39).toNat) = 11 := by omega
    refine z_tableIn (tgt := 291) (off := 273) B.1 B.2.1 (zr_of (by omega) (by omega)) dX7_order_18 (by omega) (by omega) (by rw [c_1]; rfl) (by decide) ?_
    obtain ⟨h12a, h12b⟩ := hh12 (by omega)
    refine lv_aload_n B.1 B.2.1 dX7_order_291 rfl (lv_at hl 1 rfl) ?_
    refine m_getr B (i7 _) hK hM 33 (by decide) rfl (List.mem_cons_of_mem _ w7_fRX7_65) dX7_order_292 ?_
    refine z_sipush B.1 B.2.1 (by decide) dX7_order_295 ?_
    refine lv_aload_n B.1 B.2.1 dX7_order_298 rfl (lv_at hl 1 rfl) ?_
    refine m_getr B (i7 _) hK hM 11 (by decide) rfl (List.mem_cons_of_mem _ w7_fRX7_29) dX7_order_299 ?_
    refine lv_iload_n B.1 B.2.1 dX7_order_302 rfl (lv_at hl 0 rfl) ?_
    refine m_iald (x := S.2 11 (S.1 39).toNat) B hK hM 6 11 rfl rfl (by omega) (by simp only [mN]; omega) rfl dX7_order_303 ?_
    refine z_iadd (x := 130 + (S.2 11 (S.1 39).toNat)) B.1 B.2.1 rfl dX7_order_304 ?_
    refine lv_aload_n B.1 B.2.1 dX7_order_305 rfl (lv_at hl 1 rfl) ?_
    refine m_get (x := S.1 37) B (i7 _) hK hM 37 (by decide) rfl rfl (List.mem_cons_of_mem _ w7_fRX7_228) dX7_order_306 ?_
    refine m_iast B hK hM 18 33 rfl rfl (by omega) (by simp only [mN]; omega) dX7_order_309 (fun H locs hM => ?_)
    refine lv_aload_n B.1 B.2.1 dX7_order_310 rfl (lv_at hl 1 rfl) ?_
    refine z_iconst B.1 B.2.1 dX7_order_311 ?_
    refine lv_iload_n B.1 B.2.1 dX7_order_312 rfl (lv_at hl 0 rfl) ?_
    refine m_callv (As := [.int (zI 2), .int (zI (S.1 39))]) (rest := []) B hK hM (cX7_choose_ok l D cy o q (ma (mi S 39 ((S.1 39) + 1)) 33 (130 + (S.2 11 (S.1 39).toNat)).toNat (S.1 37)) 2 (S.1 39) (by show 0 ≤ (S.1 37); omega) (by show (S.1 37) < 3000; omega)) (cw7 2 B w7_mRX7_244 w7_im_yX7_choose w7_sl_yX7_choose w7_cd_yX7_choose rfl rfl (by decide +kernel) ⟨Nat.le_of_ble_eq_true rfl, Nat.le_of_ble_eq_true rfl⟩) rfl hl.1 rfl (Nat.le_of_ble_eq_true rfl) dX7_order_313 ⟨Nat.zero_le _, Nat.zero_le _⟩ (fun S_132 H locs hp_131 hM => ?_)
    have hp_131 := hp_131.symm
    subst hp_131
    refine z_iconst B.1 B.2.1 dX7_order_316 ?_
    have hq : M_order S = (1, (M_choose 2 (S.1 39) (ma (mi S 39 ((S.1 39) + 1)) 33 (130 + (S.2 11 (S.1 39).toNat)).toNat (S.1 37)))) := by unfold M_order; exact ((if_neg n_120).trans ((if_neg n_121).trans ((if_neg n_122).trans ((if_neg n_123).trans ((if_neg n_124).trans ((if_neg n_125).trans ((if_neg n_126).trans ((if_neg n_127).trans ((if_neg n_128).trans ((if_neg n_129).trans ((if_neg n_130).trans (if_pos c_1))))))))))))
    exact m_retz B hM (by decide) (⟨(congrArg Prod.fst hq).symm, (congrArg Prod.snd hq).symm⟩) dX7_order_317
  · --
    have n_133 : ¬ (S.2 8 (S.1 39).toNat) = 1 := by omega
    have n_134 : ¬ (S.2 8 (S.1 39).toNat) = 2 := by omega
    have n_135 : ¬ (S.2 8 (S.1 39).toNat) = 3 := by omega
    have n_136 : ¬ (S.2 8 (S.1 39).toNat) = 4 := by omega
    have n_137 : ¬ (S.2 8 (S.1 39).toNat) = 5 := by omega
    have n_138 : ¬ (S.2 8 (S.1 39).toNat) = 6 := by omega
    have n_139 : ¬ (S.2 8 (S.1 39).toNat) = 7 := by omega
    have n_140 : ¬ (S.2 8 (S.1 39).toNat) = 8 := by omega
    have n_141 : ¬ (S.2 8 (S.1 39).toNat) = 9 := by omega
    have n_142 : ¬ (S.2 8 (S.1 39).toNat) = 10 := by omega
    have n_143 : ¬ (S.2 8 (S.1 39).toNat) = 11 := by omega
    have n_144 : ¬ (S.2 8 (S.1 39).toNat) = 12 := by omega
    refine z_tableIn (tgt := 318) (off := 300) B.1 B.2.1 (zr_of (by omega) (by omega)) dX7_order_18 (by omega) (by omega) (by rw [c_1]; rfl) (by decide) ?_
    have h13 := hh13 (by omega)
    refine lv_aload_n B.1 B.2.1 dX7_order_318 rfl (lv_at hl 1 rfl) ?_
    refine lv_iload_n B.1 B.2.1 dX7_order_319 rfl (lv_at hl 0 rfl) ?_
    refine m_callv (As := [.int (zI (S.1 39))]) (rest := []) B hK hM (cX7_looked_ok l D cy o q (mi S 39 ((S.1 39) + 1)) (S.1 39) (by show 0 ≤ (S.1 39); omega) (by show (S.1 39) < 220; omega) h13.1 h13.2.1 h13.2.2.1 h13.2.2.2.1 h13.2.2.2.2.1 h13.2.2.2.2.2) (cw7 1 B w7_mRX7_259 w7_im_yX7_looked w7_sl_yX7_looked w7_cd_yX7_looked rfl rfl (by decide +kernel) ⟨Nat.le_of_ble_eq_true rfl, Nat.le_of_ble_eq_true rfl⟩) rfl hl.1 rfl (Nat.le_of_ble_eq_true rfl) dX7_order_320 ⟨Nat.zero_le _, Nat.zero_le _⟩ (fun S_146 H locs hp_145 hM => ?_)
    have hp_145 := hp_145.symm
    subst hp_145
    refine lv_aload_n B.1 B.2.1 dX7_order_323 rfl (lv_at hl 1 rfl) ?_
    refine m_getr B (i7 _) hK hM 10 (by decide) rfl (List.mem_cons_of_mem _ w7_fRX7_26) dX7_order_324 ?_
    refine lv_iload_n B.1 B.2.1 dX7_order_327 rfl (lv_at hl 0 rfl) ?_
    refine m_iald (x := S.2 10 (S.1 39).toNat) B hK hM 5 10 rfl rfl (by omega) (by simp only [mN]; omega) rfl dX7_order_328 ?_
    refine z_iconst B.1 B.2.1 dX7_order_329 ?_
    refine z_joinH (P := fun v H' locs' => v = (if (S.2 10 (S.1 39).toNat) = 1 then 1 else 0 : Int) ∧ mH D cy o q (mA o q) s.heap (M_looked (S.1 39) (mi S 39 ((S.1 39) + 1))) H' locs') (pcJ := 338) (lsJ := ls) (stJ := []) (fun v_147 H locs hv_148 => ?_) (fun hJ_149 => ?_)
    · --
      obtain ⟨hv_148, hM⟩ := hv_148
      have hb_150 : (if (S.2 10 (S.1 39).toNat) = 1 then 1 else 0 : Int) = 0 ∨ (if (S.2 10 (S.1 39).toNat) = 1 then 1 else 0 : Int) = 1 := by (repeat' split) <;> simp
      have hv_148 := hv_148.symm
      subst hv_148
      have hq : M_order S = ((if (S.2 10 (S.1 39).toNat) = 1 then 1 else 0 : Int), (M_looked (S.1 39) (mi S 39 ((S.1 39) + 1)))) := by unfold M_order; exact ((if_neg n_133).trans ((if_neg n_134).trans ((if_neg n_135).trans ((if_neg n_136).trans ((if_neg n_137).trans ((if_neg n_138).trans ((if_neg n_139).trans ((if_neg n_140).trans ((if_neg n_141).trans ((if_neg n_142).trans ((if_neg n_143).trans ((if_neg n_144).trans (if_pos c_1)))))))))))))
      exact m_retz B hM (by omega) (⟨(congrArg Prod.fst hq).symm, (congrArg Prod.snd hq).symm⟩) dX7_order_338
    · --
      refine z_icmp_ne (tgt := 337) B.1 B.2.1 (zr_of (by omega) (by omega)) (zr_of (by decide) (by decide)) dX7_order_330 (by decide) (fun c_151 => ?_) (fun c_151 => ?_)
      · --
        refine z_iconst B.1 B.2.1 dX7_order_337 ?_
        exact hJ_149 _ _ _ ⟨(if_neg c_151).symm, hM⟩
      · --
        refine z_iconst B.1 B.2.1 dX7_order_333 ?_
        refine lv_goto (tgt := 338) B.1 B.2.1 dX7_order_334 (by decide) ?_
        exact hJ_149 _ _ _ ⟨(if_pos c_151).symm, hM⟩
  · --
    have n_152 : ¬ (S.2 8 (S.1 39).toNat) = 1 := by omega
    have n_153 : ¬ (S.2 8 (S.1 39).toNat) = 2 := by omega
    have n_154 : ¬ (S.2 8 (S.1 39).toNat) = 3 := by omega
    have n_155 : ¬ (S.2 8 (S.1 39).toNat) = 4 := by omega
    have n_156 : ¬ (S.2 8 (S.1 39).toNat) = 5 := by omega
    have n_157 : ¬ (S.2 8 (S.1 39).toNat) = 6 := by omega
    have n_158 : ¬ (S.2 8 (S.1 39).toNat) = 7 := by omega
    have n_159 : ¬ (S.2 8 (S.1 39).toNat) = 8 := by omega
    have n_160 : ¬ (S.2 8 (S.1 39).toNat) = 9 := by omega
    have n_161 : ¬ (S.2 8 (S.1 39).toNat) = 10 := by omega
    have n_162 : ¬ (S.2 8 (S.1 39).toNat) = 11 := by omega
    have n_163 : ¬ (S.2 8 (S.1 39).toNat) = 12 := by omega
    have n_164 : ¬ (S.2 8 (S.1 39).toNat) = 13 := by omega
    refine z_tableIn (tgt := 339) (off := 321) B.1 B.2.1 (zr_of (by omega) (by omega)) dX7_order_18 (by omega) (by omega) (by rw [c_1]; rfl) (by decide) ?_
    obtain ⟨e1, e2, e3, e4, e5, e6, e7, e8⟩ := hh14 (by omega)
    refine lv_aload_n B.1 B.2.1 dX7_order_339 rfl (lv_at hl 1 rfl) ?_
    refine z_bipush B.1 B.2.1 (by decide) dX7_order_340 ?_
    refine lv_aload_n B.1 B.2.1 dX7_order_342 rfl (lv_at hl 1 rfl) ?_
    refine m_getr B (i7 _) hK hM 11 (by decide) rfl (List.mem_cons_of_mem _ w7_fRX7_29) dX7_order_343 ?_
    refine lv_iload_n B.1 B.2.1 dX7_order_346 rfl (lv_at hl 0 rfl) ?_
    refine m_iald (x := S.2 11 (S.1 39).toNat) B hK hM 6 11 rfl rfl (by omega) (by simp only [mN]; omega) rfl dX7_order_347 ?_
    refine z_iadd (x := 30 + (S.2 11 (S.1 39).toNat)) B.1 B.2.1 rfl dX7_order_348 ?_
    refine z_iconst B.1 B.2.1 dX7_order_349 ?_
    refine m_callv (As := [.int (zI (30 + (S.2 11 (S.1 39).toNat))), .int (zI 0)]) (rest := []) B hK hM (cX7_put_ok l D cy o q (mi S 39 ((S.1 39) + 1)) (30 + (S.2 11 (S.1 39).toNat)) 0 (by show 0 ≤ (30 + (S.2 11 (S.1 39).toNat)); omega) (by show (30 + (S.2 11 (S.1 39).toNat)) < 180; omega) (by show -100000 ≤ 0; omega) (by show 0 ≤ 100000; omega) (by show 0 ≤ (S.1 35); omega) (by show (S.1 35) < 6000; omega) (hr _).1 (hr _).2) (cw7 2 B w7_mRX7_241 w7_im_yX7_put w7_sl_yX7_put w7_cd_yX7_put rfl rfl (by decide +kernel) ⟨Nat.le_of_ble_eq_true rfl, Nat.le_of_ble_eq_true rfl⟩) rfl hl.1 rfl (Nat.le_of_ble_eq_true rfl) dX7_order_350 ⟨Nat.zero_le _, Nat.zero_le _⟩ (fun S_166 H locs hp_165 hM => ?_)
    have hp_165 := hp_165.symm
    subst hp_165
    have f_168 : (S.1 35) ≤ (M_put (30 + (S.2 11 (S.1 39).toNat)) 0 (mi S 39 ((S.1 39) + 1))).1 35 ∧ (M_put (30 + (S.2 11 (S.1 39).toNat)) 0 (mi S 39 ((S.1 39) + 1))).1 35 ≤ (S.1 35) + 1 := M_put_35 (30 + (S.2 11 (S.1 39).toNat)) 0 (mi S 39 ((S.1 39) + 1))
    have hr_167 := M_put_reg (r := (30 + (S.2 11 (S.1 39).toNat))) (v := 0) (S := (mi S 39 ((S.1 39) + 1))) hr (by omega) (by omega)
    have hr9x : (M_put (30 + (S.2 11 (S.1 39).toNat)) 0 (mi S 39 ((S.1 39) + 1))).2 33 (30 + (M_put (30 + (S.2 11 (S.1 39).toNat)) 0 (mi S 39 ((S.1 39) + 1))).2 11 (S.1 39).toNat).toNat < 100000 := by
      rw [M_put_a11, M_put_33]
      show zu (S.2 33) (30 + S.2 11 (S.1 39).toNat).toNat 0 (30 + S.2 11 (S.1 39).toNat).toNat < 100000
      rw [zu_eq]; decide
    refine lv_aload_n B.1 B.2.1 dX7_order_353 rfl (lv_at hl 1 rfl) ?_
    refine lv_iload_n B.1 B.2.1 dX7_order_354 rfl (lv_at hl 0 rfl) ?_
    refine m_callv (As := [.int (zI (S.1 39))]) (rest := []) B hK hM (cX7_decide_ok l D cy o q (M_put (30 + (S.2 11 (S.1 39).toNat)) 0 (mi S 39 ((S.1 39) + 1))) (S.1 39) (by show 0 ≤ (S.1 39); omega) (by show (S.1 39) < 220; omega) (by (try simp only [M_put_a11, mi_2]); omega) (by (try simp only [M_put_a11, mi_2]); omega) (by (try simp only [M_put_a10, mi_2]); omega) (by (try simp only [M_put_a10, mi_2]); omega) (by (try simp only [M_put_a10, mi_2]); omega) (by (try simp only [M_put_i38, mi_ne (show (38 : Nat) ≠ 39 by decide)]); omega) (by (try simp only [M_put_i38, mi_ne (show (38 : Nat) ≠ 39 by decide)]); omega) (by show 0 ≤ ((M_put (30 + (S.2 11 (S.1 39).toNat)) 0 (mi S 39 ((S.1 39) + 1))).1 35); omega) (by show ((M_put (30 + (S.2 11 (S.1 39).toNat)) 0 (mi S 39 ((S.1 39) + 1))).1 35) ≤ 5900; omega) hr_167 hr9x (by (try simp only [M_put_i37, mi_ne (show (37 : Nat) ≠ 39 by decide)]); omega) (by (try simp only [M_put_i37, mi_ne (show (37 : Nat) ≠ 39 by decide)]); omega) (by (try simp only [M_put_a9, mi_2]); omega) (by (try simp only [M_put_a9, mi_2]); omega)) (cw7 1 B w7_mRX7_262 w7_im_yX7_decide w7_sl_yX7_decide w7_cd_yX7_decide rfl rfl (by decide +kernel) ⟨Nat.le_of_ble_eq_true rfl, Nat.le_of_ble_eq_true rfl⟩) rfl hl.1 rfl (Nat.le_of_ble_eq_true rfl) dX7_order_355 ⟨Nat.zero_le _, Nat.zero_le _⟩ (fun S_170 H locs hp_169 hM => ?_)
    have hp_169 := hp_169.symm
    subst hp_169
    refine z_iconst B.1 B.2.1 dX7_order_358 ?_
    have hq : M_order S = (1, (M_decide (S.1 39) (M_put (30 + (S.2 11 (S.1 39).toNat)) 0 (mi S 39 ((S.1 39) + 1))))) := by unfold M_order; exact ((if_neg n_152).trans ((if_neg n_153).trans ((if_neg n_154).trans ((if_neg n_155).trans ((if_neg n_156).trans ((if_neg n_157).trans ((if_neg n_158).trans ((if_neg n_159).trans ((if_neg n_160).trans ((if_neg n_161).trans ((if_neg n_162).trans ((if_neg n_163).trans ((if_neg n_164).trans (if_pos c_1))))))))))))))
    exact m_retz B hM (by decide) (⟨(congrArg Prod.fst hq).symm, (congrArg Prod.snd hq).symm⟩) dX7_order_359
  · --
    have n_171 : ¬ (S.2 8 (S.1 39).toNat) = 1 := by omega
    have n_172 : ¬ (S.2 8 (S.1 39).toNat) = 2 := by omega
    have n_173 : ¬ (S.2 8 (S.1 39).toNat) = 3 := by omega
    have n_174 : ¬ (S.2 8 (S.1 39).toNat) = 4 := by omega
    have n_175 : ¬ (S.2 8 (S.1 39).toNat) = 5 := by omega
    have n_176 : ¬ (S.2 8 (S.1 39).toNat) = 6 := by omega
    have n_177 : ¬ (S.2 8 (S.1 39).toNat) = 7 := by omega
    have n_178 : ¬ (S.2 8 (S.1 39).toNat) = 8 := by omega
    have n_179 : ¬ (S.2 8 (S.1 39).toNat) = 9 := by omega
    have n_180 : ¬ (S.2 8 (S.1 39).toNat) = 10 := by omega
    have n_181 : ¬ (S.2 8 (S.1 39).toNat) = 11 := by omega
    have n_182 : ¬ (S.2 8 (S.1 39).toNat) = 12 := by omega
    have n_183 : ¬ (S.2 8 (S.1 39).toNat) = 13 := by omega
    have n_184 : ¬ (S.2 8 (S.1 39).toNat) = 14 := by omega
    refine z_tableIn (tgt := 360) (off := 342) B.1 B.2.1 (zr_of (by omega) (by omega)) dX7_order_18 (by omega) (by omega) (by rw [c_1]; rfl) (by decide) ?_
    obtain ⟨e01, e02, e1, e2, e3, e4, e5, e6, e7, e8⟩ := hh15 (by omega)
    refine lv_aload_n B.1 B.2.1 dX7_order_360 rfl (lv_at hl 1 rfl) ?_
    refine lv_aload_n B.1 B.2.1 dX7_order_361 rfl (lv_at hl 1 rfl) ?_
    refine m_getr B (i7 _) hK hM 9 (by decide) rfl (List.mem_cons_of_mem _ w7_fRX7_23) dX7_order_362 ?_
    refine lv_iload_n B.1 B.2.1 dX7_order_365 rfl (lv_at hl 0 rfl) ?_
    refine m_iald (x := S.2 9 (S.1 39).toNat) B hK hM 4 9 rfl rfl (by omega) (by simp only [mN]; omega) rfl dX7_order_366 ?_
    refine m_calli (As := [.int (zI (S.2 9 (S.1 39).toNat))]) (rest := []) B hK hM (cX7_isIdle_ok l D cy o q (mi S 39 ((S.1 39) + 1)) (S.2 9 (S.1 39).toNat) (by show 0 ≤ (S.2 9 (S.1 39).toNat); omega) (by show (S.2 9 (S.1 39).toNat) < 220; omega) (by show 0 ≤ (S.2 11 (S.2 9 (S.1 39).toNat).toNat); omega) (by show (S.2 11 (S.2 9 (S.1 39).toNat).toNat) < 50; omega) (by show 0 ≤ (S.2 9 (S.2 9 (S.1 39).toNat).toNat); omega) (by show (S.2 9 (S.2 9 (S.1 39).toNat).toNat) < 1000000; omega) (hr _).1 (hr _).2 (hr _).1 (hr _).2 (by show 0 ≤ (S.1 38); omega) (by show (S.1 38) ≤ 1000; omega)) (cw7 1 B w7_mRX7_265 w7_im_yX7_isIdle w7_sl_yX7_isIdle w7_cd_yX7_isIdle rfl rfl (by decide +kernel) ⟨Nat.le_of_ble_eq_true rfl, Nat.le_of_ble_eq_true rfl⟩) rfl hl.1 rfl (Nat.le_of_ble_eq_true rfl) dX7_order_367 ⟨Nat.zero_le _, Nat.zero_le _⟩ (fun z_187 S_186 H locs hp_185 hM => ?_)
    obtain ⟨hp_185, he_hp_185⟩ := hp_185
    have he_hp_185 := he_hp_185.symm
    subst he_hp_185
    have hp_185 : zb (M_isIdle (S.2 9 (S.1 39).toNat) (mi S 39 ((S.1 39) + 1))) = z_187 := hp_185.symm
    subst hp_185
    have f_188 := zb_01 (M_isIdle (S.2 9 (S.1 39).toNat) (mi S 39 ((S.1 39) + 1)))
    refine z_if_eq (tgt := 375) B.1 B.2.1 (zr_of (by omega) (by omega)) dX7_order_370 (by decide) (fun c_189 => ?_) (fun c_189 => ?_)
    · --
      refine lv_aload_n B.1 B.2.1 dX7_order_375 rfl (lv_at hl 1 rfl) ?_
      refine lv_aload_n B.1 B.2.1 dX7_order_376 rfl (lv_at hl 1 rfl) ?_
      refine m_getr B (i7 _) hK hM 9 (by decide) rfl (List.mem_cons_of_mem _ w7_fRX7_23) dX7_order_377 ?_
      refine lv_iload_n B.1 B.2.1 dX7_order_380 rfl (lv_at hl 0 rfl) ?_
      refine m_iald (x := S.2 9 (S.1 39).toNat) B hK hM 4 9 rfl rfl (by omega) (by simp only [mN]; omega) rfl dX7_order_381 ?_
      refine m_callv (As := [.int (zI (S.2 9 (S.1 39).toNat))]) (rest := []) B hK hM (cX7_decide_ok l D cy o q (mi S 39 ((S.1 39) + 1)) (S.2 9 (S.1 39).toNat) (by show 0 ≤ (S.2 9 (S.1 39).toNat); omega) (by show (S.2 9 (S.1 39).toNat) < 220; omega) (by show 0 ≤ (S.2 11 (S.2 9 (S.1 39).toNat).toNat); omega) (by show (S.2 11 (S.2 9 (S.1 39).toNat).toNat) < 50; omega) (by show 0 ≤ (S.2 10 (S.2 9 (S.1 39).toNat).toNat); omega) (by show (S.2 10 (S.2 9 (S.1 39).toNat).toNat) ≤ 2000000; omega) (by show (S.2 10 (S.2 9 (S.1 39).toNat).toNat) / 16 % 256 ≤ (S.2 10 (S.2 9 (S.1 39).toNat).toNat) % 16; omega) (by show 0 ≤ (S.1 38); omega) (by show (S.1 38) ≤ 1000; omega) (by show 0 ≤ (S.1 35); omega) (by show (S.1 35) ≤ 5900; omega) hr e8 (by show 0 ≤ (S.1 37); omega) (by show (S.1 37) < 3000; omega) (by show 0 ≤ (S.2 9 (S.2 9 (S.1 39).toNat).toNat); omega) (by show (S.2 9 (S.2 9 (S.1 39).toNat).toNat) ≤ 200000; omega)) (cw7 1 B w7_mRX7_262 w7_im_yX7_decide w7_sl_yX7_decide w7_cd_yX7_decide rfl rfl (by decide +kernel) ⟨Nat.le_of_ble_eq_true rfl, Nat.le_of_ble_eq_true rfl⟩) rfl hl.1 rfl (Nat.le_of_ble_eq_true rfl) dX7_order_382 ⟨Nat.zero_le _, Nat.zero_le _⟩ (fun S_191 H locs hp_190 hM => ?_)
      have hp_190 := hp_190.symm
      subst hp_190
      refine z_iconst B.1 B.2.1 dX7_order_385 ?_
      have hq : M_order S = (1, (M_decide (S.2 9 (S.1 39).toNat) (mi S 39 ((S.1 39) + 1)))) := by unfold M_order; exact ((if_neg n_171).trans ((if_neg n_172).trans ((if_neg n_173).trans ((if_neg n_174).trans ((if_neg n_175).trans ((if_neg n_176).trans ((if_neg n_177).trans ((if_neg n_178).trans ((if_neg n_179).trans ((if_neg n_180).trans ((if_neg n_181).trans ((if_neg n_182).trans ((if_neg n_183).trans ((if_neg n_184).trans ((if_pos c_1).trans (if_pos c_189))))))))))))))))
      exact m_retz B hM (by decide) (⟨(congrArg Prod.fst hq).symm, (congrArg Prod.snd hq).symm⟩) dX7_order_386
    · --
      refine z_iconst B.1 B.2.1 dX7_order_373 ?_
      have hq : M_order S = (0, (mi S 39 ((S.1 39) + 1))) := by unfold M_order; exact ((if_neg n_171).trans ((if_neg n_172).trans ((if_neg n_173).trans ((if_neg n_174).trans ((if_neg n_175).trans ((if_neg n_176).trans ((if_neg n_177).trans ((if_neg n_178).trans ((if_neg n_179).trans ((if_neg n_180).trans ((if_neg n_181).trans ((if_neg n_182).trans ((if_neg n_183).trans ((if_neg n_184).trans ((if_pos c_1).trans (if_neg c_189))))))))))))))))
      exact m_retz B hM (by decide) (⟨(congrArg Prod.fst hq).symm, (congrArg Prod.snd hq).symm⟩) dX7_order_374
  · --
    have n_192 : ¬ (S.2 8 (S.1 39).toNat) = 1 := by omega
    have n_193 : ¬ (S.2 8 (S.1 39).toNat) = 2 := by omega
    have n_194 : ¬ (S.2 8 (S.1 39).toNat) = 3 := by omega
    have n_195 : ¬ (S.2 8 (S.1 39).toNat) = 4 := by omega
    have n_196 : ¬ (S.2 8 (S.1 39).toNat) = 5 := by omega
    have n_197 : ¬ (S.2 8 (S.1 39).toNat) = 6 := by omega
    have n_198 : ¬ (S.2 8 (S.1 39).toNat) = 7 := by omega
    have n_199 : ¬ (S.2 8 (S.1 39).toNat) = 8 := by omega
    have n_200 : ¬ (S.2 8 (S.1 39).toNat) = 9 := by omega
    have n_201 : ¬ (S.2 8 (S.1 39).toNat) = 10 := by omega
    have n_202 : ¬ (S.2 8 (S.1 39).toNat) = 11 := by omega
    have n_203 : ¬ (S.2 8 (S.1 39).toNat) = 12 := by omega
    have n_204 : ¬ (S.2 8 (S.1 39).toNat) = 13 := by omega
    have n_205 : ¬ (S.2 8 (S.1 39).toNat) = 14 := by omega
    have n_206 : ¬ (S.2 8 (S.1 39).toNat) = 15 := by omega
    refine z_tableIn (tgt := 389) (off := 371) B.1 B.2.1 (zr_of (by omega) (by omega)) dX7_order_18 (by omega) (by omega) (by rw [c_1]; rfl) (by decide) ?_
    have h3 := hh3 (by omega) (by omega)
    refine lv_aload_n B.1 B.2.1 dX7_order_389 rfl (lv_at hl 1 rfl) ?_
    refine lv_iload_n B.1 B.2.1 dX7_order_390 rfl (lv_at hl 0 rfl) ?_
    refine m_calli (As := [.int (zI (S.1 39))]) (rest := []) B hK hM (cX7_one_ok l D cy o q (mi S 39 ((S.1 39) + 1)) (S.1 39) (by show 0 ≤ (S.1 39); omega) (by show (S.1 39) < 220; omega) h3.1 h3.2.1 h3.2.2.1 h3.2.2.2.1 h3.2.2.2.2.1 h3.2.2.2.2.2.1 h3.2.2.2.2.2.2.1 hg0 hg1 hsg hp0 hp1 hn1 htx h3.2.2.2.2.2.2.2.1 h3.2.2.2.2.2.2.2.2 hv0 hv1 hm0 hm1) (cw7 1 B w7_mRX7_268 w7_im_yX7_one w7_sl_yX7_one w7_cd_yX7_one rfl rfl (by decide +kernel) ⟨Nat.le_of_ble_eq_true rfl, Nat.le_of_ble_eq_true rfl⟩) rfl hl.1 rfl (Nat.le_of_ble_eq_true rfl) dX7_order_391 ⟨Nat.zero_le _, Nat.zero_le _⟩ (fun z_209 S_208 H locs hp_207 hM => ?_)
    obtain ⟨hp_207, he_hp_207⟩ := hp_207
    have he_hp_207 := he_hp_207.symm
    subst he_hp_207
    have hp_207 : (M_one (S.1 39) (mi S 39 ((S.1 39) + 1))).1 = z_209 := hp_207.symm
    subst hp_207
    have f_210 := M_one_01 (S.1 39) (mi S 39 ((S.1 39) + 1))
    have hq : M_order S = ((M_one (S.1 39) (mi S 39 ((S.1 39) + 1))).1, (M_one (S.1 39) (mi S 39 ((S.1 39) + 1))).2) := by unfold M_order; exact ((if_neg n_192).trans ((if_neg n_193).trans ((if_neg n_194).trans ((if_neg n_195).trans ((if_neg n_196).trans ((if_neg n_197).trans ((if_neg n_198).trans ((if_neg n_199).trans ((if_neg n_200).trans ((if_neg n_201).trans ((if_neg n_202).trans ((if_neg n_203).trans ((if_neg n_204).trans ((if_neg n_205).trans ((if_neg n_206).trans (if_pos c_1))))))))))))))))
    exact m_retz B hM (by omega) (⟨(congrArg Prod.fst hq).symm, (congrArg Prod.snd hq).symm⟩) dX7_order_394
  · --
    have n_211 : ¬ (S.2 8 (S.1 39).toNat) = 1 := by omega
    have n_212 : ¬ (S.2 8 (S.1 39).toNat) = 2 := by omega
    have n_213 : ¬ (S.2 8 (S.1 39).toNat) = 3 := by omega
    have n_214 : ¬ (S.2 8 (S.1 39).toNat) = 4 := by omega
    have n_215 : ¬ (S.2 8 (S.1 39).toNat) = 5 := by omega
    have n_216 : ¬ (S.2 8 (S.1 39).toNat) = 6 := by omega
    have n_217 : ¬ (S.2 8 (S.1 39).toNat) = 7 := by omega
    have n_218 : ¬ (S.2 8 (S.1 39).toNat) = 8 := by omega
    have n_219 : ¬ (S.2 8 (S.1 39).toNat) = 9 := by omega
    have n_220 : ¬ (S.2 8 (S.1 39).toNat) = 10 := by omega
    have n_221 : ¬ (S.2 8 (S.1 39).toNat) = 11 := by omega
    have n_222 : ¬ (S.2 8 (S.1 39).toNat) = 12 := by omega
    have n_223 : ¬ (S.2 8 (S.1 39).toNat) = 13 := by omega
    have n_224 : ¬ (S.2 8 (S.1 39).toNat) = 14 := by omega
    have n_225 : ¬ (S.2 8 (S.1 39).toNat) = 15 := by omega
    have n_226 : ¬ (S.2 8 (S.1 39).toNat) = 16 := by omega
    refine z_tableIn (tgt := 387) (off := 369) B.1 B.2.1 (zr_of (by omega) (by omega)) dX7_order_18 (by omega) (by omega) (by rw [c_1]; rfl) (by decide) ?_
    refine z_iconst B.1 B.2.1 dX7_order_387 ?_
    have hq : M_order S = (1, (mi S 39 ((S.1 39) + 1))) := by unfold M_order; exact ((if_neg n_211).trans ((if_neg n_212).trans ((if_neg n_213).trans ((if_neg n_214).trans ((if_neg n_215).trans ((if_neg n_216).trans ((if_neg n_217).trans ((if_neg n_218).trans ((if_neg n_219).trans ((if_neg n_220).trans ((if_neg n_221).trans ((if_neg n_222).trans ((if_neg n_223).trans ((if_neg n_224).trans ((if_neg n_225).trans ((if_neg n_226).trans (if_pos c_1)))))))))))))))))
    exact m_retz B hM (by decide) (⟨(congrArg Prod.fst hq).symm, (congrArg Prod.snd hq).symm⟩) dX7_order_388
  · --
    have n_227 : ¬ (S.2 8 (S.1 39).toNat) = 1 := by omega
    have n_228 : ¬ (S.2 8 (S.1 39).toNat) = 2 := by omega
    have n_229 : ¬ (S.2 8 (S.1 39).toNat) = 3 := by omega
    have n_230 : ¬ (S.2 8 (S.1 39).toNat) = 4 := by omega
    have n_231 : ¬ (S.2 8 (S.1 39).toNat) = 5 := by omega
    have n_232 : ¬ (S.2 8 (S.1 39).toNat) = 6 := by omega
    have n_233 : ¬ (S.2 8 (S.1 39).toNat) = 7 := by omega
    have n_234 : ¬ (S.2 8 (S.1 39).toNat) = 8 := by omega
    have n_235 : ¬ (S.2 8 (S.1 39).toNat) = 9 := by omega
    have n_236 : ¬ (S.2 8 (S.1 39).toNat) = 10 := by omega
    have n_237 : ¬ (S.2 8 (S.1 39).toNat) = 11 := by omega
    have n_238 : ¬ (S.2 8 (S.1 39).toNat) = 12 := by omega
    have n_239 : ¬ (S.2 8 (S.1 39).toNat) = 13 := by omega
    have n_240 : ¬ (S.2 8 (S.1 39).toNat) = 14 := by omega
    have n_241 : ¬ (S.2 8 (S.1 39).toNat) = 15 := by omega
    have n_242 : ¬ (S.2 8 (S.1 39).toNat) = 16 := by omega
    have n_243 : ¬ (S.2 8 (S.1 39).toNat) = 17 := by omega
    refine z_tableOut (tgt := 389) B.1 B.2.1 (zr_of (by omega) (by omega)) dX7_order_18 (by omega) (by decide) ?_
    have h3 := hh3 (by omega) (by omega)
    refine lv_aload_n B.1 B.2.1 dX7_order_389 rfl (lv_at hl 1 rfl) ?_
    refine lv_iload_n B.1 B.2.1 dX7_order_390 rfl (lv_at hl 0 rfl) ?_
    refine m_calli (As := [.int (zI (S.1 39))]) (rest := []) B hK hM (cX7_one_ok l D cy o q (mi S 39 ((S.1 39) + 1)) (S.1 39) (by show 0 ≤ (S.1 39); omega) (by show (S.1 39) < 220; omega) h3.1 h3.2.1 h3.2.2.1 h3.2.2.2.1 h3.2.2.2.2.1 h3.2.2.2.2.2.1 h3.2.2.2.2.2.2.1 hg0 hg1 hsg hp0 hp1 hn1 htx h3.2.2.2.2.2.2.2.1 h3.2.2.2.2.2.2.2.2 hv0 hv1 hm0 hm1) (cw7 1 B w7_mRX7_268 w7_im_yX7_one w7_sl_yX7_one w7_cd_yX7_one rfl rfl (by decide +kernel) ⟨Nat.le_of_ble_eq_true rfl, Nat.le_of_ble_eq_true rfl⟩) rfl hl.1 rfl (Nat.le_of_ble_eq_true rfl) dX7_order_391 ⟨Nat.zero_le _, Nat.zero_le _⟩ (fun z_246 S_245 H locs hp_244 hM => ?_)
    obtain ⟨hp_244, he_hp_244⟩ := hp_244
    have he_hp_244 := he_hp_244.symm
    subst he_hp_244
    have hp_244 : (M_one (S.1 39) (mi S 39 ((S.1 39) + 1))).1 = z_246 := hp_244.symm
    subst hp_244
    have f_247 := M_one_01 (S.1 39) (mi S 39 ((S.1 39) + 1))
    have hq : M_order S = ((M_one (S.1 39) (mi S 39 ((S.1 39) + 1))).1, (M_one (S.1 39) (mi S 39 ((S.1 39) + 1))).2) := by unfold M_order; exact ((if_neg n_227).trans ((if_neg n_228).trans ((if_neg n_229).trans ((if_neg n_230).trans ((if_neg n_231).trans ((if_neg n_232).trans ((if_neg n_233).trans ((if_neg n_234).trans ((if_neg n_235).trans ((if_neg n_236).trans ((if_neg n_237).trans ((if_neg n_238).trans ((if_neg n_239).trans ((if_neg n_240).trans ((if_neg n_241).trans ((if_neg n_242).trans (if_neg n_243)))))))))))))))))
    exact m_retz B hM (by omega) (⟨(congrArg Prod.fst hq).symm, (congrArg Prod.snd hq).symm⟩) dX7_order_394
