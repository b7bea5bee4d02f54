def M_one (k : Int) (S : MSt) : Int × MSt := (if (M_passes k (M_step S)) = 0 then (0, (M_step S)) else (1, (mi (M_step S) 38 ((S.1 38) + 1))))
set_option maxHeartbeats 4000000 in
set_option maxRecDepth 100000 in
theorem cX7_one_ok (l : Launch) (D : va_G) (cy : Nat → ClassId) (o : Nat) (q : Nat → Nat) (S : MSt) (k : Int) (hk0 : 0 ≤ k) (hk1 : k < 220) (ho0 : 3 ≤ S.2 8 k.toNat) (ho1 : S.2 8 k.toNat ≤ 6) (ha0 : 0 ≤ S.2 9 k.toNat) (ha1 : S.2 9 k.toNat ≤ 1000) (hb0 : 0 ≤ S.2 10 k.toNat) (hse : S.2 8 k.toNat = 6 → S.2 9 k.toNat ≤ 41 ∧ S.2 10 k.toNat ≤ 39) (hb1 : S.2 10 k.toNat ≤ 100000000) (hg0 : 0 ≤ S.1 6) (hg1 : S.1 6 ≤ 7) (hsg : ∀ j, 0 ≤ S.2 7 j ∧ S.2 7 j ≤ 126) (hp0 : 0 ≤ S.1 38) (hp1 : S.1 38 ≤ S.1 4) (hn1 : S.1 4 ≤ 24) (htx : ∀ j, 0 ≤ S.2 3 j ∧ S.2 3 j ≤ 126) (hc0 : -1000 ≤ S.2 11 k.toNat) (hc1 : S.2 11 k.toNat ≤ 100000) (hv0 : 0 ≤ S.1 41) (hv1 : S.1 41 ≤ 1) (hm0 : 0 ≤ S.1 40) (hm1 : S.1 40 ≤ 1000) : mMi l D cy o q yX7_one (.code yX7_one cX7_one 2 (some .boolean) :: TB7) ({ frames := 5, cells := 0, slots := 0, locals := 118 }) S [.int (zI k)] (fun r S' => r = (M_one k S).1 ∧ S' = (M_one k S).2) := by
  refine m_of (cc := cX7_one) (maxL := 2) (ret := (some .boolean)) (by decide) rfl rfl (Nat.le_of_ble_eq_true rfl) ?_
  intro p e s m args below meth c ls B hK hM hl
  have hl : lv_has ls 2 [(0, .ref o), (1, .int (zI k))] := hl
  refine lv_aload_n B.1 B.2.1 dX7_one_0 rfl (lv_at hl 0 rfl) ?_
  refine m_callv (As := []) (rest := []) B hK hM (cX7_step_ok l D cy o q S  (by show 0 ≤ (S.1 41); omega) (by show (S.1 41) ≤ 1; omega) (by show 0 ≤ (S.1 40); omega) (by show (S.1 40) ≤ 1000; omega)) (cw7 0 B w7_mRX7_253 w7_im_yX7_step w7_sl_yX7_step w7_cd_yX7_step rfl rfl (by decide +kernel) ⟨Nat.le_of_ble_eq_true rfl, Nat.le_of_ble_eq_true rfl⟩) rfl hl.1 rfl (Nat.le_of_ble_eq_true rfl) dX7_one_1 ⟨Nat.zero_le _, Nat.zero_le _⟩ (fun S_2 H locs hp_1 hM => ?_)
  have hp_1 := hp_1.symm
  subst hp_1
  refine lv_aload_n B.1 B.2.1 dX7_one_4 rfl (lv_at hl 0 rfl) ?_
  refine lv_iload_n B.1 B.2.1 dX7_one_5 rfl (lv_at hl 1 rfl) ?_
  refine m_calli (As := [.int (zI k)]) (rest := []) B hK hM (cX7_passes_ok l D cy o q (M_step S) k hk0 hk1 ho0 ho1 ha0 ha1 hb0 hse hb1 hg0 hg1 hsg hp0 hp1 hn1 htx hc0 hc1) (cw7 1 B w7_mRX7_271 w7_im_yX7_passes w7_sl_yX7_passes w7_cd_yX7_passes rfl rfl (by decide +kernel) ⟨Nat.le_of_ble_eq_true rfl, Nat.le_of_ble_eq_true rfl⟩) rfl hl.1 rfl (Nat.le_of_ble_eq_true rfl) dX7_one_6 ⟨Nat.zero_le _, Nat.zero_le _⟩ (fun z_5 S_4 H locs hp_3 hM => ?_)
  obtain ⟨hp_3, he_hp_3⟩ := hp_3
  have he_hp_3 := he_hp_3.symm
  subst he_hp_3
  have hp_3 : M_passes k (M_step S) = z_5 := hp_3.symm
  subst hp_3
  have f_6 := M_passes_01 k (M_step S)
  refine z_if_ne (tgt := 14) B.1 B.2.1 (zr_of (by omega) (by omega)) dX7_one_9 (by decide) (fun c_7 => ?_) (fun c_7 => ?_)
  · --
    refine lv_aload_n B.1 B.2.1 dX7_one_14 rfl (lv_at hl 0 rfl) ?_
    refine lv_dup B.1 B.2.1 dX7_one_15 rfl ?_
    refine m_get (x := S.1 38) B (i7 _) hK hM 38 (by decide) rfl rfl (List.mem_cons_of_mem _ w7_fRX7_216) dX7_one_16 ?_
    refine z_iconst B.1 B.2.1 dX7_one_19 ?_
    refine z_iadd (x := (S.1 38) + 1) B.1 B.2.1 rfl dX7_one_20 ?_
    refine m_put B (i7 _) hK hM 38 (by decide) rfl (by decide +kernel) (List.mem_cons_of_mem _ w7_fRX7_216) dX7_one_21 (fun H locs hM => ?_)
    refine z_iconst B.1 B.2.1 dX7_one_24 ?_
    have hq : M_one k S = (1, (mi (M_step S) 38 ((S.1 38) + 1))) := by unfold M_one; exact (if_neg c_7)
    exact m_retz B hM (by decide) (⟨(congrArg Prod.fst hq).symm, (congrArg Prod.snd hq).symm⟩) dX7_one_25
  · --
    refine z_iconst B.1 B.2.1 dX7_one_12 ?_
    have hq : M_one k S = (0, (M_step S)) := by unfold M_one; exact (if_pos c_7)
    exact m_retz B hM (by decide) (⟨(congrArg Prod.fst hq).symm, (congrArg Prod.snd hq).symm⟩) dX7_one_13
def M_isSameL (g : Int) (fr : Int) (n3 : Int) (T : MSt) : Nat → Int → Int → Int × MSt
  | 0, same, k => (if same = 0 then (same, T) else (same, (mi T 38 ((T.1 38) + n3))))
  | n + 1, same, k => (if n3 ≤ k then (if same = 0 then (same, T) else (same, (mi T 38 ((T.1 38) + n3)))) else M_isSameL g fr n3 T n ((if same = 0 then 0 else (if (T.2 3 (fr + k).toNat) = (T.2 3 ((T.1 38) + k).toNat) then 1 else (if (M_has 4 T) = 0 then 0 else (if (M_other (T.2 3 (fr + k).toNat)) = (T.2 3 ((T.1 38) + k).toNat) then 1 else 0 : Int) : Int) : Int) : Int)) (k + 1))
set_option maxHeartbeats 4000000 in
set_option maxRecDepth 100000 in
theorem lp7_isSame (l : Launch) (D : va_G) (cy : Nat → ClassId) (o : Nat) (q : Nat → Nat) (g : Int) (fr : Int) (n3 : Int) (T : MSt) (hf0 : 0 ≤ fr) (hf1 : fr + n3 ≤ 24) (hn30 : -1000 ≤ n3) (hp0 : 0 ≤ T.1 38) (hp1 : T.1 38 + n3 ≤ 24) (hg0 : 0 ≤ T.1 6) (hg1 : T.1 6 ≤ 7) (htx : ∀ j, 0 ≤ T.2 3 j ∧ T.2 3 j ≤ 126) {p : Program} {e : Env} {s : State} {m : MethodId} {args : Array Value} {below : List Frame} {meth : Method} {c : Code} (B : zAt p s m args meth c RX7 cX7_isSame 8 (some .boolean) (.code yX7_isSame cX7_isSame 8 (some .boolean) :: TB7)) (hK : va_K D vwCl (zTY cy) s) (post : Int → MSt → Prop) :
    ∀ (n : Nat) (same : Int) (k : Int) (H : Heap) (locs : List Loc) (ls : Array Slot), (n3 - k ≤ n) → (0 ≤ k) → (k ≤ 100) → (0 ≤ same) → (same ≤ 1) → mH D cy o q (mA o q) s.heap T H locs → lv_has ls 8 [(0, .ref o), (1, .int (zI g)), (2, .int (zI fr)), (3, .int (zI n3)), (4, .int (zI same)), (5, .int (zI k))] → post (M_isSameL g fr n3 T n same k).1 (M_isSameL g fr n3 T n same k).2 → W p l e (headSpec (.code yX7_isSame cX7_isSame 8 (some .boolean) :: TB7) ({ frames := 1, cells := 0, slots := 0, locals := 21 })).room s m args below meth c H locs 0 0 (MQ below (mQi D cy o q post) args s 0 0 (mA o q)) (F0 m 46 ls []) := by
  intro n
  induction n with
  | zero =>
    intro same k H locs ls hn hk0 hk1 hs0 hs1 hM hl hpost
    refine lv_iload B.1 B.2.1 dX7_isSame_46 (lv_at hl 5 rfl) ?_
    refine lv_iload_n B.1 B.2.1 dX7_isSame_48 rfl (lv_at hl 3 rfl) ?_
    refine z_icmp_ge (tgt := 120) B.1 B.2.1 (zr_of (by omega) (by omega)) (zr_of (by omega) (by omega)) dX7_isSame_49 (by decide) (fun c_1 => ?_) (fun c_1 => ?_)
    · --
      refine lv_iload B.1 B.2.1 dX7_isSame_120 (lv_at hl 4 rfl) ?_
      refine z_if_eq (tgt := 135) B.1 B.2.1 (zr_of (by omega) (by omega)) dX7_isSame_122 (by decide) (fun c_2 => ?_) (fun c_2 => ?_)
      · --
        refine lv_iload B.1 B.2.1 dX7_isSame_135 (lv_at hl 4 rfl) ?_
        have hq : M_isSameL g fr n3 T 0 same k = (same, T) := by rw [M_isSameL]; exact (if_pos c_2)
        rw [hq] at hpost
        exact m_retz B hM (by omega) (hpost) dX7_isSame_137
      · --
        refine lv_aload_n B.1 B.2.1 dX7_isSame_125 rfl (lv_at hl 0 rfl) ?_
        refine lv_dup B.1 B.2.1 dX7_isSame_126 rfl ?_
        refine m_get (x := T.1 38) B (i7 _) hK hM 38 (by decide) rfl rfl (List.mem_cons_of_mem _ w7_fRX7_216) dX7_isSame_127 ?_
        refine lv_iload_n B.1 B.2.1 dX7_isSame_130 rfl (lv_at hl 3 rfl) ?_
        refine z_iadd (x := (T.1 38) + n3) B.1 B.2.1 rfl dX7_isSame_131 ?_
        refine m_put B (i7 _) hK hM 38 (by decide) rfl (by decide +kernel) (List.mem_cons_of_mem _ w7_fRX7_216) dX7_isSame_132 (fun H locs hM => ?_)
        refine lv_iload B.1 B.2.1 dX7_isSame_135 (lv_at hl 4 rfl) ?_
        have hq : M_isSameL g fr n3 T 0 same k = (same, (mi T 38 ((T.1 38) + n3))) := by rw [M_isSameL]; exact (if_neg c_2)
        rw [hq] at hpost
        exact m_retz B hM (by omega) (hpost) dX7_isSame_137
    · exact absurd c_1 (by omega)
  | succ n ih =>
    intro same k H locs ls hn hk0 hk1 hs0 hs1 hM hl hpost
    refine lv_iload B.1 B.2.1 dX7_isSame_46 (lv_at hl 5 rfl) ?_
    refine lv_iload_n B.1 B.2.1 dX7_isSame_48 rfl (lv_at hl 3 rfl) ?_
    refine z_icmp_ge (tgt := 120) B.1 B.2.1 (zr_of (by omega) (by omega)) (zr_of (by omega) (by omega)) dX7_isSame_49 (by decide) (fun c_1 => ?_) (fun c_1 => ?_)
    · --
      refine lv_iload B.1 B.2.1 dX7_isSame_120 (lv_at hl 4 rfl) ?_
      refine z_if_eq (tgt := 135) B.1 B.2.1 (zr_of (by omega) (by omega)) dX7_isSame_122 (by decide) (fun c_2 => ?_) (fun c_2 => ?_)
      · --
        refine lv_iload B.1 B.2.1 dX7_isSame_135 (lv_at hl 4 rfl) ?_
        have hq : M_isSameL g fr n3 T (n + 1) same k = (same, T) := by rw [M_isSameL]; exact ((if_pos c_1).trans (if_pos c_2))
        rw [hq] at hpost
        exact m_retz B hM (by omega) (hpost) dX7_isSame_137
      · --
        refine lv_aload_n B.1 B.2.1 dX7_isSame_125 rfl (lv_at hl 0 rfl) ?_
        refine lv_dup B.1 B.2.1 dX7_isSame_126 rfl ?_
        refine m_get (x := T.1 38) B (i7 _) hK hM 38 (by decide) rfl rfl (List.mem_cons_of_mem _ w7_fRX7_216) dX7_isSame_127 ?_
        refine lv_iload_n B.1 B.2.1 dX7_isSame_130 rfl (lv_at hl 3 rfl) ?_
        refine z_iadd (x := (T.1 38) + n3) B.1 B.2.1 rfl dX7_isSame_131 ?_
        refine m_put B (i7 _) hK hM 38 (by decide) rfl (by decide +kernel) (List.mem_cons_of_mem _ w7_fRX7_216) dX7_isSame_132 (fun H locs hM => ?_)
        refine lv_iload B.1 B.2.1 dX7_isSame_135 (lv_at hl 4 rfl) ?_
        have hq : M_isSameL g fr n3 T (n + 1) same k = (same, (mi T 38 ((T.1 38) + n3))) := by rw [M_isSameL]; exact ((if_pos c_1).trans (if_neg c_2))
        rw [hq] at hpost
        exact m_retz B hM (by omega) (hpost) dX7_isSame_137
    · --
      refine lv_aload_n B.1 B.2.1 dX7_isSame_52 rfl (lv_at hl 0 rfl) ?_
      refine m_getr B (i7 _) hK hM 3 (by decide) rfl (List.mem_cons_of_mem _ w7_fRX7_13) dX7_isSame_53 ?_
      refine lv_iload_n B.1 B.2.1 dX7_isSame_56 rfl (lv_at hl 2 rfl) ?_
      refine lv_iload B.1 B.2.1 dX7_isSame_57 (lv_at hl 5 rfl) ?_
      refine z_iadd (x := fr + k) B.1 B.2.1 rfl dX7_isSame_59 ?_
      have f_3 := htx (fr + k).toNat
      refine m_cald (x := T.2 3 (fr + k).toNat) B hK hM 1 3 rfl rfl (by omega) (by simp only [mN]; omega) rfl dX7_isSame_60 ?_
      refine lv_istore (lv' := [(6, .int (zI (T.2 3 (fr + k).toNat))), (0, .ref o), (1, .int (zI g)), (2, .int (zI fr)), (3, .int (zI n3)), (4, .int (zI same)), (5, .int (zI k))]) B.1 B.2.1 dX7_isSame_61 hl (by decide) rfl (fun ls hl => ?_)
      refine lv_aload_n B.1 B.2.1 dX7_isSame_63 rfl (lv_at hl 1 rfl) ?_
      refine m_getr B (i7 _) hK hM 3 (by decide) rfl (List.mem_cons_of_mem _ w7_fRX7_13) dX7_isSame_64 ?_
      refine lv_aload_n B.1 B.2.1 dX7_isSame_67 rfl (lv_at hl 1 rfl) ?_
      refine m_get (x := T.1 38) B (i7 _) hK hM 38 (by decide) rfl rfl (List.mem_cons_of_mem _ w7_fRX7_216) dX7_isSame_68 ?_
      refine lv_iload B.1 B.2.1 dX7_isSame_71 (lv_at hl 6 rfl) ?_
      refine z_iadd (x := (T.1 38) + k) B.1 B.2.1 rfl dX7_isSame_73 ?_
      have f_4 := htx ((T.1 38) + k).toNat
      refine m_cald (x := T.2 3 ((T.1 38) + k).toNat) B hK hM 1 3 rfl rfl (by omega) (by simp only [mN]; omega) rfl dX7_isSame_74 ?_
      refine lv_istore (lv' := [(7, .int (zI (T.2 3 ((T.1 38) + k).toNat))), (6, .int (zI (T.2 3 (fr + k).toNat))), (0, .ref o), (1, .int (zI g)), (2, .int (zI fr)), (3, .int (zI n3)), (4, .int (zI same)), (5, .int (zI k))]) B.1 B.2.1 dX7_isSame_75 hl (by decide) rfl (fun ls hl => ?_)
      refine lv_iload B.1 B.2.1 dX7_isSame_77 (lv_at hl 6 rfl) ?_
      refine z_joinH (P := fun v H' locs' => v = (if same = 0 then 0 else (if (T.2 3 (fr + k).toNat) = (T.2 3 ((T.1 38) + k).toNat) then 1 else (if (M_has 4 T) = 0 then 0 else (if (M_other (T.2 3 (fr + k).toNat)) = (T.2 3 ((T.1 38) + k).toNat) then 1 else 0 : Int) : Int) : Int) : Int) ∧ mH D cy o q (mA o q) s.heap T H' locs') (pcJ := 112) (lsJ := ls) (stJ := []) (fun v_5 H locs hv_6 => ?_) (fun hJ_7 => ?_)
      · --
        obtain ⟨hv_6, hM⟩ := hv_6
        have hb_8 : (if same = 0 then 0 else (if (T.2 3 (fr + k).toNat) = (T.2 3 ((T.1 38) + k).toNat) then 1 else (if (M_has 4 T) = 0 then 0 else (if (M_other (T.2 3 (fr + k).toNat)) = (T.2 3 ((T.1 38) + k).toNat) then 1 else 0 : Int) : Int) : Int) : Int) = 0 ∨ (if same = 0 then 0 else (if (T.2 3 (fr + k).toNat) = (T.2 3 ((T.1 38) + k).toNat) then 1 else (if (M_has 4 T) = 0 then 0 else (if (M_other (T.2 3 (fr + k).toNat)) = (T.2 3 ((T.1 38) + k).toNat) then 1 else 0 : Int) : Int) : Int) : Int) = 1 := by (repeat' split) <;> simp
        have hv_6 := hv_6.symm
        subst hv_6
        refine lv_istore (lv' := [(4, .int (zI ((if same = 0 then 0 else (if (T.2 3 (fr + k).toNat) = (T.2 3 ((T.1 38) + k).toNat) then 1 else (if (M_has 4 T) = 0 then 0 else (if (M_other (T.2 3 (fr + k).toNat)) = (T.2 3 ((T.1 38) + k).toNat) then 1 else 0 : Int) : Int) : Int) : Int)))), (7, .int (zI (T.2 3 ((T.1 38) + k).toNat))), (6, .int (zI (T.2 3 (fr + k).toNat))), (0, .ref o), (1, .int (zI g)), (2, .int (zI fr)), (3, .int (zI n3)), (5, .int (zI k))]) B.1 B.2.1 dX7_isSame_112 hl (by decide) rfl (fun ls hl => ?_)
        refine z_iinc (v := k + 1) (lv' := [(5, .int (zI (k + 1))), (4, .int (zI ((if same = 0 then 0 else (if (T.2 3 (fr + k).toNat) = (T.2 3 ((T.1 38) + k).toNat) then 1 else (if (M_has 4 T) = 0 then 0 else (if (M_other (T.2 3 (fr + k).toNat)) = (T.2 3 ((T.1 38) + k).toNat) then 1 else 0 : Int) : Int) : Int) : Int)))), (7, .int (zI (T.2 3 ((T.1 38) + k).toNat))), (6, .int (zI (T.2 3 (fr + k).toNat))), (0, .ref o), (1, .int (zI g)), (2, .int (zI fr)), (3, .int (zI n3))]) B.1 B.2.1 dX7_isSame_114 hl (k := 7) rfl rfl (by decide) rfl (fun ls hl => ?_)
        refine lv_goto (tgt := 46) B.1 B.2.1 dX7_isSame_117 (by decide) ?_
        have hq : M_isSameL g fr n3 T (n + 1) same k = M_isSameL g fr n3 T n ((if same = 0 then 0 else (if (T.2 3 (fr + k).toNat) = (T.2 3 ((T.1 38) + k).toNat) then 1 else (if (M_has 4 T) = 0 then 0 else (if (M_other (T.2 3 (fr + k).toNat)) = (T.2 3 ((T.1 38) + k).toNat) then 1 else 0 : Int) : Int) : Int) : Int)) (k + 1) := by rw [M_isSameL]; exact (if_neg c_1)
        rw [hq] at hpost
        exact ih ((if same = 0 then 0 else (if (T.2 3 (fr + k).toNat) = (T.2 3 ((T.1 38) + k).toNat) then 1 else (if (M_has 4 T) = 0 then 0 else (if (M_other (T.2 3 (fr + k).toNat)) = (T.2 3 ((T.1 38) + k).toNat) then 1 else 0 : Int) : Int) : Int) : Int)) (k + 1) H locs ls (by omega) (by omega) (by omega) (by omega) (by omega) hM (lv_sub hl [4, 5, 6, 7, 1, 0] rfl) hpost
      · --
        refine z_if_eq (tgt := 111) B.1 B.2.1 (zr_of (by omega) (by omega)) dX7_isSame_79 (by decide) (fun c_9 => ?_) (fun c_9 => ?_)
        · --
          refine z_iconst B.1 B.2.1 dX7_isSame_111 ?_
          exact hJ_7 _ _ _ ⟨(if_pos c_9).symm, hM⟩
        · --
          refine lv_iload B.1 B.2.1 dX7_isSame_82 (lv_at hl 1 rfl) ?_
          refine lv_iload B.1 B.2.1 dX7_isSame_84 (lv_at hl 0 rfl) ?_
          refine z_icmp_eq (tgt := 107) B.1 B.2.1 (zr_of (by omega) (by omega)) (zr_of (by omega) (by omega)) dX7_isSame_86 (by decide) (fun c_10 => ?_) (fun c_10 => ?_)
          · --
            refine z_iconst B.1 B.2.1 dX7_isSame_107 ?_
            refine lv_goto (tgt := 112) B.1 B.2.1 dX7_isSame_108 (by decide) ?_
            exact hJ_7 _ _ _ ⟨((if_neg c_9).trans (if_pos c_10)).symm, hM⟩
          · --
            refine lv_aload_n B.1 B.2.1 dX7_isSame_89 rfl (lv_at hl 2 rfl) ?_
            refine z_iconst B.1 B.2.1 dX7_isSame_90 ?_
            refine m_calli (As := [.int (zI 4)]) (rest := []) B hK hM (cX7_has_ok l D cy o q T 4 (by show 0 ≤ 4; omega) (by show 4 ≤ 7; omega) (by show 0 ≤ (T.1 6); omega) (by show (T.1 6) ≤ 7; omega)) (cw7 1 B w7_mRX7_209 w7_im_yX7_has w7_sl_yX7_has w7_cd_yX7_has rfl rfl (by decide +kernel) ⟨Nat.le_of_ble_eq_true rfl, Nat.le_of_ble_eq_true rfl⟩) rfl hl.1 rfl (Nat.le_of_ble_eq_true rfl) dX7_isSame_91 ⟨Nat.zero_le _, Nat.zero_le _⟩ (fun z_13 S_12 H locs hp_11 hM => ?_)
            obtain ⟨hp_11, he_hp_11⟩ := hp_11
            have he_hp_11 := he_hp_11.symm
            subst he_hp_11
            have hp_11 : M_has 4 T = z_13 := hp_11.symm
            subst hp_11
            have f_14 := M_has_01 4 T
            refine z_if_eq (tgt := 111) B.1 B.2.1 (zr_of (by omega) (by omega)) dX7_isSame_94 (by decide) (fun c_15 => ?_) (fun c_15 => ?_)
            · --
              refine z_iconst B.1 B.2.1 dX7_isSame_111 ?_
              exact hJ_7 _ _ _ ⟨((if_neg c_9).trans ((if_neg c_10).trans (if_pos c_15))).symm, hM⟩
            · --
              refine lv_iload B.1 B.2.1 dX7_isSame_97 (lv_at hl 1 rfl) ?_
              refine s_calli (As := [.int (zI (T.2 3 (fr + k).toNat))]) (rest := []) B (cX7_other_ok l (T.2 3 (fr + k).toNat) (by show -100000 ≤ (T.2 3 (fr + k).toNat); omega) (by show (T.2 3 (fr + k).toNat) ≤ 100000; omega)) (cs7 1 B rfl w7_mRX7_222 w7_st_yX7_other w7_cd_yX7_other rfl rfl (by decide +kernel) ⟨Nat.le_of_ble_eq_true rfl, Nat.le_of_ble_eq_true rfl⟩) rfl hl.1 rfl (Nat.le_of_ble_eq_true rfl) dX7_isSame_99 ⟨Nat.zero_le _, Nat.zero_le _⟩ (fun z_16 hz_17 => ?_)
              have hz_17 := hz_17.symm
              subst hz_17
              have f_18 := M_other_bd (T.2 3 (fr + k).toNat)
              refine lv_iload B.1 B.2.1 dX7_isSame_102 (lv_at hl 0 rfl) ?_
              refine z_icmp_ne (tgt := 111) B.1 B.2.1 (zr_of (by omega) (by omega)) (zr_of (by omega) (by omega)) dX7_isSame_104 (by decide) (fun c_19 => ?_) (fun c_19 => ?_)
              · --
                refine z_iconst B.1 B.2.1 dX7_isSame_111 ?_
                exact hJ_7 _ _ _ ⟨((if_neg c_9).trans ((if_neg c_10).trans ((if_neg c_15).trans (if_neg c_19)))).symm, hM⟩
              · --
                refine z_iconst B.1 B.2.1 dX7_isSame_107 ?_
                refine lv_goto (tgt := 112) B.1 B.2.1 dX7_isSame_108 (by decide) ?_
                exact hJ_7 _ _ _ ⟨((if_neg c_9).trans ((if_neg c_10).trans ((if_neg c_15).trans (if_pos c_19)))).symm, hM⟩
def M_isSame (g : Int) (S : MSt) : Int × MSt := if 0 ≤ S.2 33 g.toNat then (if S.1 38 + (S.2 33 (10 + g).toNat - S.2 33 g.toNat) ≤ S.1 4 then M_isSameL g (S.2 33 g.toNat) (S.2 33 (10 + g).toNat - S.2 33 g.toNat) S (S.2 33 (10 + g).toNat - S.2 33 g.toNat).toNat 1 0 else (0, S)) else (1, S)
set_option maxHeartbeats 4000000 in
set_option maxRecDepth 100000 in
theorem cX7_isSame_ok (l : Launch) (D : va_G) (cy : Nat → ClassId) (o : Nat) (q : Nat → Nat) (S : MSt) (g : Int) (hq0 : 0 ≤ g) (hq1 : g ≤ 9) (hr0 : -1 ≤ S.2 33 g.toNat) (hr1 : S.2 33 g.toNat ≤ 24) (hr2 : 0 ≤ S.2 33 g.toNat → S.2 33 g.toNat ≤ S.2 33 (10 + g).toNat) (hr3 : S.2 33 (10 + g).toNat ≤ 24) (hr4 : -1 ≤ S.2 33 (10 + g).toNat) (hp0 : 0 ≤ S.1 38) (hp1 : S.1 38 ≤ S.1 4) (hn1 : S.1 4 ≤ 24) (hg0 : 0 ≤ S.1 6) (hg1 : S.1 6 ≤ 7) (htx : ∀ j, 0 ≤ S.2 3 j ∧ S.2 3 j ≤ 126) : mMi l D cy o q yX7_isSame (.code yX7_isSame cX7_isSame 8 (some .boolean) :: TB7) ({ frames := 1, cells := 0, slots := 0, locals := 21 }) S [.int (zI g)] (fun r S' => r = (M_isSame g S).1 ∧ S' = (M_isSame g S).2) := by
  refine m_of (cc := cX7_isSame) (maxL := 8) (ret := (some .boolean)) (by decide) rfl rfl (Nat.le_of_ble_eq_true rfl) ?_
  intro p e s m args below meth c ls B hK hM hl
  have hl : lv_has ls 8 [(0, .ref o), (1, .int (zI g))] := hl
  refine lv_aload_n B.1 B.2.1 dX7_isSame_0 rfl (lv_at hl 0 rfl) ?_
  refine m_getr B (i7 _) hK hM 33 (by decide) rfl (List.mem_cons_of_mem _ w7_fRX7_65) dX7_isSame_1 ?_
  refine lv_iload_n B.1 B.2.1 dX7_isSame_4 rfl (lv_at hl 1 rfl) ?_
  refine m_iald (x := S.2 33 g.toNat) B hK hM 18 33 rfl rfl (by omega) (by simp only [mN]; omega) rfl dX7_isSame_5 ?_
  refine lv_istore_n (lv' := [(2, .int (zI (S.2 33 g.toNat))), (0, .ref o), (1, .int (zI g))]) B.1 B.2.1 dX7_isSame_6 rfl hl (by decide) rfl (fun ls hl => ?_)
  refine lv_aload_n B.1 B.2.1 dX7_isSame_7 rfl (lv_at hl 1 rfl) ?_
  refine m_getr B (i7 _) hK hM 33 (by decide) rfl (List.mem_cons_of_mem _ w7_fRX7_65) dX7_isSame_8 ?_
  refine z_bipush B.1 B.2.1 (by decide) dX7_isSame_11 ?_
  refine lv_iload_n B.1 B.2.1 dX7_isSame_13 rfl (lv_at hl 2 rfl) ?_
  refine z_iadd (x := 10 + g) B.1 B.2.1 rfl dX7_isSame_14 ?_
  refine m_iald (x := S.2 33 (10 + g).toNat) B hK hM 18 33 rfl rfl (by omega) (by simp only [mN]; omega) rfl dX7_isSame_15 ?_
  refine lv_iload_n B.1 B.2.1 dX7_isSame_16 rfl (lv_at hl 0 rfl) ?_
  refine z_isub (x := (S.2 33 (10 + g).toNat) - (S.2 33 g.toNat)) B.1 B.2.1 rfl dX7_isSame_17 ?_
  refine lv_istore_n (lv' := [(3, .int (zI ((S.2 33 (10 + g).toNat) - (S.2 33 g.toNat)))), (2, .int (zI (S.2 33 g.toNat))), (0, .ref o), (1, .int (zI g))]) B.1 B.2.1 dX7_isSame_18 rfl hl (by decide) rfl (fun ls hl => ?_)
  refine lv_iload_n B.1 B.2.1 dX7_isSame_19 rfl (lv_at hl 1 rfl) ?_
  refine z_if_ge (tgt := 25) B.1 B.2.1 (zr_of (by omega) (by omega)) dX7_isSame_20 (by decide) (fun c_1 => ?_) (fun c_1 => ?_)
  · --
    refine lv_aload_n B.1 B.2.1 dX7_isSame_25 rfl (lv_at hl 2 rfl) ?_
    refine m_get (x := S.1 38) B (i7 _) hK hM 38 (by decide) rfl rfl (List.mem_cons_of_mem _ w7_fRX7_216) dX7_isSame_26 ?_
    refine lv_iload_n B.1 B.2.1 dX7_isSame_29 rfl (lv_at hl 0 rfl) ?_
    refine z_iadd (x := (S.1 38) + ((S.2 33 (10 + g).toNat) - (S.2 33 g.toNat))) B.1 B.2.1 rfl dX7_isSame_30 ?_
    refine lv_aload_n B.1 B.2.1 dX7_isSame_31 rfl (lv_at hl 2 rfl) ?_
    refine m_get (x := S.1 4) B (i7 _) hK hM 4 (by decide) rfl rfl (List.mem_cons_of_mem _ w7_fRX7_202) dX7_isSame_32 ?_
    refine z_icmp_le (tgt := 40) B.1 B.2.1 (zr_of (by omega) (by omega)) (zr_of (by omega) (by omega)) dX7_isSame_35 (by decide) (fun c_2 => ?_) (fun c_2 => ?_)
    · --
      refine z_iconst B.1 B.2.1 dX7_isSame_40 ?_
      refine lv_istore (lv' := [(4, .int (zI 1)), (3, .int (zI ((S.2 33 (10 + g).toNat) - (S.2 33 g.toNat)))), (2, .int (zI (S.2 33 g.toNat))), (0, .ref o), (1, .int (zI g))]) B.1 B.2.1 dX7_isSame_41 hl (by decide) rfl (fun ls hl => ?_)
      refine z_iconst B.1 B.2.1 dX7_isSame_43 ?_
      refine lv_istore (lv' := [(5, .int (zI 0)), (4, .int (zI 1)), (3, .int (zI ((S.2 33 (10 + g).toNat) - (S.2 33 g.toNat)))), (2, .int (zI (S.2 33 g.toNat))), (0, .ref o), (1, .int (zI g))]) B.1 B.2.1 dX7_isSame_44 hl (by decide) rfl (fun ls hl => ?_)
      have hq : M_isSame g S = M_isSameL g (S.2 33 g.toNat) (S.2 33 (10 + g).toNat - S.2 33 g.toNat) S (S.2 33 (10 + g).toNat - S.2 33 g.toNat).toNat 1 0 := by unfold M_isSame; exact ((if_pos c_1).trans (if_pos c_2))
      rw [hq]
      exact lp7_isSame l D cy o q g _ _ S (by omega) (by omega) (by omega) hp0 (by omega) hg0 hg1 htx B hK _ _ 1 0 _ _ ls (by omega) (by omega) (by omega) (by omega) (by omega) hM (lv_sub hl [4, 5, 3, 2, 1, 0] rfl) ⟨rfl, rfl⟩
    · --
      refine z_iconst B.1 B.2.1 dX7_isSame_38 ?_
      have hq : M_isSame g S = (0, S) := by unfold M_isSame; exact ((if_pos c_1).trans (if_neg c_2))
      exact m_retz B hM (by decide) (⟨(congrArg Prod.fst hq).symm, (congrArg Prod.snd hq).symm⟩) dX7_isSame_39
  · --
    refine z_iconst B.1 B.2.1 dX7_isSame_23 ?_
    have hq : M_isSame g S = (1, S) := by unfold M_isSame; exact (if_neg c_1)
    exact m_retz B hM (by decide) (⟨(congrArg Prod.fst hq).symm, (congrArg Prod.snd hq).symm⟩) dX7_isSame_24
