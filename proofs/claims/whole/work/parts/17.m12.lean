def M_searchStep (U : Int → MSt → Prop) (pl : Int) (T : MSt) : Prop := 0 ≤ pl ∧ pl ≤ 1000 ∧ -1000 ≤ T.1 4 ∧ T.1 4 ≤ 24 ∧ 0 ≤ T.1 41 ∧ T.1 41 ≤ 1 ∧
  (pl ≤ T.1 4 → T.1 41 = 0 → M_triesOK pl T ∧ ((M_tries pl T).1 = 0 ∨ (M_tries pl T).1 = 1) ∧ ((M_tries pl T).1 = 0 → 0 ≤ (M_tries pl T).2.1 6 ∧ (M_tries pl T).2.1 6 ≤ 7 ∧ (M_has 1 (M_tries pl T).2 = 0 → U (pl + 1) (M_tries pl T).2)))
def M_searchL (fr : Int) : Nat → Int → MSt → Int × MSt
  | 0, pl, T => ((-1), T)
  | n + 1, pl, T => (if (T.1 4) < pl then ((-1), T) else (if (T.1 41) = 0 then (if ((M_tries pl T).1) = 0 then (if (M_has 1 (M_tries pl T).2) = 0 then M_searchL fr n (pl + 1) ((M_tries pl T).2) else ((-1), (M_tries pl T).2)) else (pl, (M_tries pl T).2)) else ((-1), T)))
set_option maxHeartbeats 4000000 in
set_option maxRecDepth 100000 in
theorem lp7_search (l : Launch) (D : va_G) (cy : Nat → ClassId) (o : Nat) (q : Nat → Nat) (fr : Int) (U : Int → MSt → Prop) (hU : ∀ pl T, U pl T → M_searchStep U pl T) {p : Program} {e : Env} {s : State} {m : MethodId} {args : Array Value} {below : List Frame} {meth : Method} {c : Code} (B : zAt p s m args meth c RX7 cX7_search 3 (some .int) (.code yX7_search cX7_search 3 (some .int) :: TB7)) (hK : va_K D vwCl (zTY cy) s) (post : Int → MSt → Prop) :
    ∀ (n : Nat) (pl : Int) (T : MSt) (H : Heap) (locs : List Loc) (ls : Array Slot), (25 - pl ≤ n) → (U pl T) → mH D cy o q (mA o q) s.heap T H locs → lv_has ls 3 [(0, .ref o), (1, .int (zI fr)), (2, .int (zI pl))] → post (M_searchL fr n pl T).1 (M_searchL fr n pl T).2 → W p l e (headSpec (.code yX7_search cX7_search 3 (some .int) :: TB7) ({ frames := 8, cells := 0, slots := 0, locals := 182 })).room s m args below meth c H locs 0 0 (MQ below (mQi D cy o q post) args s 0 0 (mA o q)) (F0 m 12 ls []) := by
  intro n
  induction n with
  | zero =>
    intro pl T H locs ls hn hu hM hl hpost
    obtain ⟨r0, r1, r2, r3, r4, r5, r6⟩ := hU _ _ hu
    refine lv_iload_n B.1 B.2.1 dX7_search_12 rfl (lv_at hl 2 rfl) ?_
    refine lv_aload_n B.1 B.2.1 dX7_search_13 rfl (lv_at hl 0 rfl) ?_
    refine m_get (x := T.1 4) B (i7 _) hK hM 4 (by decide) rfl rfl (List.mem_cons_of_mem _ w7_fRX7_202) dX7_search_14 ?_
    refine z_icmp_gt (tgt := 53) B.1 B.2.1 (zr_of (by omega) (by omega)) (zr_of (by omega) (by omega)) dX7_search_17 (by decide) (fun c_1 => ?_) (fun c_1 => ?_)
    · --
      refine z_iconst B.1 B.2.1 dX7_search_53 ?_
      have hq : M_searchL fr 0 pl T = ((-1), T) := rfl
      rw [hq] at hpost
      exact m_reti B hM (hpost) dX7_search_54
    · exact absurd c_1 (by omega)
  | succ n ih =>
    intro pl T H locs ls hn hu hM hl hpost
    obtain ⟨r0, r1, r2, r3, r4, r5, r6⟩ := hU _ _ hu
    refine lv_iload_n B.1 B.2.1 dX7_search_12 rfl (lv_at hl 2 rfl) ?_
    refine lv_aload_n B.1 B.2.1 dX7_search_13 rfl (lv_at hl 0 rfl) ?_
    refine m_get (x := T.1 4) B (i7 _) hK hM 4 (by decide) rfl rfl (List.mem_cons_of_mem _ w7_fRX7_202) dX7_search_14 ?_
    refine z_icmp_gt (tgt := 53) B.1 B.2.1 (zr_of (by omega) (by omega)) (zr_of (by omega) (by omega)) dX7_search_17 (by decide) (fun c_1 => ?_) (fun c_1 => ?_)
    · --
      refine z_iconst B.1 B.2.1 dX7_search_53 ?_
      have hq : M_searchL fr (n + 1) pl T = ((-1), T) := by rw [M_searchL]; exact (if_pos c_1)
      rw [hq] at hpost
      exact m_reti B hM (hpost) dX7_search_54
    · --
      refine lv_aload_n B.1 B.2.1 dX7_search_20 rfl (lv_at hl 0 rfl) ?_
      refine m_get (x := T.1 41) B (i7 _) hK hM 41 (by decide) rfl rfl (List.mem_cons_of_mem _ w7_fRX7_247) dX7_search_21 ?_
      refine z_if_ne (tgt := 53) B.1 B.2.1 (zr_of (by omega) (by omega)) dX7_search_24 (by decide) (fun c_2 => ?_) (fun c_2 => ?_)
      · --
        refine z_iconst B.1 B.2.1 dX7_search_53 ?_
        have hq : M_searchL fr (n + 1) pl T = ((-1), T) := by rw [M_searchL]; exact ((if_neg c_1).trans (if_neg c_2))
        rw [hq] at hpost
        exact m_reti B hM (hpost) dX7_search_54
      · --
        obtain ⟨hT, hT1, hT2⟩ := r6 (by omega) (by omega)
        refine lv_aload_n B.1 B.2.1 dX7_search_27 rfl (lv_at hl 0 rfl) ?_
        refine lv_iload_n B.1 B.2.1 dX7_search_28 rfl (lv_at hl 2 rfl) ?_
        refine m_calli (As := [.int (zI pl)]) (rest := []) B hK hM (cX7_tries_ok l D cy o q T pl hT) (cw7 1 B w7_mRX7_280 w7_im_yX7_tries w7_sl_yX7_tries w7_cd_yX7_tries rfl rfl (by decide +kernel) ⟨Nat.le_of_ble_eq_true rfl, Nat.le_of_ble_eq_true rfl⟩) rfl hl.1 rfl (Nat.le_of_ble_eq_true rfl) dX7_search_29 ⟨Nat.zero_le _, Nat.zero_le _⟩ (fun z_5 S_4 H locs hp_3 hM => ?_)
        obtain ⟨hp_3, he_hp_3⟩ := hp_3
        have he_hp_3 := he_hp_3.symm
        subst he_hp_3
        have hp_3 : (M_tries pl T).1 = z_5 := hp_3.symm
        subst hp_3
        have ht01 := hT1
        refine z_if_eq (tgt := 37) B.1 B.2.1 (zr_of (by omega) (by omega)) dX7_search_32 (by decide) (fun c_6 => ?_) (fun c_6 => ?_)
        · --
          obtain ⟨hf0, hf1, hN⟩ := hT2 c_6
          refine lv_aload_n B.1 B.2.1 dX7_search_37 rfl (lv_at hl 0 rfl) ?_
          refine z_iconst B.1 B.2.1 dX7_search_38 ?_
          refine m_calli (As := [.int (zI 1)]) (rest := []) B hK hM (cX7_has_ok l D cy o q (M_tries pl T).2 1 (by show 0 ≤ 1; omega) (by show 1 ≤ 7; omega) (by show 0 ≤ ((M_tries pl T).2.1 6); omega) (by show ((M_tries pl T).2.1 6) ≤ 7; omega)) (cw7 1 B w7_mRX7_209 w7_im_yX7_has w7_sl_yX7_has w7_cd_yX7_has rfl rfl (by decide +kernel) ⟨Nat.le_of_ble_eq_true rfl, Nat.le_of_ble_eq_true rfl⟩) rfl hl.1 rfl (Nat.le_of_ble_eq_true rfl) dX7_search_39 ⟨Nat.zero_le _, Nat.zero_le _⟩ (fun z_9 S_8 H locs hp_7 hM => ?_)
          obtain ⟨hp_7, he_hp_7⟩ := hp_7
          have he_hp_7 := he_hp_7.symm
          subst he_hp_7
          have hp_7 : M_has 1 (M_tries pl T).2 = z_9 := hp_7.symm
          subst hp_7
          have f_10 := M_has_01 1 (M_tries pl T).2
          refine z_if_eq (tgt := 47) B.1 B.2.1 (zr_of (by omega) (by omega)) dX7_search_42 (by decide) (fun c_11 => ?_) (fun c_11 => ?_)
          · --
            refine z_iinc (v := pl + 1) (lv' := [(2, .int (zI (pl + 1))), (0, .ref o), (1, .int (zI fr))]) B.1 B.2.1 dX7_search_47 hl (k := 2) rfl rfl (by decide) rfl (fun ls hl => ?_)
            refine lv_goto (tgt := 12) B.1 B.2.1 dX7_search_50 (by decide) ?_
            have hq : M_searchL fr (n + 1) pl T = M_searchL fr n (pl + 1) ((M_tries pl T).2) := by rw [M_searchL]; exact ((if_neg c_1).trans ((if_pos c_2).trans ((if_pos c_6).trans (if_pos c_11))))
            rw [hq] at hpost
            exact ih (pl + 1) ((M_tries pl T).2) H locs ls (by omega) (hN c_11) hM (lv_sub hl [1, 2, 0] rfl) hpost
          · --
            refine z_iconst B.1 B.2.1 dX7_search_45 ?_
            have hq : M_searchL fr (n + 1) pl T = ((-1), (M_tries pl T).2) := by rw [M_searchL]; exact ((if_neg c_1).trans ((if_pos c_2).trans ((if_pos c_6).trans (if_neg c_11))))
            rw [hq] at hpost
            exact m_reti B hM (hpost) dX7_search_46
        · --
          refine lv_iload_n B.1 B.2.1 dX7_search_35 rfl (lv_at hl 2 rfl) ?_
          have hq : M_searchL fr (n + 1) pl T = (pl, (M_tries pl T).2) := by rw [M_searchL]; exact ((if_neg c_1).trans ((if_pos c_2).trans (if_neg c_6)))
          rw [hq] at hpost
          exact m_reti B hM (hpost) dX7_search_36
def M_searchS (S : MSt) : MSt := mi (mi S 40 0) 41 0
def M_searchOK (fr : Int) (S : MSt) : Prop := 0 ≤ fr ∧ ∃ U : Int → MSt → Prop, (∀ pl T, U pl T → M_searchStep U pl T) ∧ U fr (M_searchS S)
def M_search (fr : Int) (S : MSt) : Int × MSt := M_searchL fr 25 fr (M_searchS S)
set_option maxHeartbeats 4000000 in
set_option maxRecDepth 100000 in
theorem cX7_search_ok (l : Launch) (D : va_G) (cy : Nat → ClassId) (o : Nat) (q : Nat → Nat) (S : MSt) (fr : Int) (hok : M_searchOK fr S) : mMi l D cy o q yX7_search (.code yX7_search cX7_search 3 (some .int) :: TB7) ({ frames := 8, cells := 0, slots := 0, locals := 182 }) S [.int (zI fr)] (fun r S' => r = (M_search fr S).1 ∧ S' = (M_search fr S).2) := by
  refine m_of (cc := cX7_search) (maxL := 3) (ret := (some .int)) (by decide) rfl rfl (Nat.le_of_ble_eq_true rfl) ?_
  intro p e s m args below meth c ls B hK hM hl
  have hl : lv_has ls 3 [(0, .ref o), (1, .int (zI fr))] := hl
  refine lv_aload_n B.1 B.2.1 dX7_search_0 rfl (lv_at hl 0 rfl) ?_
  refine z_iconst B.1 B.2.1 dX7_search_1 ?_
  refine m_put B (i7 _) hK hM 40 (by decide) rfl (by decide +kernel) (List.mem_cons_of_mem _ w7_fRX7_250) dX7_search_2 (fun H locs hM => ?_)
  refine lv_aload_n B.1 B.2.1 dX7_search_5 rfl (lv_at hl 0 rfl) ?_
  refine z_iconst B.1 B.2.1 dX7_search_6 ?_
  refine m_putz B (i7 _) hK hM 41 (by decide) rfl (by decide) (by decide +kernel) (List.mem_cons_of_mem _ w7_fRX7_247) dX7_search_7 (fun H locs hM => ?_)
  refine lv_iload_n B.1 B.2.1 dX7_search_10 rfl (lv_at hl 1 rfl) ?_
  refine lv_istore_n (lv' := [(2, .int (zI fr)), (0, .ref o), (1, .int (zI fr))]) B.1 B.2.1 dX7_search_11 rfl hl (by decide) rfl (fun ls hl => ?_)
  obtain ⟨hfr, U, hU, hu⟩ := hok
  exact lp7_search l D cy o q fr U hU B hK _ 25 fr _ _ _ ls (by omega) hu hM (lv_sub hl [1, 2, 0] rfl) ⟨rfl, rfl⟩
def M_findL (pl : Int) : Nat → Int → MSt → MSt
  | 0, _, T => T
  | n + 1, g, T => M_findL pl n (g + 1) ((ma (ma T 43 g.toNat (T.2 33 g.toNat)) 44 g.toNat (T.2 33 (10 + g).toNat)))
theorem M_findL_1 (pl : Int) : ∀ (n : Nat) (g : Int) (T : MSt), (M_findL pl n g T).1 = T.1
  | 0, _, _ => rfl
  | n + 1, g, T => by rw [M_findL, M_findL_1 pl n]; rfl
theorem M_findL_2 (pl : Int) {a : Nat} (h43 : a ≠ 43) (h44 : a ≠ 44) : ∀ (n : Nat) (g : Int) (T : MSt), (M_findL pl n g T).2 a = T.2 a
  | 0, _, _ => rfl
  | n + 1, g, T => by rw [M_findL, M_findL_2 pl h43 h44 n]; rw [ma_ne h44, ma_ne h43]
set_option maxHeartbeats 4000000 in
set_option maxRecDepth 100000 in
theorem lp7_find (l : Launch) (D : va_G) (cy : Nat → ClassId) (o : Nat) (q : Nat → Nat) (pl : Int)  {p : Program} {e : Env} {R : Room} {s : State} {m : MethodId} {args : Array Value} {below : List Frame} {meth : Method} {c : Code} {cells slots : Nat} {A : Nat → Prop} {H0 : Heap} {Q : State → Prop} (B : zAt p s m args meth c RX7 cX7_find 3 (some .int) (.code yX7_find cX7_find 3 (some .int) :: TB7)) (hK : va_K D vwCl (zTY cy) s) :
    ∀ (n : Nat) (g : Int) (T : MSt) (H : Heap) (locs : List Loc) (ls : Array Slot), (1 ≤ g) → (g + n = T.1 12 + 1) → (T.1 12 ≤ 9) → mH D cy o q A H0 T H locs → lv_has ls 3 [(0, .ref o), (1, .int (zI pl)), (2, .int (zI g))] → (∀ (ls' : Array Slot) (H' : Heap) (locs' : List Loc), mH D cy o q A H0 (M_findL pl n g T) H' locs' → lv_has ls' 3 [(0, .ref o), (1, .int (zI pl))] → W p l e R s m args below meth c H' locs' cells slots Q (F0 m 110 ls' [])) → W p l e R s m args below meth c H locs cells slots Q (F0 m 69 ls []) := by
  intro n
  induction n with
  | zero =>
    intro g T H locs ls hg0 hgn hb hM hl kk
    refine lv_iload_n B.1 B.2.1 dX7_find_69 rfl (lv_at hl 2 rfl) ?_
    refine lv_aload_n B.1 B.2.1 dX7_find_70 rfl (lv_at hl 0 rfl) ?_
    refine m_get (x := T.1 12) B (i7 _) hK hM 12 (by decide) rfl rfl (List.mem_cons_of_mem _ w7_fRX7_190) dX7_find_71 ?_
    refine z_icmp_gt (tgt := 110) B.1 B.2.1 (zr_of (by omega) (by omega)) (zr_of (by omega) (by omega)) dX7_find_74 (by decide) (fun c_1 => ?_) (fun c_1 => ?_)
    · --
      exact kk ls H locs hM (lv_sub hl [0, 1] rfl)
    · exact absurd c_1 (by omega)
  | succ n ih =>
    intro g T H locs ls hg0 hgn hb hM hl kk
    refine lv_iload_n B.1 B.2.1 dX7_find_69 rfl (lv_at hl 2 rfl) ?_
    refine lv_aload_n B.1 B.2.1 dX7_find_70 rfl (lv_at hl 0 rfl) ?_
    refine m_get (x := T.1 12) B (i7 _) hK hM 12 (by decide) rfl rfl (List.mem_cons_of_mem _ w7_fRX7_190) dX7_find_71 ?_
    refine z_icmp_gt (tgt := 110) B.1 B.2.1 (zr_of (by omega) (by omega)) (zr_of (by omega) (by omega)) dX7_find_74 (by decide) (fun c_1 => ?_) (fun c_1 => ?_)
    · exact absurd c_1 (by omega)
    · --
      refine lv_aload_n B.1 B.2.1 dX7_find_77 rfl (lv_at hl 0 rfl) ?_
      refine m_getr B (i7 _) hK hM 43 (by decide) rfl (List.mem_cons_of_mem _ w7_fRX7_74) dX7_find_78 ?_
      refine lv_iload_n B.1 B.2.1 dX7_find_81 rfl (lv_at hl 2 rfl) ?_
      refine lv_aload_n B.1 B.2.1 dX7_find_82 rfl (lv_at hl 0 rfl) ?_
      refine m_getr B (i7 _) hK hM 33 (by decide) rfl (List.mem_cons_of_mem _ w7_fRX7_65) dX7_find_83 ?_
      refine lv_iload_n B.1 B.2.1 dX7_find_86 rfl (lv_at hl 2 rfl) ?_
      refine m_iald (x := T.2 33 g.toNat) B hK hM 18 33 rfl rfl (by omega) (by simp only [mN]; omega) rfl dX7_find_87 ?_
      refine m_iast B hK hM 21 43 rfl rfl (by omega) (by simp only [mN]; omega) dX7_find_88 (fun H locs hM => ?_)
      refine lv_aload_n B.1 B.2.1 dX7_find_89 rfl (lv_at hl 0 rfl) ?_
      refine m_getr B (i7 _) hK hM 44 (by decide) rfl (List.mem_cons_of_mem _ w7_fRX7_77) dX7_find_90 ?_
      refine lv_iload_n B.1 B.2.1 dX7_find_93 rfl (lv_at hl 2 rfl) ?_
      refine lv_aload_n B.1 B.2.1 dX7_find_94 rfl (lv_at hl 0 rfl) ?_
      refine m_getr B (i7 _) hK hM 33 (by decide) rfl (List.mem_cons_of_mem _ w7_fRX7_65) dX7_find_95 ?_
      refine z_bipush B.1 B.2.1 (by decide) dX7_find_98 ?_
      refine lv_iload_n B.1 B.2.1 dX7_find_100 rfl (lv_at hl 2 rfl) ?_
      refine z_iadd (x := 10 + g) B.1 B.2.1 rfl dX7_find_101 ?_
      refine m_iald (x := T.2 33 (10 + g).toNat) B hK hM 18 33 rfl rfl (by omega) (by simp only [mN]; omega) rfl dX7_find_102 ?_
      refine m_iast B hK hM 22 44 rfl rfl (by omega) (by simp only [mN]; omega) dX7_find_103 (fun H locs hM => ?_)
      refine z_iinc (v := g + 1) (lv' := [(2, .int (zI (g + 1))), (0, .ref o), (1, .int (zI pl))]) B.1 B.2.1 dX7_find_104 hl (k := 2) rfl rfl (by decide) rfl (fun ls hl => ?_)
      refine lv_goto (tgt := 69) B.1 B.2.1 dX7_find_107 (by decide) ?_
      exact ih (g + 1) ((ma (ma T 43 g.toNat (T.2 33 g.toNat)) 44 g.toNat (T.2 33 (10 + g).toNat))) H locs ls (by omega) (by show g + 1 + n = T.1 12 + 1; omega) hb hM (lv_sub hl [1, 2, 0] rfl) kk
def M_findOK (S : MSt) : Prop := M_searchOK (S.1 5) (mi S 0 0) ∧ 0 ≤ (M_search (S.1 5) (mi S 0 0)).2.1 41 ∧ (M_search (S.1 5) (mi S 0 0)).2.1 41 ≤ 1 ∧ -1000 ≤ (M_search (S.1 5) (mi S 0 0)).1 ∧ (M_search (S.1 5) (mi S 0 0)).1 ≤ 1000 ∧ 0 ≤ (M_search (S.1 5) (mi S 0 0)).2.1 12 ∧ (M_search (S.1 5) (mi S 0 0)).2.1 12 ≤ 9
def M_find (S : MSt) : Int × MSt := (if ((M_search (S.1 5) (mi S 0 0)).2.1 41) = 0 then ((M_search (S.1 5) (mi S 0 0)).1, (ma (ma (M_findL (M_search (S.1 5) (mi S 0 0)).1 ((M_search (S.1 5) (mi S 0 0)).2.1 12).toNat 1 (mi (mi (mi (M_search (S.1 5) (mi S 0 0)).2 45 ((M_search (S.1 5) (mi S 0 0)).2.1 40)) 42 ((if ((M_search (S.1 5) (mi S 0 0)).1) < 0 then 0 else 1 : Int))) 5 ((if ((if ((M_search (S.1 5) (mi S 0 0)).1) < 0 then 0 else 1 : Int)) = 0 then 0 else (M_search (S.1 5) (mi S 0 0)).2.1 38 : Int)))) 43 (0 : Int).toNat ((M_search (S.1 5) (mi S 0 0)).1)) 44 (0 : Int).toNat ((M_search (S.1 5) (mi S 0 0)).2.1 38))) else (0, (mi (M_search (S.1 5) (mi S 0 0)).2 0 1)))
set_option maxHeartbeats 4000000 in
set_option maxRecDepth 100000 in
theorem cX7_find_ok (l : Launch) (D : va_G) (cy : Nat → ClassId) (o : Nat) (q : Nat → Nat) (S : MSt) (hok : M_findOK S) : mMi l D cy o q yX7_find (.code yX7_find cX7_find 3 (some .int) :: TB7) ({ frames := 9, cells := 0, slots := 0, locals := 204 }) S [] (fun r S' => r = (M_find S).1 ∧ S' = (M_find S).2) := by
  refine m_of (cc := cX7_find) (maxL := 3) (ret := (some .int)) (by decide) rfl rfl (Nat.le_of_ble_eq_true rfl) ?_
  intro p e s m args below meth c ls B hK hM hl
  have hl : lv_has ls 3 [(0, .ref o)] := hl
  obtain ⟨hS, v1, v2, v3, v4, v5, v6⟩ := hok
  refine lv_aload_n B.1 B.2.1 dX7_find_0 rfl (lv_at hl 0 rfl) ?_
  refine z_iconst B.1 B.2.1 dX7_find_1 ?_
  refine m_put B (i7 _) hK hM 0 (by decide) rfl (by decide +kernel) (List.mem_cons_of_mem _ w7_fRX7_98) dX7_find_2 (fun H locs hM => ?_)
  refine lv_aload_n B.1 B.2.1 dX7_find_5 rfl (lv_at hl 0 rfl) ?_
  refine lv_aload_n B.1 B.2.1 dX7_find_6 rfl (lv_at hl 0 rfl) ?_
  refine m_get (x := S.1 5) B (i7 _) hK hM 5 (by decide) rfl rfl (List.mem_cons_of_mem _ w7_fRX7_196) dX7_find_7 ?_
  refine m_calli (As := [.int (zI (S.1 5))]) (rest := []) B hK hM (cX7_search_ok l D cy o q (mi S 0 0) (S.1 5) hS) (cw7 1 B w7_mRX7_283 w7_im_yX7_search w7_sl_yX7_search w7_cd_yX7_search rfl rfl (by decide +kernel) ⟨Nat.le_of_ble_eq_true rfl, Nat.le_of_ble_eq_true rfl⟩) rfl hl.1 rfl (Nat.le_of_ble_eq_true rfl) dX7_find_10 ⟨Nat.zero_le _, Nat.zero_le _⟩ (fun z_3 S_2 H locs hp_1 hM => ?_)
  obtain ⟨hp_1, he_hp_1⟩ := hp_1
  have he_hp_1 := he_hp_1.symm
  subst he_hp_1
  have hp_1 : (M_search (S.1 5) (mi S 0 0)).1 = z_3 := hp_1.symm
  subst hp_1
  refine lv_istore_n (lv' := [(1, .int (zI ((M_search (S.1 5) (mi S 0 0)).1))), (0, .ref o)]) B.1 B.2.1 dX7_find_13 rfl hl (by decide) rfl (fun ls hl => ?_)
  refine lv_aload_n B.1 B.2.1 dX7_find_14 rfl (lv_at hl 1 rfl) ?_
  refine m_get (x := (M_search (S.1 5) (mi S 0 0)).2.1 41) B (i7 _) hK hM 41 (by decide) rfl rfl (List.mem_cons_of_mem _ w7_fRX7_247) dX7_find_15 ?_
  refine z_if_eq (tgt := 27) B.1 B.2.1 (zr_of (by omega) (by omega)) dX7_find_18 (by decide) (fun c_4 => ?_) (fun c_4 => ?_)
  · --
    refine lv_aload_n B.1 B.2.1 dX7_find_27 rfl (lv_at hl 1 rfl) ?_
    refine lv_aload_n B.1 B.2.1 dX7_find_28 rfl (lv_at hl 1 rfl) ?_
    refine m_get (x := (M_search (S.1 5) (mi S 0 0)).2.1 40) B (i7 _) hK hM 40 (by decide) rfl rfl (List.mem_cons_of_mem _ w7_fRX7_250) dX7_find_29 ?_
    refine m_put B (i7 _) hK hM 45 (by decide) rfl (by decide +kernel) (List.mem_cons_of_mem _ w7_fRX7_286) dX7_find_32 (fun H locs hM => ?_)
    refine lv_aload_n B.1 B.2.1 dX7_find_35 rfl (lv_at hl 1 rfl) ?_
    refine lv_iload_n B.1 B.2.1 dX7_find_36 rfl (lv_at hl 0 rfl) ?_
    refine z_joinH (P := fun v H' locs' => v = (if ((M_search (S.1 5) (mi S 0 0)).1) < 0 then 0 else 1 : Int) ∧ mH D cy o q (mA o q) s.heap (mi (M_search (S.1 5) (mi S 0 0)).2 45 ((M_search (S.1 5) (mi S 0 0)).2.1 40)) H' locs') (pcJ := 45) (lsJ := ls) (stJ := [.ref o]) (fun v_5 H locs hv_6 => ?_) (fun hJ_7 => ?_)
    · --
      obtain ⟨hv_6, hM⟩ := hv_6
      have hb_8 : (if ((M_search (S.1 5) (mi S 0 0)).1) < 0 then 0 else 1 : Int) = 0 ∨ (if ((M_search (S.1 5) (mi S 0 0)).1) < 0 then 0 else 1 : Int) = 1 := by (repeat' split) <;> simp
      have hv_6 := hv_6.symm
      subst hv_6
      refine m_putz B (i7 _) hK hM 42 (by decide) rfl (by omega) (by decide +kernel) (List.mem_cons_of_mem _ w7_fRX7_199) dX7_find_45 (fun H locs hM => ?_)
      refine lv_aload_n B.1 B.2.1 dX7_find_48 rfl (lv_at hl 1 rfl) ?_
      refine lv_aload_n B.1 B.2.1 dX7_find_49 rfl (lv_at hl 1 rfl) ?_
      refine m_get (x := (if ((M_search (S.1 5) (mi S 0 0)).1) < 0 then 0 else 1 : Int)) B (i7 _) hK hM 42 (by decide) rfl rfl (List.mem_cons_of_mem _ w7_fRX7_199) dX7_find_50 ?_
      refine z_joinH (P := fun v H' locs' => v = (if ((if ((M_search (S.1 5) (mi S 0 0)).1) < 0 then 0 else 1 : Int)) = 0 then 0 else (M_search (S.1 5) (mi S 0 0)).2.1 38 : Int) ∧ mH D cy o q (mA o q) s.heap (mi (mi (M_search (S.1 5) (mi S 0 0)).2 45 ((M_search (S.1 5) (mi S 0 0)).2.1 40)) 42 ((if ((M_search (S.1 5) (mi S 0 0)).1) < 0 then 0 else 1 : Int))) H' locs') (pcJ := 64) (lsJ := ls) (stJ := [.ref o]) (fun v_9 H locs hv_10 => ?_) (fun hJ_11 => ?_)
      · --
        obtain ⟨hv_10, hM⟩ := hv_10
        have hv_10 := hv_10.symm
        subst hv_10
        refine m_put B (i7 _) hK hM 5 (by decide) rfl (by decide +kernel) (List.mem_cons_of_mem _ w7_fRX7_196) dX7_find_64 (fun H locs hM => ?_)
        refine z_iconst B.1 B.2.1 dX7_find_67 ?_
        refine lv_istore_n (lv' := [(2, .int (zI 1)), (1, .int (zI ((M_search (S.1 5) (mi S 0 0)).1))), (0, .ref o)]) B.1 B.2.1 dX7_find_68 rfl hl (by decide) rfl (fun ls hl => ?_)
        refine lp7_find l D cy o q (M_search (S.1 5) (mi S 0 0)).1 B hK ((M_search (S.1 5) (mi S 0 0)).2.1 12).toNat 1 (mi (mi (mi (M_search (S.1 5) (mi S 0 0)).2 45 ((M_search (S.1 5) (mi S 0 0)).2.1 40)) 42 ((if ((M_search (S.1 5) (mi S 0 0)).1) < 0 then 0 else 1 : Int))) 5 ((if ((if ((M_search (S.1 5) (mi S 0 0)).1) < 0 then 0 else 1 : Int)) = 0 then 0 else (M_search (S.1 5) (mi S 0 0)).2.1 38 : Int))) _ _ ls (by omega) (by show (1 : Int) + (((M_search (S.1 5) (mi S 0 0)).2.1 12).toNat : Int) = (M_search (S.1 5) (mi S 0 0)).2.1 12 + 1; omega) v6 hM (lv_sub hl [2, 1, 0] rfl) (fun ls H locs hM hl => ?_)
        refine lv_aload_n B.1 B.2.1 dX7_find_110 rfl (lv_at hl 0 rfl) ?_
        refine m_getr B (i7 _) hK hM 43 (by decide) rfl (List.mem_cons_of_mem _ w7_fRX7_74) dX7_find_111 ?_
        refine z_iconst B.1 B.2.1 dX7_find_114 ?_
        refine lv_iload_n B.1 B.2.1 dX7_find_115 rfl (lv_at hl 1 rfl) ?_
        refine m_iast B hK hM 21 43 rfl rfl (by decide) (by decide) dX7_find_116 (fun H locs hM => ?_)
        refine lv_aload_n B.1 B.2.1 dX7_find_117 rfl (lv_at hl 0 rfl) ?_
        refine m_getr B (i7 _) hK hM 44 (by decide) rfl (List.mem_cons_of_mem _ w7_fRX7_77) dX7_find_118 ?_
        refine z_iconst B.1 B.2.1 dX7_find_121 ?_
        refine lv_aload_n B.1 B.2.1 dX7_find_122 rfl (lv_at hl 0 rfl) ?_
        refine m_get (x := (M_search (S.1 5) (mi S 0 0)).2.1 38) B (i7 _) hK hM 38 (by decide) rfl (by simp only [ma_1, M_findL_1, mi_ne (show (38 : Nat) ≠ 5 by decide), mi_ne (show (38 : Nat) ≠ 42 by decide), mi_ne (show (38 : Nat) ≠ 45 by decide)]) (List.mem_cons_of_mem _ w7_fRX7_216) dX7_find_123 ?_
        refine m_iast B hK hM 22 44 rfl rfl (by decide) (by decide) dX7_find_126 (fun H locs hM => ?_)
        refine lv_iload_n B.1 B.2.1 dX7_find_127 rfl (lv_at hl 1 rfl) ?_
        have hq : M_find S = ((M_search (S.1 5) (mi S 0 0)).1, (ma (ma (M_findL (M_search (S.1 5) (mi S 0 0)).1 ((M_search (S.1 5) (mi S 0 0)).2.1 12).toNat 1 (mi (mi (mi (M_search (S.1 5) (mi S 0 0)).2 45 ((M_search (S.1 5) (mi S 0 0)).2.1 40)) 42 ((if ((M_search (S.1 5) (mi S 0 0)).1) < 0 then 0 else 1 : Int))) 5 ((if ((if ((M_search (S.1 5) (mi S 0 0)).1) < 0 then 0 else 1 : Int)) = 0 then 0 else (M_search (S.1 5) (mi S 0 0)).2.1 38 : Int)))) 43 (0 : Int).toNat ((M_search (S.1 5) (mi S 0 0)).1)) 44 (0 : Int).toNat ((M_search (S.1 5) (mi S 0 0)).2.1 38))) := by unfold M_find; exact (if_pos c_4)
        exact m_reti B hM (⟨(congrArg Prod.fst hq).symm, (congrArg Prod.snd hq).symm⟩) dX7_find_128
      · --
        refine z_if_eq (tgt := 63) B.1 B.2.1 (zr_of (by omega) (by omega)) dX7_find_53 (by decide) (fun c_12 => ?_) (fun c_12 => ?_)
        · --
          refine z_iconst B.1 B.2.1 dX7_find_63 ?_
          exact hJ_11 _ _ _ ⟨(if_pos c_12).symm, hM⟩
        · --
          refine lv_aload_n B.1 B.2.1 dX7_find_56 rfl (lv_at hl 1 rfl) ?_
          refine m_get (x := (M_search (S.1 5) (mi S 0 0)).2.1 38) B (i7 _) hK hM 38 (by decide) rfl rfl (List.mem_cons_of_mem _ w7_fRX7_216) dX7_find_57 ?_
          refine lv_goto (tgt := 64) B.1 B.2.1 dX7_find_60 (by decide) ?_
          exact hJ_11 _ _ _ ⟨(if_neg c_12).symm, hM⟩
    · --
      refine z_if_lt (tgt := 44) B.1 B.2.1 (zr_of (by omega) (by omega)) dX7_find_37 (by decide) (fun c_13 => ?_) (fun c_13 => ?_)
      · --
        refine z_iconst B.1 B.2.1 dX7_find_44 ?_
        exact hJ_7 _ _ _ ⟨(if_pos c_13).symm, hM⟩
      · --
        refine z_iconst B.1 B.2.1 dX7_find_40 ?_
        refine lv_goto (tgt := 45) B.1 B.2.1 dX7_find_41 (by decide) ?_
        exact hJ_7 _ _ _ ⟨(if_neg c_13).symm, hM⟩
  · --
    refine lv_aload_n B.1 B.2.1 dX7_find_21 rfl (lv_at hl 1 rfl) ?_
    refine z_iconst B.1 B.2.1 dX7_find_22 ?_
    refine m_calli (As := [.int (zI 1)]) (rest := []) B hK hM (cX7_refuse_ok l D cy o q (M_search (S.1 5) (mi S 0 0)).2 1 ) (cw7 1 B w7_mRX7_104 w7_im_yX7_refuse w7_sl_yX7_refuse w7_cd_yX7_refuse rfl rfl (by decide +kernel) ⟨Nat.le_of_ble_eq_true rfl, Nat.le_of_ble_eq_true rfl⟩) rfl hl.1 rfl (Nat.le_of_ble_eq_true rfl) dX7_find_23 ⟨Nat.zero_le _, Nat.zero_le _⟩ (fun z_16 S_15 H locs hp_14 hM => ?_)
    obtain ⟨hp_14, he_hp_14⟩ := hp_14
    have he_hp_14 := he_hp_14.symm
    subst he_hp_14
    have hp_14 : 0 = z_16 := hp_14.symm
    subst hp_14
    have hq : M_find S = (0, (mi (M_search (S.1 5) (mi S 0 0)).2 0 1)) := by unfold M_find; exact (if_neg c_4)
    exact m_reti B hM (⟨(congrArg Prod.fst hq).symm, (congrArg Prod.snd hq).symm⟩) dX7_find_26
