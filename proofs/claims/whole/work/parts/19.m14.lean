def M_writeTextOK (fr to : Int) (S : MSt) : Prop :=
  (fr < to → 0 ≤ fr) ∧
  (-1000 ≤ fr ∧ fr ≤ 1000) ∧
  (to ≤ 24) ∧
  (-1000 ≤ to) ∧
  (0 ≤ S.1 49) ∧
  (S.1 49 ≤ 260) ∧
  (∀ j, 0 ≤ S.2 3 j ∧ S.2 3 j ≤ 126)
theorem cX7_writeText_ok' (l : Launch) (D : va_G) (cy : Nat → ClassId) (o : Nat) (q : Nat → Nat) (S : MSt) (fr to : Int) (h : M_writeTextOK fr to S) : mMv l D cy o q yX7_writeText (.code yX7_writeText cX7_writeText 4 none :: TB7) ({ frames := 1, cells := 0, slots := 0, locals := 21 }) S [.int (zI fr), .int (zI to)] (fun S' => S' = M_writeText fr to S) := by
  obtain ⟨hk0, hkb, hto, htb, h490, h491, htx⟩ := h
  exact cX7_writeText_ok l D cy o q S fr to hk0 hkb hto htb h490 h491 htx
def M_writeTemplateOK (pl : Int) (S : MSt) : Prop :=
  (0 ≤ pl) ∧
  (pl ≤ 1000) ∧
  (0 ≤ S.1 2) ∧
  (S.1 2 ≤ 40) ∧
  (0 ≤ S.1 38) ∧
  (S.1 38 ≤ 24) ∧
  (0 ≤ S.1 12 ∧ S.1 12 ≤ 9) ∧
  (0 ≤ S.1 49) ∧
  (S.1 49 ≤ 260) ∧
  (∀ j, 0 ≤ S.2 3 j ∧ S.2 3 j ≤ 126) ∧
  (∀ j, 0 ≤ S.2 1 j ∧ S.2 1 j ≤ 126) ∧
  (∀ g : Int, 1 ≤ g → g ≤ 9 → -1000 ≤ S.2 33 g.toNat ∧ -1000 ≤ S.2 33 (10 + g).toNat ∧ S.2 33 (10 + g).toNat ≤ 24 ∧ (S.2 33 g.toNat < S.2 33 (10 + g).toNat → 0 ≤ S.2 33 g.toNat) ∧ S.2 33 g.toNat ≤ 1000)
theorem cX7_writeTemplate_ok' (l : Launch) (D : va_G) (cy : Nat → ClassId) (o : Nat) (q : Nat → Nat) (S : MSt) (pl : Int) (h : M_writeTemplateOK pl S) : mMv l D cy o q yX7_writeTemplate (.code yX7_writeTemplate cX7_writeTemplate 6 none :: TB7) ({ frames := 2, cells := 0, slots := 0, locals := 44 }) S [.int (zI pl)] (fun S' => S' = M_writeTemplate pl S) := by
  obtain ⟨hpl0, hpl1, htc0, htc, hp0, hp1, hgr, h490, h491, htx, hty, hrg⟩ := h
  exact cX7_writeTemplate_ok l D cy o q S pl hpl0 hpl1 htc0 htc hp0 hp1 hgr h490 h491 htx hty hrg
/-- one turn of replace: 'V n many done pl T' stays true of what comes -/
def M_replStep (V : Nat → Int → Int → Int → MSt → Prop) (n : Nat) (many done pl : Int) (T : MSt) : Prop := -1000 ≤ pl ∧ pl ≤ 1000 ∧ 0 ≤ T.1 41 ∧ T.1 41 ≤ 1 ∧ -1000 ≤ T.1 38 ∧ T.1 38 ≤ 1000 ∧
  (0 ≤ pl → T.1 41 = 0 → ∃ n', n = n' + 1 ∧ M_writeTextOK done pl T ∧ M_writeTemplateOK pl (M_writeText done pl T) ∧ M_searchOK (if T.1 38 = pl then T.1 38 + 1 else T.1 38 : Int) (M_writeTemplate pl (M_writeText done pl T)) ∧ V n' (many + 1) (T.1 38) (M_search (if T.1 38 = pl then T.1 38 + 1 else T.1 38 : Int) (M_writeTemplate pl (M_writeText done pl T))).1 (M_search (if T.1 38 = pl then T.1 38 + 1 else T.1 38 : Int) (M_writeTemplate pl (M_writeText done pl T))).2) ∧
  ((pl < 0 ∨ ¬ T.1 41 = 0) → M_writeTextOK done (T.1 4) T ∧ 0 ≤ (M_writeText done (T.1 4) T).1 41 ∧ (M_writeText done (T.1 4) T).1 41 ≤ 1 ∧ 0 ≤ (M_writeText done (T.1 4) T).1 49 ∧ (M_writeText done (T.1 4) T).1 49 ≤ 260 ∧ (∀ j, 0 ≤ (M_writeText done (T.1 4) T).2 48 j ∧ (M_writeText done (T.1 4) T).2 48 j ≤ 126))
def M_replC (many : Int) : Nat → Int → MSt → MSt
  | 0, _, T => T
  | n + 1, k, T => M_replC many n (k + 1) ((ma T 46 k.toNat (T.2 48 k.toNat)))
theorem M_replC_1 (many : Int) : ∀ (n : Nat) (k : Int) (T : MSt), (M_replC many n k T).1 = T.1
  | 0, _, _ => rfl
  | n + 1, k, T => by rw [M_replC, M_replC_1 many n]; rfl
theorem M_replC_2 (many : Int) {a : Nat} (h46 : a ≠ 46) : ∀ (n : Nat) (k : Int) (T : MSt), (M_replC many n k T).2 a = T.2 a
  | 0, _, _ => rfl
  | n + 1, k, T => by rw [M_replC, M_replC_2 many h46 n]; rw [ma_ne h46]
set_option maxHeartbeats 4000000 in
set_option maxRecDepth 100000 in
theorem lp7_replC (l : Launch) (D : va_G) (cy : Nat → ClassId) (o : Nat) (q : Nat → Nat) (many : Int)  {p : Program} {e : Env} {R : Room} {s : State} {m : MethodId} {args : Array Value} {below : List Frame} {meth : Method} {c : Code} {cells slots : Nat} {A : Nat → Prop} {H0 : Heap} {Q : State → Prop} (B : zAt p s m args meth c RX7 cX7_replace 5 (some .int) (.code yX7_replace cX7_replace 5 (some .int) :: TB7)) (hK : va_K D vwCl (zTY cy) s) :
    ∀ (n : Nat) (k : Int) (T : MSt) (H : Heap) (locs : List Loc) (ls : Array Slot), (0 ≤ k) → (k + n = T.1 49) → (T.1 49 ≤ 200) → (∀ j, 0 ≤ T.2 48 j ∧ T.2 48 j ≤ 126) → mH D cy o q A H0 T H locs → lv_has ls 5 [(0, .ref o), (1, .int (zI many)), (4, .int (zI k))] → (∀ (ls' : Array Slot) (H' : Heap) (locs' : List Loc), mH D cy o q A H0 (M_replC many n k T) H' locs' → lv_has ls' 5 [(0, .ref o), (1, .int (zI many))] → W p l e R s m args below meth c H' locs' cells slots Q (F0 m 141 ls' [])) → W p l e R s m args below meth c H locs cells slots Q (F0 m 112 ls []) := by
  intro n
  induction n with
  | zero =>
    intro k T H locs ls hk0 hkn hb hch hM hl kk
    refine lv_iload B.1 B.2.1 dX7_replace_112 (lv_at hl 2 rfl) ?_
    refine lv_aload_n B.1 B.2.1 dX7_replace_114 rfl (lv_at hl 0 rfl) ?_
    refine m_get (x := T.1 49) B (i7 _) hK hM 49 (by decide) rfl rfl (List.mem_cons_of_mem _ w7_fRX7_292) dX7_replace_115 ?_
    refine z_icmp_ge (tgt := 141) B.1 B.2.1 (zr_of (by omega) (by omega)) (zr_of (by omega) (by omega)) dX7_replace_118 (by decide) (fun c_1 => ?_) (fun c_1 => ?_)
    · --
      exact kk ls H locs hM (lv_sub hl [0, 1] rfl)
    · exact absurd c_1 (by omega)
  | succ n ih =>
    intro k T H locs ls hk0 hkn hb hch hM hl kk
    refine lv_iload B.1 B.2.1 dX7_replace_112 (lv_at hl 2 rfl) ?_
    refine lv_aload_n B.1 B.2.1 dX7_replace_114 rfl (lv_at hl 0 rfl) ?_
    refine m_get (x := T.1 49) B (i7 _) hK hM 49 (by decide) rfl rfl (List.mem_cons_of_mem _ w7_fRX7_292) dX7_replace_115 ?_
    refine z_icmp_ge (tgt := 141) B.1 B.2.1 (zr_of (by omega) (by omega)) (zr_of (by omega) (by omega)) dX7_replace_118 (by decide) (fun c_1 => ?_) (fun c_1 => ?_)
    · exact absurd c_1 (by omega)
    · --
      refine lv_aload_n B.1 B.2.1 dX7_replace_121 rfl (lv_at hl 0 rfl) ?_
      refine m_getr B (i7 _) hK hM 46 (by decide) rfl (List.mem_cons_of_mem _ w7_fRX7_80) dX7_replace_122 ?_
      refine lv_iload B.1 B.2.1 dX7_replace_125 (lv_at hl 2 rfl) ?_
      refine lv_aload_n B.1 B.2.1 dX7_replace_127 rfl (lv_at hl 0 rfl) ?_
      refine m_getr B (i7 _) hK hM 48 (by decide) rfl (List.mem_cons_of_mem _ w7_fRX7_83) dX7_replace_128 ?_
      refine lv_iload B.1 B.2.1 dX7_replace_131 (lv_at hl 2 rfl) ?_
      have f_2 := hch k.toNat
      refine m_cald (x := T.2 48 k.toNat) B hK hM 24 48 rfl rfl (by omega) (by simp only [mN]; omega) rfl dX7_replace_133 ?_
      refine m_cast B hK hM 23 46 rfl rfl (by omega) (by simp only [mN]; omega) (by omega) (by omega) dX7_replace_134 (fun H locs hM => ?_)
      refine z_iinc (v := k + 1) (lv' := [(4, .int (zI (k + 1))), (0, .ref o), (1, .int (zI many))]) B.1 B.2.1 dX7_replace_135 hl (k := 2) rfl rfl (by decide) rfl (fun ls hl => ?_)
      refine lv_goto (tgt := 112) B.1 B.2.1 dX7_replace_138 (by decide) ?_
      exact ih (k + 1) ((ma T 46 k.toNat (T.2 48 k.toNat))) H locs ls (by omega) (by show k + 1 + n = T.1 49; omega) hb hch hM (lv_sub hl [1, 2, 0] rfl) kk
def M_replL  : Nat → Int → Int → Int → MSt → Int × MSt
  | 0, many, done, pl, T => (if pl < 0 then (if ((M_writeText done (T.1 4) T).1 41) = 0 then (if ((M_writeText done (T.1 4) T).1 49) ≤ 200 then (many, (mi (mi (mi (mi (M_replC many ((M_writeText done (T.1 4) T).1 49).toNat 0 (M_writeText done (T.1 4) T)) 47 ((M_writeText done (T.1 4) T).1 49)) 2 0) 5 0) 42 0)) else (0, (mi (M_writeText done (T.1 4) T) 0 1))) else (0, (mi (M_writeText done (T.1 4) T) 0 1))) else (if (T.1 41) = 0 then (0, T) else (if ((M_writeText done (T.1 4) T).1 41) = 0 then (if ((M_writeText done (T.1 4) T).1 49) ≤ 200 then (many, (mi (mi (mi (mi (M_replC many ((M_writeText done (T.1 4) T).1 49).toNat 0 (M_writeText done (T.1 4) T)) 47 ((M_writeText done (T.1 4) T).1 49)) 2 0) 5 0) 42 0)) else (0, (mi (M_writeText done (T.1 4) T) 0 1))) else (0, (mi (M_writeText done (T.1 4) T) 0 1)))))
  | n + 1, many, done, pl, T => (if pl < 0 then (if ((M_writeText done (T.1 4) T).1 41) = 0 then (if ((M_writeText done (T.1 4) T).1 49) ≤ 200 then (many, (mi (mi (mi (mi (M_replC many ((M_writeText done (T.1 4) T).1 49).toNat 0 (M_writeText done (T.1 4) T)) 47 ((M_writeText done (T.1 4) T).1 49)) 2 0) 5 0) 42 0)) else (0, (mi (M_writeText done (T.1 4) T) 0 1))) else (0, (mi (M_writeText done (T.1 4) T) 0 1))) else (if (T.1 41) = 0 then M_replL  n (many + 1) (T.1 38) ((M_search ((if (T.1 38) = pl then (T.1 38) + 1 else T.1 38 : Int)) (M_writeTemplate pl (M_writeText done pl T))).1) ((M_search ((if (T.1 38) = pl then (T.1 38) + 1 else T.1 38 : Int)) (M_writeTemplate pl (M_writeText done pl T))).2) else (if ((M_writeText done (T.1 4) T).1 41) = 0 then (if ((M_writeText done (T.1 4) T).1 49) ≤ 200 then (many, (mi (mi (mi (mi (M_replC many ((M_writeText done (T.1 4) T).1 49).toNat 0 (M_writeText done (T.1 4) T)) 47 ((M_writeText done (T.1 4) T).1 49)) 2 0) 5 0) 42 0)) else (0, (mi (M_writeText done (T.1 4) T) 0 1))) else (0, (mi (M_writeText done (T.1 4) T) 0 1)))))
set_option maxHeartbeats 4000000 in
set_option maxRecDepth 100000 in
theorem lp7_replace (l : Launch) (D : va_G) (cy : Nat → ClassId) (o : Nat) (q : Nat → Nat)  (V : Nat → Int → Int → Int → MSt → Prop) (hV : ∀ n many done pl T, V n many done pl T → M_replStep V n many done pl T) {p : Program} {e : Env} {s : State} {m : MethodId} {args : Array Value} {below : List Frame} {meth : Method} {c : Code} (B : zAt p s m args meth c RX7 cX7_replace 5 (some .int) (.code yX7_replace cX7_replace 5 (some .int) :: TB7)) (hK : va_K D vwCl (zTY cy) s) (post : Int → MSt → Prop) :
    ∀ (n : Nat) (many : Int) (done : Int) (pl : Int) (T : MSt) (H : Heap) (locs : List Loc) (ls : Array Slot), (V n many done pl T) → mH D cy o q (mA o q) s.heap T H locs → lv_has ls 5 [(0, .ref o), (1, .int (zI many)), (2, .int (zI done)), (3, .int (zI pl))] → post (M_replL  n many done pl T).1 (M_replL  n many done pl T).2 → W p l e (headSpec (.code yX7_replace cX7_replace 5 (some .int) :: TB7) ({ frames := 9, cells := 0, slots := 0, locals := 204 })).room s m args below meth c H locs 0 0 (MQ below (mQi D cy o q post) args s 0 0 (mA o q)) (F0 m 20 ls []) := by
  intro n
  induction n with
  | zero =>
    intro many done pl T H locs ls hv hM hl hpost
    obtain ⟨r1, r2, r3, r4, r5, r6, rA, rB⟩ := hV _ _ _ _ _ hv
    refine lv_iload_n B.1 B.2.1 dX7_replace_20 rfl (lv_at hl 3 rfl) ?_
    refine z_if_lt (tgt := 77) B.1 B.2.1 (zr_of (by omega) (by omega)) dX7_replace_21 (by decide) (fun c_1 => ?_) (fun c_1 => ?_)
    · --
      obtain ⟨hX1, x1, x2, x3, x4, hch⟩ := rB (by omega)
      refine lv_aload_n B.1 B.2.1 dX7_replace_77 rfl (lv_at hl 0 rfl) ?_
      refine lv_iload_n B.1 B.2.1 dX7_replace_78 rfl (lv_at hl 2 rfl) ?_
      refine lv_aload_n B.1 B.2.1 dX7_replace_79 rfl (lv_at hl 0 rfl) ?_
      refine m_get (x := T.1 4) B (i7 _) hK hM 4 (by decide) rfl rfl (List.mem_cons_of_mem _ w7_fRX7_202) dX7_replace_80 ?_
      refine m_callv (As := [.int (zI done), .int (zI (T.1 4))]) (rest := []) B hK hM (cX7_writeText_ok' l D cy o q T done (T.1 4) hX1) (cw7 2 B w7_mRX7_298 w7_im_yX7_writeText w7_sl_yX7_writeText w7_cd_yX7_writeText rfl rfl (by decide +kernel) ⟨Nat.le_of_ble_eq_true rfl, Nat.le_of_ble_eq_true rfl⟩) rfl hl.1 rfl (Nat.le_of_ble_eq_true rfl) dX7_replace_83 ⟨Nat.zero_le _, Nat.zero_le _⟩ (fun S_3 H locs hp_2 hM => ?_)
      have hp_2 := hp_2.symm
      subst hp_2
      refine lv_aload_n B.1 B.2.1 dX7_replace_86 rfl (lv_at hl 0 rfl) ?_
      refine m_get (x := (M_writeText done (T.1 4) T).1 41) B (i7 _) hK hM 41 (by decide) rfl rfl (List.mem_cons_of_mem _ w7_fRX7_247) dX7_replace_87 ?_
      refine z_if_ne (tgt := 103) B.1 B.2.1 (zr_of (by omega) (by omega)) dX7_replace_90 (by decide) (fun c_4 => ?_) (fun c_4 => ?_)
      · --
        refine lv_aload_n B.1 B.2.1 dX7_replace_103 rfl (lv_at hl 0 rfl) ?_
        refine z_iconst B.1 B.2.1 dX7_replace_104 ?_
        refine m_calli (As := [.int (zI 1)]) (rest := []) B hK hM (cX7_refuse_ok l D cy o q (M_writeText done (T.1 4) T) 1 ) (cw7 1 B w7_mRX7_104 w7_im_yX7_refuse w7_sl_yX7_refuse w7_cd_yX7_refuse rfl rfl (by decide +kernel) ⟨Nat.le_of_ble_eq_true rfl, Nat.le_of_ble_eq_true rfl⟩) rfl hl.1 rfl (Nat.le_of_ble_eq_true rfl) dX7_replace_105 ⟨Nat.zero_le _, Nat.zero_le _⟩ (fun z_7 S_6 H locs hp_5 hM => ?_)
        obtain ⟨hp_5, he_hp_5⟩ := hp_5
        have he_hp_5 := he_hp_5.symm
        subst he_hp_5
        have hp_5 : 0 = z_7 := hp_5.symm
        subst hp_5
        have hq : M_replL  0 many done pl T = (0, (mi (M_writeText done (T.1 4) T) 0 1)) := by rw [M_replL]; exact ((if_pos c_1).trans (if_neg c_4))
        rw [hq] at hpost
        exact m_reti B hM (hpost) dX7_replace_108
      · --
        refine lv_aload_n B.1 B.2.1 dX7_replace_93 rfl (lv_at hl 0 rfl) ?_
        refine m_get (x := (M_writeText done (T.1 4) T).1 49) B (i7 _) hK hM 49 (by decide) rfl rfl (List.mem_cons_of_mem _ w7_fRX7_292) dX7_replace_94 ?_
        refine z_sipush B.1 B.2.1 (by decide) dX7_replace_97 ?_
        refine z_icmp_le (tgt := 109) B.1 B.2.1 (zr_of (by omega) (by omega)) (zr_of (by decide) (by decide)) dX7_replace_100 (by decide) (fun c_8 => ?_) (fun c_8 => ?_)
        · --
          refine z_iconst B.1 B.2.1 dX7_replace_109 ?_
          refine lv_istore (lv' := [(4, .int (zI 0)), (0, .ref o), (1, .int (zI many)), (2, .int (zI done)), (3, .int (zI pl))]) B.1 B.2.1 dX7_replace_110 hl (by decide) rfl (fun ls hl => ?_)
          refine lp7_replC l D cy o q many B hK ((M_writeText done (T.1 4) T).1 49).toNat 0 (M_writeText done (T.1 4) T) _ _ ls (by omega) (by omega) (by omega) hch hM (lv_sub hl [1, 2, 0] rfl) (fun ls H locs hM hl => ?_)
          refine lv_aload_n B.1 B.2.1 dX7_replace_141 rfl (lv_at hl 0 rfl) ?_
          refine lv_aload_n B.1 B.2.1 dX7_replace_142 rfl (lv_at hl 0 rfl) ?_
          refine m_get (x := (M_writeText done (T.1 4) T).1 49) B (i7 _) hK hM 49 (by decide) rfl (by simp only [M_replC_1]) (List.mem_cons_of_mem _ w7_fRX7_292) dX7_replace_143 ?_
          refine m_put B (i7 _) hK hM 47 (by decide) rfl (by decide +kernel) (List.mem_cons_of_mem _ w7_fRX7_304) dX7_replace_146 (fun H locs hM => ?_)
          refine lv_aload_n B.1 B.2.1 dX7_replace_149 rfl (lv_at hl 0 rfl) ?_
          refine z_iconst B.1 B.2.1 dX7_replace_150 ?_
          refine m_put B (i7 _) hK hM 2 (by decide) rfl (by decide +kernel) (List.mem_cons_of_mem _ w7_fRX7_101) dX7_replace_151 (fun H locs hM => ?_)
          refine lv_aload_n B.1 B.2.1 dX7_replace_154 rfl (lv_at hl 0 rfl) ?_
          refine z_iconst B.1 B.2.1 dX7_replace_155 ?_
          refine m_put B (i7 _) hK hM 5 (by decide) rfl (by decide +kernel) (List.mem_cons_of_mem _ w7_fRX7_196) dX7_replace_156 (fun H locs hM => ?_)
          refine lv_aload_n B.1 B.2.1 dX7_replace_159 rfl (lv_at hl 0 rfl) ?_
          refine z_iconst B.1 B.2.1 dX7_replace_160 ?_
          refine m_putz B (i7 _) hK hM 42 (by decide) rfl (by decide) (by decide +kernel) (List.mem_cons_of_mem _ w7_fRX7_199) dX7_replace_161 (fun H locs hM => ?_)
          refine lv_iload_n B.1 B.2.1 dX7_replace_164 rfl (lv_at hl 1 rfl) ?_
          have hq : M_replL  0 many done pl T = (many, (mi (mi (mi (mi (M_replC many ((M_writeText done (T.1 4) T).1 49).toNat 0 (M_writeText done (T.1 4) T)) 47 ((M_writeText done (T.1 4) T).1 49)) 2 0) 5 0) 42 0)) := by rw [M_replL]; exact ((if_pos c_1).trans ((if_pos c_4).trans (if_pos c_8)))
          rw [hq] at hpost
          exact m_reti B hM (hpost) dX7_replace_165
        · --
          refine lv_aload_n B.1 B.2.1 dX7_replace_103 rfl (lv_at hl 0 rfl) ?_
          refine z_iconst B.1 B.2.1 dX7_replace_104 ?_
          refine m_calli (As := [.int (zI 1)]) (rest := []) B hK hM (cX7_refuse_ok l D cy o q (M_writeText done (T.1 4) T) 1 ) (cw7 1 B w7_mRX7_104 w7_im_yX7_refuse w7_sl_yX7_refuse w7_cd_yX7_refuse rfl rfl (by decide +kernel) ⟨Nat.le_of_ble_eq_true rfl, Nat.le_of_ble_eq_true rfl⟩) rfl hl.1 rfl (Nat.le_of_ble_eq_true rfl) dX7_replace_105 ⟨Nat.zero_le _, Nat.zero_le _⟩ (fun z_11 S_10 H locs hp_9 hM => ?_)
          obtain ⟨hp_9, he_hp_9⟩ := hp_9
          have he_hp_9 := he_hp_9.symm
          subst he_hp_9
          have hp_9 : 0 = z_11 := hp_9.symm
          subst hp_9
          have hq : M_replL  0 many done pl T = (0, (mi (M_writeText done (T.1 4) T) 0 1)) := by rw [M_replL]; exact ((if_pos c_1).trans ((if_pos c_4).trans (if_neg c_8)))
          rw [hq] at hpost
          exact m_reti B hM (hpost) dX7_replace_108
    · --
      refine lv_aload_n B.1 B.2.1 dX7_replace_24 rfl (lv_at hl 0 rfl) ?_
      refine m_get (x := T.1 41) B (i7 _) hK hM 41 (by decide) rfl rfl (List.mem_cons_of_mem _ w7_fRX7_247) dX7_replace_25 ?_
      refine z_if_ne (tgt := 77) B.1 B.2.1 (zr_of (by omega) (by omega)) dX7_replace_28 (by decide) (fun c_12 => ?_) (fun c_12 => ?_)
      · --
        obtain ⟨hX1, x1, x2, x3, x4, hch⟩ := rB (by omega)
        refine lv_aload_n B.1 B.2.1 dX7_replace_77 rfl (lv_at hl 0 rfl) ?_
        refine lv_iload_n B.1 B.2.1 dX7_replace_78 rfl (lv_at hl 2 rfl) ?_
        refine lv_aload_n B.1 B.2.1 dX7_replace_79 rfl (lv_at hl 0 rfl) ?_
        refine m_get (x := T.1 4) B (i7 _) hK hM 4 (by decide) rfl rfl (List.mem_cons_of_mem _ w7_fRX7_202) dX7_replace_80 ?_
        refine m_callv (As := [.int (zI done), .int (zI (T.1 4))]) (rest := []) B hK hM (cX7_writeText_ok' l D cy o q T done (T.1 4) hX1) (cw7 2 B w7_mRX7_298 w7_im_yX7_writeText w7_sl_yX7_writeText w7_cd_yX7_writeText rfl rfl (by decide +kernel) ⟨Nat.le_of_ble_eq_true rfl, Nat.le_of_ble_eq_true rfl⟩) rfl hl.1 rfl (Nat.le_of_ble_eq_true rfl) dX7_replace_83 ⟨Nat.zero_le _, Nat.zero_le _⟩ (fun S_14 H locs hp_13 hM => ?_)
        have hp_13 := hp_13.symm
        subst hp_13
        refine lv_aload_n B.1 B.2.1 dX7_replace_86 rfl (lv_at hl 0 rfl) ?_
        refine m_get (x := (M_writeText done (T.1 4) T).1 41) B (i7 _) hK hM 41 (by decide) rfl rfl (List.mem_cons_of_mem _ w7_fRX7_247) dX7_replace_87 ?_
        refine z_if_ne (tgt := 103) B.1 B.2.1 (zr_of (by omega) (by omega)) dX7_replace_90 (by decide) (fun c_15 => ?_) (fun c_15 => ?_)
        · --
          refine lv_aload_n B.1 B.2.1 dX7_replace_103 rfl (lv_at hl 0 rfl) ?_
          refine z_iconst B.1 B.2.1 dX7_replace_104 ?_
          refine m_calli (As := [.int (zI 1)]) (rest := []) B hK hM (cX7_refuse_ok l D cy o q (M_writeText done (T.1 4) T) 1 ) (cw7 1 B w7_mRX7_104 w7_im_yX7_refuse w7_sl_yX7_refuse w7_cd_yX7_refuse rfl rfl (by decide +kernel) ⟨Nat.le_of_ble_eq_true rfl, Nat.le_of_ble_eq_true rfl⟩) rfl hl.1 rfl (Nat.le_of_ble_eq_true rfl) dX7_replace_105 ⟨Nat.zero_le _, Nat.zero_le _⟩ (fun z_18 S_17 H locs hp_16 hM => ?_)
          obtain ⟨hp_16, he_hp_16⟩ := hp_16
          have he_hp_16 := he_hp_16.symm
          subst he_hp_16
          have hp_16 : 0 = z_18 := hp_16.symm
          subst hp_16
          have hq : M_replL  0 many done pl T = (0, (mi (M_writeText done (T.1 4) T) 0 1)) := by rw [M_replL]; exact ((if_neg c_1).trans ((if_neg c_12).trans (if_neg c_15)))
          rw [hq] at hpost
          exact m_reti B hM (hpost) dX7_replace_108
        · --
          refine lv_aload_n B.1 B.2.1 dX7_replace_93 rfl (lv_at hl 0 rfl) ?_
          refine m_get (x := (M_writeText done (T.1 4) T).1 49) B (i7 _) hK hM 49 (by decide) rfl rfl (List.mem_cons_of_mem _ w7_fRX7_292) dX7_replace_94 ?_
          refine z_sipush B.1 B.2.1 (by decide) dX7_replace_97 ?_
          refine z_icmp_le (tgt := 109) B.1 B.2.1 (zr_of (by omega) (by omega)) (zr_of (by decide) (by decide)) dX7_replace_100 (by decide) (fun c_19 => ?_) (fun c_19 => ?_)
          · --
            refine z_iconst B.1 B.2.1 dX7_replace_109 ?_
            refine lv_istore (lv' := [(4, .int (zI 0)), (0, .ref o), (1, .int (zI many)), (2, .int (zI done)), (3, .int (zI pl))]) B.1 B.2.1 dX7_replace_110 hl (by decide) rfl (fun ls hl => ?_)
            refine lp7_replC l D cy o q many B hK ((M_writeText done (T.1 4) T).1 49).toNat 0 (M_writeText done (T.1 4) T) _ _ ls (by omega) (by omega) (by omega) hch hM (lv_sub hl [1, 2, 0] rfl) (fun ls H locs hM hl => ?_)
            refine lv_aload_n B.1 B.2.1 dX7_replace_141 rfl (lv_at hl 0 rfl) ?_
            refine lv_aload_n B.1 B.2.1 dX7_replace_142 rfl (lv_at hl 0 rfl) ?_
            refine m_get (x := (M_writeText done (T.1 4) T).1 49) B (i7 _) hK hM 49 (by decide) rfl (by simp only [M_replC_1]) (List.mem_cons_of_mem _ w7_fRX7_292) dX7_replace_143 ?_
            refine m_put B (i7 _) hK hM 47 (by decide) rfl (by decide +kernel) (List.mem_cons_of_mem _ w7_fRX7_304) dX7_replace_146 (fun H locs hM => ?_)
            refine lv_aload_n B.1 B.2.1 dX7_replace_149 rfl (lv_at hl 0 rfl) ?_
            refine z_iconst B.1 B.2.1 dX7_replace_150 ?_
            refine m_put B (i7 _) hK hM 2 (by decide) rfl (by decide +kernel) (List.mem_cons_of_mem _ w7_fRX7_101) dX7_replace_151 (fun H locs hM => ?_)
            refine lv_aload_n B.1 B.2.1 dX7_replace_154 rfl (lv_at hl 0 rfl) ?_
            refine z_iconst B.1 B.2.1 dX7_replace_155 ?_
            refine m_put B (i7 _) hK hM 5 (by decide) rfl (by decide +kernel) (List.mem_cons_of_mem _ w7_fRX7_196) dX7_replace_156 (fun H locs hM => ?_)
            refine lv_aload_n B.1 B.2.1 dX7_replace_159 rfl (lv_at hl 0 rfl) ?_
            refine z_iconst B.1 B.2.1 dX7_replace_160 ?_
            refine m_putz B (i7 _) hK hM 42 (by decide) rfl (by decide) (by decide +kernel) (List.mem_cons_of_mem _ w7_fRX7_199) dX7_replace_161 (fun H locs hM => ?_)
            refine lv_iload_n B.1 B.2.1 dX7_replace_164 rfl (lv_at hl 1 rfl) ?_
            have hq : M_replL  0 many done pl T = (many, (mi (mi (mi (mi (M_replC many ((M_writeText done (T.1 4) T).1 49).toNat 0 (M_writeText done (T.1 4) T)) 47 ((M_writeText done (T.1 4) T).1 49)) 2 0) 5 0) 42 0)) := by rw [M_replL]; exact ((if_neg c_1).trans ((if_neg c_12).trans ((if_pos c_15).trans (if_pos c_19))))
            rw [hq] at hpost
            exact m_reti B hM (hpost) dX7_replace_165
          · --
            refine lv_aload_n B.1 B.2.1 dX7_replace_103 rfl (lv_at hl 0 rfl) ?_
            refine z_iconst B.1 B.2.1 dX7_replace_104 ?_
            refine m_calli (As := [.int (zI 1)]) (rest := []) B hK hM (cX7_refuse_ok l D cy o q (M_writeText done (T.1 4) T) 1 ) (cw7 1 B w7_mRX7_104 w7_im_yX7_refuse w7_sl_yX7_refuse w7_cd_yX7_refuse rfl rfl (by decide +kernel) ⟨Nat.le_of_ble_eq_true rfl, Nat.le_of_ble_eq_true rfl⟩) rfl hl.1 rfl (Nat.le_of_ble_eq_true rfl) dX7_replace_105 ⟨Nat.zero_le _, Nat.zero_le _⟩ (fun z_22 S_21 H locs hp_20 hM => ?_)
            obtain ⟨hp_20, he_hp_20⟩ := hp_20
            have he_hp_20 := he_hp_20.symm
            subst he_hp_20
            have hp_20 : 0 = z_22 := hp_20.symm
            subst hp_20
            have hq : M_replL  0 many done pl T = (0, (mi (M_writeText done (T.1 4) T) 0 1)) := by rw [M_replL]; exact ((if_neg c_1).trans ((if_neg c_12).trans ((if_pos c_15).trans (if_neg c_19))))
            rw [hq] at hpost
            exact m_reti B hM (hpost) dX7_replace_108
      · --
        obtain ⟨n', hn', -⟩ := rA (by omega) (by omega)
        exact absurd hn' (by omega)
  | succ n ih =>
    intro many done pl T H locs ls hv hM hl hpost
    obtain ⟨r1, r2, r3, r4, r5, r6, rA, rB⟩ := hV _ _ _ _ _ hv
    refine lv_iload_n B.1 B.2.1 dX7_replace_20 rfl (lv_at hl 3 rfl) ?_
    refine z_if_lt (tgt := 77) B.1 B.2.1 (zr_of (by omega) (by omega)) dX7_replace_21 (by decide) (fun c_1 => ?_) (fun c_1 => ?_)
    · --
      obtain ⟨hX1, x1, x2, x3, x4, hch⟩ := rB (by omega)
      refine lv_aload_n B.1 B.2.1 dX7_replace_77 rfl (lv_at hl 0 rfl) ?_
      refine lv_iload_n B.1 B.2.1 dX7_replace_78 rfl (lv_at hl 2 rfl) ?_
      refine lv_aload_n B.1 B.2.1 dX7_replace_79 rfl (lv_at hl 0 rfl) ?_
      refine m_get (x := T.1 4) B (i7 _) hK hM 4 (by decide) rfl rfl (List.mem_cons_of_mem _ w7_fRX7_202) dX7_replace_80 ?_
      refine m_callv (As := [.int (zI done), .int (zI (T.1 4))]) (rest := []) B hK hM (cX7_writeText_ok' l D cy o q T done (T.1 4) hX1) (cw7 2 B w7_mRX7_298 w7_im_yX7_writeText w7_sl_yX7_writeText w7_cd_yX7_writeText rfl rfl (by decide +kernel) ⟨Nat.le_of_ble_eq_true rfl, Nat.le_of_ble_eq_true rfl⟩) rfl hl.1 rfl (Nat.le_of_ble_eq_true rfl) dX7_replace_83 ⟨Nat.zero_le _, Nat.zero_le _⟩ (fun S_3 H locs hp_2 hM => ?_)
      have hp_2 := hp_2.symm
      subst hp_2
      refine lv_aload_n B.1 B.2.1 dX7_replace_86 rfl (lv_at hl 0 rfl) ?_
      refine m_get (x := (M_writeText done (T.1 4) T).1 41) B (i7 _) hK hM 41 (by decide) rfl rfl (List.mem_cons_of_mem _ w7_fRX7_247) dX7_replace_87 ?_
      refine z_if_ne (tgt := 103) B.1 B.2.1 (zr_of (by omega) (by omega)) dX7_replace_90 (by decide) (fun c_4 => ?_) (fun c_4 => ?_)
      · --
        refine lv_aload_n B.1 B.2.1 dX7_replace_103 rfl (lv_at hl 0 rfl) ?_
        refine z_iconst B.1 B.2.1 dX7_replace_104 ?_
        refine m_calli (As := [.int (zI 1)]) (rest := []) B hK hM (cX7_refuse_ok l D cy o q (M_writeText done (T.1 4) T) 1 ) (cw7 1 B w7_mRX7_104 w7_im_yX7_refuse w7_sl_yX7_refuse w7_cd_yX7_refuse rfl rfl (by decide +kernel) ⟨Nat.le_of_ble_eq_true rfl, Nat.le_of_ble_eq_true rfl⟩) rfl hl.1 rfl (Nat.le_of_ble_eq_true rfl) dX7_replace_105 ⟨Nat.zero_le _, Nat.zero_le _⟩ (fun z_7 S_6 H locs hp_5 hM => ?_)
        obtain ⟨hp_5, he_hp_5⟩ := hp_5
        have he_hp_5 := he_hp_5.symm
        subst he_hp_5
        have hp_5 : 0 = z_7 := hp_5.symm
        subst hp_5
        have hq : M_replL  (n + 1) many done pl T = (0, (mi (M_writeText done (T.1 4) T) 0 1)) := by rw [M_replL]; exact ((if_pos c_1).trans (if_neg c_4))
        rw [hq] at hpost
        exact m_reti B hM (hpost) dX7_replace_108
      · --
        refine lv_aload_n B.1 B.2.1 dX7_replace_93 rfl (lv_at hl 0 rfl) ?_
        refine m_get (x := (M_writeText done (T.1 4) T).1 49) B (i7 _) hK hM 49 (by decide) rfl rfl (List.mem_cons_of_mem _ w7_fRX7_292) dX7_replace_94 ?_
        refine z_sipush B.1 B.2.1 (by decide) dX7_replace_97 ?_
        refine z_icmp_le (tgt := 109) B.1 B.2.1 (zr_of (by omega) (by omega)) (zr_of (by decide) (by decide)) dX7_replace_100 (by decide) (fun c_8 => ?_) (fun c_8 => ?_)
        · --
          refine z_iconst B.1 B.2.1 dX7_replace_109 ?_
          refine lv_istore (lv' := [(4, .int (zI 0)), (0, .ref o), (1, .int (zI many)), (2, .int (zI done)), (3, .int (zI pl))]) B.1 B.2.1 dX7_replace_110 hl (by decide) rfl (fun ls hl => ?_)
          refine lp7_replC l D cy o q many B hK ((M_writeText done (T.1 4) T).1 49).toNat 0 (M_writeText done (T.1 4) T) _ _ ls (by omega) (by omega) (by omega) hch hM (lv_sub hl [1, 2, 0] rfl) (fun ls H locs hM hl => ?_)
          refine lv_aload_n B.1 B.2.1 dX7_replace_141 rfl (lv_at hl 0 rfl) ?_
          refine lv_aload_n B.1 B.2.1 dX7_replace_142 rfl (lv_at hl 0 rfl) ?_
          refine m_get (x := (M_writeText done (T.1 4) T).1 49) B (i7 _) hK hM 49 (by decide) rfl (by simp only [M_replC_1]) (List.mem_cons_of_mem _ w7_fRX7_292) dX7_replace_143 ?_
          refine m_put B (i7 _) hK hM 47 (by decide) rfl (by decide +kernel) (List.mem_cons_of_mem _ w7_fRX7_304) dX7_replace_146 (fun H locs hM => ?_)
          refine lv_aload_n B.1 B.2.1 dX7_replace_149 rfl (lv_at hl 0 rfl) ?_
          refine z_iconst B.1 B.2.1 dX7_replace_150 ?_
          refine m_put B (i7 _) hK hM 2 (by decide) rfl (by decide +kernel) (List.mem_cons_of_mem _ w7_fRX7_101) dX7_replace_151 (fun H locs hM => ?_)
          refine lv_aload_n B.1 B.2.1 dX7_replace_154 rfl (lv_at hl 0 rfl) ?_
          refine z_iconst B.1 B.2.1 dX7_replace_155 ?_
          refine m_put B (i7 _) hK hM 5 (by decide) rfl (by decide +kernel) (List.mem_cons_of_mem _ w7_fRX7_196) dX7_replace_156 (fun H locs hM => ?_)
          refine lv_aload_n B.1 B.2.1 dX7_replace_159 rfl (lv_at hl 0 rfl) ?_
          refine z_iconst B.1 B.2.1 dX7_replace_160 ?_
          refine m_putz B (i7 _) hK hM 42 (by decide) rfl (by decide) (by decide +kernel) (List.mem_cons_of_mem _ w7_fRX7_199) dX7_replace_161 (fun H locs hM => ?_)
          refine lv_iload_n B.1 B.2.1 dX7_replace_164 rfl (lv_at hl 1 rfl) ?_
          have hq : M_replL  (n + 1) many done pl T = (many, (mi (mi (mi (mi (M_replC many ((M_writeText done (T.1 4) T).1 49).toNat 0 (M_writeText done (T.1 4) T)) 47 ((M_writeText done (T.1 4) T).1 49)) 2 0) 5 0) 42 0)) := by rw [M_replL]; exact ((if_pos c_1).trans ((if_pos c_4).trans (if_pos c_8)))
          rw [hq] at hpost
          exact m_reti B hM (hpost) dX7_replace_165
        · --
          refine lv_aload_n B.1 B.2.1 dX7_replace_103 rfl (lv_at hl 0 rfl) ?_
          refine z_iconst B.1 B.2.1 dX7_replace_104 ?_
          refine m_calli (As := [.int (zI 1)]) (rest := []) B hK hM (cX7_refuse_ok l D cy o q (M_writeText done (T.1 4) T) 1 ) (cw7 1 B w7_mRX7_104 w7_im_yX7_refuse w7_sl_yX7_refuse w7_cd_yX7_refuse rfl rfl (by decide +kernel) ⟨Nat.le_of_ble_eq_true rfl, Nat.le_of_ble_eq_true rfl⟩) rfl hl.1 rfl (Nat.le_of_ble_eq_true rfl) dX7_replace_105 ⟨Nat.zero_le _, Nat.zero_le _⟩ (fun z_11 S_10 H locs hp_9 hM => ?_)
          obtain ⟨hp_9, he_hp_9⟩ := hp_9
          have he_hp_9 := he_hp_9.symm
          subst he_hp_9
          have hp_9 : 0 = z_11 := hp_9.symm
          subst hp_9
          have hq : M_replL  (n + 1) many done pl T = (0, (mi (M_writeText done (T.1 4) T) 0 1)) := by rw [M_replL]; exact ((if_pos c_1).trans ((if_pos c_4).trans (if_neg c_8)))
          rw [hq] at hpost
          exact m_reti B hM (hpost) dX7_replace_108
    · --
      refine lv_aload_n B.1 B.2.1 dX7_replace_24 rfl (lv_at hl 0 rfl) ?_
      refine m_get (x := T.1 41) B (i7 _) hK hM 41 (by decide) rfl rfl (List.mem_cons_of_mem _ w7_fRX7_247) dX7_replace_25 ?_
      refine z_if_ne (tgt := 77) B.1 B.2.1 (zr_of (by omega) (by omega)) dX7_replace_28 (by decide) (fun c_12 => ?_) (fun c_12 => ?_)
      · --
        obtain ⟨hX1, x1, x2, x3, x4, hch⟩ := rB (by omega)
        refine lv_aload_n B.1 B.2.1 dX7_replace_77 rfl (lv_at hl 0 rfl) ?_
        refine lv_iload_n B.1 B.2.1 dX7_replace_78 rfl (lv_at hl 2 rfl) ?_
        refine lv_aload_n B.1 B.2.1 dX7_replace_79 rfl (lv_at hl 0 rfl) ?_
        refine m_get (x := T.1 4) B (i7 _) hK hM 4 (by decide) rfl rfl (List.mem_cons_of_mem _ w7_fRX7_202) dX7_replace_80 ?_
        refine m_callv (As := [.int (zI done), .int (zI (T.1 4))]) (rest := []) B hK hM (cX7_writeText_ok' l D cy o q T done (T.1 4) hX1) (cw7 2 B w7_mRX7_298 w7_im_yX7_writeText w7_sl_yX7_writeText w7_cd_yX7_writeText rfl rfl (by decide +kernel) ⟨Nat.le_of_ble_eq_true rfl, Nat.le_of_ble_eq_true rfl⟩) rfl hl.1 rfl (Nat.le_of_ble_eq_true rfl) dX7_replace_83 ⟨Nat.zero_le _, Nat.zero_le _⟩ (fun S_14 H locs hp_13 hM => ?_)
        have hp_13 := hp_13.symm
        subst hp_13
        refine lv_aload_n B.1 B.2.1 dX7_replace_86 rfl (lv_at hl 0 rfl) ?_
        refine m_get (x := (M_writeText done (T.1 4) T).1 41) B (i7 _) hK hM 41 (by decide) rfl rfl (List.mem_cons_of_mem _ w7_fRX7_247) dX7_replace_87 ?_
        refine z_if_ne (tgt := 103) B.1 B.2.1 (zr_of (by omega) (by omega)) dX7_replace_90 (by decide) (fun c_15 => ?_) (fun c_15 => ?_)
        · --
          refine lv_aload_n B.1 B.2.1 dX7_replace_103 rfl (lv_at hl 0 rfl) ?_
          refine z_iconst B.1 B.2.1 dX7_replace_104 ?_
          refine m_calli (As := [.int (zI 1)]) (rest := []) B hK hM (cX7_refuse_ok l D cy o q (M_writeText done (T.1 4) T) 1 ) (cw7 1 B w7_mRX7_104 w7_im_yX7_refuse w7_sl_yX7_refuse w7_cd_yX7_refuse rfl rfl (by decide +kernel) ⟨Nat.le_of_ble_eq_true rfl, Nat.le_of_ble_eq_true rfl⟩) rfl hl.1 rfl (Nat.le_of_ble_eq_true rfl) dX7_replace_105 ⟨Nat.zero_le _, Nat.zero_le _⟩ (fun z_18 S_17 H locs hp_16 hM => ?_)
          obtain ⟨hp_16, he_hp_16⟩ := hp_16
          have he_hp_16 := he_hp_16.symm
          subst he_hp_16
          have hp_16 : 0 = z_18 := hp_16.symm
          subst hp_16
          have hq : M_replL  (n + 1) many done pl T = (0, (mi (M_writeText done (T.1 4) T) 0 1)) := by rw [M_replL]; exact ((if_neg c_1).trans ((if_neg c_12).trans (if_neg c_15)))
          rw [hq] at hpost
          exact m_reti B hM (hpost) dX7_replace_108
        · --
          refine lv_aload_n B.1 B.2.1 dX7_replace_93 rfl (lv_at hl 0 rfl) ?_
          refine m_get (x := (M_writeText done (T.1 4) T).1 49) B (i7 _) hK hM 49 (by decide) rfl rfl (List.mem_cons_of_mem _ w7_fRX7_292) dX7_replace_94 ?_
          refine z_sipush B.1 B.2.1 (by decide) dX7_replace_97 ?_
          refine z_icmp_le (tgt := 109) B.1 B.2.1 (zr_of (by omega) (by omega)) (zr_of (by decide) (by decide)) dX7_replace_100 (by decide) (fun c_19 => ?_) (fun c_19 => ?_)
          · --
            refine z_iconst B.1 B.2.1 dX7_replace_109 ?_
            refine lv_istore (lv' := [(4, .int (zI 0)), (0, .ref o), (1, .int (zI many)), (2, .int (zI done)), (3, .int (zI pl))]) B.1 B.2.1 dX7_replace_110 hl (by decide) rfl (fun ls hl => ?_)
            refine lp7_replC l D cy o q many B hK ((M_writeText done (T.1 4) T).1 49).toNat 0 (M_writeText done (T.1 4) T) _ _ ls (by omega) (by omega) (by omega) hch hM (lv_sub hl [1, 2, 0] rfl) (fun ls H locs hM hl => ?_)
            refine lv_aload_n B.1 B.2.1 dX7_replace_141 rfl (lv_at hl 0 rfl) ?_
            refine lv_aload_n B.1 B.2.1 dX7_replace_142 rfl (lv_at hl 0 rfl) ?_
            refine m_get (x := (M_writeText done (T.1 4) T).1 49) B (i7 _) hK hM 49 (by decide) rfl (by simp only [M_replC_1]) (List.mem_cons_of_mem _ w7_fRX7_292) dX7_replace_143 ?_
            refine m_put B (i7 _) hK hM 47 (by decide) rfl (by decide +kernel) (List.mem_cons_of_mem _ w7_fRX7_304) dX7_replace_146 (fun H locs hM => ?_)
            refine lv_aload_n B.1 B.2.1 dX7_replace_149 rfl (lv_at hl 0 rfl) ?_
            refine z_iconst B.1 B.2.1 dX7_replace_150 ?_
            refine m_put B (i7 _) hK hM 2 (by decide) rfl (by decide +kernel) (List.mem_cons_of_mem _ w7_fRX7_101) dX7_replace_151 (fun H locs hM => ?_)
            refine lv_aload_n B.1 B.2.1 dX7_replace_154 rfl (lv_at hl 0 rfl) ?_
            refine z_iconst B.1 B.2.1 dX7_replace_155 ?_
            refine m_put B (i7 _) hK hM 5 (by decide) rfl (by decide +kernel) (List.mem_cons_of_mem _ w7_fRX7_196) dX7_replace_156 (fun H locs hM => ?_)
            refine lv_aload_n B.1 B.2.1 dX7_replace_159 rfl (lv_at hl 0 rfl) ?_
            refine z_iconst B.1 B.2.1 dX7_replace_160 ?_
            refine m_putz B (i7 _) hK hM 42 (by decide) rfl (by decide) (by decide +kernel) (List.mem_cons_of_mem _ w7_fRX7_199) dX7_replace_161 (fun H locs hM => ?_)
            refine lv_iload_n B.1 B.2.1 dX7_replace_164 rfl (lv_at hl 1 rfl) ?_
            have hq : M_replL  (n + 1) many done pl T = (many, (mi (mi (mi (mi (M_replC many ((M_writeText done (T.1 4) T).1 49).toNat 0 (M_writeText done (T.1 4) T)) 47 ((M_writeText done (T.1 4) T).1 49)) 2 0) 5 0) 42 0)) := by rw [M_replL]; exact ((if_neg c_1).trans ((if_neg c_12).trans ((if_pos c_15).trans (if_pos c_19))))
            rw [hq] at hpost
            exact m_reti B hM (hpost) dX7_replace_165
          · --
            refine lv_aload_n B.1 B.2.1 dX7_replace_103 rfl (lv_at hl 0 rfl) ?_
            refine z_iconst B.1 B.2.1 dX7_replace_104 ?_
            refine m_calli (As := [.int (zI 1)]) (rest := []) B hK hM (cX7_refuse_ok l D cy o q (M_writeText done (T.1 4) T) 1 ) (cw7 1 B w7_mRX7_104 w7_im_yX7_refuse w7_sl_yX7_refuse w7_cd_yX7_refuse rfl rfl (by decide +kernel) ⟨Nat.le_of_ble_eq_true rfl, Nat.le_of_ble_eq_true rfl⟩) rfl hl.1 rfl (Nat.le_of_ble_eq_true rfl) dX7_replace_105 ⟨Nat.zero_le _, Nat.zero_le _⟩ (fun z_22 S_21 H locs hp_20 hM => ?_)
            obtain ⟨hp_20, he_hp_20⟩ := hp_20
            have he_hp_20 := he_hp_20.symm
            subst he_hp_20
            have hp_20 : 0 = z_22 := hp_20.symm
            subst hp_20
            have hq : M_replL  (n + 1) many done pl T = (0, (mi (M_writeText done (T.1 4) T) 0 1)) := by rw [M_replL]; exact ((if_neg c_1).trans ((if_neg c_12).trans ((if_pos c_15).trans (if_neg c_19))))
            rw [hq] at hpost
            exact m_reti B hM (hpost) dX7_replace_108
      · --
        obtain ⟨n', hn', hW1, hW2, hW3, hW4⟩ := rA (by omega) (by omega)
        obtain rfl : n = n' := by omega
        refine lv_aload_n B.1 B.2.1 dX7_replace_31 rfl (lv_at hl 0 rfl) ?_
        refine m_get (x := T.1 38) B (i7 _) hK hM 38 (by decide) rfl rfl (List.mem_cons_of_mem _ w7_fRX7_216) dX7_replace_32 ?_
        refine lv_istore (lv' := [(4, .int (zI (T.1 38))), (0, .ref o), (1, .int (zI many)), (2, .int (zI done)), (3, .int (zI pl))]) B.1 B.2.1 dX7_replace_35 hl (by decide) rfl (fun ls hl => ?_)
        refine lv_aload_n B.1 B.2.1 dX7_replace_37 rfl (lv_at hl 1 rfl) ?_
        refine lv_iload_n B.1 B.2.1 dX7_replace_38 rfl (lv_at hl 3 rfl) ?_
        refine lv_iload_n B.1 B.2.1 dX7_replace_39 rfl (lv_at hl 4 rfl) ?_
        refine m_callv (As := [.int (zI done), .int (zI pl)]) (rest := []) B hK hM (cX7_writeText_ok' l D cy o q T done pl hW1) (cw7 2 B w7_mRX7_298 w7_im_yX7_writeText w7_sl_yX7_writeText w7_cd_yX7_writeText rfl rfl (by decide +kernel) ⟨Nat.le_of_ble_eq_true rfl, Nat.le_of_ble_eq_true rfl⟩) rfl hl.1 rfl (Nat.le_of_ble_eq_true rfl) dX7_replace_40 ⟨Nat.zero_le _, Nat.zero_le _⟩ (fun S_24 H locs hp_23 hM => ?_)
        have hp_23 := hp_23.symm
        subst hp_23
        refine lv_aload_n B.1 B.2.1 dX7_replace_43 rfl (lv_at hl 1 rfl) ?_
        refine lv_iload_n B.1 B.2.1 dX7_replace_44 rfl (lv_at hl 4 rfl) ?_
        refine m_callv (As := [.int (zI pl)]) (rest := []) B hK hM (cX7_writeTemplate_ok' l D cy o q (M_writeText done pl T) pl hW2) (cw7 1 B w7_mRX7_301 w7_im_yX7_writeTemplate w7_sl_yX7_writeTemplate w7_cd_yX7_writeTemplate rfl rfl (by decide +kernel) ⟨Nat.le_of_ble_eq_true rfl, Nat.le_of_ble_eq_true rfl⟩) rfl hl.1 rfl (Nat.le_of_ble_eq_true rfl) dX7_replace_45 ⟨Nat.zero_le _, Nat.zero_le _⟩ (fun S_26 H locs hp_25 hM => ?_)
        have hp_25 := hp_25.symm
        subst hp_25
        refine z_iinc (v := many + 1) (lv' := [(1, .int (zI (many + 1))), (4, .int (zI (T.1 38))), (0, .ref o), (2, .int (zI done)), (3, .int (zI pl))]) B.1 B.2.1 dX7_replace_48 hl (k := 2) rfl rfl (by decide) rfl (fun ls hl => ?_)
        refine lv_iload B.1 B.2.1 dX7_replace_51 (lv_at hl 1 rfl) ?_
        refine lv_istore_n (lv' := [(2, .int (zI (T.1 38))), (1, .int (zI (many + 1))), (4, .int (zI (T.1 38))), (0, .ref o), (3, .int (zI pl))]) B.1 B.2.1 dX7_replace_53 rfl hl (by decide) rfl (fun ls hl => ?_)
        refine lv_aload_n B.1 B.2.1 dX7_replace_54 rfl (lv_at hl 3 rfl) ?_
        refine lv_iload B.1 B.2.1 dX7_replace_55 (lv_at hl 2 rfl) ?_
        refine lv_iload_n B.1 B.2.1 dX7_replace_57 rfl (lv_at hl 4 rfl) ?_
        refine z_joinH (P := fun v H' locs' => v = (if (T.1 38) = pl then (T.1 38) + 1 else T.1 38 : Int) ∧ mH D cy o q (mA o q) s.heap (M_writeTemplate pl (M_writeText done pl T)) H' locs') (pcJ := 70) (lsJ := ls) (stJ := [.ref o]) (fun v_27 H locs hv_28 => ?_) (fun hJ_29 => ?_)
        · --
          obtain ⟨hv_28, hM⟩ := hv_28
          have hv_28 := hv_28.symm
          subst hv_28
          refine m_calli (As := [.int (zI ((if (T.1 38) = pl then (T.1 38) + 1 else T.1 38 : Int)))]) (rest := []) B hK hM (cX7_search_ok l D cy o q (M_writeTemplate pl (M_writeText done pl T)) ((if (T.1 38) = pl then (T.1 38) + 1 else T.1 38 : Int)) hW3) (cw7 1 B w7_mRX7_283 w7_im_yX7_search w7_sl_yX7_search w7_cd_yX7_search rfl rfl (by decide +kernel) ⟨Nat.le_of_ble_eq_true rfl, Nat.le_of_ble_eq_true rfl⟩) rfl hl.1 rfl (Nat.le_of_ble_eq_true rfl) dX7_replace_70 ⟨Nat.zero_le _, Nat.zero_le _⟩ (fun z_32 S_31 H locs hp_30 hM => ?_)
          obtain ⟨hp_30, he_hp_30⟩ := hp_30
          have he_hp_30 := he_hp_30.symm
          subst he_hp_30
          have hp_30 : (M_search ((if (T.1 38) = pl then (T.1 38) + 1 else T.1 38 : Int)) (M_writeTemplate pl (M_writeText done pl T))).1 = z_32 := hp_30.symm
          subst hp_30
          refine lv_istore_n (lv' := [(3, .int (zI ((M_search ((if (T.1 38) = pl then (T.1 38) + 1 else T.1 38 : Int)) (M_writeTemplate pl (M_writeText done pl T))).1))), (2, .int (zI (T.1 38))), (1, .int (zI (many + 1))), (4, .int (zI (T.1 38))), (0, .ref o)]) B.1 B.2.1 dX7_replace_73 rfl hl (by decide) rfl (fun ls hl => ?_)
          refine lv_goto (tgt := 20) B.1 B.2.1 dX7_replace_74 (by decide) ?_
          have hq : M_replL  (n + 1) many done pl T = M_replL  n (many + 1) (T.1 38) ((M_search ((if (T.1 38) = pl then (T.1 38) + 1 else T.1 38 : Int)) (M_writeTemplate pl (M_writeText done pl T))).1) ((M_search ((if (T.1 38) = pl then (T.1 38) + 1 else T.1 38 : Int)) (M_writeTemplate pl (M_writeText done pl T))).2) := by rw [M_replL]; exact ((if_neg c_1).trans (if_pos c_12))
          rw [hq] at hpost
          exact ih (many + 1) (T.1 38) ((M_search ((if (T.1 38) = pl then (T.1 38) + 1 else T.1 38 : Int)) (M_writeTemplate pl (M_writeText done pl T))).1) ((M_search ((if (T.1 38) = pl then (T.1 38) + 1 else T.1 38 : Int)) (M_writeTemplate pl (M_writeText done pl T))).2) H locs ls hW4 hM (lv_sub hl [4, 2, 1, 0] rfl) hpost
        · --
          refine z_icmp_ne (tgt := 68) B.1 B.2.1 (zr_of (by omega) (by omega)) (zr_of (by omega) (by omega)) dX7_replace_58 (by decide) (fun c_33 => ?_) (fun c_33 => ?_)
          · --
            refine lv_iload B.1 B.2.1 dX7_replace_68 (lv_at hl 2 rfl) ?_
            exact hJ_29 _ _ _ ⟨(if_neg c_33).symm, hM⟩
          · --
            refine lv_iload B.1 B.2.1 dX7_replace_61 (lv_at hl 2 rfl) ?_
            refine z_iconst B.1 B.2.1 dX7_replace_63 ?_
            refine z_iadd (x := (T.1 38) + 1) B.1 B.2.1 rfl dX7_replace_64 ?_
            refine lv_goto (tgt := 70) B.1 B.2.1 dX7_replace_65 (by decide) ?_
            exact hJ_29 _ _ _ ⟨(if_pos c_33).symm, hM⟩
def M_replaceOK (S : MSt) : Prop := M_searchOK 0 (mi (mi S 0 0) 49 0) ∧ ∃ V : Nat → Int → Int → Int → MSt → Prop, (∀ n many done pl T, V n many done pl T → M_replStep V n many done pl T) ∧ V 100 0 0 (M_search 0 (mi (mi S 0 0) 49 0)).1 (M_search 0 (mi (mi S 0 0) 49 0)).2
def M_replace (S : MSt) : Int × MSt := M_replL 100 0 0 (M_search 0 (mi (mi S 0 0) 49 0)).1 (M_search 0 (mi (mi S 0 0) 49 0)).2
set_option maxHeartbeats 4000000 in
set_option maxRecDepth 100000 in
theorem cX7_replace_ok (l : Launch) (D : va_G) (cy : Nat → ClassId) (o : Nat) (q : Nat → Nat) (S : MSt) (hok : M_replaceOK S) : mMi l D cy o q yX7_replace (.code yX7_replace cX7_replace 5 (some .int) :: TB7) ({ frames := 9, cells := 0, slots := 0, locals := 204 }) S [] (fun r S' => r = (M_replace S).1 ∧ S' = (M_replace S).2) := by
  refine m_of (cc := cX7_replace) (maxL := 5) (ret := (some .int)) (by decide) rfl rfl (Nat.le_of_ble_eq_true rfl) ?_
  intro p e s m args below meth c ls B hK hM hl
  have hl : lv_has ls 5 [(0, .ref o)] := hl
  obtain ⟨hok1, hok2⟩ := hok
  refine lv_aload_n B.1 B.2.1 dX7_replace_0 rfl (lv_at hl 0 rfl) ?_
  refine z_iconst B.1 B.2.1 dX7_replace_1 ?_
  refine m_put B (i7 _) hK hM 0 (by decide) rfl (by decide +kernel) (List.mem_cons_of_mem _ w7_fRX7_98) dX7_replace_2 (fun H locs hM => ?_)
  refine lv_aload_n B.1 B.2.1 dX7_replace_5 rfl (lv_at hl 0 rfl) ?_
  refine z_iconst B.1 B.2.1 dX7_replace_6 ?_
  refine m_put B (i7 _) hK hM 49 (by decide) rfl (by decide +kernel) (List.mem_cons_of_mem _ w7_fRX7_292) dX7_replace_7 (fun H locs hM => ?_)
  refine z_iconst B.1 B.2.1 dX7_replace_10 ?_
  refine lv_istore_n (lv' := [(1, .int (zI 0)), (0, .ref o)]) B.1 B.2.1 dX7_replace_11 rfl hl (by decide) rfl (fun ls hl => ?_)
  refine z_iconst B.1 B.2.1 dX7_replace_12 ?_
  refine lv_istore_n (lv' := [(2, .int (zI 0)), (1, .int (zI 0)), (0, .ref o)]) B.1 B.2.1 dX7_replace_13 rfl hl (by decide) rfl (fun ls hl => ?_)
  refine lv_aload_n B.1 B.2.1 dX7_replace_14 rfl (lv_at hl 2 rfl) ?_
  refine z_iconst B.1 B.2.1 dX7_replace_15 ?_
  refine m_calli (As := [.int (zI 0)]) (rest := []) B hK hM (cX7_search_ok l D cy o q (mi (mi S 0 0) 49 0) 0 hok1) (cw7 1 B w7_mRX7_283 w7_im_yX7_search w7_sl_yX7_search w7_cd_yX7_search rfl rfl (by decide +kernel) ⟨Nat.le_of_ble_eq_true rfl, Nat.le_of_ble_eq_true rfl⟩) rfl hl.1 rfl (Nat.le_of_ble_eq_true rfl) dX7_replace_16 ⟨Nat.zero_le _, Nat.zero_le _⟩ (fun z_3 S_2 H locs hp_1 hM => ?_)
  obtain ⟨hp_1, he_hp_1⟩ := hp_1
  have he_hp_1 := he_hp_1.symm
  subst he_hp_1
  have hp_1 : (M_search 0 (mi (mi S 0 0) 49 0)).1 = z_3 := hp_1.symm
  subst hp_1
  refine lv_istore_n (lv' := [(3, .int (zI ((M_search 0 (mi (mi S 0 0) 49 0)).1))), (2, .int (zI 0)), (1, .int (zI 0)), (0, .ref o)]) B.1 B.2.1 dX7_replace_19 rfl hl (by decide) rfl (fun ls hl => ?_)
  obtain ⟨V, hV, hv⟩ := hok2
  exact lp7_replace l D cy o q V hV B hK _ 100 0 0 _ _ _ _ ls hv hM (lv_sub hl [3, 2, 1, 0] rfl) ⟨rfl, rfl⟩
