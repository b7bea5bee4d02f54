/-- a chain of jumps: at most n of them, each in the code -/
def M_ch : Nat → Int → MSt → Prop
  | 0, go, _ => go < 0 ∧ -1000 ≤ go
  | n + 1, go, T => -1000 ≤ go ∧ go < 220 ∧ (0 ≤ go → M_ch n (T.2 16 go.toNat) (ma T 16 go.toNat (T.1 19)))
def M_closeL (t : Int) : Nat → Int → MSt → MSt
  | 0, go, T => (if (T.2 26 t.toNat) = 0 then (mi T 32 ((T.1 32) - 1)) else (if (T.2 26 t.toNat) = 1 then (M_count (T.2 31 t.toNat) ((T.2 30 t.toNat) + 1) (M_emit 11 (T.2 27 t.toNat) 0 0 (mi T 32 ((T.1 32) - 1)))) else (if (T.2 26 t.toNat) ≤ 2 then (M_count (T.2 31 t.toNat) ((T.2 30 t.toNat) + 1) (mi T 32 ((T.1 32) - 1))) else (M_weigh ((T.2 30 t.toNat) + 1) (M_emit 13 (T.2 31 t.toNat) (T.2 16 (T.2 31 t.toNat).toNat) (T.2 18 (T.2 31 t.toNat).toNat) (ma (mi T 32 ((T.1 32) - 1)) 17 (T.2 31 t.toNat).toNat (T.1 19)))))))
  | n + 1, go, T => (if go < 0 then (if (T.2 26 t.toNat) = 0 then (mi T 32 ((T.1 32) - 1)) else (if (T.2 26 t.toNat) = 1 then (M_count (T.2 31 t.toNat) ((T.2 30 t.toNat) + 1) (M_emit 11 (T.2 27 t.toNat) 0 0 (mi T 32 ((T.1 32) - 1)))) else (if (T.2 26 t.toNat) ≤ 2 then (M_count (T.2 31 t.toNat) ((T.2 30 t.toNat) + 1) (mi T 32 ((T.1 32) - 1))) else (M_weigh ((T.2 30 t.toNat) + 1) (M_emit 13 (T.2 31 t.toNat) (T.2 16 (T.2 31 t.toNat).toNat) (T.2 18 (T.2 31 t.toNat).toNat) (ma (mi T 32 ((T.1 32) - 1)) 17 (T.2 31 t.toNat).toNat (T.1 19))))))) else M_closeL t n (T.2 16 go.toNat) ((ma T 16 go.toNat (T.1 19))))
set_option maxHeartbeats 4000000 in
set_option maxRecDepth 100000 in
theorem lp7_closeBody (l : Launch) (D : va_G) (cy : Nat → ClassId) (o : Nat) (q : Nat → Nat) (t : Int)  {p : Program} {e : Env} {s : State} {m : MethodId} {args : Array Value} {below : List Frame} {meth : Method} {c : Code} (B : zAt p s m args meth c RX7 cX7_closeBody 5 none (.code yX7_closeBody cX7_closeBody 5 none :: TB7)) (hK : va_K D vwCl (zTY cy) s) (post : MSt → Prop) :
    ∀ (n : Nat) (go : Int) (T : MSt) (H : Heap) (locs : List Loc) (ls : Array Slot), (M_ch n go T) → (0 ≤ t) → (t + 1 = T.1 32) → (T.1 32 ≤ 43) → (0 ≤ T.2 26 t.toNat) → (T.2 26 t.toNat ≤ 4) → (T.2 26 t.toNat = 0 ∨ 2 ≤ T.1 32) → (0 ≤ T.2 31 t.toNat) → (T.2 31 t.toNat < 220) → (0 ≤ T.2 30 t.toNat) → (T.2 30 t.toNat < 1000000000000000) → (0 ≤ T.1 25) → (T.1 25 ≤ 1) → (0 ≤ T.1 19) → (T.1 19 ≤ 195) → (∀ j, 0 ≤ T.2 13 j ∧ T.2 13 j ≤ 126) → (0 ≤ T.1 14) → (T.1 14 ≤ 40) → (0 ≤ T.1 24) → (T.1 24 ≤ 1000) → mH D cy o q (mA o q) s.heap T H locs → lv_has ls 5 [(0, .ref o), (1, .int (zI t)), (2, .int (zI go))] → post (M_closeL t n go T) → W p l e (headSpec (.code yX7_closeBody cX7_closeBody 5 none :: TB7) ({ frames := 2, cells := 0, slots := 0, locals := 51 })).room s m args below meth c H locs 0 0 (MQ below (mQv D cy o q post) args s 0 0 (mA o q)) (F0 m 19 ls []) := by
  intro n
  induction n with
  | zero =>
    intro go T H locs ls hch ht0 ht1 hd2 hso0 hso1 hso2 hbe0 hbe1 hw0 hw1 hb0 hb1 hc0 hc1 hs hn0 hn1 ha0 ha1 hM hl hpost
    obtain ⟨g1, g2⟩ := hch
    refine lv_iload_n B.1 B.2.1 dX7_closeBody_19 rfl (lv_at hl 2 rfl) ?_
    refine z_if_lt (tgt := 45) B.1 B.2.1 (zr_of (by omega) (by omega)) dX7_closeBody_20 (by decide) (fun c_1 => ?_) (fun c_1 => ?_)
    · --
      refine lv_aload_n B.1 B.2.1 dX7_closeBody_45 rfl (lv_at hl 0 rfl) ?_
      refine lv_dup B.1 B.2.1 dX7_closeBody_46 rfl ?_
      refine m_get (x := T.1 32) B (i7 _) hK hM 32 (by decide) rfl rfl (List.mem_cons_of_mem _ w7_fRX7_121) dX7_closeBody_47 ?_
      refine z_iconst B.1 B.2.1 dX7_closeBody_50 ?_
      refine z_isub (x := (T.1 32) - 1) B.1 B.2.1 rfl dX7_closeBody_51 ?_
      refine m_put B (i7 _) hK hM 32 (by decide) rfl (by decide +kernel) (List.mem_cons_of_mem _ w7_fRX7_121) dX7_closeBody_52 (fun H locs hM => ?_)
      refine lv_aload_n B.1 B.2.1 dX7_closeBody_55 rfl (lv_at hl 0 rfl) ?_
      refine m_getr B (i7 _) hK hM 26 (by decide) rfl (List.mem_cons_of_mem _ w7_fRX7_47) dX7_closeBody_56 ?_
      refine lv_iload_n B.1 B.2.1 dX7_closeBody_59 rfl (lv_at hl 1 rfl) ?_
      refine m_iald (x := T.2 26 t.toNat) B hK hM 12 26 rfl rfl (by omega) (by simp only [mN]; omega) rfl dX7_closeBody_60 ?_
      refine lv_istore_n (lv' := [(3, .int (zI (T.2 26 t.toNat))), (0, .ref o), (1, .int (zI t)), (2, .int (zI go))]) B.1 B.2.1 dX7_closeBody_61 rfl hl (by decide) rfl (fun ls hl => ?_)
      refine lv_iload_n B.1 B.2.1 dX7_closeBody_62 rfl (lv_at hl 0 rfl) ?_
      refine z_if_ne (tgt := 67) B.1 B.2.1 (zr_of (by omega) (by omega)) dX7_closeBody_63 (by decide) (fun c_2 => ?_) (fun c_2 => ?_)
      · --
        refine lv_aload_n B.1 B.2.1 dX7_closeBody_67 rfl (lv_at hl 1 rfl) ?_
        refine m_getr B (i7 _) hK hM 30 (by decide) rfl (List.mem_cons_of_mem _ w7_fRX7_59) dX7_closeBody_68 ?_
        refine lv_iload_n B.1 B.2.1 dX7_closeBody_71 rfl (lv_at hl 2 rfl) ?_
        refine m_iald (x := T.2 30 t.toNat) B hK hM 16 30 rfl rfl (by omega) (by simp only [mN]; omega) rfl dX7_closeBody_72 ?_
        refine z_iconst B.1 B.2.1 dX7_closeBody_73 ?_
        refine z_iadd (x := (T.2 30 t.toNat) + 1) B.1 B.2.1 rfl dX7_closeBody_74 ?_
        refine lv_istore (lv' := [(4, .int (zI ((T.2 30 t.toNat) + 1))), (3, .int (zI (T.2 26 t.toNat))), (0, .ref o), (1, .int (zI t)), (2, .int (zI go))]) B.1 B.2.1 dX7_closeBody_75 hl (by decide) rfl (fun ls hl => ?_)
        refine lv_iload_n B.1 B.2.1 dX7_closeBody_77 rfl (lv_at hl 1 rfl) ?_
        refine z_iconst B.1 B.2.1 dX7_closeBody_78 ?_
        refine z_icmp_ne (tgt := 97) B.1 B.2.1 (zr_of (by omega) (by omega)) (zr_of (by decide) (by decide)) dX7_closeBody_79 (by decide) (fun c_3 => ?_) (fun c_3 => ?_)
        · --
          refine lv_iload_n B.1 B.2.1 dX7_closeBody_97 rfl (lv_at hl 1 rfl) ?_
          refine z_iconst B.1 B.2.1 dX7_closeBody_98 ?_
          refine z_icmp_le (tgt := 161) B.1 B.2.1 (zr_of (by omega) (by omega)) (zr_of (by decide) (by decide)) dX7_closeBody_99 (by decide) (fun c_4 => ?_) (fun c_4 => ?_)
          · --
            refine lv_aload_n B.1 B.2.1 dX7_closeBody_161 rfl (lv_at hl 2 rfl) ?_
            refine lv_aload_n B.1 B.2.1 dX7_closeBody_162 rfl (lv_at hl 2 rfl) ?_
            refine m_getr B (i7 _) hK hM 31 (by decide) rfl (List.mem_cons_of_mem _ w7_fRX7_62) dX7_closeBody_163 ?_
            refine lv_iload_n B.1 B.2.1 dX7_closeBody_166 rfl (lv_at hl 3 rfl) ?_
            refine m_iald (x := T.2 31 t.toNat) B hK hM 17 31 rfl rfl (by omega) (by simp only [mN]; omega) rfl dX7_closeBody_167 ?_
            refine lv_iload B.1 B.2.1 dX7_closeBody_168 (lv_at hl 0 rfl) ?_
            refine m_callv (As := [.int (zI (T.2 31 t.toNat)), .int (zI ((T.2 30 t.toNat) + 1))]) (rest := []) B hK hM (cX7_count_ok l D cy o q (mi T 32 ((T.1 32) - 1)) (T.2 31 t.toNat) ((T.2 30 t.toNat) + 1) (by show 0 ≤ (T.1 25); omega) (by show (T.1 25) ≤ 1; omega) (by show 0 ≤ (T.1 19); omega) (by show (T.1 19) ≤ 200; omega) (by (try simp only [mi_2]); exact hs) (by show 0 ≤ (T.1 14); omega) (by show (T.1 14) ≤ 40; omega) (by show 0 ≤ (T.1 24); omega) (by show (T.1 24) ≤ 1000; omega) (by show 1 ≤ ((T.1 32) - 1); omega) (by show ((T.1 32) - 1) ≤ 43; omega) (by show 0 ≤ (T.2 31 t.toNat); omega) (by show (T.2 31 t.toNat) < 220; omega) (by show 0 ≤ ((T.2 30 t.toNat) + 1); omega) (by show ((T.2 30 t.toNat) + 1) ≤ 1000000000000000; omega)) (cw7 2 B w7_mRX7_135 w7_im_yX7_count w7_sl_yX7_count w7_cd_yX7_count rfl rfl (by decide +kernel) ⟨Nat.le_of_ble_eq_true rfl, Nat.le_of_ble_eq_true rfl⟩) rfl hl.1 rfl (Nat.le_of_ble_eq_true rfl) dX7_closeBody_170 ⟨Nat.zero_le _, Nat.zero_le _⟩ (fun S_6 H locs hp_5 hM => ?_)
            have hp_5 := hp_5.symm
            subst hp_5
            have hq : M_closeL t 0 go T = (M_count (T.2 31 t.toNat) ((T.2 30 t.toNat) + 1) (mi T 32 ((T.1 32) - 1))) := by rw [M_closeL]; exact ((if_neg c_2).trans ((if_neg c_3).trans (if_pos c_4)))
            rw [hq] at hpost
            exact m_retv B hM (hpost) dX7_closeBody_173
          · --
            refine lv_aload_n B.1 B.2.1 dX7_closeBody_102 rfl (lv_at hl 2 rfl) ?_
            refine m_getr B (i7 _) hK hM 17 (by decide) rfl (List.mem_cons_of_mem _ w7_fRX7_41) dX7_closeBody_103 ?_
            refine lv_aload_n B.1 B.2.1 dX7_closeBody_106 rfl (lv_at hl 2 rfl) ?_
            refine m_getr B (i7 _) hK hM 31 (by decide) rfl (List.mem_cons_of_mem _ w7_fRX7_62) dX7_closeBody_107 ?_
            refine lv_iload_n B.1 B.2.1 dX7_closeBody_110 rfl (lv_at hl 3 rfl) ?_
            refine m_iald (x := T.2 31 t.toNat) B hK hM 17 31 rfl rfl (by omega) (by simp only [mN]; omega) rfl dX7_closeBody_111 ?_
            refine lv_aload_n B.1 B.2.1 dX7_closeBody_112 rfl (lv_at hl 2 rfl) ?_
            refine m_get (x := T.1 19) B (i7 _) hK hM 19 (by decide) rfl rfl (List.mem_cons_of_mem _ w7_fRX7_114) dX7_closeBody_113 ?_
            refine m_iast B hK hM 10 17 rfl rfl (by omega) (by simp only [mN]; omega) dX7_closeBody_116 (fun H locs hM => ?_)
            refine lv_aload_n B.1 B.2.1 dX7_closeBody_117 rfl (lv_at hl 2 rfl) ?_
            refine z_bipush B.1 B.2.1 (by decide) dX7_closeBody_118 ?_
            refine lv_aload_n B.1 B.2.1 dX7_closeBody_120 rfl (lv_at hl 2 rfl) ?_
            refine m_getr B (i7 _) hK hM 31 (by decide) rfl (List.mem_cons_of_mem _ w7_fRX7_62) dX7_closeBody_121 ?_
            refine lv_iload_n B.1 B.2.1 dX7_closeBody_124 rfl (lv_at hl 3 rfl) ?_
            refine m_iald (x := T.2 31 t.toNat) B hK hM 17 31 rfl rfl (by omega) (by simp only [mN]; omega) rfl dX7_closeBody_125 ?_
            refine lv_aload_n B.1 B.2.1 dX7_closeBody_126 rfl (lv_at hl 2 rfl) ?_
            refine m_getr B (i7 _) hK hM 16 (by decide) rfl (List.mem_cons_of_mem _ w7_fRX7_38) dX7_closeBody_127 ?_
            refine lv_aload_n B.1 B.2.1 dX7_closeBody_130 rfl (lv_at hl 2 rfl) ?_
            refine m_getr B (i7 _) hK hM 31 (by decide) rfl (List.mem_cons_of_mem _ w7_fRX7_62) dX7_closeBody_131 ?_
            refine lv_iload_n B.1 B.2.1 dX7_closeBody_134 rfl (lv_at hl 3 rfl) ?_
            refine m_iald (x := T.2 31 t.toNat) B hK hM 17 31 rfl rfl (by omega) (by simp only [mN]; omega) rfl dX7_closeBody_135 ?_
            refine m_iald (x := T.2 16 (T.2 31 t.toNat).toNat) B hK hM 9 16 rfl rfl (by omega) (by simp only [mN]; omega) rfl dX7_closeBody_136 ?_
            refine lv_aload_n B.1 B.2.1 dX7_closeBody_137 rfl (lv_at hl 2 rfl) ?_
            refine m_getr B (i7 _) hK hM 18 (by decide) rfl (List.mem_cons_of_mem _ w7_fRX7_44) dX7_closeBody_138 ?_
            refine lv_aload_n B.1 B.2.1 dX7_closeBody_141 rfl (lv_at hl 2 rfl) ?_
            refine m_getr B (i7 _) hK hM 31 (by decide) rfl (List.mem_cons_of_mem _ w7_fRX7_62) dX7_closeBody_142 ?_
            refine lv_iload_n B.1 B.2.1 dX7_closeBody_145 rfl (lv_at hl 3 rfl) ?_
            refine m_iald (x := T.2 31 t.toNat) B hK hM 17 31 rfl rfl (by omega) (by simp only [mN]; omega) rfl dX7_closeBody_146 ?_
            refine m_iald (x := T.2 18 (T.2 31 t.toNat).toNat) B hK hM 11 18 rfl rfl (by omega) (by simp only [mN]; omega) rfl dX7_closeBody_147 ?_
            refine m_calli (As := [.int (zI 13), .int (zI (T.2 31 t.toNat)), .int (zI (T.2 16 (T.2 31 t.toNat).toNat)), .int (zI (T.2 18 (T.2 31 t.toNat).toNat))]) (rest := []) B hK hM (cX7_emit_ok l D cy o q (ma (mi T 32 ((T.1 32) - 1)) 17 (T.2 31 t.toNat).toNat (T.1 19)) 13 (T.2 31 t.toNat) (T.2 16 (T.2 31 t.toNat).toNat) (T.2 18 (T.2 31 t.toNat).toNat) (by show 0 ≤ (T.1 19); omega) (by show (T.1 19) < 220; omega)) (cw7 4 B w7_mRX7_124 w7_im_yX7_emit w7_sl_yX7_emit w7_cd_yX7_emit rfl rfl (by decide +kernel) ⟨Nat.le_of_ble_eq_true rfl, Nat.le_of_ble_eq_true rfl⟩) rfl hl.1 rfl (Nat.le_of_ble_eq_true rfl) dX7_closeBody_148 ⟨Nat.zero_le _, Nat.zero_le _⟩ (fun z_9 S_8 H locs hp_7 hM => ?_)
            obtain ⟨hp_7, he_hp_7⟩ := hp_7
            have he_hp_7 := he_hp_7.symm
            subst he_hp_7
            have hp_7 : T.1 19 = z_9 := hp_7.symm
            subst hp_7
            refine lv_pop B.1 B.2.1 dX7_closeBody_151 rfl ?_
            refine lv_aload_n B.1 B.2.1 dX7_closeBody_152 rfl (lv_at hl 2 rfl) ?_
            refine lv_iload B.1 B.2.1 dX7_closeBody_153 (lv_at hl 0 rfl) ?_
            refine m_callv (As := [.int (zI ((T.2 30 t.toNat) + 1))]) (rest := []) B hK hM (cX7_weigh_ok l D cy o q (M_emit 13 (T.2 31 t.toNat) (T.2 16 (T.2 31 t.toNat).toNat) (T.2 18 (T.2 31 t.toNat).toNat) (ma (mi T 32 ((T.1 32) - 1)) 17 (T.2 31 t.toNat).toNat (T.1 19))) ((T.2 30 t.toNat) + 1) (by show 1 ≤ ((T.1 32) - 1); omega) (by show ((T.1 32) - 1) ≤ 44; omega)) (cw7 1 B w7_mRX7_132 w7_im_yX7_weigh w7_sl_yX7_weigh w7_cd_yX7_weigh rfl rfl (by decide +kernel) ⟨Nat.le_of_ble_eq_true rfl, Nat.le_of_ble_eq_true rfl⟩) rfl hl.1 rfl (Nat.le_of_ble_eq_true rfl) dX7_closeBody_155 ⟨Nat.zero_le _, Nat.zero_le _⟩ (fun S_11 H locs hp_10 hM => ?_)
            have hp_10 := hp_10.symm
            subst hp_10
            refine lv_goto (tgt := 173) B.1 B.2.1 dX7_closeBody_158 (by decide) ?_
            have hq : M_closeL t 0 go T = (M_weigh ((T.2 30 t.toNat) + 1) (M_emit 13 (T.2 31 t.toNat) (T.2 16 (T.2 31 t.toNat).toNat) (T.2 18 (T.2 31 t.toNat).toNat) (ma (mi T 32 ((T.1 32) - 1)) 17 (T.2 31 t.toNat).toNat (T.1 19)))) := by rw [M_closeL]; exact ((if_neg c_2).trans ((if_neg c_3).trans (if_neg c_4)))
            rw [hq] at hpost
            exact m_retv B hM (hpost) dX7_closeBody_173
        · --
          refine lv_aload_n B.1 B.2.1 dX7_closeBody_82 rfl (lv_at hl 2 rfl) ?_
          refine z_bipush B.1 B.2.1 (by decide) dX7_closeBody_83 ?_
          refine lv_aload_n B.1 B.2.1 dX7_closeBody_85 rfl (lv_at hl 2 rfl) ?_
          refine m_getr B (i7 _) hK hM 27 (by decide) rfl (List.mem_cons_of_mem _ w7_fRX7_50) dX7_closeBody_86 ?_
          refine lv_iload_n B.1 B.2.1 dX7_closeBody_89 rfl (lv_at hl 3 rfl) ?_
          refine m_iald (x := T.2 27 t.toNat) B hK hM 13 27 rfl rfl (by omega) (by simp only [mN]; omega) rfl dX7_closeBody_90 ?_
          refine z_iconst B.1 B.2.1 dX7_closeBody_91 ?_
          refine z_iconst B.1 B.2.1 dX7_closeBody_92 ?_
          refine m_calli (As := [.int (zI 11), .int (zI (T.2 27 t.toNat)), .int (zI 0), .int (zI 0)]) (rest := []) B hK hM (cX7_emit_ok l D cy o q (mi T 32 ((T.1 32) - 1)) 11 (T.2 27 t.toNat) 0 0 (by show 0 ≤ (T.1 19); omega) (by show (T.1 19) < 220; omega)) (cw7 4 B w7_mRX7_124 w7_im_yX7_emit w7_sl_yX7_emit w7_cd_yX7_emit rfl rfl (by decide +kernel) ⟨Nat.le_of_ble_eq_true rfl, Nat.le_of_ble_eq_true rfl⟩) rfl hl.1 rfl (Nat.le_of_ble_eq_true rfl) dX7_closeBody_93 ⟨Nat.zero_le _, Nat.zero_le _⟩ (fun z_14 S_13 H locs hp_12 hM => ?_)
          obtain ⟨hp_12, he_hp_12⟩ := hp_12
          have he_hp_12 := he_hp_12.symm
          subst he_hp_12
          have hp_12 : T.1 19 = z_14 := hp_12.symm
          subst hp_12
          refine lv_pop B.1 B.2.1 dX7_closeBody_96 rfl ?_
          refine lv_iload_n B.1 B.2.1 dX7_closeBody_97 rfl (lv_at hl 1 rfl) ?_
          refine z_iconst B.1 B.2.1 dX7_closeBody_98 ?_
          refine z_icmp_le (tgt := 161) B.1 B.2.1 (zr_of (by omega) (by omega)) (zr_of (by decide) (by decide)) dX7_closeBody_99 (by decide) (fun c_15 => ?_) (fun c_15 => ?_)
          · --
            refine lv_aload_n B.1 B.2.1 dX7_closeBody_161 rfl (lv_at hl 2 rfl) ?_
            refine lv_aload_n B.1 B.2.1 dX7_closeBody_162 rfl (lv_at hl 2 rfl) ?_
            refine m_getr B (i7 _) hK hM 31 (by decide) rfl (List.mem_cons_of_mem _ w7_fRX7_62) dX7_closeBody_163 ?_
            refine lv_iload_n B.1 B.2.1 dX7_closeBody_166 rfl (lv_at hl 3 rfl) ?_
            refine m_iald (x := T.2 31 t.toNat) B hK hM 17 31 rfl rfl (by omega) (by simp only [mN]; omega) rfl dX7_closeBody_167 ?_
            refine lv_iload B.1 B.2.1 dX7_closeBody_168 (lv_at hl 0 rfl) ?_
            refine m_callv (As := [.int (zI (T.2 31 t.toNat)), .int (zI ((T.2 30 t.toNat) + 1))]) (rest := []) B hK hM (cX7_count_ok l D cy o q (M_emit 11 (T.2 27 t.toNat) 0 0 (mi T 32 ((T.1 32) - 1))) (T.2 31 t.toNat) ((T.2 30 t.toNat) + 1) (by show 0 ≤ (T.1 25); omega) (by show (T.1 25) ≤ 1; omega) (by show 0 ≤ ((T.1 19) + 1); omega) (by show ((T.1 19) + 1) ≤ 200; omega) (by (try simp only [M_emit, mi_2, ma_ne (show (13 : Nat) ≠ 18 by decide), ma_ne (show (13 : Nat) ≠ 17 by decide), ma_ne (show (13 : Nat) ≠ 16 by decide), ma_ne (show (13 : Nat) ≠ 15 by decide)]); exact hs) (by show 0 ≤ (T.1 14); omega) (by show (T.1 14) ≤ 40; omega) (by show 0 ≤ (T.1 24); omega) (by show (T.1 24) ≤ 1000; omega) (by show 1 ≤ ((T.1 32) - 1); omega) (by show ((T.1 32) - 1) ≤ 43; omega) (by show 0 ≤ (T.2 31 t.toNat); omega) (by show (T.2 31 t.toNat) < 220; omega) (by show 0 ≤ ((T.2 30 t.toNat) + 1); omega) (by show ((T.2 30 t.toNat) + 1) ≤ 1000000000000000; omega)) (cw7 2 B w7_mRX7_135 w7_im_yX7_count w7_sl_yX7_count w7_cd_yX7_count rfl rfl (by decide +kernel) ⟨Nat.le_of_ble_eq_true rfl, Nat.le_of_ble_eq_true rfl⟩) rfl hl.1 rfl (Nat.le_of_ble_eq_true rfl) dX7_closeBody_170 ⟨Nat.zero_le _, Nat.zero_le _⟩ (fun S_17 H locs hp_16 hM => ?_)
            have hp_16 := hp_16.symm
            subst hp_16
            have hq : M_closeL t 0 go T = (M_count (T.2 31 t.toNat) ((T.2 30 t.toNat) + 1) (M_emit 11 (T.2 27 t.toNat) 0 0 (mi T 32 ((T.1 32) - 1)))) := by rw [M_closeL]; exact ((if_neg c_2).trans (if_pos c_3))
            rw [hq] at hpost
            exact m_retv B hM (hpost) dX7_closeBody_173
          · exact absurd c_15 (by omega)
      · --
        have hq : M_closeL t 0 go T = (mi T 32 ((T.1 32) - 1)) := by rw [M_closeL]; exact (if_pos c_2)
        rw [hq] at hpost
        exact m_retv B hM (hpost) dX7_closeBody_66
    · exact absurd c_1 (by omega)
  | succ n ih =>
    intro go T H locs ls hch ht0 ht1 hd2 hso0 hso1 hso2 hbe0 hbe1 hw0 hw1 hb0 hb1 hc0 hc1 hs hn0 hn1 ha0 ha1 hM hl hpost
    obtain ⟨g1, g2, g3⟩ := hch
    refine lv_iload_n B.1 B.2.1 dX7_closeBody_19 rfl (lv_at hl 2 rfl) ?_
    refine z_if_lt (tgt := 45) B.1 B.2.1 (zr_of (by omega) (by omega)) dX7_closeBody_20 (by decide) (fun c_1 => ?_) (fun c_1 => ?_)
    · --
      refine lv_aload_n B.1 B.2.1 dX7_closeBody_45 rfl (lv_at hl 0 rfl) ?_
      refine lv_dup B.1 B.2.1 dX7_closeBody_46 rfl ?_
      refine m_get (x := T.1 32) B (i7 _) hK hM 32 (by decide) rfl rfl (List.mem_cons_of_mem _ w7_fRX7_121) dX7_closeBody_47 ?_
      refine z_iconst B.1 B.2.1 dX7_closeBody_50 ?_
      refine z_isub (x := (T.1 32) - 1) B.1 B.2.1 rfl dX7_closeBody_51 ?_
      refine m_put B (i7 _) hK hM 32 (by decide) rfl (by decide +kernel) (List.mem_cons_of_mem _ w7_fRX7_121) dX7_closeBody_52 (fun H locs hM => ?_)
      refine lv_aload_n B.1 B.2.1 dX7_closeBody_55 rfl (lv_at hl 0 rfl) ?_
      refine m_getr B (i7 _) hK hM 26 (by decide) rfl (List.mem_cons_of_mem _ w7_fRX7_47) dX7_closeBody_56 ?_
      refine lv_iload_n B.1 B.2.1 dX7_closeBody_59 rfl (lv_at hl 1 rfl) ?_
      refine m_iald (x := T.2 26 t.toNat) B hK hM 12 26 rfl rfl (by omega) (by simp only [mN]; omega) rfl dX7_closeBody_60 ?_
      refine lv_istore_n (lv' := [(3, .int (zI (T.2 26 t.toNat))), (0, .ref o), (1, .int (zI t)), (2, .int (zI go))]) B.1 B.2.1 dX7_closeBody_61 rfl hl (by decide) rfl (fun ls hl => ?_)
      refine lv_iload_n B.1 B.2.1 dX7_closeBody_62 rfl (lv_at hl 0 rfl) ?_
      refine z_if_ne (tgt := 67) B.1 B.2.1 (zr_of (by omega) (by omega)) dX7_closeBody_63 (by decide) (fun c_2 => ?_) (fun c_2 => ?_)
      · --
        refine lv_aload_n B.1 B.2.1 dX7_closeBody_67 rfl (lv_at hl 1 rfl) ?_
        refine m_getr B (i7 _) hK hM 30 (by decide) rfl (List.mem_cons_of_mem _ w7_fRX7_59) dX7_closeBody_68 ?_
        refine lv_iload_n B.1 B.2.1 dX7_closeBody_71 rfl (lv_at hl 2 rfl) ?_
        refine m_iald (x := T.2 30 t.toNat) B hK hM 16 30 rfl rfl (by omega) (by simp only [mN]; omega) rfl dX7_closeBody_72 ?_
        refine z_iconst B.1 B.2.1 dX7_closeBody_73 ?_
        refine z_iadd (x := (T.2 30 t.toNat) + 1) B.1 B.2.1 rfl dX7_closeBody_74 ?_
        refine lv_istore (lv' := [(4, .int (zI ((T.2 30 t.toNat) + 1))), (3, .int (zI (T.2 26 t.toNat))), (0, .ref o), (1, .int (zI t)), (2, .int (zI go))]) B.1 B.2.1 dX7_closeBody_75 hl (by decide) rfl (fun ls hl => ?_)
        refine lv_iload_n B.1 B.2.1 dX7_closeBody_77 rfl (lv_at hl 1 rfl) ?_
        refine z_iconst B.1 B.2.1 dX7_closeBody_78 ?_
        refine z_icmp_ne (tgt := 97) B.1 B.2.1 (zr_of (by omega) (by omega)) (zr_of (by decide) (by decide)) dX7_closeBody_79 (by decide) (fun c_3 => ?_) (fun c_3 => ?_)
        · --
          refine lv_iload_n B.1 B.2.1 dX7_closeBody_97 rfl (lv_at hl 1 rfl) ?_
          refine z_iconst B.1 B.2.1 dX7_closeBody_98 ?_
          refine z_icmp_le (tgt := 161) B.1 B.2.1 (zr_of (by omega) (by omega)) (zr_of (by decide) (by decide)) dX7_closeBody_99 (by decide) (fun c_4 => ?_) (fun c_4 => ?_)
          · --
            refine lv_aload_n B.1 B.2.1 dX7_closeBody_161 rfl (lv_at hl 2 rfl) ?_
            refine lv_aload_n B.1 B.2.1 dX7_closeBody_162 rfl (lv_at hl 2 rfl) ?_
            refine m_getr B (i7 _) hK hM 31 (by decide) rfl (List.mem_cons_of_mem _ w7_fRX7_62) dX7_closeBody_163 ?_
            refine lv_iload_n B.1 B.2.1 dX7_closeBody_166 rfl (lv_at hl 3 rfl) ?_
            refine m_iald (x := T.2 31 t.toNat) B hK hM 17 31 rfl rfl (by omega) (by simp only [mN]; omega) rfl dX7_closeBody_167 ?_
            refine lv_iload B.1 B.2.1 dX7_closeBody_168 (lv_at hl 0 rfl) ?_
            refine m_callv (As := [.int (zI (T.2 31 t.toNat)), .int (zI ((T.2 30 t.toNat) + 1))]) (rest := []) B hK hM (cX7_count_ok l D cy o q (mi T 32 ((T.1 32) - 1)) (T.2 31 t.toNat) ((T.2 30 t.toNat) + 1) (by show 0 ≤ (T.1 25); omega) (by show (T.1 25) ≤ 1; omega) (by show 0 ≤ (T.1 19); omega) (by show (T.1 19) ≤ 200; omega) (by (try simp only [mi_2]); exact hs) (by show 0 ≤ (T.1 14); omega) (by show (T.1 14) ≤ 40; omega) (by show 0 ≤ (T.1 24); omega) (by show (T.1 24) ≤ 1000; omega) (by show 1 ≤ ((T.1 32) - 1); omega) (by show ((T.1 32) - 1) ≤ 43; omega) (by show 0 ≤ (T.2 31 t.toNat); omega) (by show (T.2 31 t.toNat) < 220; omega) (by show 0 ≤ ((T.2 30 t.toNat) + 1); omega) (by show ((T.2 30 t.toNat) + 1) ≤ 1000000000000000; omega)) (cw7 2 B w7_mRX7_135 w7_im_yX7_count w7_sl_yX7_count w7_cd_yX7_count rfl rfl (by decide +kernel) ⟨Nat.le_of_ble_eq_true rfl, Nat.le_of_ble_eq_true rfl⟩) rfl hl.1 rfl (Nat.le_of_ble_eq_true rfl) dX7_closeBody_170 ⟨Nat.zero_le _, Nat.zero_le _⟩ (fun S_6 H locs hp_5 hM => ?_)
            have hp_5 := hp_5.symm
            subst hp_5
            have hq : M_closeL t (n + 1) go T = (M_count (T.2 31 t.toNat) ((T.2 30 t.toNat) + 1) (mi T 32 ((T.1 32) - 1))) := by rw [M_closeL]; exact ((if_pos c_1).trans ((if_neg c_2).trans ((if_neg c_3).trans (if_pos c_4))))
            rw [hq] at hpost
            exact m_retv B hM (hpost) dX7_closeBody_173
          · --
            refine lv_aload_n B.1 B.2.1 dX7_closeBody_102 rfl (lv_at hl 2 rfl) ?_
            refine m_getr B (i7 _) hK hM 17 (by decide) rfl (List.mem_cons_of_mem _ w7_fRX7_41) dX7_closeBody_103 ?_
            refine lv_aload_n B.1 B.2.1 dX7_closeBody_106 rfl (lv_at hl 2 rfl) ?_
            refine m_getr B (i7 _) hK hM 31 (by decide) rfl (List.mem_cons_of_mem _ w7_fRX7_62) dX7_closeBody_107 ?_
            refine lv_iload_n B.1 B.2.1 dX7_closeBody_110 rfl (lv_at hl 3 rfl) ?_
            refine m_iald (x := T.2 31 t.toNat) B hK hM 17 31 rfl rfl (by omega) (by simp only [mN]; omega) rfl dX7_closeBody_111 ?_
            refine lv_aload_n B.1 B.2.1 dX7_closeBody_112 rfl (lv_at hl 2 rfl) ?_
            refine m_get (x := T.1 19) B (i7 _) hK hM 19 (by decide) rfl rfl (List.mem_cons_of_mem _ w7_fRX7_114) dX7_closeBody_113 ?_
            refine m_iast B hK hM 10 17 rfl rfl (by omega) (by simp only [mN]; omega) dX7_closeBody_116 (fun H locs hM => ?_)
            refine lv_aload_n B.1 B.2.1 dX7_closeBody_117 rfl (lv_at hl 2 rfl) ?_
            refine z_bipush B.1 B.2.1 (by decide) dX7_closeBody_118 ?_
            refine lv_aload_n B.1 B.2.1 dX7_closeBody_120 rfl (lv_at hl 2 rfl) ?_
            refine m_getr B (i7 _) hK hM 31 (by decide) rfl (List.mem_cons_of_mem _ w7_fRX7_62) dX7_closeBody_121 ?_
            refine lv_iload_n B.1 B.2.1 dX7_closeBody_124 rfl (lv_at hl 3 rfl) ?_
            refine m_iald (x := T.2 31 t.toNat) B hK hM 17 31 rfl rfl (by omega) (by simp only [mN]; omega) rfl dX7_closeBody_125 ?_
            refine lv_aload_n B.1 B.2.1 dX7_closeBody_126 rfl (lv_at hl 2 rfl) ?_
            refine m_getr B (i7 _) hK hM 16 (by decide) rfl (List.mem_cons_of_mem _ w7_fRX7_38) dX7_closeBody_127 ?_
            refine lv_aload_n B.1 B.2.1 dX7_closeBody_130 rfl (lv_at hl 2 rfl) ?_
            refine m_getr B (i7 _) hK hM 31 (by decide) rfl (List.mem_cons_of_mem _ w7_fRX7_62) dX7_closeBody_131 ?_
            refine lv_iload_n B.1 B.2.1 dX7_closeBody_134 rfl (lv_at hl 3 rfl) ?_
            refine m_iald (x := T.2 31 t.toNat) B hK hM 17 31 rfl rfl (by omega) (by simp only [mN]; omega) rfl dX7_closeBody_135 ?_
            refine m_iald (x := T.2 16 (T.2 31 t.toNat).toNat) B hK hM 9 16 rfl rfl (by omega) (by simp only [mN]; omega) rfl dX7_closeBody_136 ?_
            refine lv_aload_n B.1 B.2.1 dX7_closeBody_137 rfl (lv_at hl 2 rfl) ?_
            refine m_getr B (i7 _) hK hM 18 (by decide) rfl (List.mem_cons_of_mem _ w7_fRX7_44) dX7_closeBody_138 ?_
            refine lv_aload_n B.1 B.2.1 dX7_closeBody_141 rfl (lv_at hl 2 rfl) ?_
            refine m_getr B (i7 _) hK hM 31 (by decide) rfl (List.mem_cons_of_mem _ w7_fRX7_62) dX7_closeBody_142 ?_
            refine lv_iload_n B.1 B.2.1 dX7_closeBody_145 rfl (lv_at hl 3 rfl) ?_
            refine m_iald (x := T.2 31 t.toNat) B hK hM 17 31 rfl rfl (by omega) (by simp only [mN]; omega) rfl dX7_closeBody_146 ?_
            refine m_iald (x := T.2 18 (T.2 31 t.toNat).toNat) B hK hM 11 18 rfl rfl (by omega) (by simp only [mN]; omega) rfl dX7_closeBody_147 ?_
            refine m_calli (As := [.int (zI 13), .int (zI (T.2 31 t.toNat)), .int (zI (T.2 16 (T.2 31 t.toNat).toNat)), .int (zI (T.2 18 (T.2 31 t.toNat).toNat))]) (rest := []) B hK hM (cX7_emit_ok l D cy o q (ma (mi T 32 ((T.1 32) - 1)) 17 (T.2 31 t.toNat).toNat (T.1 19)) 13 (T.2 31 t.toNat) (T.2 16 (T.2 31 t.toNat).toNat) (T.2 18 (T.2 31 t.toNat).toNat) (by show 0 ≤ (T.1 19); omega) (by show (T.1 19) < 220; omega)) (cw7 4 B w7_mRX7_124 w7_im_yX7_emit w7_sl_yX7_emit w7_cd_yX7_emit rfl rfl (by decide +kernel) ⟨Nat.le_of_ble_eq_true rfl, Nat.le_of_ble_eq_true rfl⟩) rfl hl.1 rfl (Nat.le_of_ble_eq_true rfl) dX7_closeBody_148 ⟨Nat.zero_le _, Nat.zero_le _⟩ (fun z_9 S_8 H locs hp_7 hM => ?_)
            obtain ⟨hp_7, he_hp_7⟩ := hp_7
            have he_hp_7 := he_hp_7.symm
            subst he_hp_7
            have hp_7 : T.1 19 = z_9 := hp_7.symm
            subst hp_7
            refine lv_pop B.1 B.2.1 dX7_closeBody_151 rfl ?_
            refine lv_aload_n B.1 B.2.1 dX7_closeBody_152 rfl (lv_at hl 2 rfl) ?_
            refine lv_iload B.1 B.2.1 dX7_closeBody_153 (lv_at hl 0 rfl) ?_
            refine m_callv (As := [.int (zI ((T.2 30 t.toNat) + 1))]) (rest := []) B hK hM (cX7_weigh_ok l D cy o q (M_emit 13 (T.2 31 t.toNat) (T.2 16 (T.2 31 t.toNat).toNat) (T.2 18 (T.2 31 t.toNat).toNat) (ma (mi T 32 ((T.1 32) - 1)) 17 (T.2 31 t.toNat).toNat (T.1 19))) ((T.2 30 t.toNat) + 1) (by show 1 ≤ ((T.1 32) - 1); omega) (by show ((T.1 32) - 1) ≤ 44; omega)) (cw7 1 B w7_mRX7_132 w7_im_yX7_weigh w7_sl_yX7_weigh w7_cd_yX7_weigh rfl rfl (by decide +kernel) ⟨Nat.le_of_ble_eq_true rfl, Nat.le_of_ble_eq_true rfl⟩) rfl hl.1 rfl (Nat.le_of_ble_eq_true rfl) dX7_closeBody_155 ⟨Nat.zero_le _, Nat.zero_le _⟩ (fun S_11 H locs hp_10 hM => ?_)
            have hp_10 := hp_10.symm
            subst hp_10
            refine lv_goto (tgt := 173) B.1 B.2.1 dX7_closeBody_158 (by decide) ?_
            have hq : M_closeL t (n + 1) go T = (M_weigh ((T.2 30 t.toNat) + 1) (M_emit 13 (T.2 31 t.toNat) (T.2 16 (T.2 31 t.toNat).toNat) (T.2 18 (T.2 31 t.toNat).toNat) (ma (mi T 32 ((T.1 32) - 1)) 17 (T.2 31 t.toNat).toNat (T.1 19)))) := by rw [M_closeL]; exact ((if_pos c_1).trans ((if_neg c_2).trans ((if_neg c_3).trans (if_neg c_4))))
            rw [hq] at hpost
            exact m_retv B hM (hpost) dX7_closeBody_173
        · --
          refine lv_aload_n B.1 B.2.1 dX7_closeBody_82 rfl (lv_at hl 2 rfl) ?_
          refine z_bipush B.1 B.2.1 (by decide) dX7_closeBody_83 ?_
          refine lv_aload_n B.1 B.2.1 dX7_closeBody_85 rfl (lv_at hl 2 rfl) ?_
          refine m_getr B (i7 _) hK hM 27 (by decide) rfl (List.mem_cons_of_mem _ w7_fRX7_50) dX7_closeBody_86 ?_
          refine lv_iload_n B.1 B.2.1 dX7_closeBody_89 rfl (lv_at hl 3 rfl) ?_
          refine m_iald (x := T.2 27 t.toNat) B hK hM 13 27 rfl rfl (by omega) (by simp only [mN]; omega) rfl dX7_closeBody_90 ?_
          refine z_iconst B.1 B.2.1 dX7_closeBody_91 ?_
          refine z_iconst B.1 B.2.1 dX7_closeBody_92 ?_
          refine m_calli (As := [.int (zI 11), .int (zI (T.2 27 t.toNat)), .int (zI 0), .int (zI 0)]) (rest := []) B hK hM (cX7_emit_ok l D cy o q (mi T 32 ((T.1 32) - 1)) 11 (T.2 27 t.toNat) 0 0 (by show 0 ≤ (T.1 19); omega) (by show (T.1 19) < 220; omega)) (cw7 4 B w7_mRX7_124 w7_im_yX7_emit w7_sl_yX7_emit w7_cd_yX7_emit rfl rfl (by decide +kernel) ⟨Nat.le_of_ble_eq_true rfl, Nat.le_of_ble_eq_true rfl⟩) rfl hl.1 rfl (Nat.le_of_ble_eq_true rfl) dX7_closeBody_93 ⟨Nat.zero_le _, Nat.zero_le _⟩ (fun z_14 S_13 H locs hp_12 hM => ?_)
          obtain ⟨hp_12, he_hp_12⟩ := hp_12
          have he_hp_12 := he_hp_12.symm
          subst he_hp_12
          have hp_12 : T.1 19 = z_14 := hp_12.symm
          subst hp_12
          refine lv_pop B.1 B.2.1 dX7_closeBody_96 rfl ?_
          refine lv_iload_n B.1 B.2.1 dX7_closeBody_97 rfl (lv_at hl 1 rfl) ?_
          refine z_iconst B.1 B.2.1 dX7_closeBody_98 ?_
          refine z_icmp_le (tgt := 161) B.1 B.2.1 (zr_of (by omega) (by omega)) (zr_of (by decide) (by decide)) dX7_closeBody_99 (by decide) (fun c_15 => ?_) (fun c_15 => ?_)
          · --
            refine lv_aload_n B.1 B.2.1 dX7_closeBody_161 rfl (lv_at hl 2 rfl) ?_
            refine lv_aload_n B.1 B.2.1 dX7_closeBody_162 rfl (lv_at hl 2 rfl) ?_
            refine m_getr B (i7 _) hK hM 31 (by decide) rfl (List.mem_cons_of_mem _ w7_fRX7_62) dX7_closeBody_163 ?_
            refine lv_iload_n B.1 B.2.1 dX7_closeBody_166 rfl (lv_at hl 3 rfl) ?_
            refine m_iald (x := T.2 31 t.toNat) B hK hM 17 31 rfl rfl (by omega) (by simp only [mN]; omega) rfl dX7_closeBody_167 ?_
            refine lv_iload B.1 B.2.1 dX7_closeBody_168 (lv_at hl 0 rfl) ?_
            refine m_callv (As := [.int (zI (T.2 31 t.toNat)), .int (zI ((T.2 30 t.toNat) + 1))]) (rest := []) B hK hM (cX7_count_ok l D cy o q (M_emit 11 (T.2 27 t.toNat) 0 0 (mi T 32 ((T.1 32) - 1))) (T.2 31 t.toNat) ((T.2 30 t.toNat) + 1) (by show 0 ≤ (T.1 25); omega) (by show (T.1 25) ≤ 1; omega) (by show 0 ≤ ((T.1 19) + 1); omega) (by show ((T.1 19) + 1) ≤ 200; omega) (by (try simp only [M_emit, mi_2, ma_ne (show (13 : Nat) ≠ 18 by decide), ma_ne (show (13 : Nat) ≠ 17 by decide), ma_ne (show (13 : Nat) ≠ 16 by decide), ma_ne (show (13 : Nat) ≠ 15 by decide)]); exact hs) (by show 0 ≤ (T.1 14); omega) (by show (T.1 14) ≤ 40; omega) (by show 0 ≤ (T.1 24); omega) (by show (T.1 24) ≤ 1000; omega) (by show 1 ≤ ((T.1 32) - 1); omega) (by show ((T.1 32) - 1) ≤ 43; omega) (by show 0 ≤ (T.2 31 t.toNat); omega) (by show (T.2 31 t.toNat) < 220; omega) (by show 0 ≤ ((T.2 30 t.toNat) + 1); omega) (by show ((T.2 30 t.toNat) + 1) ≤ 1000000000000000; omega)) (cw7 2 B w7_mRX7_135 w7_im_yX7_count w7_sl_yX7_count w7_cd_yX7_count rfl rfl (by decide +kernel) ⟨Nat.le_of_ble_eq_true rfl, Nat.le_of_ble_eq_true rfl⟩) rfl hl.1 rfl (Nat.le_of_ble_eq_true rfl) dX7_closeBody_170 ⟨Nat.zero_le _, Nat.zero_le _⟩ (fun S_17 H locs hp_16 hM => ?_)
            have hp_16 := hp_16.symm
            subst hp_16
            have hq : M_closeL t (n + 1) go T = (M_count (T.2 31 t.toNat) ((T.2 30 t.toNat) + 1) (M_emit 11 (T.2 27 t.toNat) 0 0 (mi T 32 ((T.1 32) - 1)))) := by rw [M_closeL]; exact ((if_pos c_1).trans ((if_neg c_2).trans (if_pos c_3)))
            rw [hq] at hpost
            exact m_retv B hM (hpost) dX7_closeBody_173
          · exact absurd c_15 (by omega)
      · --
        have hq : M_closeL t (n + 1) go T = (mi T 32 ((T.1 32) - 1)) := by rw [M_closeL]; exact ((if_pos c_1).trans (if_pos c_2))
        rw [hq] at hpost
        exact m_retv B hM (hpost) dX7_closeBody_66
    · --
      refine lv_aload_n B.1 B.2.1 dX7_closeBody_23 rfl (lv_at hl 0 rfl) ?_
      refine m_getr B (i7 _) hK hM 16 (by decide) rfl (List.mem_cons_of_mem _ w7_fRX7_38) dX7_closeBody_24 ?_
      refine lv_iload_n B.1 B.2.1 dX7_closeBody_27 rfl (lv_at hl 2 rfl) ?_
      refine m_iald (x := T.2 16 go.toNat) B hK hM 9 16 rfl rfl (by omega) (by simp only [mN]; omega) rfl dX7_closeBody_28 ?_
      refine lv_istore_n (lv' := [(3, .int (zI (T.2 16 go.toNat))), (0, .ref o), (1, .int (zI t)), (2, .int (zI go))]) B.1 B.2.1 dX7_closeBody_29 rfl hl (by decide) rfl (fun ls hl => ?_)
      refine lv_aload_n B.1 B.2.1 dX7_closeBody_30 rfl (lv_at hl 1 rfl) ?_
      refine m_getr B (i7 _) hK hM 16 (by decide) rfl (List.mem_cons_of_mem _ w7_fRX7_38) dX7_closeBody_31 ?_
      refine lv_iload_n B.1 B.2.1 dX7_closeBody_34 rfl (lv_at hl 3 rfl) ?_
      refine lv_aload_n B.1 B.2.1 dX7_closeBody_35 rfl (lv_at hl 1 rfl) ?_
      refine m_get (x := T.1 19) B (i7 _) hK hM 19 (by decide) rfl rfl (List.mem_cons_of_mem _ w7_fRX7_114) dX7_closeBody_36 ?_
      refine m_iast B hK hM 9 16 rfl rfl (by omega) (by simp only [mN]; omega) dX7_closeBody_39 (fun H locs hM => ?_)
      refine lv_iload_n B.1 B.2.1 dX7_closeBody_40 rfl (lv_at hl 0 rfl) ?_
      refine lv_istore_n (lv' := [(2, .int (zI (T.2 16 go.toNat))), (3, .int (zI (T.2 16 go.toNat))), (0, .ref o), (1, .int (zI t))]) B.1 B.2.1 dX7_closeBody_41 rfl hl (by decide) rfl (fun ls hl => ?_)
      refine lv_goto (tgt := 19) B.1 B.2.1 dX7_closeBody_42 (by decide) ?_
      have hq : M_closeL t (n + 1) go T = M_closeL t n (T.2 16 go.toNat) ((ma T 16 go.toNat (T.1 19))) := by rw [M_closeL]; exact (if_neg c_1)
      rw [hq] at hpost
      exact ih (T.2 16 go.toNat) ((ma T 16 go.toNat (T.1 19))) H locs ls (g3 (by omega)) ht0 ht1 hd2 hso0 hso1 hso2 hbe0 hbe1 hw0 hw1 hb0 hb1 hc0 hc1 hs hn0 hn1 ha0 ha1 hM (lv_sub hl [2, 3, 0] rfl) hpost
def M_closeBody (S : MSt) : MSt := M_closeL (S.1 32 - 1) 220 (S.1 19) (ma (M_emit 2 (S.2 29 ((S.1 32) - 1).toNat) 0 0 S) 29 ((S.1 32) - 1).toNat (S.1 19))
set_option maxHeartbeats 4000000 in
set_option maxRecDepth 100000 in
theorem cX7_closeBody_ok (l : Launch) (D : va_G) (cy : Nat → ClassId) (o : Nat) (q : Nat → Nat) (S : MSt) (hd2 : S.1 32 ≤ 43) (hso0 : 0 ≤ S.2 26 (S.1 32 - 1).toNat) (hso1 : S.2 26 (S.1 32 - 1).toNat ≤ 4) (hso2 : S.2 26 (S.1 32 - 1).toNat = 0 ∨ 2 ≤ S.1 32) (hbe0 : 0 ≤ S.2 31 (S.1 32 - 1).toNat) (hbe1 : S.2 31 (S.1 32 - 1).toNat < 220) (hw0 : 0 ≤ S.2 30 (S.1 32 - 1).toNat) (hw1 : S.2 30 (S.1 32 - 1).toNat < 1000000000000000) (hb0 : 0 ≤ S.1 25) (hb1 : S.1 25 ≤ 1) (hc0 : 0 ≤ S.1 19) (hs : ∀ j, 0 ≤ S.2 13 j ∧ S.2 13 j ≤ 126) (hn0 : 0 ≤ S.1 14) (hn1 : S.1 14 ≤ 40) (ha0 : 0 ≤ S.1 24) (ha1 : S.1 24 ≤ 1000) (hc1 : S.1 19 ≤ 190) (hd1 : 1 ≤ S.1 32) (hx0 : 0 ≤ S.2 28 (S.1 32 - 1).toNat) (hx1 : S.2 28 (S.1 32 - 1).toNat < 220) (hch : M_ch 220 (S.1 19) (ma (M_emit 2 (S.2 29 ((S.1 32) - 1).toNat) 0 0 S) 29 ((S.1 32) - 1).toNat (S.1 19))) : mMv l D cy o q yX7_closeBody (.code yX7_closeBody cX7_closeBody 5 none :: TB7) ({ frames := 2, cells := 0, slots := 0, locals := 51 }) S [] (fun S' => S' = M_closeBody S) := by
  refine m_of (cc := cX7_closeBody) (maxL := 5) (ret := none) (by decide) rfl rfl (Nat.le_of_ble_eq_true rfl) ?_
  intro p e s m args below meth c ls B hK hM hl
  have hl : lv_has ls 5 [(0, .ref o)] := hl
  refine lv_aload_n B.1 B.2.1 dX7_closeBody_0 rfl (lv_at hl 0 rfl) ?_
  refine z_iconst B.1 B.2.1 dX7_closeBody_1 ?_
  refine m_callv (As := [.int (zI 0)]) (rest := []) B hK hM (cX7_endAlternative_ok l D cy o q S 0 (by show 0 ≤ 0; omega) (by show 0 ≤ 1; omega) (by show 0 ≤ (S.1 19); omega) (by show (S.1 19) ≤ 200; omega) (by show 1 ≤ (S.1 32); omega) (by show (S.1 32) ≤ 43; omega) hx0 hx1) (cw7 1 B w7_mRX7_128 w7_im_yX7_endAlternative w7_sl_yX7_endAlternative w7_cd_yX7_endAlternative rfl rfl (by decide +kernel) ⟨Nat.le_of_ble_eq_true rfl, Nat.le_of_ble_eq_true rfl⟩) rfl hl.1 rfl (Nat.le_of_ble_eq_true rfl) dX7_closeBody_2 ⟨Nat.zero_le _, Nat.zero_le _⟩ (fun S_2 H locs hp_1 hM => ?_)
  have hp_1 := hp_1.symm
  subst hp_1
  refine lv_aload_n B.1 B.2.1 dX7_closeBody_5 rfl (lv_at hl 0 rfl) ?_
  refine m_get (x := S.1 32) B (i7 _) hK hM 32 (by decide) rfl rfl (List.mem_cons_of_mem _ w7_fRX7_121) dX7_closeBody_6 ?_
  refine z_iconst B.1 B.2.1 dX7_closeBody_9 ?_
  refine z_isub (x := (S.1 32) - 1) B.1 B.2.1 rfl dX7_closeBody_10 ?_
  refine lv_istore_n (lv' := [(1, .int (zI ((S.1 32) - 1))), (0, .ref o)]) B.1 B.2.1 dX7_closeBody_11 rfl hl (by decide) rfl (fun ls hl => ?_)
  refine lv_aload_n B.1 B.2.1 dX7_closeBody_12 rfl (lv_at hl 1 rfl) ?_
  refine m_getr B (i7 _) hK hM 29 (by decide) rfl (List.mem_cons_of_mem _ w7_fRX7_56) dX7_closeBody_13 ?_
  refine lv_iload_n B.1 B.2.1 dX7_closeBody_16 rfl (lv_at hl 0 rfl) ?_
  refine m_iald (x := (M_endAlternative 0 S).2 29 ((S.1 32) - 1).toNat) B hK hM 15 29 rfl rfl (by omega) (by simp only [mN]; omega) rfl dX7_closeBody_17 ?_
  refine lv_istore_n (lv' := [(2, .int (zI ((M_endAlternative 0 S).2 29 ((S.1 32) - 1).toNat))), (1, .int (zI ((S.1 32) - 1))), (0, .ref o)]) B.1 B.2.1 dX7_closeBody_18 rfl hl (by decide) rfl (fun ls hl => ?_)
  have hgo : (ma (M_emit 2 (S.2 29 ((S.1 32) - 1).toNat) 0 0 S) 29 ((S.1 32) - 1).toNat (S.1 19)).2 29 (S.1 32 - 1).toNat = S.1 19 := by
    show zu (S.2 29) (S.1 32 - 1).toNat (S.1 19) (S.1 32 - 1).toNat = S.1 19
    exact zu_eq
  have hl : lv_has ls 5 [(0, .ref o), (1, .int (zI (S.1 32 - 1))), (2, .int (zI ((ma (M_emit 2 (S.2 29 ((S.1 32) - 1).toNat) 0 0 S) 29 ((S.1 32) - 1).toNat (S.1 19)).2 29 (S.1 32 - 1).toNat)))] := lv_sub hl [2, 1, 0] rfl
  rw [hgo] at hl
  exact lp7_closeBody l D cy o q (S.1 32 - 1) B hK _ 220 (S.1 19) (ma (M_emit 2 (S.2 29 ((S.1 32) - 1).toNat) 0 0 S) 29 ((S.1 32) - 1).toNat (S.1 19)) _ _ ls hch (by omega) (by show S.1 32 - 1 + 1 = S.1 32; omega) hd2 hso0 hso1 hso2 hbe0 hbe1 hw0 hw1 hb0 hb1 (by show 0 ≤ S.1 19 + 1; omega) (by show S.1 19 + 1 ≤ 195; omega) hs hn0 hn1 ha0 ha1 hM hl rfl
