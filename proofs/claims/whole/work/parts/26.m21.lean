/-! longs: the bytes of a row of signs -/
def zl (z : Int) : Int64 := Int64.ofInt z
theorem zl_toInt {z : Int} (h : -1000 ≤ z ∧ z ≤ 1000) : (zl z).toInt = z := Int64.toInt_ofInt_of_le (by omega) (by omega)
/-- the byte k of a long, as a number -/
def lby (row : Int64) (k : Int) : Int := ((row >>> ((zI (8 * k)).toInt64 &&& 63)) &&& 255).toInt
theorem lby_eq (row : Int64) (k : Int) : (row >>> ((zI (8 * k)).toInt64 &&& 63)) &&& 255 = zl (lby row k) := (Int64.ofInt_toInt _).symm
theorem lby_bd (row : Int64) (k : Int) : 0 ≤ lby row k ∧ lby row k ≤ 255 := by
  unfold lby
  generalize row >>> ((zI (8 * k)).toInt64 &&& 63) = x
  have h : (x &&& 255).toBitVec.toNat ≤ 255 := by
    rw [Int64.toBitVec_and, BitVec.toNat_and]
    exact Nat.and_le_right
  have e : (x &&& 255).toInt = ((x &&& 255).toBitVec.toNat : Int) := BitVec.toInt_eq_toNat_of_lt (by omega)
  rw [e]
  omega
def zcmp (a b : Int) : Int := if b < a then 1 else if a = b then 0 else -1
theorem zcmp_bd (a b : Int) : -1 ≤ zcmp a b ∧ zcmp a b ≤ 1 ∧ (zcmp a b < 0 ↔ a < b) ∧ (zcmp a b ≤ 0 ↔ a ≤ b) := by
  unfold zcmp
  (repeat' split) <;> omega
section LR
variable {p : Program} {l : Launch} {e : Env} {R : Room} {s : State} {m : MethodId} {args : Array Value} {below : List Frame} {meth : Method} {c : Code} {H : Heap} {locs : List Loc} {cells slots : Nat} {Q : State → Prop} {cc : ByteArray} {pc : Nat} {ls : Array Slot} {rest : List Value}
theorem z_lby {row : Int64} {k : Int} (kk : W p l e R s m args below meth c H locs cells slots Q (F0 m pc ls (.long (zl (lby row k)) :: rest))) : W p l e R s m args below meth c H locs cells slots Q (F0 m pc ls (.long ((row >>> ((zI (8 * k)).toInt64 &&& 63)) &&& 255) :: rest)) := by
  rw [lby_eq]
  exact kk
theorem z_lcmp (hexec : p.tables.exec = Jvm.exec) (hb : c.code = cc) {a b : Int} {y : Int64} (ha : -1000 ≤ a ∧ a ≤ 1000) (hbr : -1000 ≤ b ∧ b ≤ 1000) (hy : y = zl b) (hdg : decode cc pc = .ok (.lcmp, 1)) (kk : W p l e R s m args below meth c H locs cells slots Q (F0 m (pc + 1) ls (.int (zI (zcmp a b)) :: rest))) : W p l e R s m args below meth c H locs cells slots Q (F0 m pc ls (.long y :: .long (zl a) :: rest)) := by
  subst hy
  refine W.lcmp hexec hb hdg ?_
  have h1 : zl b < zl a ↔ b < a := by rw [Int64.lt_iff_toInt_lt, zl_toInt ha, zl_toInt hbr]
  have h2 : zl a = zl b ↔ a = b := by rw [← Int64.toInt_inj, zl_toInt ha, zl_toInt hbr]
  have : lg_cmp (zl a) (zl b) = zI (zcmp a b) := by
    unfold lg_cmp zcmp
    by_cases c1 : b < a
    · rw [if_pos (h1.mpr c1), if_pos c1]; rfl
    · rw [if_neg (fun h => c1 (h1.mp h)), if_neg c1]
      by_cases c2 : a = b
      · rw [if_pos (h2.mpr c2), if_pos c2]; rfl
      · rw [if_neg (fun h => c2 (h2.mp h)), if_neg c2]; rfl
  rw [this]
  exact kk
end LR
def M_typeC (row : Int64) (cn : Int) : Nat → Int → MSt → MSt
  | 0, _, T => T
  | n + 1, k, T => M_typeC row cn n (k + 1) ((mi (ma T 1 (T.1 2).toNat (lby row k)) 2 ((T.1 2) + 1)))
theorem M_typeC_2 (row : Int64) (cn : Int) {a : Nat} (h1 : a ≠ 1) : ∀ (n : Nat) (k : Int) (T : MSt), (M_typeC row cn n k T).2 a = T.2 a
  | 0, _, _ => rfl
  | n + 1, k, T => by rw [M_typeC, M_typeC_2 row cn h1 n]; simp only [mi_2, ma_ne h1]
set_option maxHeartbeats 4000000 in
set_option maxRecDepth 100000 in
theorem lp7_typeC (l : Launch) (D : va_G) (cy : Nat → ClassId) (o : Nat) (q : Nat → Nat) (row : Int64) (cn : Int)  {p : Program} {e : Env} {R : Room} {s : State} {m : MethodId} {args : Array Value} {below : List Frame} {meth : Method} {c : Code} {cells slots : Nat} {A : Nat → Prop} {H0 : Heap} {Q : State → Prop} (B : zAt p s m args meth c RX7 cX7_type 7 (some .int) (.code yX7_type cX7_type 7 (some .int) :: TB7)) (hK : va_K D vwCl (zTY cy) s) :
    ∀ (n : Nat) (k : Int) (T : MSt) (H : Heap) (locs : List Loc) (ls : Array Slot), (0 ≤ k) → (k + n = cn) → (0 ≤ T.1 2) → (T.1 2 + n ≤ 40) → (cn ≤ 8) → mH D cy o q A H0 T H locs → lv_has ls 7 [(0, .ref o), (1, .long (row)), (3, .int (zI cn)), (4, .int (zI k))] → (∀ (ls' : Array Slot) (H' : Heap) (locs' : List Loc), mH D cy o q A H0 (M_typeC row cn n k T) H' locs' → lv_has ls' 7 [(0, .ref o)] → W p l e R s m args below meth c H' locs' cells slots Q (F0 m 132 ls' [])) → W p l e R s m args below meth c H locs cells slots Q (F0 m 88 ls []) := by
  intro n
  induction n with
  | zero =>
    intro k T H locs ls hk0 hkn ht0 ht1 hcn hM hl kk
    refine lv_iload B.1 B.2.1 dX7_type_88 (lv_at hl 3 rfl) ?_
    refine lv_iload_n B.1 B.2.1 dX7_type_90 rfl (lv_at hl 2 rfl) ?_
    refine z_icmp_ge (tgt := 132) B.1 B.2.1 (zr_of (by omega) (by omega)) (zr_of (by omega) (by omega)) dX7_type_91 (by decide) (fun c_1 => ?_) (fun c_1 => ?_)
    · --
      exact kk ls H locs hM (lv_sub hl [0] rfl)
    · exact absurd c_1 (by omega)
  | succ n ih =>
    intro k T H locs ls hk0 hkn ht0 ht1 hcn hM hl kk
    refine lv_iload B.1 B.2.1 dX7_type_88 (lv_at hl 3 rfl) ?_
    refine lv_iload_n B.1 B.2.1 dX7_type_90 rfl (lv_at hl 2 rfl) ?_
    refine z_icmp_ge (tgt := 132) B.1 B.2.1 (zr_of (by omega) (by omega)) (zr_of (by omega) (by omega)) dX7_type_91 (by decide) (fun c_1 => ?_) (fun c_1 => ?_)
    · exact absurd c_1 (by omega)
    · --
      refine lv_aload_n B.1 B.2.1 dX7_type_94 rfl (lv_at hl 0 rfl) ?_
      refine m_getr B (i7 _) hK hM 1 (by decide) rfl (List.mem_cons_of_mem _ w7_fRX7_7) dX7_type_95 ?_
      refine lv_aload_n B.1 B.2.1 dX7_type_98 rfl (lv_at hl 0 rfl) ?_
      refine m_get (x := T.1 2) B (i7 _) hK hM 2 (by decide) rfl rfl (List.mem_cons_of_mem _ w7_fRX7_101) dX7_type_99 ?_
      refine lv_lload_n B.1 B.2.1 dX7_type_102 rfl (lv_at hl 1 rfl) ?_
      refine z_bipush B.1 B.2.1 (by decide) dX7_type_103 ?_
      refine lv_iload B.1 B.2.1 dX7_type_105 (lv_at hl 3 rfl) ?_
      refine z_imul (x := 8 * k) B.1 B.2.1 rfl dX7_type_107 ?_
      refine lv_lshr B.1 B.2.1 dX7_type_108 rfl ?_
      refine lv_ldc2 (v := 255) B.1 B.2.1 B.2.2.2.1 (B.2.2.2.2.1 _ (List.mem_cons_of_mem _ w7_kRX7_108)) dX7_type_109 ?_
      refine lv_land B.1 B.2.1 dX7_type_112 ?_
      refine z_lby (row := row) (k := k) ?_
      have f_2 := lby_bd row k
      refine lv_l2i (v := zI (lby row k)) B.1 B.2.1 dX7_type_113 Int64.toInt32_ofInt ?_
      refine z_i2c B.1 B.2.1 (by omega) (by omega) dX7_type_114 ?_
      refine m_cast B hK hM 0 1 rfl rfl (by omega) (by simp only [mN]; omega) (by omega) (by omega) dX7_type_115 (fun H locs hM => ?_)
      refine lv_aload_n B.1 B.2.1 dX7_type_116 rfl (lv_at hl 0 rfl) ?_
      refine lv_dup B.1 B.2.1 dX7_type_117 rfl ?_
      refine m_get (x := T.1 2) B (i7 _) hK hM 2 (by decide) rfl rfl (List.mem_cons_of_mem _ w7_fRX7_101) dX7_type_118 ?_
      refine z_iconst B.1 B.2.1 dX7_type_121 ?_
      refine z_iadd (x := (T.1 2) + 1) B.1 B.2.1 rfl dX7_type_122 ?_
      refine m_put B (i7 _) hK hM 2 (by decide) rfl (by decide +kernel) (List.mem_cons_of_mem _ w7_fRX7_101) dX7_type_123 (fun H locs hM => ?_)
      refine z_iinc (v := k + 1) (lv' := [(4, .int (zI (k + 1))), (0, .ref o), (1, .long (row)), (3, .int (zI cn))]) B.1 B.2.1 dX7_type_126 hl (k := 3) rfl rfl (by decide) rfl (fun ls hl => ?_)
      refine lv_goto (tgt := 88) B.1 B.2.1 dX7_type_129 (by decide) ?_
      exact ih (k + 1) ((mi (ma T 1 (T.1 2).toNat (lby row k)) 2 ((T.1 2) + 1))) H locs ls (by omega) (by omega) (by show 0 ≤ T.1 2 + 1; omega) (by show T.1 2 + 1 + n ≤ 40; omega) hcn hM (lv_sub hl [1, 2, 3, 0] rfl) kk
def M_typeL (row : Int64) (cn : Int) (T : MSt) : Nat → Int → Int × MSt
  | 0, k => ((M_typeC row cn (cn).toNat 0 T).1 2, (M_typeC row cn (cn).toNat 0 T))
  | n + 1, k => (if cn ≤ k then ((M_typeC row cn (cn).toNat 0 T).1 2, (M_typeC row cn (cn).toNat 0 T)) else (if (zcmp (lby row k) 32) < 0 then (0, (mi T 0 1)) else (if (zcmp (lby row k) 126) ≤ 0 then M_typeL row cn T n (k + 1) else (0, (mi T 0 1)))))
set_option maxHeartbeats 4000000 in
set_option maxRecDepth 100000 in
theorem lp7_type (l : Launch) (D : va_G) (cy : Nat → ClassId) (o : Nat) (q : Nat → Nat) (row : Int64) (cn : Int) (T : MSt) (hc0 : 1 ≤ cn) (hc1 : cn ≤ 8) (ht0 : 0 ≤ T.1 2) (ht1 : T.1 2 + cn ≤ 40) {p : Program} {e : Env} {s : State} {m : MethodId} {args : Array Value} {below : List Frame} {meth : Method} {c : Code} (B : zAt p s m args meth c RX7 cX7_type 7 (some .int) (.code yX7_type cX7_type 7 (some .int) :: TB7)) (hK : va_K D vwCl (zTY cy) s) (post : Int → MSt → Prop) :
    ∀ (n : Nat) (k : Int) (H : Heap) (locs : List Loc) (ls : Array Slot), (cn - k ≤ n) → (0 ≤ k) → (k ≤ 100) → mH D cy o q (mA o q) s.heap T H locs → lv_has ls 7 [(0, .ref o), (1, .long (row)), (3, .int (zI cn)), (4, .int (zI k))] → post (M_typeL row cn T n k).1 (M_typeL row cn T n k).2 → W p l e (headSpec (.code yX7_type cX7_type 7 (some .int) :: TB7) ({ frames := 1, cells := 0, slots := 0, locals := 21 })).room s m args below meth c H locs 0 0 (MQ below (mQi D cy o q post) args s 0 0 (mA o q)) (F0 m 36 ls []) := by
  intro n
  induction n with
  | zero =>
    intro k H locs ls hn hk0 hk1 hM hl hpost
    refine lv_iload B.1 B.2.1 dX7_type_36 (lv_at hl 3 rfl) ?_
    refine lv_iload_n B.1 B.2.1 dX7_type_38 rfl (lv_at hl 2 rfl) ?_
    refine z_icmp_ge (tgt := 85) B.1 B.2.1 (zr_of (by omega) (by omega)) (zr_of (by omega) (by omega)) dX7_type_39 (by decide) (fun c_1 => ?_) (fun c_1 => ?_)
    · --
      refine z_iconst B.1 B.2.1 dX7_type_85 ?_
      refine lv_istore (lv' := [(4, .int (zI 0)), (0, .ref o), (1, .long (row)), (3, .int (zI cn))]) B.1 B.2.1 dX7_type_86 hl (by decide) rfl (fun ls hl => ?_)
      refine lp7_typeC l D cy o q row cn B hK (cn).toNat 0 T _ _ ls (by omega) (by omega) (by omega) (by omega) (by omega) hM (lv_sub hl [1, 2, 3, 0] rfl) (fun ls H locs hM hl => ?_)
      refine lv_aload_n B.1 B.2.1 dX7_type_132 rfl (lv_at hl 0 rfl) ?_
      refine m_get (x := (M_typeC row cn (cn).toNat 0 T).1 2) B (i7 _) hK hM 2 (by decide) rfl rfl (List.mem_cons_of_mem _ w7_fRX7_101) dX7_type_133 ?_
      have hq : M_typeL row cn T 0 k = ((M_typeC row cn (cn).toNat 0 T).1 2, (M_typeC row cn (cn).toNat 0 T)) := rfl
      rw [hq] at hpost
      exact m_reti B hM (hpost) dX7_type_136
    · exact absurd c_1 (by omega)
  | succ n ih =>
    intro k H locs ls hn hk0 hk1 hM hl hpost
    refine lv_iload B.1 B.2.1 dX7_type_36 (lv_at hl 3 rfl) ?_
    refine lv_iload_n B.1 B.2.1 dX7_type_38 rfl (lv_at hl 2 rfl) ?_
    refine z_icmp_ge (tgt := 85) B.1 B.2.1 (zr_of (by omega) (by omega)) (zr_of (by omega) (by omega)) dX7_type_39 (by decide) (fun c_1 => ?_) (fun c_1 => ?_)
    · --
      refine z_iconst B.1 B.2.1 dX7_type_85 ?_
      refine lv_istore (lv' := [(4, .int (zI 0)), (0, .ref o), (1, .long (row)), (3, .int (zI cn))]) B.1 B.2.1 dX7_type_86 hl (by decide) rfl (fun ls hl => ?_)
      refine lp7_typeC l D cy o q row cn B hK (cn).toNat 0 T _ _ ls (by omega) (by omega) (by omega) (by omega) (by omega) hM (lv_sub hl [1, 2, 3, 0] rfl) (fun ls H locs hM hl => ?_)
      refine lv_aload_n B.1 B.2.1 dX7_type_132 rfl (lv_at hl 0 rfl) ?_
      refine m_get (x := (M_typeC row cn (cn).toNat 0 T).1 2) B (i7 _) hK hM 2 (by decide) rfl rfl (List.mem_cons_of_mem _ w7_fRX7_101) dX7_type_133 ?_
      have hq : M_typeL row cn T (n + 1) k = ((M_typeC row cn (cn).toNat 0 T).1 2, (M_typeC row cn (cn).toNat 0 T)) := by rw [M_typeL]; exact (if_pos c_1)
      rw [hq] at hpost
      exact m_reti B hM (hpost) dX7_type_136
    · --
      refine lv_lload_n B.1 B.2.1 dX7_type_42 rfl (lv_at hl 1 rfl) ?_
      refine z_bipush B.1 B.2.1 (by decide) dX7_type_43 ?_
      refine lv_iload B.1 B.2.1 dX7_type_45 (lv_at hl 3 rfl) ?_
      refine z_imul (x := 8 * k) B.1 B.2.1 rfl dX7_type_47 ?_
      refine lv_lshr B.1 B.2.1 dX7_type_48 rfl ?_
      refine lv_ldc2 (v := 255) B.1 B.2.1 B.2.2.2.1 (B.2.2.2.2.1 _ (List.mem_cons_of_mem _ w7_kRX7_108)) dX7_type_49 ?_
      refine lv_land B.1 B.2.1 dX7_type_52 ?_
      refine z_lby (row := row) (k := k) ?_
      have f_2 := lby_bd row k
      refine lv_lstore (lv' := [(5, .long (zl (lby row k))), (0, .ref o), (1, .long (row)), (3, .int (zI cn)), (4, .int (zI k))]) B.1 B.2.1 dX7_type_53 hl (by decide) rfl (fun ls hl => ?_)
      refine lv_lload B.1 B.2.1 dX7_type_55 (lv_at hl 0 rfl) ?_
      refine lv_ldc2 (v := 32) B.1 B.2.1 B.2.2.2.1 (B.2.2.2.2.1 _ (List.mem_cons_of_mem _ w7_kRX7_110)) dX7_type_57 ?_
      refine z_lcmp (a := (lby row k)) (b := 32) B.1 B.2.1 (by omega) (by omega) rfl dX7_type_60 ?_
      have f_3 := zcmp_bd (lby row k) 32
      refine z_if_lt (tgt := 73) B.1 B.2.1 (zr_of (by omega) (by omega)) dX7_type_61 (by decide) (fun c_4 => ?_) (fun c_4 => ?_)
      · --
        refine lv_aload_n B.1 B.2.1 dX7_type_73 rfl (lv_at hl 1 rfl) ?_
        refine z_iconst B.1 B.2.1 dX7_type_74 ?_
        refine m_calli (As := [.int (zI 1)]) (rest := []) B hK hM (cX7_refuse_ok l D cy o q T 1 ) (cw7 1 B w7_mRX7_104 w7_im_yX7_refuse w7_sl_yX7_refuse w7_cd_yX7_refuse rfl rfl (by decide +kernel) ⟨Nat.le_of_ble_eq_true rfl, Nat.le_of_ble_eq_true rfl⟩) rfl hl.1 rfl (Nat.le_of_ble_eq_true rfl) dX7_type_75 ⟨Nat.zero_le _, Nat.zero_le _⟩ (fun z_7 S_6 H locs hp_5 hM => ?_)
        obtain ⟨hp_5, he_hp_5⟩ := hp_5
        have he_hp_5 := he_hp_5.symm
        subst he_hp_5
        have hp_5 : 0 = z_7 := hp_5.symm
        subst hp_5
        have hq : M_typeL row cn T (n + 1) k = (0, (mi T 0 1)) := by rw [M_typeL]; exact ((if_neg c_1).trans (if_pos c_4))
        rw [hq] at hpost
        exact m_reti B hM (hpost) dX7_type_78
      · --
        refine lv_lload B.1 B.2.1 dX7_type_64 (lv_at hl 0 rfl) ?_
        refine lv_ldc2 (v := 126) B.1 B.2.1 B.2.2.2.1 (B.2.2.2.2.1 _ (List.mem_cons_of_mem _ w7_kRX7_112)) dX7_type_66 ?_
        refine z_lcmp (a := (lby row k)) (b := 126) B.1 B.2.1 (by omega) (by omega) rfl dX7_type_69 ?_
        have f_8 := zcmp_bd (lby row k) 126
        refine z_if_le (tgt := 79) B.1 B.2.1 (zr_of (by omega) (by omega)) dX7_type_70 (by decide) (fun c_9 => ?_) (fun c_9 => ?_)
        · --
          refine z_iinc (v := k + 1) (lv' := [(4, .int (zI (k + 1))), (5, .long (zl (lby row k))), (0, .ref o), (1, .long (row)), (3, .int (zI cn))]) B.1 B.2.1 dX7_type_79 hl (k := 4) rfl rfl (by decide) rfl (fun ls hl => ?_)
          refine lv_goto (tgt := 36) B.1 B.2.1 dX7_type_82 (by decide) ?_
          have hq : M_typeL row cn T (n + 1) k = M_typeL row cn T n (k + 1) := by rw [M_typeL]; exact ((if_neg c_1).trans ((if_neg c_4).trans (if_pos c_9)))
          rw [hq] at hpost
          exact ih (k + 1) H locs ls (by omega) (by omega) (by omega) hM (lv_sub hl [2, 3, 4, 0] rfl) hpost
        · --
          refine lv_aload_n B.1 B.2.1 dX7_type_73 rfl (lv_at hl 1 rfl) ?_
          refine z_iconst B.1 B.2.1 dX7_type_74 ?_
          refine m_calli (As := [.int (zI 1)]) (rest := []) B hK hM (cX7_refuse_ok l D cy o q T 1 ) (cw7 1 B w7_mRX7_104 w7_im_yX7_refuse w7_sl_yX7_refuse w7_cd_yX7_refuse rfl rfl (by decide +kernel) ⟨Nat.le_of_ble_eq_true rfl, Nat.le_of_ble_eq_true rfl⟩) rfl hl.1 rfl (Nat.le_of_ble_eq_true rfl) dX7_type_75 ⟨Nat.zero_le _, Nat.zero_le _⟩ (fun z_12 S_11 H locs hp_10 hM => ?_)
          obtain ⟨hp_10, he_hp_10⟩ := hp_10
          have he_hp_10 := he_hp_10.symm
          subst he_hp_10
          have hp_10 : 0 = z_12 := hp_10.symm
          subst hp_10
          have hq : M_typeL row cn T (n + 1) k = (0, (mi T 0 1)) := by rw [M_typeL]; exact ((if_neg c_1).trans ((if_neg c_4).trans (if_neg c_9)))
          rw [hq] at hpost
          exact m_reti B hM (hpost) dX7_type_78
def M_type (row : Int64) (cn : Int) (S : MSt) : Int × MSt := if cn < 1 then (0, mi (mi S 0 0) 0 1) else if 8 < cn then (0, mi (mi S 0 0) 0 1) else if S.1 2 + cn ≤ 40 then M_typeL row cn (mi S 0 0) cn.toNat 0 else (0, mi (mi S 0 0) 0 1)
set_option maxHeartbeats 4000000 in
set_option maxRecDepth 100000 in
theorem cX7_type_ok (l : Launch) (D : va_G) (cy : Nat → ClassId) (o : Nat) (q : Nat → Nat) (S : MSt) (row : Int64) (cn : Int) (hcn0 : -2147483648 ≤ cn) (hcn1 : cn ≤ 2147483647) (ht0 : 0 ≤ S.1 2) (ht1 : S.1 2 ≤ 40) : mMi l D cy o q yX7_type (.code yX7_type cX7_type 7 (some .int) :: TB7) ({ frames := 1, cells := 0, slots := 0, locals := 21 }) S [.long (row), .int (zI cn)] (fun r S' => r = (M_type row cn S).1 ∧ S' = (M_type row cn S).2) := by
  refine m_of (cc := cX7_type) (maxL := 7) (ret := (some .int)) (by decide) rfl rfl (Nat.le_of_ble_eq_true rfl) ?_
  intro p e s m args below meth c ls B hK hM hl
  have hl : lv_has ls 7 [(0, .ref o), (1, .long (row)), (3, .int (zI cn))] := hl
  refine lv_aload_n B.1 B.2.1 dX7_type_0 rfl (lv_at hl 0 rfl) ?_
  refine z_iconst B.1 B.2.1 dX7_type_1 ?_
  refine m_put B (i7 _) hK hM 0 (by decide) rfl (by decide +kernel) (List.mem_cons_of_mem _ w7_fRX7_98) dX7_type_2 (fun H locs hM => ?_)
  refine lv_iload_n B.1 B.2.1 dX7_type_5 rfl (lv_at hl 2 rfl) ?_
  refine z_iconst B.1 B.2.1 dX7_type_6 ?_
  refine z_icmp_lt (tgt := 27) B.1 B.2.1 (zr_of (by omega) (by omega)) (zr_of (by decide) (by decide)) dX7_type_7 (by decide) (fun c_1 => ?_) (fun c_1 => ?_)
  · --
    refine lv_aload_n B.1 B.2.1 dX7_type_27 rfl (lv_at hl 0 rfl) ?_
    refine z_iconst B.1 B.2.1 dX7_type_28 ?_
    refine m_calli (As := [.int (zI 1)]) (rest := []) B hK hM (cX7_refuse_ok l D cy o q (mi S 0 0) 1 ) (cw7 1 B w7_mRX7_104 w7_im_yX7_refuse w7_sl_yX7_refuse w7_cd_yX7_refuse rfl rfl (by decide +kernel) ⟨Nat.le_of_ble_eq_true rfl, Nat.le_of_ble_eq_true rfl⟩) rfl hl.1 rfl (Nat.le_of_ble_eq_true rfl) dX7_type_29 ⟨Nat.zero_le _, Nat.zero_le _⟩ (fun z_4 S_3 H locs hp_2 hM => ?_)
    obtain ⟨hp_2, he_hp_2⟩ := hp_2
    have he_hp_2 := he_hp_2.symm
    subst he_hp_2
    have hp_2 : 0 = z_4 := hp_2.symm
    subst hp_2
    have hq : M_type row cn S = (0, (mi (mi S 0 0) 0 1)) := by unfold M_type; exact (if_pos c_1)
    exact m_reti B hM (⟨(congrArg Prod.fst hq).symm, (congrArg Prod.snd hq).symm⟩) dX7_type_32
  · --
    refine lv_iload_n B.1 B.2.1 dX7_type_10 rfl (lv_at hl 2 rfl) ?_
    refine z_bipush B.1 B.2.1 (by decide) dX7_type_11 ?_
    refine z_icmp_gt (tgt := 27) B.1 B.2.1 (zr_of (by omega) (by omega)) (zr_of (by decide) (by decide)) dX7_type_13 (by decide) (fun c_5 => ?_) (fun c_5 => ?_)
    · --
      refine lv_aload_n B.1 B.2.1 dX7_type_27 rfl (lv_at hl 0 rfl) ?_
      refine z_iconst B.1 B.2.1 dX7_type_28 ?_
      refine m_calli (As := [.int (zI 1)]) (rest := []) B hK hM (cX7_refuse_ok l D cy o q (mi S 0 0) 1 ) (cw7 1 B w7_mRX7_104 w7_im_yX7_refuse w7_sl_yX7_refuse w7_cd_yX7_refuse rfl rfl (by decide +kernel) ⟨Nat.le_of_ble_eq_true rfl, Nat.le_of_ble_eq_true rfl⟩) rfl hl.1 rfl (Nat.le_of_ble_eq_true rfl) dX7_type_29 ⟨Nat.zero_le _, Nat.zero_le _⟩ (fun z_8 S_7 H locs hp_6 hM => ?_)
      obtain ⟨hp_6, he_hp_6⟩ := hp_6
      have he_hp_6 := he_hp_6.symm
      subst he_hp_6
      have hp_6 : 0 = z_8 := hp_6.symm
      subst hp_6
      have hq : M_type row cn S = (0, (mi (mi S 0 0) 0 1)) := by unfold M_type; exact ((if_neg c_1).trans (if_pos c_5))
      exact m_reti B hM (⟨(congrArg Prod.fst hq).symm, (congrArg Prod.snd hq).symm⟩) dX7_type_32
    · --
      refine lv_aload_n B.1 B.2.1 dX7_type_16 rfl (lv_at hl 0 rfl) ?_
      refine m_get (x := S.1 2) B (i7 _) hK hM 2 (by decide) rfl rfl (List.mem_cons_of_mem _ w7_fRX7_101) dX7_type_17 ?_
      refine lv_iload_n B.1 B.2.1 dX7_type_20 rfl (lv_at hl 2 rfl) ?_
      refine z_iadd (x := (S.1 2) + cn) B.1 B.2.1 rfl dX7_type_21 ?_
      refine z_bipush B.1 B.2.1 (by decide) dX7_type_22 ?_
      refine z_icmp_le (tgt := 33) B.1 B.2.1 (zr_of (by omega) (by omega)) (zr_of (by decide) (by decide)) dX7_type_24 (by decide) (fun c_9 => ?_) (fun c_9 => ?_)
      · --
        refine z_iconst B.1 B.2.1 dX7_type_33 ?_
        refine lv_istore (lv' := [(4, .int (zI 0)), (0, .ref o), (1, .long (row)), (3, .int (zI cn))]) B.1 B.2.1 dX7_type_34 hl (by decide) rfl (fun ls hl => ?_)
        have hq : M_type row cn S = M_typeL row cn (mi S 0 0) cn.toNat 0 := by unfold M_type; exact ((if_neg c_1).trans ((if_neg c_5).trans (if_pos c_9)))
        rw [hq]
        exact lp7_type l D cy o q row cn (mi S 0 0) (by omega) (by omega) (by show 0 ≤ S.1 2; omega) (by show S.1 2 + cn ≤ 40; omega) B hK _ cn.toNat 0 _ _ ls (by omega) (by omega) (by omega) hM (lv_sub hl [1, 2, 3, 0] rfl) ⟨rfl, rfl⟩
      · --
        refine lv_aload_n B.1 B.2.1 dX7_type_27 rfl (lv_at hl 0 rfl) ?_
        refine z_iconst B.1 B.2.1 dX7_type_28 ?_
        refine m_calli (As := [.int (zI 1)]) (rest := []) B hK hM (cX7_refuse_ok l D cy o q (mi S 0 0) 1 ) (cw7 1 B w7_mRX7_104 w7_im_yX7_refuse w7_sl_yX7_refuse w7_cd_yX7_refuse rfl rfl (by decide +kernel) ⟨Nat.le_of_ble_eq_true rfl, Nat.le_of_ble_eq_true rfl⟩) rfl hl.1 rfl (Nat.le_of_ble_eq_true rfl) dX7_type_29 ⟨Nat.zero_le _, Nat.zero_le _⟩ (fun z_12 S_11 H locs hp_10 hM => ?_)
        obtain ⟨hp_10, he_hp_10⟩ := hp_10
        have he_hp_10 := he_hp_10.symm
        subst he_hp_10
        have hp_10 : 0 = z_12 := hp_10.symm
        subst hp_10
        have hq : M_type row cn S = (0, (mi (mi S 0 0) 0 1)) := by unfold M_type; exact ((if_neg c_1).trans ((if_neg c_5).trans (if_neg c_9)))
        exact m_reti B hM (⟨(congrArg Prod.fst hq).symm, (congrArg Prod.snd hq).symm⟩) dX7_type_32
