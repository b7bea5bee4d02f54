theorem M_sign_cong {S S' : MSt} (h1 : S.1 14 = S'.1 14) (h2 : S.2 13 = S'.2 13) {k : Int} : M_sign S k = M_sign S' k := by
  unfold M_sign
  rw [h1, h2]
theorem M_mark_a (S : MSt) : (M_mark S).2.2 = S.2 := by
  unfold M_mark
  (repeat' split) <;> rfl
theorem M_mark_i {j : Nat} (h : j ≠ 24) (S : MSt) : (M_mark S).2.1 j = S.1 j := by
  unfold M_mark
  (repeat' split) <;> first | rfl | exact mi_ne h | exact (mi_ne h).trans (mi_ne h)
theorem M_mark_bd (S : MSt) (hs : ∀ j, 0 ≤ S.2 13 j ∧ S.2 13 j ≤ 126) : -126 ≤ (M_mark S).1 ∧ (M_mark S).1 ≤ 126 ∧ S.1 24 ≤ (M_mark S).2.1 24 ∧ (M_mark S).2.1 24 ≤ S.1 24 + 2 ∧ (¬ (M_mark S).1 = 0 → S.1 24 + 1 ≤ (M_mark S).2.1 24 ∧ S.1 24 < S.1 14) := by
  have h1 := M_sign_bd S hs (S.1 24)
  have h2 := M_sign_bd S hs (S.1 24 + 1)
  have h3 : ¬ M_sign S (S.1 24) = 0 → S.1 24 < S.1 14 := by
    intro h
    unfold M_sign at h
    split at h
    · exact absurd rfl h
    · omega
  unfold M_mark
  (repeat' split) <;> dsimp only <;> (try simp only [mi_eq]) <;> refine ⟨by omega, by omega, by omega, by omega, fun hz => ?_⟩ <;> first | omega | (exact absurd trivial hz) | (exact absurd rfl hz) | (have h4 := h3 (by assumption); omega)
theorem M_mark_i0 (S : MSt) : (M_mark S).2.1 0 = S.1 0 := M_mark_i (by decide) S
theorem M_mark_i2 (S : MSt) : (M_mark S).2.1 2 = S.1 2 := M_mark_i (by decide) S
theorem M_mark_i4 (S : MSt) : (M_mark S).2.1 4 = S.1 4 := M_mark_i (by decide) S
theorem M_mark_i5 (S : MSt) : (M_mark S).2.1 5 = S.1 5 := M_mark_i (by decide) S
theorem M_mark_i6 (S : MSt) : (M_mark S).2.1 6 = S.1 6 := M_mark_i (by decide) S
theorem M_mark_i12 (S : MSt) : (M_mark S).2.1 12 = S.1 12 := M_mark_i (by decide) S
theorem M_mark_i14 (S : MSt) : (M_mark S).2.1 14 = S.1 14 := M_mark_i (by decide) S
theorem M_mark_i19 (S : MSt) : (M_mark S).2.1 19 = S.1 19 := M_mark_i (by decide) S
theorem M_mark_i20 (S : MSt) : (M_mark S).2.1 20 = S.1 20 := M_mark_i (by decide) S
theorem M_mark_i21 (S : MSt) : (M_mark S).2.1 21 = S.1 21 := M_mark_i (by decide) S
theorem M_mark_i22 (S : MSt) : (M_mark S).2.1 22 = S.1 22 := M_mark_i (by decide) S
theorem M_mark_i23 (S : MSt) : (M_mark S).2.1 23 = S.1 23 := M_mark_i (by decide) S
theorem M_mark_i25 (S : MSt) : (M_mark S).2.1 25 = S.1 25 := M_mark_i (by decide) S
theorem M_mark_i32 (S : MSt) : (M_mark S).2.1 32 = S.1 32 := M_mark_i (by decide) S
theorem M_mark_i35 (S : MSt) : (M_mark S).2.1 35 = S.1 35 := M_mark_i (by decide) S
theorem M_mark_i37 (S : MSt) : (M_mark S).2.1 37 = S.1 37 := M_mark_i (by decide) S
theorem M_mark_i38 (S : MSt) : (M_mark S).2.1 38 = S.1 38 := M_mark_i (by decide) S
theorem M_mark_i39 (S : MSt) : (M_mark S).2.1 39 = S.1 39 := M_mark_i (by decide) S
theorem M_mark_i40 (S : MSt) : (M_mark S).2.1 40 = S.1 40 := M_mark_i (by decide) S
theorem M_mark_i41 (S : MSt) : (M_mark S).2.1 41 = S.1 41 := M_mark_i (by decide) S
theorem M_mark_i42 (S : MSt) : (M_mark S).2.1 42 = S.1 42 := M_mark_i (by decide) S
theorem M_mark_i45 (S : MSt) : (M_mark S).2.1 45 = S.1 45 := M_mark_i (by decide) S
theorem M_mark_i47 (S : MSt) : (M_mark S).2.1 47 = S.1 47 := M_mark_i (by decide) S
theorem M_mark_i49 (S : MSt) : (M_mark S).2.1 49 = S.1 49 := M_mark_i (by decide) S
def M_setL (nt : Int) (fr : Int) : Nat → Int → MSt → MSt
  | 0, alone, T => (mi (M_emit 6 fr (T.1 24) ((if nt = 0 then 0 else 1 : Int)) T) 24 ((T.1 24) + 1))
  | n + 1, alone, T => (if (T.1 25) = 0 then (if (M_sign T (T.1 24)) = 93 then (mi (M_emit 6 fr (T.1 24) ((if nt = 0 then 0 else 1 : Int)) T) 24 ((T.1 24) + 1)) else (if ((if ((M_mark T).1) = 0 then 1 else 0 : Int)) = 0 then (if ((if alone = 0 then 0 else (if (M_sign T (T.1 24)) = 45 then 1 else 0 : Int) : Int)) = 0 then (if (M_sign T ((M_mark T).2.1 24)) = 45 then (if (M_sign T (((M_mark T).2.1 24) + 1)) = 93 then M_setL nt fr n 0 ((mi (M_mark T).2 25 ((if ((M_mark T).1) = 0 then 1 else 0 : Int)))) else M_setL nt fr n 1 ((mi (M_mark (mi (mi (M_mark T).2 25 ((if ((M_mark T).1) = 0 then 1 else 0 : Int))) 24 (((M_mark T).2.1 24) + 1))).2 25 ((if ((M_mark T).1) < 0 then 1 else (if ((M_mark (mi (mi (M_mark T).2 25 ((if ((M_mark T).1) = 0 then 1 else 0 : Int))) 24 (((M_mark T).2.1 24) + 1))).1) ≤ 0 then 1 else (if ((M_mark T).1) ≤ ((M_mark (mi (mi (M_mark T).2 25 ((if ((M_mark T).1) = 0 then 1 else 0 : Int))) 24 (((M_mark T).2.1 24) + 1))).1) then 0 else 1 : Int) : Int) : Int))))) else M_setL nt fr n 0 ((mi (M_mark T).2 25 ((if ((M_mark T).1) = 0 then 1 else 0 : Int))))) else M_setL nt fr n 0 ((mi (M_mark T).2 25 ((if ((M_mark T).1) = 0 then 1 else 0 : Int))))) else M_setL nt fr n 0 ((mi (M_mark T).2 25 ((if ((M_mark T).1) = 0 then 1 else 0 : Int)))))) else (mi (M_emit 6 fr (T.1 24) ((if nt = 0 then 0 else 1 : Int)) T) 24 ((T.1 24) + 1)))
set_option maxHeartbeats 4000000 in
set_option maxRecDepth 100000 in
theorem lp7_set (l : Launch) (D : va_G) (cy : Nat → ClassId) (o : Nat) (q : Nat → Nat) (nt : Int) (fr : Int) (ht0 : 0 ≤ nt) (ht1 : nt ≤ 1) {p : Program} {e : Env} {s : State} {m : MethodId} {args : Array Value} {below : List Frame} {meth : Method} {c : Code} (B : zAt p s m args meth c RX7 cX7_set 7 none (.code yX7_set cX7_set 7 none :: TB7)) (hK : va_K D vwCl (zTY cy) s) (post : MSt → Prop) :
    ∀ (n : Nat) (alone : Int) (T : MSt) (H : Heap) (locs : List Loc) (ls : Array Slot), (T.1 25 = 0 → 60 - T.1 24 ≤ n) → (0 ≤ T.1 25) → (T.1 25 ≤ 1) → (0 ≤ T.1 24) → (T.1 24 ≤ 50) → (T.1 25 = 0 → T.1 24 ≤ 44) → (0 ≤ T.1 19) → (T.1 19 ≤ 200) → (0 ≤ alone) → (alone ≤ 1) → (0 ≤ T.1 14) → (T.1 14 ≤ 40) → (∀ j, 0 ≤ T.2 13 j ∧ T.2 13 j ≤ 126) → mH D cy o q (mA o q) s.heap T H locs → lv_has ls 7 [(0, .ref o), (1, .int (zI nt)), (2, .int (zI fr)), (3, .int (zI alone))] → post (M_setL nt fr n alone T) → W p l e (headSpec (.code yX7_set cX7_set 7 none :: TB7) ({ frames := 2, cells := 0, slots := 0, locals := 43 })).room s m args below meth c H locs 0 0 (MQ below (mQv D cy o q post) args s 0 0 (mA o q)) (F0 m 54 ls []) := by
  intro n
  induction n with
  | zero =>
    intro alone T H locs ls hn hb0 hb1 ha0 ha1 ha2 hc0 hc1 hal0 hal1 hn0 hn1 hs hM hl hpost
    refine lv_aload_n B.1 B.2.1 dX7_set_54 rfl (lv_at hl 0 rfl) ?_
    refine m_get (x := T.1 25) B (i7 _) hK hM 25 (by decide) rfl rfl (List.mem_cons_of_mem _ w7_fRX7_117) dX7_set_55 ?_
    refine z_if_ne (tgt := 207) B.1 B.2.1 (zr_of (by omega) (by omega)) dX7_set_58 (by decide) (fun c_1 => ?_) (fun c_1 => ?_)
    · --
      refine lv_aload_n B.1 B.2.1 dX7_set_207 rfl (lv_at hl 0 rfl) ?_
      refine z_bipush B.1 B.2.1 (by decide) dX7_set_208 ?_
      refine lv_iload_n B.1 B.2.1 dX7_set_210 rfl (lv_at hl 2 rfl) ?_
      refine lv_aload_n B.1 B.2.1 dX7_set_211 rfl (lv_at hl 0 rfl) ?_
      refine m_get (x := T.1 24) B (i7 _) hK hM 24 (by decide) rfl rfl (List.mem_cons_of_mem _ w7_fRX7_139) dX7_set_212 ?_
      refine lv_iload_n B.1 B.2.1 dX7_set_215 rfl (lv_at hl 1 rfl) ?_
      refine z_joinH (P := fun v H' locs' => v = (if nt = 0 then 0 else 1 : Int) ∧ mH D cy o q (mA o q) s.heap T H' locs') (pcJ := 224) (lsJ := ls) (stJ := [.int (zI (T.1 24)), .int (zI fr), .int (zI 6), .ref o]) (fun v_2 H locs hv_3 => ?_) (fun hJ_4 => ?_)
      · --
        obtain ⟨hv_3, hM⟩ := hv_3
        have hb_5 : (if nt = 0 then 0 else 1 : Int) = 0 ∨ (if nt = 0 then 0 else 1 : Int) = 1 := by (repeat' split) <;> simp
        have hv_3 := hv_3.symm
        subst hv_3
        refine m_calli (As := [.int (zI 6), .int (zI fr), .int (zI (T.1 24)), .int (zI ((if nt = 0 then 0 else 1 : Int)))]) (rest := []) B hK hM (cX7_emit_ok l D cy o q T 6 fr (T.1 24) ((if nt = 0 then 0 else 1 : Int)) (by show 0 ≤ (T.1 19); omega) (by show (T.1 19) < 220; omega)) (cw7 4 B w7_mRX7_124 w7_im_yX7_emit w7_sl_yX7_emit w7_cd_yX7_emit rfl rfl (by decide +kernel) ⟨Nat.le_of_ble_eq_true rfl, Nat.le_of_ble_eq_true rfl⟩) rfl hl.1 rfl (Nat.le_of_ble_eq_true rfl) dX7_set_224 ⟨Nat.zero_le _, Nat.zero_le _⟩ (fun z_8 S_7 H locs hp_6 hM => ?_)
        obtain ⟨hp_6, he_hp_6⟩ := hp_6
        have he_hp_6 := he_hp_6.symm
        subst he_hp_6
        have hp_6 : T.1 19 = z_8 := hp_6.symm
        subst hp_6
        refine lv_pop B.1 B.2.1 dX7_set_227 rfl ?_
        refine lv_aload_n B.1 B.2.1 dX7_set_228 rfl (lv_at hl 0 rfl) ?_
        refine lv_dup B.1 B.2.1 dX7_set_229 rfl ?_
        refine m_get (x := T.1 24) B (i7 _) hK hM 24 (by decide) rfl rfl (List.mem_cons_of_mem _ w7_fRX7_139) dX7_set_230 ?_
        refine z_iconst B.1 B.2.1 dX7_set_233 ?_
        refine z_iadd (x := (T.1 24) + 1) B.1 B.2.1 rfl dX7_set_234 ?_
        refine m_put B (i7 _) hK hM 24 (by decide) rfl (by decide +kernel) (List.mem_cons_of_mem _ w7_fRX7_139) dX7_set_235 (fun H locs hM => ?_)
        have hq : M_setL nt fr 0 alone T = (mi (M_emit 6 fr (T.1 24) ((if nt = 0 then 0 else 1 : Int)) T) 24 ((T.1 24) + 1)) := rfl
        rw [hq] at hpost
        exact m_retv B hM (hpost) dX7_set_238
      · --
        refine z_if_eq (tgt := 223) B.1 B.2.1 (zr_of (by omega) (by omega)) dX7_set_216 (by decide) (fun c_9 => ?_) (fun c_9 => ?_)
        · --
          refine z_iconst B.1 B.2.1 dX7_set_223 ?_
          exact hJ_4 _ _ _ ⟨(if_pos c_9).symm, hM⟩
        · --
          refine z_iconst B.1 B.2.1 dX7_set_219 ?_
          refine lv_goto (tgt := 224) B.1 B.2.1 dX7_set_220 (by decide) ?_
          exact hJ_4 _ _ _ ⟨(if_neg c_9).symm, hM⟩
    · exact absurd c_1 (by omega)
  | succ n ih =>
    intro alone T H locs ls hn hb0 hb1 ha0 ha1 ha2 hc0 hc1 hal0 hal1 hn0 hn1 hs hM hl hpost
    refine lv_aload_n B.1 B.2.1 dX7_set_54 rfl (lv_at hl 0 rfl) ?_
    refine m_get (x := T.1 25) B (i7 _) hK hM 25 (by decide) rfl rfl (List.mem_cons_of_mem _ w7_fRX7_117) dX7_set_55 ?_
    refine z_if_ne (tgt := 207) B.1 B.2.1 (zr_of (by omega) (by omega)) dX7_set_58 (by decide) (fun c_1 => ?_) (fun c_1 => ?_)
    · --
      refine lv_aload_n B.1 B.2.1 dX7_set_207 rfl (lv_at hl 0 rfl) ?_
      refine z_bipush B.1 B.2.1 (by decide) dX7_set_208 ?_
      refine lv_iload_n B.1 B.2.1 dX7_set_210 rfl (lv_at hl 2 rfl) ?_
      refine lv_aload_n B.1 B.2.1 dX7_set_211 rfl (lv_at hl 0 rfl) ?_
      refine m_get (x := T.1 24) B (i7 _) hK hM 24 (by decide) rfl rfl (List.mem_cons_of_mem _ w7_fRX7_139) dX7_set_212 ?_
      refine lv_iload_n B.1 B.2.1 dX7_set_215 rfl (lv_at hl 1 rfl) ?_
      refine z_joinH (P := fun v H' locs' => v = (if nt = 0 then 0 else 1 : Int) ∧ mH D cy o q (mA o q) s.heap T H' locs') (pcJ := 224) (lsJ := ls) (stJ := [.int (zI (T.1 24)), .int (zI fr), .int (zI 6), .ref o]) (fun v_2 H locs hv_3 => ?_) (fun hJ_4 => ?_)
      · --
        obtain ⟨hv_3, hM⟩ := hv_3
        have hb_5 : (if nt = 0 then 0 else 1 : Int) = 0 ∨ (if nt = 0 then 0 else 1 : Int) = 1 := by (repeat' split) <;> simp
        have hv_3 := hv_3.symm
        subst hv_3
        refine m_calli (As := [.int (zI 6), .int (zI fr), .int (zI (T.1 24)), .int (zI ((if nt = 0 then 0 else 1 : Int)))]) (rest := []) B hK hM (cX7_emit_ok l D cy o q T 6 fr (T.1 24) ((if nt = 0 then 0 else 1 : Int)) (by show 0 ≤ (T.1 19); omega) (by show (T.1 19) < 220; omega)) (cw7 4 B w7_mRX7_124 w7_im_yX7_emit w7_sl_yX7_emit w7_cd_yX7_emit rfl rfl (by decide +kernel) ⟨Nat.le_of_ble_eq_true rfl, Nat.le_of_ble_eq_true rfl⟩) rfl hl.1 rfl (Nat.le_of_ble_eq_true rfl) dX7_set_224 ⟨Nat.zero_le _, Nat.zero_le _⟩ (fun z_8 S_7 H locs hp_6 hM => ?_)
        obtain ⟨hp_6, he_hp_6⟩ := hp_6
        have he_hp_6 := he_hp_6.symm
        subst he_hp_6
        have hp_6 : T.1 19 = z_8 := hp_6.symm
        subst hp_6
        refine lv_pop B.1 B.2.1 dX7_set_227 rfl ?_
        refine lv_aload_n B.1 B.2.1 dX7_set_228 rfl (lv_at hl 0 rfl) ?_
        refine lv_dup B.1 B.2.1 dX7_set_229 rfl ?_
        refine m_get (x := T.1 24) B (i7 _) hK hM 24 (by decide) rfl rfl (List.mem_cons_of_mem _ w7_fRX7_139) dX7_set_230 ?_
        refine z_iconst B.1 B.2.1 dX7_set_233 ?_
        refine z_iadd (x := (T.1 24) + 1) B.1 B.2.1 rfl dX7_set_234 ?_
        refine m_put B (i7 _) hK hM 24 (by decide) rfl (by decide +kernel) (List.mem_cons_of_mem _ w7_fRX7_139) dX7_set_235 (fun H locs hM => ?_)
        have hq : M_setL nt fr (n + 1) alone T = (mi (M_emit 6 fr (T.1 24) ((if nt = 0 then 0 else 1 : Int)) T) 24 ((T.1 24) + 1)) := by rw [M_setL]; exact (if_neg c_1)
        rw [hq] at hpost
        exact m_retv B hM (hpost) dX7_set_238
      · --
        refine z_if_eq (tgt := 223) B.1 B.2.1 (zr_of (by omega) (by omega)) dX7_set_216 (by decide) (fun c_9 => ?_) (fun c_9 => ?_)
        · --
          refine z_iconst B.1 B.2.1 dX7_set_223 ?_
          exact hJ_4 _ _ _ ⟨(if_pos c_9).symm, hM⟩
        · --
          refine z_iconst B.1 B.2.1 dX7_set_219 ?_
          refine lv_goto (tgt := 224) B.1 B.2.1 dX7_set_220 (by decide) ?_
          exact hJ_4 _ _ _ ⟨(if_neg c_9).symm, hM⟩
    · --
      refine lv_aload_n B.1 B.2.1 dX7_set_61 rfl (lv_at hl 0 rfl) ?_
      refine lv_aload_n B.1 B.2.1 dX7_set_62 rfl (lv_at hl 0 rfl) ?_
      refine m_get (x := T.1 24) B (i7 _) hK hM 24 (by decide) rfl rfl (List.mem_cons_of_mem _ w7_fRX7_139) dX7_set_63 ?_
      refine m_calli (As := [.int (zI (T.1 24))]) (rest := []) B hK hM (cX7_sign_ok l D cy o q T (T.1 24) (by show 0 ≤ (T.1 24); omega) (by show (T.1 24) ≤ 100000; omega) (by show 0 ≤ (T.1 14); omega) (by show (T.1 14) ≤ 40; omega)) (cw7 1 B w7_mRX7_142 w7_im_yX7_sign w7_sl_yX7_sign w7_cd_yX7_sign rfl rfl (by decide +kernel) ⟨Nat.le_of_ble_eq_true rfl, Nat.le_of_ble_eq_true rfl⟩) rfl hl.1 rfl (Nat.le_of_ble_eq_true rfl) dX7_set_66 ⟨Nat.zero_le _, Nat.zero_le _⟩ (fun z_12 S_11 H locs hp_10 hM => ?_)
      obtain ⟨hp_10, he_hp_10⟩ := hp_10
      have he_hp_10 := he_hp_10.symm
      subst he_hp_10
      have hp_10 : M_sign T (T.1 24) = z_12 := hp_10.symm
      subst hp_10
      have f_13 := M_sign_bd T hs (T.1 24)
      refine z_bipush B.1 B.2.1 (by decide) dX7_set_69 ?_
      refine z_icmp_eq (tgt := 207) B.1 B.2.1 (zr_of (by omega) (by omega)) (zr_of (by decide) (by decide)) dX7_set_71 (by decide) (fun c_14 => ?_) (fun c_14 => ?_)
      · --
        refine lv_aload_n B.1 B.2.1 dX7_set_207 rfl (lv_at hl 0 rfl) ?_
        refine z_bipush B.1 B.2.1 (by decide) dX7_set_208 ?_
        refine lv_iload_n B.1 B.2.1 dX7_set_210 rfl (lv_at hl 2 rfl) ?_
        refine lv_aload_n B.1 B.2.1 dX7_set_211 rfl (lv_at hl 0 rfl) ?_
        refine m_get (x := T.1 24) B (i7 _) hK hM 24 (by decide) rfl rfl (List.mem_cons_of_mem _ w7_fRX7_139) dX7_set_212 ?_
        refine lv_iload_n B.1 B.2.1 dX7_set_215 rfl (lv_at hl 1 rfl) ?_
        refine z_joinH (P := fun v H' locs' => v = (if nt = 0 then 0 else 1 : Int) ∧ mH D cy o q (mA o q) s.heap T H' locs') (pcJ := 224) (lsJ := ls) (stJ := [.int (zI (T.1 24)), .int (zI fr), .int (zI 6), .ref o]) (fun v_15 H locs hv_16 => ?_) (fun hJ_17 => ?_)
        · --
          obtain ⟨hv_16, hM⟩ := hv_16
          have hb_18 : (if nt = 0 then 0 else 1 : Int) = 0 ∨ (if nt = 0 then 0 else 1 : Int) = 1 := by (repeat' split) <;> simp
          have hv_16 := hv_16.symm
          subst hv_16
          refine m_calli (As := [.int (zI 6), .int (zI fr), .int (zI (T.1 24)), .int (zI ((if nt = 0 then 0 else 1 : Int)))]) (rest := []) B hK hM (cX7_emit_ok l D cy o q T 6 fr (T.1 24) ((if nt = 0 then 0 else 1 : Int)) (by show 0 ≤ (T.1 19); omega) (by show (T.1 19) < 220; omega)) (cw7 4 B w7_mRX7_124 w7_im_yX7_emit w7_sl_yX7_emit w7_cd_yX7_emit rfl rfl (by decide +kernel) ⟨Nat.le_of_ble_eq_true rfl, Nat.le_of_ble_eq_true rfl⟩) rfl hl.1 rfl (Nat.le_of_ble_eq_true rfl) dX7_set_224 ⟨Nat.zero_le _, Nat.zero_le _⟩ (fun z_21 S_20 H locs hp_19 hM => ?_)
          obtain ⟨hp_19, he_hp_19⟩ := hp_19
          have he_hp_19 := he_hp_19.symm
          subst he_hp_19
          have hp_19 : T.1 19 = z_21 := hp_19.symm
          subst hp_19
          refine lv_pop B.1 B.2.1 dX7_set_227 rfl ?_
          refine lv_aload_n B.1 B.2.1 dX7_set_228 rfl (lv_at hl 0 rfl) ?_
          refine lv_dup B.1 B.2.1 dX7_set_229 rfl ?_
          refine m_get (x := T.1 24) B (i7 _) hK hM 24 (by decide) rfl rfl (List.mem_cons_of_mem _ w7_fRX7_139) dX7_set_230 ?_
          refine z_iconst B.1 B.2.1 dX7_set_233 ?_
          refine z_iadd (x := (T.1 24) + 1) B.1 B.2.1 rfl dX7_set_234 ?_
          refine m_put B (i7 _) hK hM 24 (by decide) rfl (by decide +kernel) (List.mem_cons_of_mem _ w7_fRX7_139) dX7_set_235 (fun H locs hM => ?_)
          have hq : M_setL nt fr (n + 1) alone T = (mi (M_emit 6 fr (T.1 24) ((if nt = 0 then 0 else 1 : Int)) T) 24 ((T.1 24) + 1)) := by rw [M_setL]; exact ((if_pos c_1).trans (if_pos c_14))
          rw [hq] at hpost
          exact m_retv B hM (hpost) dX7_set_238
        · --
          refine z_if_eq (tgt := 223) B.1 B.2.1 (zr_of (by omega) (by omega)) dX7_set_216 (by decide) (fun c_22 => ?_) (fun c_22 => ?_)
          · --
            refine z_iconst B.1 B.2.1 dX7_set_223 ?_
            exact hJ_17 _ _ _ ⟨(if_pos c_22).symm, hM⟩
          · --
            refine z_iconst B.1 B.2.1 dX7_set_219 ?_
            refine lv_goto (tgt := 224) B.1 B.2.1 dX7_set_220 (by decide) ?_
            exact hJ_17 _ _ _ ⟨(if_neg c_22).symm, hM⟩
      · --
        refine lv_iload_n B.1 B.2.1 dX7_set_74 rfl (lv_at hl 3 rfl) ?_
        refine z_joinH (P := fun v H' locs' => v = (if alone = 0 then 0 else (if (M_sign T (T.1 24)) = 45 then 1 else 0 : Int) : Int) ∧ mH D cy o q (mA o q) s.heap T H' locs') (pcJ := 96) (lsJ := ls) (stJ := []) (fun v_23 H locs hv_24 => ?_) (fun hJ_25 => ?_)
        · --
          obtain ⟨hv_24, hM⟩ := hv_24
          have hb_26 : (if alone = 0 then 0 else (if (M_sign T (T.1 24)) = 45 then 1 else 0 : Int) : Int) = 0 ∨ (if alone = 0 then 0 else (if (M_sign T (T.1 24)) = 45 then 1 else 0 : Int) : Int) = 1 := by (repeat' split) <;> simp
          have hv_24 := hv_24.symm
          subst hv_24
          refine lv_istore (lv' := [(4, .int (zI ((if alone = 0 then 0 else (if (M_sign T (T.1 24)) = 45 then 1 else 0 : Int) : Int)))), (0, .ref o), (1, .int (zI nt)), (2, .int (zI fr)), (3, .int (zI alone))]) B.1 B.2.1 dX7_set_96 hl (by decide) rfl (fun ls hl => ?_)
          refine lv_aload_n B.1 B.2.1 dX7_set_98 rfl (lv_at hl 1 rfl) ?_
          refine m_calli (As := []) (rest := []) B hK hM (cX7_mark_ok l D cy o q T  hs (by show 0 ≤ (T.1 14); omega) (by show (T.1 14) ≤ 40; omega) (by show 0 ≤ (T.1 24); omega) (by show (T.1 24) ≤ 1000; omega)) (cw7 0 B w7_mRX7_168 w7_im_yX7_mark w7_sl_yX7_mark w7_cd_yX7_mark rfl rfl (by decide +kernel) ⟨Nat.le_of_ble_eq_true rfl, Nat.le_of_ble_eq_true rfl⟩) rfl hl.1 rfl (Nat.le_of_ble_eq_true rfl) dX7_set_99 ⟨Nat.zero_le _, Nat.zero_le _⟩ (fun z_29 S_28 H locs hp_27 hM => ?_)
          obtain ⟨hp_27, he_hp_27⟩ := hp_27
          have he_hp_27 := he_hp_27.symm
          subst he_hp_27
          have hp_27 : (M_mark T).1 = z_29 := hp_27.symm
          subst hp_27
          have f_30 : -126 ≤ (M_mark T).1 ∧ (M_mark T).1 ≤ 126 ∧ (T.1 24) ≤ (M_mark T).2.1 24 ∧ (M_mark T).2.1 24 ≤ (T.1 24) + 2 ∧ (¬ (M_mark T).1 = 0 → (T.1 24) + 1 ≤ (M_mark T).2.1 24 ∧ (T.1 24) < (T.1 14)) := by
           have h9 := M_mark_bd T hs
           exact h9
          refine lv_istore (lv' := [(5, .int (zI ((M_mark T).1))), (4, .int (zI ((if alone = 0 then 0 else (if (M_sign T (T.1 24)) = 45 then 1 else 0 : Int) : Int)))), (0, .ref o), (1, .int (zI nt)), (2, .int (zI fr)), (3, .int (zI alone))]) B.1 B.2.1 dX7_set_102 hl (by decide) rfl (fun ls hl => ?_)
          refine lv_aload_n B.1 B.2.1 dX7_set_104 rfl (lv_at hl 2 rfl) ?_
          refine lv_iload B.1 B.2.1 dX7_set_105 (lv_at hl 0 rfl) ?_
          refine z_joinH (P := fun v H' locs' => v = (if ((M_mark T).1) = 0 then 1 else 0 : Int) ∧ mH D cy o q (mA o q) s.heap (M_mark T).2 H' locs') (pcJ := 115) (lsJ := ls) (stJ := [.ref o]) (fun v_31 H locs hv_32 => ?_) (fun hJ_33 => ?_)
          · --
            obtain ⟨hv_32, hM⟩ := hv_32
            have hb_34 : (if ((M_mark T).1) = 0 then 1 else 0 : Int) = 0 ∨ (if ((M_mark T).1) = 0 then 1 else 0 : Int) = 1 := by (repeat' split) <;> simp
            have hv_32 := hv_32.symm
            subst hv_32
            refine m_putz B (i7 _) hK hM 25 (by decide) rfl (by omega) (by decide +kernel) (List.mem_cons_of_mem _ w7_fRX7_117) dX7_set_115 (fun H locs hM => ?_)
            refine z_iconst B.1 B.2.1 dX7_set_118 ?_
            refine lv_istore_n (lv' := [(3, .int (zI 0)), (5, .int (zI ((M_mark T).1))), (4, .int (zI ((if alone = 0 then 0 else (if (M_sign T (T.1 24)) = 45 then 1 else 0 : Int) : Int)))), (0, .ref o), (1, .int (zI nt)), (2, .int (zI fr))]) B.1 B.2.1 dX7_set_119 rfl hl (by decide) rfl (fun ls hl => ?_)
            refine lv_aload_n B.1 B.2.1 dX7_set_120 rfl (lv_at hl 3 rfl) ?_
            refine m_get (x := (if ((M_mark T).1) = 0 then 1 else 0 : Int)) B (i7 _) hK hM 25 (by decide) rfl rfl (List.mem_cons_of_mem _ w7_fRX7_117) dX7_set_121 ?_
            refine z_if_ne (tgt := 204) B.1 B.2.1 (zr_of (by omega) (by omega)) dX7_set_124 (by decide) (fun c_35 => ?_) (fun c_35 => ?_)
            · --
              refine lv_goto (tgt := 54) B.1 B.2.1 dX7_set_204 (by decide) ?_
              have hq : M_setL nt fr (n + 1) alone T = M_setL nt fr n 0 ((mi (M_mark T).2 25 ((if ((M_mark T).1) = 0 then 1 else 0 : Int)))) := by rw [M_setL]; exact ((if_pos c_1).trans ((if_neg c_14).trans (if_neg c_35)))
              rw [hq] at hpost
              exact ih 0 ((mi (M_mark T).2 25 ((if ((M_mark T).1) = 0 then 1 else 0 : Int)))) H locs ls (by (try simp only [mi_eq, mi_ne (show (24 : Nat) ≠ 25 by decide), mi_ne (show (19 : Nat) ≠ 25 by decide), M_mark_i19, mi_ne (show (14 : Nat) ≠ 25 by decide), M_mark_i14]); omega) (by (try simp only [mi_eq, mi_ne (show (24 : Nat) ≠ 25 by decide), mi_ne (show (19 : Nat) ≠ 25 by decide), M_mark_i19, mi_ne (show (14 : Nat) ≠ 25 by decide), M_mark_i14]); omega) (by (try simp only [mi_eq, mi_ne (show (24 : Nat) ≠ 25 by decide), mi_ne (show (19 : Nat) ≠ 25 by decide), M_mark_i19, mi_ne (show (14 : Nat) ≠ 25 by decide), M_mark_i14]); omega) (by (try simp only [mi_eq, mi_ne (show (24 : Nat) ≠ 25 by decide), mi_ne (show (19 : Nat) ≠ 25 by decide), M_mark_i19, mi_ne (show (14 : Nat) ≠ 25 by decide), M_mark_i14]); omega) (by (try simp only [mi_eq, mi_ne (show (24 : Nat) ≠ 25 by decide), mi_ne (show (19 : Nat) ≠ 25 by decide), M_mark_i19, mi_ne (show (14 : Nat) ≠ 25 by decide), M_mark_i14]); omega) (by (try simp only [mi_eq, mi_ne (show (24 : Nat) ≠ 25 by decide), mi_ne (show (19 : Nat) ≠ 25 by decide), M_mark_i19, mi_ne (show (14 : Nat) ≠ 25 by decide), M_mark_i14]); omega) (by (try simp only [mi_eq, mi_ne (show (24 : Nat) ≠ 25 by decide), mi_ne (show (19 : Nat) ≠ 25 by decide), M_mark_i19, mi_ne (show (14 : Nat) ≠ 25 by decide), M_mark_i14]); omega) (by (try simp only [mi_eq, mi_ne (show (24 : Nat) ≠ 25 by decide), mi_ne (show (19 : Nat) ≠ 25 by decide), M_mark_i19, mi_ne (show (14 : Nat) ≠ 25 by decide), M_mark_i14]); omega) (by omega) (by omega) (by (try simp only [mi_eq, mi_ne (show (24 : Nat) ≠ 25 by decide), mi_ne (show (19 : Nat) ≠ 25 by decide), M_mark_i19, mi_ne (show (14 : Nat) ≠ 25 by decide), M_mark_i14]); omega) (by (try simp only [mi_eq, mi_ne (show (24 : Nat) ≠ 25 by decide), mi_ne (show (19 : Nat) ≠ 25 by decide), M_mark_i19, mi_ne (show (14 : Nat) ≠ 25 by decide), M_mark_i14]); omega) (by (try simp only [mi_2, M_mark_a]); exact hs) hM (lv_sub hl [3, 4, 5, 0] rfl) hpost
            · --
              refine lv_iload B.1 B.2.1 dX7_set_127 (lv_at hl 2 rfl) ?_
              refine z_if_ne (tgt := 204) B.1 B.2.1 (zr_of (by omega) (by omega)) dX7_set_129 (by decide) (fun c_36 => ?_) (fun c_36 => ?_)
              · --
                refine lv_goto (tgt := 54) B.1 B.2.1 dX7_set_204 (by decide) ?_
                have hq : M_setL nt fr (n + 1) alone T = M_setL nt fr n 0 ((mi (M_mark T).2 25 ((if ((M_mark T).1) = 0 then 1 else 0 : Int)))) := by rw [M_setL]; exact ((if_pos c_1).trans ((if_neg c_14).trans ((if_pos c_35).trans (if_neg c_36))))
                rw [hq] at hpost
                exact ih 0 ((mi (M_mark T).2 25 ((if ((M_mark T).1) = 0 then 1 else 0 : Int)))) H locs ls (by (try simp only [mi_eq, mi_ne (show (24 : Nat) ≠ 25 by decide), mi_ne (show (19 : Nat) ≠ 25 by decide), M_mark_i19, mi_ne (show (14 : Nat) ≠ 25 by decide), M_mark_i14]); omega) (by (try simp only [mi_eq, mi_ne (show (24 : Nat) ≠ 25 by decide), mi_ne (show (19 : Nat) ≠ 25 by decide), M_mark_i19, mi_ne (show (14 : Nat) ≠ 25 by decide), M_mark_i14]); omega) (by (try simp only [mi_eq, mi_ne (show (24 : Nat) ≠ 25 by decide), mi_ne (show (19 : Nat) ≠ 25 by decide), M_mark_i19, mi_ne (show (14 : Nat) ≠ 25 by decide), M_mark_i14]); omega) (by (try simp only [mi_eq, mi_ne (show (24 : Nat) ≠ 25 by decide), mi_ne (show (19 : Nat) ≠ 25 by decide), M_mark_i19, mi_ne (show (14 : Nat) ≠ 25 by decide), M_mark_i14]); omega) (by (try simp only [mi_eq, mi_ne (show (24 : Nat) ≠ 25 by decide), mi_ne (show (19 : Nat) ≠ 25 by decide), M_mark_i19, mi_ne (show (14 : Nat) ≠ 25 by decide), M_mark_i14]); omega) (by (try simp only [mi_eq, mi_ne (show (24 : Nat) ≠ 25 by decide), mi_ne (show (19 : Nat) ≠ 25 by decide), M_mark_i19, mi_ne (show (14 : Nat) ≠ 25 by decide), M_mark_i14]); omega) (by (try simp only [mi_eq, mi_ne (show (24 : Nat) ≠ 25 by decide), mi_ne (show (19 : Nat) ≠ 25 by decide), M_mark_i19, mi_ne (show (14 : Nat) ≠ 25 by decide), M_mark_i14]); omega) (by (try simp only [mi_eq, mi_ne (show (24 : Nat) ≠ 25 by decide), mi_ne (show (19 : Nat) ≠ 25 by decide), M_mark_i19, mi_ne (show (14 : Nat) ≠ 25 by decide), M_mark_i14]); omega) (by omega) (by omega) (by (try simp only [mi_eq, mi_ne (show (24 : Nat) ≠ 25 by decide), mi_ne (show (19 : Nat) ≠ 25 by decide), M_mark_i19, mi_ne (show (14 : Nat) ≠ 25 by decide), M_mark_i14]); omega) (by (try simp only [mi_eq, mi_ne (show (24 : Nat) ≠ 25 by decide), mi_ne (show (19 : Nat) ≠ 25 by decide), M_mark_i19, mi_ne (show (14 : Nat) ≠ 25 by decide), M_mark_i14]); omega) (by (try simp only [mi_2, M_mark_a]); exact hs) hM (lv_sub hl [3, 4, 5, 0] rfl) hpost
              · --
                refine lv_aload_n B.1 B.2.1 dX7_set_132 rfl (lv_at hl 3 rfl) ?_
                refine lv_aload_n B.1 B.2.1 dX7_set_133 rfl (lv_at hl 3 rfl) ?_
                refine m_get (x := (M_mark T).2.1 24) B (i7 _) hK hM 24 (by decide) rfl rfl (List.mem_cons_of_mem _ w7_fRX7_139) dX7_set_134 ?_
                refine m_calli (As := [.int (zI ((M_mark T).2.1 24))]) (rest := []) B hK hM (cX7_sign_ok l D cy o q (mi (M_mark T).2 25 ((if ((M_mark T).1) = 0 then 1 else 0 : Int))) ((M_mark T).2.1 24) (by show 0 ≤ ((M_mark T).2.1 24); omega) (by show ((M_mark T).2.1 24) ≤ 100000; omega) (by (try simp only [mi_ne (show (14 : Nat) ≠ 25 by decide), M_mark_i14]); omega) (by (try simp only [mi_ne (show (14 : Nat) ≠ 25 by decide), M_mark_i14]); omega)) (cw7 1 B w7_mRX7_142 w7_im_yX7_sign w7_sl_yX7_sign w7_cd_yX7_sign rfl rfl (by decide +kernel) ⟨Nat.le_of_ble_eq_true rfl, Nat.le_of_ble_eq_true rfl⟩) rfl hl.1 rfl (Nat.le_of_ble_eq_true rfl) dX7_set_137 ⟨Nat.zero_le _, Nat.zero_le _⟩ (fun z_39 S_38 H locs hp_37 hM => ?_)
                obtain ⟨hp_37, he_hp_37⟩ := hp_37
                have he_hp_37 := he_hp_37.symm
                subst he_hp_37
                have hp_37 : M_sign T ((M_mark T).2.1 24) = z_39 := (hp_37.trans (M_sign_cong (by simp only [mi_ne (show (14 : Nat) ≠ 25 by decide), M_mark_i14]) (by simp only [mi_2, M_mark_a]))).symm
                subst hp_37
                have f_40 := M_sign_bd T hs ((M_mark T).2.1 24)
                refine z_bipush B.1 B.2.1 (by decide) dX7_set_140 ?_
                refine z_icmp_ne (tgt := 204) B.1 B.2.1 (zr_of (by omega) (by omega)) (zr_of (by decide) (by decide)) dX7_set_142 (by decide) (fun c_41 => ?_) (fun c_41 => ?_)
                · --
                  refine lv_goto (tgt := 54) B.1 B.2.1 dX7_set_204 (by decide) ?_
                  have hq : M_setL nt fr (n + 1) alone T = M_setL nt fr n 0 ((mi (M_mark T).2 25 ((if ((M_mark T).1) = 0 then 1 else 0 : Int)))) := by rw [M_setL]; exact ((if_pos c_1).trans ((if_neg c_14).trans ((if_pos c_35).trans ((if_pos c_36).trans (if_neg c_41)))))
                  rw [hq] at hpost
                  exact ih 0 ((mi (M_mark T).2 25 ((if ((M_mark T).1) = 0 then 1 else 0 : Int)))) H locs ls (by (try simp only [mi_eq, mi_ne (show (24 : Nat) ≠ 25 by decide), mi_ne (show (19 : Nat) ≠ 25 by decide), M_mark_i19, mi_ne (show (14 : Nat) ≠ 25 by decide), M_mark_i14]); omega) (by (try simp only [mi_eq, mi_ne (show (24 : Nat) ≠ 25 by decide), mi_ne (show (19 : Nat) ≠ 25 by decide), M_mark_i19, mi_ne (show (14 : Nat) ≠ 25 by decide), M_mark_i14]); omega) (by (try simp only [mi_eq, mi_ne (show (24 : Nat) ≠ 25 by decide), mi_ne (show (19 : Nat) ≠ 25 by decide), M_mark_i19, mi_ne (show (14 : Nat) ≠ 25 by decide), M_mark_i14]); omega) (by (try simp only [mi_eq, mi_ne (show (24 : Nat) ≠ 25 by decide), mi_ne (show (19 : Nat) ≠ 25 by decide), M_mark_i19, mi_ne (show (14 : Nat) ≠ 25 by decide), M_mark_i14]); omega) (by (try simp only [mi_eq, mi_ne (show (24 : Nat) ≠ 25 by decide), mi_ne (show (19 : Nat) ≠ 25 by decide), M_mark_i19, mi_ne (show (14 : Nat) ≠ 25 by decide), M_mark_i14]); omega) (by (try simp only [mi_eq, mi_ne (show (24 : Nat) ≠ 25 by decide), mi_ne (show (19 : Nat) ≠ 25 by decide), M_mark_i19, mi_ne (show (14 : Nat) ≠ 25 by decide), M_mark_i14]); omega) (by (try simp only [mi_eq, mi_ne (show (24 : Nat) ≠ 25 by decide), mi_ne (show (19 : Nat) ≠ 25 by decide), M_mark_i19, mi_ne (show (14 : Nat) ≠ 25 by decide), M_mark_i14]); omega) (by (try simp only [mi_eq, mi_ne (show (24 : Nat) ≠ 25 by decide), mi_ne (show (19 : Nat) ≠ 25 by decide), M_mark_i19, mi_ne (show (14 : Nat) ≠ 25 by decide), M_mark_i14]); omega) (by omega) (by omega) (by (try simp only [mi_eq, mi_ne (show (24 : Nat) ≠ 25 by decide), mi_ne (show (19 : Nat) ≠ 25 by decide), M_mark_i19, mi_ne (show (14 : Nat) ≠ 25 by decide), M_mark_i14]); omega) (by (try simp only [mi_eq, mi_ne (show (24 : Nat) ≠ 25 by decide), mi_ne (show (19 : Nat) ≠ 25 by decide), M_mark_i19, mi_ne (show (14 : Nat) ≠ 25 by decide), M_mark_i14]); omega) (by (try simp only [mi_2, M_mark_a]); exact hs) hM (lv_sub hl [3, 4, 5, 0] rfl) hpost
                · --
                  refine lv_aload_n B.1 B.2.1 dX7_set_145 rfl (lv_at hl 3 rfl) ?_
                  refine lv_aload_n B.1 B.2.1 dX7_set_146 rfl (lv_at hl 3 rfl) ?_
                  refine m_get (x := (M_mark T).2.1 24) B (i7 _) hK hM 24 (by decide) rfl rfl (List.mem_cons_of_mem _ w7_fRX7_139) dX7_set_147 ?_
                  refine z_iconst B.1 B.2.1 dX7_set_150 ?_
                  refine z_iadd (x := ((M_mark T).2.1 24) + 1) B.1 B.2.1 rfl dX7_set_151 ?_
                  refine m_calli (As := [.int (zI (((M_mark T).2.1 24) + 1))]) (rest := []) B hK hM (cX7_sign_ok l D cy o q (mi (M_mark T).2 25 ((if ((M_mark T).1) = 0 then 1 else 0 : Int))) (((M_mark T).2.1 24) + 1) (by show 0 ≤ (((M_mark T).2.1 24) + 1); omega) (by show (((M_mark T).2.1 24) + 1) ≤ 100000; omega) (by (try simp only [mi_ne (show (14 : Nat) ≠ 25 by decide), M_mark_i14]); omega) (by (try simp only [mi_ne (show (14 : Nat) ≠ 25 by decide), M_mark_i14]); omega)) (cw7 1 B w7_mRX7_142 w7_im_yX7_sign w7_sl_yX7_sign w7_cd_yX7_sign rfl rfl (by decide +kernel) ⟨Nat.le_of_ble_eq_true rfl, Nat.le_of_ble_eq_true rfl⟩) rfl hl.1 rfl (Nat.le_of_ble_eq_true rfl) dX7_set_152 ⟨Nat.zero_le _, Nat.zero_le _⟩ (fun z_44 S_43 H locs hp_42 hM => ?_)
                  obtain ⟨hp_42, he_hp_42⟩ := hp_42
                  have he_hp_42 := he_hp_42.symm
                  subst he_hp_42
                  have hp_42 : M_sign T (((M_mark T).2.1 24) + 1) = z_44 := (hp_42.trans (M_sign_cong (by simp only [mi_ne (show (14 : Nat) ≠ 25 by decide), M_mark_i14]) (by simp only [mi_2, M_mark_a]))).symm
                  subst hp_42
                  have f_45 := M_sign_bd T hs (((M_mark T).2.1 24) + 1)
                  refine z_bipush B.1 B.2.1 (by decide) dX7_set_155 ?_
                  refine z_icmp_eq (tgt := 204) B.1 B.2.1 (zr_of (by omega) (by omega)) (zr_of (by decide) (by decide)) dX7_set_157 (by decide) (fun c_46 => ?_) (fun c_46 => ?_)
                  · --
                    refine lv_goto (tgt := 54) B.1 B.2.1 dX7_set_204 (by decide) ?_
                    have hq : M_setL nt fr (n + 1) alone T = M_setL nt fr n 0 ((mi (M_mark T).2 25 ((if ((M_mark T).1) = 0 then 1 else 0 : Int)))) := by rw [M_setL]; exact ((if_pos c_1).trans ((if_neg c_14).trans ((if_pos c_35).trans ((if_pos c_36).trans ((if_pos c_41).trans (if_pos c_46))))))
                    rw [hq] at hpost
                    exact ih 0 ((mi (M_mark T).2 25 ((if ((M_mark T).1) = 0 then 1 else 0 : Int)))) H locs ls (by (try simp only [mi_eq, mi_ne (show (24 : Nat) ≠ 25 by decide), mi_ne (show (19 : Nat) ≠ 25 by decide), M_mark_i19, mi_ne (show (14 : Nat) ≠ 25 by decide), M_mark_i14]); omega) (by (try simp only [mi_eq, mi_ne (show (24 : Nat) ≠ 25 by decide), mi_ne (show (19 : Nat) ≠ 25 by decide), M_mark_i19, mi_ne (show (14 : Nat) ≠ 25 by decide), M_mark_i14]); omega) (by (try simp only [mi_eq, mi_ne (show (24 : Nat) ≠ 25 by decide), mi_ne (show (19 : Nat) ≠ 25 by decide), M_mark_i19, mi_ne (show (14 : Nat) ≠ 25 by decide), M_mark_i14]); omega) (by (try simp only [mi_eq, mi_ne (show (24 : Nat) ≠ 25 by decide), mi_ne (show (19 : Nat) ≠ 25 by decide), M_mark_i19, mi_ne (show (14 : Nat) ≠ 25 by decide), M_mark_i14]); omega) (by (try simp only [mi_eq, mi_ne (show (24 : Nat) ≠ 25 by decide), mi_ne (show (19 : Nat) ≠ 25 by decide), M_mark_i19, mi_ne (show (14 : Nat) ≠ 25 by decide), M_mark_i14]); omega) (by (try simp only [mi_eq, mi_ne (show (24 : Nat) ≠ 25 by decide), mi_ne (show (19 : Nat) ≠ 25 by decide), M_mark_i19, mi_ne (show (14 : Nat) ≠ 25 by decide), M_mark_i14]); omega) (by (try simp only [mi_eq, mi_ne (show (24 : Nat) ≠ 25 by decide), mi_ne (show (19 : Nat) ≠ 25 by decide), M_mark_i19, mi_ne (show (14 : Nat) ≠ 25 by decide), M_mark_i14]); omega) (by (try simp only [mi_eq, mi_ne (show (24 : Nat) ≠ 25 by decide), mi_ne (show (19 : Nat) ≠ 25 by decide), M_mark_i19, mi_ne (show (14 : Nat) ≠ 25 by decide), M_mark_i14]); omega) (by omega) (by omega) (by (try simp only [mi_eq, mi_ne (show (24 : Nat) ≠ 25 by decide), mi_ne (show (19 : Nat) ≠ 25 by decide), M_mark_i19, mi_ne (show (14 : Nat) ≠ 25 by decide), M_mark_i14]); omega) (by (try simp only [mi_eq, mi_ne (show (24 : Nat) ≠ 25 by decide), mi_ne (show (19 : Nat) ≠ 25 by decide), M_mark_i19, mi_ne (show (14 : Nat) ≠ 25 by decide), M_mark_i14]); omega) (by (try simp only [mi_2, M_mark_a]); exact hs) hM (lv_sub hl [3, 4, 5, 0] rfl) hpost
                  · --
                    refine lv_aload_n B.1 B.2.1 dX7_set_160 rfl (lv_at hl 3 rfl) ?_
                    refine lv_dup B.1 B.2.1 dX7_set_161 rfl ?_
                    refine m_get (x := (M_mark T).2.1 24) B (i7 _) hK hM 24 (by decide) rfl rfl (List.mem_cons_of_mem _ w7_fRX7_139) dX7_set_162 ?_
                    refine z_iconst B.1 B.2.1 dX7_set_165 ?_
                    refine z_iadd (x := ((M_mark T).2.1 24) + 1) B.1 B.2.1 rfl dX7_set_166 ?_
                    refine m_put B (i7 _) hK hM 24 (by decide) rfl (by decide +kernel) (List.mem_cons_of_mem _ w7_fRX7_139) dX7_set_167 (fun H locs hM => ?_)
                    refine lv_aload_n B.1 B.2.1 dX7_set_170 rfl (lv_at hl 3 rfl) ?_
                    refine m_calli (As := []) (rest := []) B hK hM (cX7_mark_ok l D cy o q (mi (mi (M_mark T).2 25 ((if ((M_mark T).1) = 0 then 1 else 0 : Int))) 24 (((M_mark T).2.1 24) + 1))  (by simp only [mi_2, M_mark_a]; exact hs) (by (try simp only [mi_ne (show (14 : Nat) ≠ 24 by decide), mi_ne (show (14 : Nat) ≠ 25 by decide), M_mark_i14]); omega) (by (try simp only [mi_ne (show (14 : Nat) ≠ 24 by decide), mi_ne (show (14 : Nat) ≠ 25 by decide), M_mark_i14]); omega) (by show 0 ≤ (((M_mark T).2.1 24) + 1); omega) (by show (((M_mark T).2.1 24) + 1) ≤ 1000; omega)) (cw7 0 B w7_mRX7_168 w7_im_yX7_mark w7_sl_yX7_mark w7_cd_yX7_mark rfl rfl (by decide +kernel) ⟨Nat.le_of_ble_eq_true rfl, Nat.le_of_ble_eq_true rfl⟩) rfl hl.1 rfl (Nat.le_of_ble_eq_true rfl) dX7_set_171 ⟨Nat.zero_le _, Nat.zero_le _⟩ (fun z_49 S_48 H locs hp_47 hM => ?_)
                    obtain ⟨hp_47, he_hp_47⟩ := hp_47
                    have he_hp_47 := he_hp_47.symm
                    subst he_hp_47
                    have hp_47 : (M_mark (mi (mi (M_mark T).2 25 ((if ((M_mark T).1) = 0 then 1 else 0 : Int))) 24 (((M_mark T).2.1 24) + 1))).1 = z_49 := hp_47.symm
                    subst hp_47
                    have f_50 : -126 ≤ (M_mark (mi (mi (M_mark T).2 25 ((if ((M_mark T).1) = 0 then 1 else 0 : Int))) 24 (((M_mark T).2.1 24) + 1))).1 ∧ (M_mark (mi (mi (M_mark T).2 25 ((if ((M_mark T).1) = 0 then 1 else 0 : Int))) 24 (((M_mark T).2.1 24) + 1))).1 ≤ 126 ∧ (((M_mark T).2.1 24) + 1) ≤ (M_mark (mi (mi (M_mark T).2 25 ((if ((M_mark T).1) = 0 then 1 else 0 : Int))) 24 (((M_mark T).2.1 24) + 1))).2.1 24 ∧ (M_mark (mi (mi (M_mark T).2 25 ((if ((M_mark T).1) = 0 then 1 else 0 : Int))) 24 (((M_mark T).2.1 24) + 1))).2.1 24 ≤ (((M_mark T).2.1 24) + 1) + 2 ∧ (¬ (M_mark (mi (mi (M_mark T).2 25 ((if ((M_mark T).1) = 0 then 1 else 0 : Int))) 24 (((M_mark T).2.1 24) + 1))).1 = 0 → (((M_mark T).2.1 24) + 1) + 1 ≤ (M_mark (mi (mi (M_mark T).2 25 ((if ((M_mark T).1) = 0 then 1 else 0 : Int))) 24 (((M_mark T).2.1 24) + 1))).2.1 24 ∧ (((M_mark T).2.1 24) + 1) < (T.1 14)) := by
                     have h9 := M_mark_bd (mi (mi (M_mark T).2 25 ((if ((M_mark T).1) = 0 then 1 else 0 : Int))) 24 (((M_mark T).2.1 24) + 1)) (by simp only [mi_2, M_mark_a]; exact hs)
                     simp only [mi_ne (show (14 : Nat) ≠ 24 by decide), mi_ne (show (14 : Nat) ≠ 25 by decide), M_mark_i14] at h9
                     exact h9
                    refine lv_istore (lv' := [(6, .int (zI ((M_mark (mi (mi (M_mark T).2 25 ((if ((M_mark T).1) = 0 then 1 else 0 : Int))) 24 (((M_mark T).2.1 24) + 1))).1))), (3, .int (zI 0)), (5, .int (zI ((M_mark T).1))), (4, .int (zI ((if alone = 0 then 0 else (if (M_sign T (T.1 24)) = 45 then 1 else 0 : Int) : Int)))), (0, .ref o), (1, .int (zI nt)), (2, .int (zI fr))]) B.1 B.2.1 dX7_set_174 hl (by decide) rfl (fun ls hl => ?_)
                    refine lv_aload_n B.1 B.2.1 dX7_set_176 rfl (lv_at hl 4 rfl) ?_
                    refine lv_iload B.1 B.2.1 dX7_set_177 (lv_at hl 2 rfl) ?_
                    refine z_joinH (P := fun v H' locs' => v = (if ((M_mark T).1) < 0 then 1 else (if ((M_mark (mi (mi (M_mark T).2 25 ((if ((M_mark T).1) = 0 then 1 else 0 : Int))) 24 (((M_mark T).2.1 24) + 1))).1) ≤ 0 then 1 else (if ((M_mark T).1) ≤ ((M_mark (mi (mi (M_mark T).2 25 ((if ((M_mark T).1) = 0 then 1 else 0 : Int))) 24 (((M_mark T).2.1 24) + 1))).1) then 0 else 1 : Int) : Int) : Int) ∧ mH D cy o q (mA o q) s.heap (M_mark (mi (mi (M_mark T).2 25 ((if ((M_mark T).1) = 0 then 1 else 0 : Int))) 24 (((M_mark T).2.1 24) + 1))).2 H' locs') (pcJ := 199) (lsJ := ls) (stJ := [.ref o]) (fun v_51 H locs hv_52 => ?_) (fun hJ_53 => ?_)
                    · --
                      obtain ⟨hv_52, hM⟩ := hv_52
                      have hb_54 : (if ((M_mark T).1) < 0 then 1 else (if ((M_mark (mi (mi (M_mark T).2 25 ((if ((M_mark T).1) = 0 then 1 else 0 : Int))) 24 (((M_mark T).2.1 24) + 1))).1) ≤ 0 then 1 else (if ((M_mark T).1) ≤ ((M_mark (mi (mi (M_mark T).2 25 ((if ((M_mark T).1) = 0 then 1 else 0 : Int))) 24 (((M_mark T).2.1 24) + 1))).1) then 0 else 1 : Int) : Int) : Int) = 0 ∨ (if ((M_mark T).1) < 0 then 1 else (if ((M_mark (mi (mi (M_mark T).2 25 ((if ((M_mark T).1) = 0 then 1 else 0 : Int))) 24 (((M_mark T).2.1 24) + 1))).1) ≤ 0 then 1 else (if ((M_mark T).1) ≤ ((M_mark (mi (mi (M_mark T).2 25 ((if ((M_mark T).1) = 0 then 1 else 0 : Int))) 24 (((M_mark T).2.1 24) + 1))).1) then 0 else 1 : Int) : Int) : Int) = 1 := by (repeat' split) <;> simp
                      have hv_52 := hv_52.symm
                      subst hv_52
                      refine m_putz B (i7 _) hK hM 25 (by decide) rfl (by omega) (by decide +kernel) (List.mem_cons_of_mem _ w7_fRX7_117) dX7_set_199 (fun H locs hM => ?_)
                      refine z_iconst B.1 B.2.1 dX7_set_202 ?_
                      refine lv_istore_n (lv' := [(3, .int (zI 1)), (6, .int (zI ((M_mark (mi (mi (M_mark T).2 25 ((if ((M_mark T).1) = 0 then 1 else 0 : Int))) 24 (((M_mark T).2.1 24) + 1))).1))), (5, .int (zI ((M_mark T).1))), (4, .int (zI ((if alone = 0 then 0 else (if (M_sign T (T.1 24)) = 45 then 1 else 0 : Int) : Int)))), (0, .ref o), (1, .int (zI nt)), (2, .int (zI fr))]) B.1 B.2.1 dX7_set_203 rfl hl (by decide) rfl (fun ls hl => ?_)
                      refine lv_goto (tgt := 54) B.1 B.2.1 dX7_set_204 (by decide) ?_
                      have hq : M_setL nt fr (n + 1) alone T = M_setL nt fr n 1 ((mi (M_mark (mi (mi (M_mark T).2 25 ((if ((M_mark T).1) = 0 then 1 else 0 : Int))) 24 (((M_mark T).2.1 24) + 1))).2 25 ((if ((M_mark T).1) < 0 then 1 else (if ((M_mark (mi (mi (M_mark T).2 25 ((if ((M_mark T).1) = 0 then 1 else 0 : Int))) 24 (((M_mark T).2.1 24) + 1))).1) ≤ 0 then 1 else (if ((M_mark T).1) ≤ ((M_mark (mi (mi (M_mark T).2 25 ((if ((M_mark T).1) = 0 then 1 else 0 : Int))) 24 (((M_mark T).2.1 24) + 1))).1) then 0 else 1 : Int) : Int) : Int)))) := by rw [M_setL]; exact ((if_pos c_1).trans ((if_neg c_14).trans ((if_pos c_35).trans ((if_pos c_36).trans ((if_pos c_41).trans (if_neg c_46))))))
                      rw [hq] at hpost
                      exact ih 1 ((mi (M_mark (mi (mi (M_mark T).2 25 ((if ((M_mark T).1) = 0 then 1 else 0 : Int))) 24 (((M_mark T).2.1 24) + 1))).2 25 ((if ((M_mark T).1) < 0 then 1 else (if ((M_mark (mi (mi (M_mark T).2 25 ((if ((M_mark T).1) = 0 then 1 else 0 : Int))) 24 (((M_mark T).2.1 24) + 1))).1) ≤ 0 then 1 else (if ((M_mark T).1) ≤ ((M_mark (mi (mi (M_mark T).2 25 ((if ((M_mark T).1) = 0 then 1 else 0 : Int))) 24 (((M_mark T).2.1 24) + 1))).1) then 0 else 1 : Int) : Int) : Int)))) H locs ls (by (try simp only [mi_eq, mi_ne (show (24 : Nat) ≠ 25 by decide), mi_ne (show (19 : Nat) ≠ 25 by decide), M_mark_i19, mi_ne (show (19 : Nat) ≠ 24 by decide), mi_ne (show (14 : Nat) ≠ 25 by decide), M_mark_i14, mi_ne (show (14 : Nat) ≠ 24 by decide)]); omega) (by (try simp only [mi_eq, mi_ne (show (24 : Nat) ≠ 25 by decide), mi_ne (show (19 : Nat) ≠ 25 by decide), M_mark_i19, mi_ne (show (19 : Nat) ≠ 24 by decide), mi_ne (show (14 : Nat) ≠ 25 by decide), M_mark_i14, mi_ne (show (14 : Nat) ≠ 24 by decide)]); omega) (by (try simp only [mi_eq, mi_ne (show (24 : Nat) ≠ 25 by decide), mi_ne (show (19 : Nat) ≠ 25 by decide), M_mark_i19, mi_ne (show (19 : Nat) ≠ 24 by decide), mi_ne (show (14 : Nat) ≠ 25 by decide), M_mark_i14, mi_ne (show (14 : Nat) ≠ 24 by decide)]); omega) (by (try simp only [mi_eq, mi_ne (show (24 : Nat) ≠ 25 by decide), mi_ne (show (19 : Nat) ≠ 25 by decide), M_mark_i19, mi_ne (show (19 : Nat) ≠ 24 by decide), mi_ne (show (14 : Nat) ≠ 25 by decide), M_mark_i14, mi_ne (show (14 : Nat) ≠ 24 by decide)]); omega) (by (try simp only [mi_eq, mi_ne (show (24 : Nat) ≠ 25 by decide), mi_ne (show (19 : Nat) ≠ 25 by decide), M_mark_i19, mi_ne (show (19 : Nat) ≠ 24 by decide), mi_ne (show (14 : Nat) ≠ 25 by decide), M_mark_i14, mi_ne (show (14 : Nat) ≠ 24 by decide)]); omega) (by (try simp only [mi_eq, mi_ne (show (24 : Nat) ≠ 25 by decide), mi_ne (show (19 : Nat) ≠ 25 by decide), M_mark_i19, mi_ne (show (19 : Nat) ≠ 24 by decide), mi_ne (show (14 : Nat) ≠ 25 by decide), M_mark_i14, mi_ne (show (14 : Nat) ≠ 24 by decide)]); omega) (by (try simp only [mi_eq, mi_ne (show (24 : Nat) ≠ 25 by decide), mi_ne (show (19 : Nat) ≠ 25 by decide), M_mark_i19, mi_ne (show (19 : Nat) ≠ 24 by decide), mi_ne (show (14 : Nat) ≠ 25 by decide), M_mark_i14, mi_ne (show (14 : Nat) ≠ 24 by decide)]); omega) (by (try simp only [mi_eq, mi_ne (show (24 : Nat) ≠ 25 by decide), mi_ne (show (19 : Nat) ≠ 25 by decide), M_mark_i19, mi_ne (show (19 : Nat) ≠ 24 by decide), mi_ne (show (14 : Nat) ≠ 25 by decide), M_mark_i14, mi_ne (show (14 : Nat) ≠ 24 by decide)]); omega) (by omega) (by omega) (by (try simp only [mi_eq, mi_ne (show (24 : Nat) ≠ 25 by decide), mi_ne (show (19 : Nat) ≠ 25 by decide), M_mark_i19, mi_ne (show (19 : Nat) ≠ 24 by decide), mi_ne (show (14 : Nat) ≠ 25 by decide), M_mark_i14, mi_ne (show (14 : Nat) ≠ 24 by decide)]); omega) (by (try simp only [mi_eq, mi_ne (show (24 : Nat) ≠ 25 by decide), mi_ne (show (19 : Nat) ≠ 25 by decide), M_mark_i19, mi_ne (show (19 : Nat) ≠ 24 by decide), mi_ne (show (14 : Nat) ≠ 25 by decide), M_mark_i14, mi_ne (show (14 : Nat) ≠ 24 by decide)]); omega) (by (try simp only [mi_2, M_mark_a]); exact hs) hM (lv_sub hl [4, 5, 6, 0] rfl) hpost
                    · --
                      refine z_if_lt (tgt := 194) B.1 B.2.1 (zr_of (by omega) (by omega)) dX7_set_179 (by decide) (fun c_55 => ?_) (fun c_55 => ?_)
                      · --
                        refine z_iconst B.1 B.2.1 dX7_set_194 ?_
                        refine lv_goto (tgt := 199) B.1 B.2.1 dX7_set_195 (by decide) ?_
                        exact hJ_53 _ _ _ ⟨(if_pos c_55).symm, hM⟩
                      · --
                        refine lv_iload B.1 B.2.1 dX7_set_182 (lv_at hl 0 rfl) ?_
                        refine z_if_le (tgt := 194) B.1 B.2.1 (zr_of (by omega) (by omega)) dX7_set_184 (by decide) (fun c_56 => ?_) (fun c_56 => ?_)
                        · --
                          refine z_iconst B.1 B.2.1 dX7_set_194 ?_
                          refine lv_goto (tgt := 199) B.1 B.2.1 dX7_set_195 (by decide) ?_
                          exact hJ_53 _ _ _ ⟨((if_neg c_55).trans (if_pos c_56)).symm, hM⟩
                        · --
                          refine lv_iload B.1 B.2.1 dX7_set_187 (lv_at hl 2 rfl) ?_
                          refine lv_iload B.1 B.2.1 dX7_set_189 (lv_at hl 0 rfl) ?_
                          refine z_icmp_le (tgt := 198) B.1 B.2.1 (zr_of (by omega) (by omega)) (zr_of (by omega) (by omega)) dX7_set_191 (by decide) (fun c_57 => ?_) (fun c_57 => ?_)
                          · --
                            refine z_iconst B.1 B.2.1 dX7_set_198 ?_
                            exact hJ_53 _ _ _ ⟨((if_neg c_55).trans ((if_neg c_56).trans (if_pos c_57))).symm, hM⟩
                          · --
                            refine z_iconst B.1 B.2.1 dX7_set_194 ?_
                            refine lv_goto (tgt := 199) B.1 B.2.1 dX7_set_195 (by decide) ?_
                            exact hJ_53 _ _ _ ⟨((if_neg c_55).trans ((if_neg c_56).trans (if_neg c_57))).symm, hM⟩
          · --
            refine z_if_ne (tgt := 114) B.1 B.2.1 (zr_of (by omega) (by omega)) dX7_set_107 (by decide) (fun c_58 => ?_) (fun c_58 => ?_)
            · --
              refine z_iconst B.1 B.2.1 dX7_set_114 ?_
              exact hJ_33 _ _ _ ⟨(if_neg c_58).symm, hM⟩
            · --
              refine z_iconst B.1 B.2.1 dX7_set_110 ?_
              refine lv_goto (tgt := 115) B.1 B.2.1 dX7_set_111 (by decide) ?_
              exact hJ_33 _ _ _ ⟨(if_pos c_58).symm, hM⟩
        · --
          refine z_if_eq (tgt := 95) B.1 B.2.1 (zr_of (by omega) (by omega)) dX7_set_75 (by decide) (fun c_59 => ?_) (fun c_59 => ?_)
          · --
            refine z_iconst B.1 B.2.1 dX7_set_95 ?_
            exact hJ_25 _ _ _ ⟨(if_pos c_59).symm, hM⟩
          · --
            refine lv_aload_n B.1 B.2.1 dX7_set_78 rfl (lv_at hl 0 rfl) ?_
            refine lv_aload_n B.1 B.2.1 dX7_set_79 rfl (lv_at hl 0 rfl) ?_
            refine m_get (x := T.1 24) B (i7 _) hK hM 24 (by decide) rfl rfl (List.mem_cons_of_mem _ w7_fRX7_139) dX7_set_80 ?_
            refine m_calli (As := [.int (zI (T.1 24))]) (rest := []) B hK hM (cX7_sign_ok l D cy o q T (T.1 24) (by show 0 ≤ (T.1 24); omega) (by show (T.1 24) ≤ 100000; omega) (by show 0 ≤ (T.1 14); omega) (by show (T.1 14) ≤ 40; omega)) (cw7 1 B w7_mRX7_142 w7_im_yX7_sign w7_sl_yX7_sign w7_cd_yX7_sign rfl rfl (by decide +kernel) ⟨Nat.le_of_ble_eq_true rfl, Nat.le_of_ble_eq_true rfl⟩) rfl hl.1 rfl (Nat.le_of_ble_eq_true rfl) dX7_set_83 ⟨Nat.zero_le _, Nat.zero_le _⟩ (fun z_62 S_61 H locs hp_60 hM => ?_)
            obtain ⟨hp_60, he_hp_60⟩ := hp_60
            have he_hp_60 := he_hp_60.symm
            subst he_hp_60
            have hp_60 : M_sign T (T.1 24) = z_62 := hp_60.symm
            subst hp_60
            have f_63 := M_sign_bd T hs (T.1 24)
            refine z_bipush B.1 B.2.1 (by decide) dX7_set_86 ?_
            refine z_icmp_ne (tgt := 95) B.1 B.2.1 (zr_of (by omega) (by omega)) (zr_of (by decide) (by decide)) dX7_set_88 (by decide) (fun c_64 => ?_) (fun c_64 => ?_)
            · --
              refine z_iconst B.1 B.2.1 dX7_set_95 ?_
              exact hJ_25 _ _ _ ⟨((if_neg c_59).trans (if_neg c_64)).symm, hM⟩
            · --
              refine z_iconst B.1 B.2.1 dX7_set_91 ?_
              refine lv_goto (tgt := 96) B.1 B.2.1 dX7_set_92 (by decide) ?_
              exact hJ_25 _ _ _ ⟨((if_neg c_59).trans (if_pos c_64)).symm, hM⟩
