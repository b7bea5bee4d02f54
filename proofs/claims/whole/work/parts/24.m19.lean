def M_endAltOK (more : Int) (S : MSt) : Prop :=
  (0 ≤ more) ∧
  (more ≤ 1) ∧
  (0 ≤ S.1 19) ∧
  (S.1 19 ≤ 200) ∧
  (1 ≤ S.1 32) ∧
  (S.1 32 ≤ 43) ∧
  (0 ≤ S.2 28 (S.1 32 - 1).toNat) ∧
  (S.2 28 (S.1 32 - 1).toNat < 220)
theorem cX7_endAlternative_ok' (l : Launch) (D : va_G) (cy : Nat → ClassId) (o : Nat) (q : Nat → Nat) (S : MSt) (more : Int) (h : M_endAltOK more S) : mMv l D cy o q yX7_endAlternative (.code yX7_endAlternative cX7_endAlternative 5 none :: TB7) ({ frames := 1, cells := 0, slots := 0, locals := 24 }) S [.int (zI more)] (fun S' => S' = M_endAlternative more S) := by
  obtain ⟨hm0, hm1, hc0, hc1, hd1, hd2, hx0, hx1⟩ := h
  exact cX7_endAlternative_ok l D cy o q S more hm0 hm1 hc0 hc1 hd1 hd2 hx0 hx1
def M_closeBodyOK (S : MSt) : Prop :=
  (S.1 32 ≤ 43) ∧
  (0 ≤ S.2 26 (S.1 32 - 1).toNat) ∧
  (S.2 26 (S.1 32 - 1).toNat ≤ 4) ∧
  (S.2 26 (S.1 32 - 1).toNat = 0 ∨ 2 ≤ S.1 32) ∧
  (0 ≤ S.2 31 (S.1 32 - 1).toNat) ∧
  (S.2 31 (S.1 32 - 1).toNat < 220) ∧
  (0 ≤ S.2 30 (S.1 32 - 1).toNat) ∧
  (S.2 30 (S.1 32 - 1).toNat < 1000000000000000) ∧
  (0 ≤ S.1 25) ∧
  (S.1 25 ≤ 1) ∧
  (0 ≤ S.1 19) ∧
  (∀ j, 0 ≤ S.2 13 j ∧ S.2 13 j ≤ 126) ∧
  (0 ≤ S.1 14) ∧
  (S.1 14 ≤ 40) ∧
  (0 ≤ S.1 24) ∧
  (S.1 24 ≤ 1000) ∧
  (S.1 19 ≤ 190) ∧
  (1 ≤ S.1 32) ∧
  (0 ≤ S.2 28 (S.1 32 - 1).toNat) ∧
  (S.2 28 (S.1 32 - 1).toNat < 220) ∧
  (M_ch 220 (S.1 19) (ma (M_emit 2 (S.2 29 ((S.1 32) - 1).toNat) 0 0 S) 29 ((S.1 32) - 1).toNat (S.1 19)))
theorem cX7_closeBody_ok' (l : Launch) (D : va_G) (cy : Nat → ClassId) (o : Nat) (q : Nat → Nat) (S : MSt) (h : M_closeBodyOK S) : mMv l D cy o q yX7_closeBody (.code yX7_closeBody cX7_closeBody 5 none :: TB7) ({ frames := 2, cells := 0, slots := 0, locals := 51 }) S [] (fun S' => S' = M_closeBody S) := by
  obtain ⟨hd2, hso0, hso1, hso2, hbe0, hbe1, hw0, hw1, hb0, hb1, hc0, hs, hn0, hn1, ha0, ha1, hc1, hd1, hx0, hx1, hch⟩ := h
  exact cX7_closeBody_ok l D cy o q S  hd2 hso0 hso1 hso2 hbe0 hbe1 hw0 hw1 hb0 hb1 hc0 hs hn0 hn1 ha0 ha1 hc1 hd1 hx0 hx1 hch
def M_openParOK (S : MSt) : Prop :=
  (0 ≤ S.1 25) ∧
  (S.1 25 ≤ 1) ∧
  (0 ≤ S.1 19) ∧
  (S.1 19 ≤ 190) ∧
  (∀ j, 0 ≤ S.2 13 j ∧ S.2 13 j ≤ 126) ∧
  (0 ≤ S.1 14) ∧
  (S.1 14 ≤ 40) ∧
  (0 ≤ S.1 24) ∧
  (S.1 24 ≤ 1000) ∧
  (1 ≤ S.1 32) ∧
  (S.1 32 ≤ 42)
theorem cX7_openParenthesis_ok' (l : Launch) (D : va_G) (cy : Nat → ClassId) (o : Nat) (q : Nat → Nat) (S : MSt) (h : M_openParOK S) : mMv l D cy o q yX7_openParenthesis (.code yX7_openParenthesis cX7_openParenthesis 3 none :: TB7) ({ frames := 2, cells := 0, slots := 0, locals := 47 }) S [] (fun S' => S' = M_openParenthesis S) := by
  obtain ⟨hb0, hb1, hc0, hc1, hs, hn0, hn1, ha0, ha1, hd1, hd2⟩ := h
  exact cX7_openParenthesis_ok l D cy o q S  hb0 hb1 hc0 hc1 hs hn0 hn1 ha0 ha1 hd1 hd2
def M_atomOK (S : MSt) : Prop :=
  (0 ≤ S.1 25) ∧
  (S.1 25 ≤ 1) ∧
  (0 ≤ S.1 19) ∧
  (S.1 19 ≤ 190) ∧
  (∀ j, 0 ≤ S.2 13 j ∧ S.2 13 j ≤ 126) ∧
  (0 ≤ S.1 14) ∧
  (S.1 14 ≤ 40) ∧
  (0 ≤ S.1 24) ∧
  (S.1 24 ≤ 41) ∧
  (1 ≤ S.1 32) ∧
  (S.1 32 ≤ 43) ∧
  (0 ≤ S.1 23) ∧
  (S.1 23 ≤ 100)
theorem cX7_atom_ok' (l : Launch) (D : va_G) (cy : Nat → ClassId) (o : Nat) (q : Nat → Nat) (S : MSt) (h : M_atomOK S) : mMv l D cy o q yX7_atom (.code yX7_atom cX7_atom 3 none :: TB7) ({ frames := 3, cells := 0, slots := 0, locals := 69 }) S [] (fun S' => S' = M_atom S) := by
  obtain ⟨hb0, hb1, hc0, hc1, hs, hn0, hn1, ha0, ha1, hd1, hd2, hg0, hg1⟩ := h
  exact cX7_atom_ok l D cy o q S  hb0 hb1 hc0 hc1 hs hn0 hn1 ha0 ha1 hd1 hd2 hg0 hg1
/-- one turn of reads: 'V n T' stays true of what comes, and what is called has what it needs -/
def M_readsStep (V : Nat → MSt → Prop) (n : Nat) (T : MSt) : Prop := 0 ≤ T.1 25 ∧ T.1 25 ≤ 1 ∧ 0 ≤ T.1 24 ∧ T.1 24 ≤ 1000 ∧ 0 ≤ T.1 14 ∧ T.1 14 ≤ 40 ∧ (∀ j, 0 ≤ T.2 13 j ∧ T.2 13 j ≤ 126) ∧
  (T.1 25 = 0 → T.1 24 < T.1 14 → ∃ n', n = n' + 1 ∧
    ((M_sign T (T.1 24)) = 124 → M_endAltOK 1 T ∧ V n' (mi (M_endAlternative 1 T) 24 ((M_endAlternative 1 T).1 24 + 1))) ∧
    ((M_sign T (T.1 24)) = 41 → -1000 ≤ T.1 32 ∧ T.1 32 ≤ 1000 ∧ (¬ ((if (T.1 32) = 1 then 1 else 0 : Int)) = 0 → V n' (mi (mi T 24 ((T.1 24) + 1)) 25 ((if (T.1 32) = 1 then 1 else 0 : Int)))) ∧ (((if (T.1 32) = 1 then 1 else 0 : Int)) = 0 → M_closeBodyOK (mi (mi T 24 ((T.1 24) + 1)) 25 ((if (T.1 32) = 1 then 1 else 0 : Int))) ∧ V n' (M_closeBody (mi (mi T 24 ((T.1 24) + 1)) 25 ((if (T.1 32) = 1 then 1 else 0 : Int)))))) ∧
    ((M_sign T (T.1 24)) = 94 → 0 ≤ T.1 19 ∧ T.1 19 < 220 ∧ 1 ≤ T.1 32 ∧ T.1 32 ≤ 44 ∧ V n' (mi (M_weigh 1 (M_emit 8 0 0 0 T)) 24 (T.1 24 + 1))) ∧
    ((M_sign T (T.1 24)) = 36 → 0 ≤ T.1 19 ∧ T.1 19 < 220 ∧ 1 ≤ T.1 32 ∧ T.1 32 ≤ 44 ∧ V n' (mi (M_weigh 1 (M_emit 9 0 0 0 T)) 24 (T.1 24 + 1))) ∧
    ((M_sign T (T.1 24)) = 40 → M_openParOK T ∧ V n' (M_openParenthesis T)) ∧
    (¬ (M_sign T (T.1 24)) = 124 → ¬ (M_sign T (T.1 24)) = 41 → ¬ (M_sign T (T.1 24)) = 94 → ¬ (M_sign T (T.1 24)) = 36 → ¬ (M_sign T (T.1 24)) = 40 → M_atomOK T ∧ V n' (M_atom T))) ∧
  ((¬ T.1 25 = 0 ∨ T.1 14 ≤ T.1 24) → -1000 ≤ T.1 32 ∧ T.1 32 ≤ 1000 ∧ (T.1 25 = 0 → T.1 32 = 1 → M_closeBodyOK T ∧ 0 ≤ (M_closeBody T).1 19 ∧ (M_closeBody T).1 19 < 220 ∧ -1000000 ≤ (M_closeBody T).2 30 (0 : Int).toNat ∧ (M_closeBody T).2 30 (0 : Int).toNat ≤ 2000000000 ∧ -1000 ≤ (M_closeBody T).1 20 ∧ (M_closeBody T).1 20 ≤ 1000 ∧ -1000 ≤ (M_closeBody T).1 23 ∧ (M_closeBody T).1 23 ≤ 1000))
def M_readsL  : Nat → MSt → Int × MSt
  | 0, T => (if (T.1 25) = 0 then (if (T.1 14) ≤ (T.1 24) then (if (T.1 32) = 1 then ((if 120 < ((M_closeBody T).2 30 (0 : Int).toNat) then 0 else (if 9 < ((M_closeBody T).1 20) then 0 else (if ((M_closeBody T).1 20) < ((M_closeBody T).1 23) then 0 else 1 : Int) : Int) : Int), (M_emit 16 0 0 0 (M_closeBody T))) else (0, T)) else (0, T)) else (0, T))
  | n + 1, T => (if (T.1 25) = 0 then (if (T.1 14) ≤ (T.1 24) then (if (T.1 32) = 1 then ((if 120 < ((M_closeBody T).2 30 (0 : Int).toNat) then 0 else (if 9 < ((M_closeBody T).1 20) then 0 else (if ((M_closeBody T).1 20) < ((M_closeBody T).1 23) then 0 else 1 : Int) : Int) : Int), (M_emit 16 0 0 0 (M_closeBody T))) else (0, T)) else (if (M_sign T (T.1 24)) = 124 then M_readsL  n ((mi (M_endAlternative 1 T) 24 (((M_endAlternative 1 T).1 24) + 1))) else (if (M_sign T (T.1 24)) = 41 then (if ((if (T.1 32) = 1 then 1 else 0 : Int)) = 0 then M_readsL  n ((M_closeBody (mi (mi T 24 ((T.1 24) + 1)) 25 ((if (T.1 32) = 1 then 1 else 0 : Int))))) else M_readsL  n ((mi (mi T 24 ((T.1 24) + 1)) 25 ((if (T.1 32) = 1 then 1 else 0 : Int))))) else (if (M_sign T (T.1 24)) = 94 then M_readsL  n ((mi (M_weigh 1 (M_emit 8 0 0 0 T)) 24 ((T.1 24) + 1))) else (if (M_sign T (T.1 24)) = 36 then M_readsL  n ((mi (M_weigh 1 (M_emit 9 0 0 0 T)) 24 ((T.1 24) + 1))) else (if (M_sign T (T.1 24)) = 40 then M_readsL  n ((M_openParenthesis T)) else M_readsL  n ((M_atom T)))))))) else (0, T))
set_option maxHeartbeats 4000000 in
set_option maxRecDepth 100000 in
theorem lp7_reads (l : Launch) (D : va_G) (cy : Nat → ClassId) (o : Nat) (q : Nat → Nat)  (V : Nat → MSt → Prop) (hV : ∀ n T, V n T → M_readsStep V n T) {p : Program} {e : Env} {s : State} {m : MethodId} {args : Array Value} {below : List Frame} {meth : Method} {c : Code} (B : zAt p s m args meth c RX7 cX7_reads 2 (some .boolean) (.code yX7_reads cX7_reads 2 (some .boolean) :: TB7)) (hK : va_K D vwCl (zTY cy) s) (post : Int → MSt → Prop) :
    ∀ (n : Nat) (T : MSt) (H : Heap) (locs : List Loc) (ls : Array Slot), (V n T) → mH D cy o q (mA o q) s.heap T H locs → lv_has ls 2 [(0, .ref o)] → post (M_readsL  n T).1 (M_readsL  n T).2 → W p l e (headSpec (.code yX7_reads cX7_reads 2 (some .boolean) :: TB7) ({ frames := 4, cells := 0, slots := 0, locals := 91 })).room s m args below meth c H locs 0 0 (MQ below (mQi D cy o q post) args s 0 0 (mA o q)) (F0 m 46 ls []) := by
  intro n
  induction n with
  | zero =>
    intro T H locs ls hv hM hl hpost
    obtain ⟨r1, r2, r3, r4, r5, r6, hs, rA, rB⟩ := hV _ _ hv
    have hn0 := r5
    have hn1 := r6
    refine lv_aload_n B.1 B.2.1 dX7_reads_46 rfl (lv_at hl 0 rfl) ?_
    refine m_get (x := T.1 25) B (i7 _) hK hM 25 (by decide) rfl rfl (List.mem_cons_of_mem _ w7_fRX7_117) dX7_reads_47 ?_
    refine z_if_ne (tgt := 215) B.1 B.2.1 (zr_of (by omega) (by omega)) dX7_reads_50 (by decide) (fun c_1 => ?_) (fun c_1 => ?_)
    · --
      obtain ⟨k1, k2, hE⟩ := rB (by omega)
      refine lv_aload_n B.1 B.2.1 dX7_reads_215 rfl (lv_at hl 0 rfl) ?_
      refine m_get (x := T.1 25) B (i7 _) hK hM 25 (by decide) rfl rfl (List.mem_cons_of_mem _ w7_fRX7_117) dX7_reads_216 ?_
      refine z_if_ne (tgt := 230) B.1 B.2.1 (zr_of (by omega) (by omega)) dX7_reads_219 (by decide) (fun c_2 => ?_) (fun c_2 => ?_)
      · --
        refine z_iconst B.1 B.2.1 dX7_reads_230 ?_
        have hq : M_readsL  0 T = (0, T) := by rw [M_readsL]; exact (if_neg c_1)
        rw [hq] at hpost
        exact m_retz B hM (by decide) (hpost) dX7_reads_231
      · exact absurd c_2 (by omega)
    · --
      refine lv_aload_n B.1 B.2.1 dX7_reads_53 rfl (lv_at hl 0 rfl) ?_
      refine m_get (x := T.1 24) B (i7 _) hK hM 24 (by decide) rfl rfl (List.mem_cons_of_mem _ w7_fRX7_139) dX7_reads_54 ?_
      refine lv_aload_n B.1 B.2.1 dX7_reads_57 rfl (lv_at hl 0 rfl) ?_
      refine m_get (x := T.1 14) B (i7 _) hK hM 14 (by decide) rfl rfl (List.mem_cons_of_mem _ w7_fRX7_86) dX7_reads_58 ?_
      refine z_icmp_ge (tgt := 215) B.1 B.2.1 (zr_of (by omega) (by omega)) (zr_of (by omega) (by omega)) dX7_reads_61 (by decide) (fun c_3 => ?_) (fun c_3 => ?_)
      · --
        obtain ⟨k1, k2, hE⟩ := rB (by omega)
        refine lv_aload_n B.1 B.2.1 dX7_reads_215 rfl (lv_at hl 0 rfl) ?_
        refine m_get (x := T.1 25) B (i7 _) hK hM 25 (by decide) rfl rfl (List.mem_cons_of_mem _ w7_fRX7_117) dX7_reads_216 ?_
        refine z_if_ne (tgt := 230) B.1 B.2.1 (zr_of (by omega) (by omega)) dX7_reads_219 (by decide) (fun c_4 => ?_) (fun c_4 => ?_)
        · exact absurd c_4 (by omega)
        · --
          refine lv_aload_n B.1 B.2.1 dX7_reads_222 rfl (lv_at hl 0 rfl) ?_
          refine m_get (x := T.1 32) B (i7 _) hK hM 32 (by decide) rfl rfl (List.mem_cons_of_mem _ w7_fRX7_121) dX7_reads_223 ?_
          refine z_iconst B.1 B.2.1 dX7_reads_226 ?_
          refine z_icmp_eq (tgt := 232) B.1 B.2.1 (zr_of (by omega) (by omega)) (zr_of (by decide) (by decide)) dX7_reads_227 (by decide) (fun c_5 => ?_) (fun c_5 => ?_)
          · --
            obtain ⟨hE1, y1, y2, y3, y4, y5, y6, y7, y8⟩ := hE (by omega) (by omega)
            refine lv_aload_n B.1 B.2.1 dX7_reads_232 rfl (lv_at hl 0 rfl) ?_
            refine m_callv (As := []) (rest := []) B hK hM (cX7_closeBody_ok' l D cy o q T  hE1) (cw7 0 B w7_mRX7_181 w7_im_yX7_closeBody w7_sl_yX7_closeBody w7_cd_yX7_closeBody rfl rfl (by decide +kernel) ⟨Nat.le_of_ble_eq_true rfl, Nat.le_of_ble_eq_true rfl⟩) rfl hl.1 rfl (Nat.le_of_ble_eq_true rfl) dX7_reads_233 ⟨Nat.zero_le _, Nat.zero_le _⟩ (fun S_7 H locs hp_6 hM => ?_)
            have hp_6 := hp_6.symm
            subst hp_6
            refine lv_aload_n B.1 B.2.1 dX7_reads_236 rfl (lv_at hl 0 rfl) ?_
            refine z_bipush B.1 B.2.1 (by decide) dX7_reads_237 ?_
            refine z_iconst B.1 B.2.1 dX7_reads_239 ?_
            refine z_iconst B.1 B.2.1 dX7_reads_240 ?_
            refine z_iconst B.1 B.2.1 dX7_reads_241 ?_
            refine m_calli (As := [.int (zI 16), .int (zI 0), .int (zI 0), .int (zI 0)]) (rest := []) B hK hM (cX7_emit_ok l D cy o q (M_closeBody T) 16 0 0 0 (by show 0 ≤ ((M_closeBody T).1 19); omega) (by show ((M_closeBody T).1 19) < 220; omega)) (cw7 4 B w7_mRX7_124 w7_im_yX7_emit w7_sl_yX7_emit w7_cd_yX7_emit rfl rfl (by decide +kernel) ⟨Nat.le_of_ble_eq_true rfl, Nat.le_of_ble_eq_true rfl⟩) rfl hl.1 rfl (Nat.le_of_ble_eq_true rfl) dX7_reads_242 ⟨Nat.zero_le _, Nat.zero_le _⟩ (fun z_10 S_9 H locs hp_8 hM => ?_)
            obtain ⟨hp_8, he_hp_8⟩ := hp_8
            have he_hp_8 := he_hp_8.symm
            subst he_hp_8
            have hp_8 : (M_closeBody T).1 19 = z_10 := hp_8.symm
            subst hp_8
            refine lv_pop B.1 B.2.1 dX7_reads_245 rfl ?_
            refine lv_aload_n B.1 B.2.1 dX7_reads_246 rfl (lv_at hl 0 rfl) ?_
            refine m_getr B (i7 _) hK hM 30 (by decide) rfl (List.mem_cons_of_mem _ w7_fRX7_59) dX7_reads_247 ?_
            refine z_iconst B.1 B.2.1 dX7_reads_250 ?_
            refine m_iald (x := (M_closeBody T).2 30 (0 : Int).toNat) B hK hM 16 30 rfl rfl (by decide) (by decide) rfl dX7_reads_251 ?_
            refine z_bipush B.1 B.2.1 (by decide) dX7_reads_252 ?_
            refine z_joinH (P := fun v H' locs' => v = (if 120 < ((M_closeBody T).2 30 (0 : Int).toNat) then 0 else (if 9 < ((M_closeBody T).1 20) then 0 else (if ((M_closeBody T).1 20) < ((M_closeBody T).1 23) then 0 else 1 : Int) : Int) : Int) ∧ mH D cy o q (mA o q) s.heap (M_emit 16 0 0 0 (M_closeBody T)) H' locs') (pcJ := 282) (lsJ := ls) (stJ := []) (fun v_11 H locs hv_12 => ?_) (fun hJ_13 => ?_)
            · --
              obtain ⟨hv_12, hM⟩ := hv_12
              have hb_14 : (if 120 < ((M_closeBody T).2 30 (0 : Int).toNat) then 0 else (if 9 < ((M_closeBody T).1 20) then 0 else (if ((M_closeBody T).1 20) < ((M_closeBody T).1 23) then 0 else 1 : Int) : Int) : Int) = 0 ∨ (if 120 < ((M_closeBody T).2 30 (0 : Int).toNat) then 0 else (if 9 < ((M_closeBody T).1 20) then 0 else (if ((M_closeBody T).1 20) < ((M_closeBody T).1 23) then 0 else 1 : Int) : Int) : Int) = 1 := by (repeat' split) <;> simp
              have hv_12 := hv_12.symm
              subst hv_12
              have hq : M_readsL  0 T = ((if 120 < ((M_closeBody T).2 30 (0 : Int).toNat) then 0 else (if 9 < ((M_closeBody T).1 20) then 0 else (if ((M_closeBody T).1 20) < ((M_closeBody T).1 23) then 0 else 1 : Int) : Int) : Int), (M_emit 16 0 0 0 (M_closeBody T))) := by rw [M_readsL]; exact ((if_pos c_1).trans ((if_pos c_3).trans (if_pos c_5)))
              rw [hq] at hpost
              exact m_retz B hM (by omega) (hpost) dX7_reads_282
            · --
              refine z_icmp_gt (tgt := 281) B.1 B.2.1 (zr_of (by omega) (by omega)) (zr_of (by decide) (by decide)) dX7_reads_254 (by decide) (fun c_15 => ?_) (fun c_15 => ?_)
              · --
                refine z_iconst B.1 B.2.1 dX7_reads_281 ?_
                exact hJ_13 _ _ _ ⟨(if_pos c_15).symm, hM⟩
              · --
                refine lv_aload_n B.1 B.2.1 dX7_reads_257 rfl (lv_at hl 0 rfl) ?_
                refine m_get (x := (M_closeBody T).1 20) B (i7 _) hK hM 20 (by decide) rfl rfl (List.mem_cons_of_mem _ w7_fRX7_153) dX7_reads_258 ?_
                refine z_bipush B.1 B.2.1 (by decide) dX7_reads_261 ?_
                refine z_icmp_gt (tgt := 281) B.1 B.2.1 (zr_of (by omega) (by omega)) (zr_of (by decide) (by decide)) dX7_reads_263 (by decide) (fun c_16 => ?_) (fun c_16 => ?_)
                · --
                  refine z_iconst B.1 B.2.1 dX7_reads_281 ?_
                  exact hJ_13 _ _ _ ⟨((if_neg c_15).trans (if_pos c_16)).symm, hM⟩
                · --
                  refine lv_aload_n B.1 B.2.1 dX7_reads_266 rfl (lv_at hl 0 rfl) ?_
                  refine m_get (x := (M_closeBody T).1 23) B (i7 _) hK hM 23 (by decide) rfl rfl (List.mem_cons_of_mem _ w7_fRX7_172) dX7_reads_267 ?_
                  refine lv_aload_n B.1 B.2.1 dX7_reads_270 rfl (lv_at hl 0 rfl) ?_
                  refine m_get (x := (M_closeBody T).1 20) B (i7 _) hK hM 20 (by decide) rfl rfl (List.mem_cons_of_mem _ w7_fRX7_153) dX7_reads_271 ?_
                  refine z_icmp_gt (tgt := 281) B.1 B.2.1 (zr_of (by omega) (by omega)) (zr_of (by omega) (by omega)) dX7_reads_274 (by decide) (fun c_17 => ?_) (fun c_17 => ?_)
                  · --
                    refine z_iconst B.1 B.2.1 dX7_reads_281 ?_
                    exact hJ_13 _ _ _ ⟨((if_neg c_15).trans ((if_neg c_16).trans (if_pos c_17))).symm, hM⟩
                  · --
                    refine z_iconst B.1 B.2.1 dX7_reads_277 ?_
                    refine lv_goto (tgt := 282) B.1 B.2.1 dX7_reads_278 (by decide) ?_
                    exact hJ_13 _ _ _ ⟨((if_neg c_15).trans ((if_neg c_16).trans (if_neg c_17))).symm, hM⟩
          · --
            refine z_iconst B.1 B.2.1 dX7_reads_230 ?_
            have hq : M_readsL  0 T = (0, T) := by rw [M_readsL]; exact ((if_pos c_1).trans ((if_pos c_3).trans (if_neg c_5)))
            rw [hq] at hpost
            exact m_retz B hM (by decide) (hpost) dX7_reads_231
      · --
        obtain ⟨n', hn', -⟩ := rA (by omega) (by omega)
        exact absurd hn' (by omega)
  | succ n ih =>
    intro T H locs ls hv hM hl hpost
    obtain ⟨r1, r2, r3, r4, r5, r6, hs, rA, rB⟩ := hV _ _ hv
    have hn0 := r5
    have hn1 := r6
    refine lv_aload_n B.1 B.2.1 dX7_reads_46 rfl (lv_at hl 0 rfl) ?_
    refine m_get (x := T.1 25) B (i7 _) hK hM 25 (by decide) rfl rfl (List.mem_cons_of_mem _ w7_fRX7_117) dX7_reads_47 ?_
    refine z_if_ne (tgt := 215) B.1 B.2.1 (zr_of (by omega) (by omega)) dX7_reads_50 (by decide) (fun c_1 => ?_) (fun c_1 => ?_)
    · --
      obtain ⟨k1, k2, hE⟩ := rB (by omega)
      refine lv_aload_n B.1 B.2.1 dX7_reads_215 rfl (lv_at hl 0 rfl) ?_
      refine m_get (x := T.1 25) B (i7 _) hK hM 25 (by decide) rfl rfl (List.mem_cons_of_mem _ w7_fRX7_117) dX7_reads_216 ?_
      refine z_if_ne (tgt := 230) B.1 B.2.1 (zr_of (by omega) (by omega)) dX7_reads_219 (by decide) (fun c_2 => ?_) (fun c_2 => ?_)
      · --
        refine z_iconst B.1 B.2.1 dX7_reads_230 ?_
        have hq : M_readsL  (n + 1) T = (0, T) := by rw [M_readsL]; exact (if_neg c_1)
        rw [hq] at hpost
        exact m_retz B hM (by decide) (hpost) dX7_reads_231
      · exact absurd c_2 (by omega)
    · --
      refine lv_aload_n B.1 B.2.1 dX7_reads_53 rfl (lv_at hl 0 rfl) ?_
      refine m_get (x := T.1 24) B (i7 _) hK hM 24 (by decide) rfl rfl (List.mem_cons_of_mem _ w7_fRX7_139) dX7_reads_54 ?_
      refine lv_aload_n B.1 B.2.1 dX7_reads_57 rfl (lv_at hl 0 rfl) ?_
      refine m_get (x := T.1 14) B (i7 _) hK hM 14 (by decide) rfl rfl (List.mem_cons_of_mem _ w7_fRX7_86) dX7_reads_58 ?_
      refine z_icmp_ge (tgt := 215) B.1 B.2.1 (zr_of (by omega) (by omega)) (zr_of (by omega) (by omega)) dX7_reads_61 (by decide) (fun c_3 => ?_) (fun c_3 => ?_)
      · --
        obtain ⟨k1, k2, hE⟩ := rB (by omega)
        refine lv_aload_n B.1 B.2.1 dX7_reads_215 rfl (lv_at hl 0 rfl) ?_
        refine m_get (x := T.1 25) B (i7 _) hK hM 25 (by decide) rfl rfl (List.mem_cons_of_mem _ w7_fRX7_117) dX7_reads_216 ?_
        refine z_if_ne (tgt := 230) B.1 B.2.1 (zr_of (by omega) (by omega)) dX7_reads_219 (by decide) (fun c_4 => ?_) (fun c_4 => ?_)
        · exact absurd c_4 (by omega)
        · --
          refine lv_aload_n B.1 B.2.1 dX7_reads_222 rfl (lv_at hl 0 rfl) ?_
          refine m_get (x := T.1 32) B (i7 _) hK hM 32 (by decide) rfl rfl (List.mem_cons_of_mem _ w7_fRX7_121) dX7_reads_223 ?_
          refine z_iconst B.1 B.2.1 dX7_reads_226 ?_
          refine z_icmp_eq (tgt := 232) B.1 B.2.1 (zr_of (by omega) (by omega)) (zr_of (by decide) (by decide)) dX7_reads_227 (by decide) (fun c_5 => ?_) (fun c_5 => ?_)
          · --
            obtain ⟨hE1, y1, y2, y3, y4, y5, y6, y7, y8⟩ := hE (by omega) (by omega)
            refine lv_aload_n B.1 B.2.1 dX7_reads_232 rfl (lv_at hl 0 rfl) ?_
            refine m_callv (As := []) (rest := []) B hK hM (cX7_closeBody_ok' l D cy o q T  hE1) (cw7 0 B w7_mRX7_181 w7_im_yX7_closeBody w7_sl_yX7_closeBody w7_cd_yX7_closeBody rfl rfl (by decide +kernel) ⟨Nat.le_of_ble_eq_true rfl, Nat.le_of_ble_eq_true rfl⟩) rfl hl.1 rfl (Nat.le_of_ble_eq_true rfl) dX7_reads_233 ⟨Nat.zero_le _, Nat.zero_le _⟩ (fun S_7 H locs hp_6 hM => ?_)
            have hp_6 := hp_6.symm
            subst hp_6
            refine lv_aload_n B.1 B.2.1 dX7_reads_236 rfl (lv_at hl 0 rfl) ?_
            refine z_bipush B.1 B.2.1 (by decide) dX7_reads_237 ?_
            refine z_iconst B.1 B.2.1 dX7_reads_239 ?_
            refine z_iconst B.1 B.2.1 dX7_reads_240 ?_
            refine z_iconst B.1 B.2.1 dX7_reads_241 ?_
            refine m_calli (As := [.int (zI 16), .int (zI 0), .int (zI 0), .int (zI 0)]) (rest := []) B hK hM (cX7_emit_ok l D cy o q (M_closeBody T) 16 0 0 0 (by show 0 ≤ ((M_closeBody T).1 19); omega) (by show ((M_closeBody T).1 19) < 220; omega)) (cw7 4 B w7_mRX7_124 w7_im_yX7_emit w7_sl_yX7_emit w7_cd_yX7_emit rfl rfl (by decide +kernel) ⟨Nat.le_of_ble_eq_true rfl, Nat.le_of_ble_eq_true rfl⟩) rfl hl.1 rfl (Nat.le_of_ble_eq_true rfl) dX7_reads_242 ⟨Nat.zero_le _, Nat.zero_le _⟩ (fun z_10 S_9 H locs hp_8 hM => ?_)
            obtain ⟨hp_8, he_hp_8⟩ := hp_8
            have he_hp_8 := he_hp_8.symm
            subst he_hp_8
            have hp_8 : (M_closeBody T).1 19 = z_10 := hp_8.symm
            subst hp_8
            refine lv_pop B.1 B.2.1 dX7_reads_245 rfl ?_
            refine lv_aload_n B.1 B.2.1 dX7_reads_246 rfl (lv_at hl 0 rfl) ?_
            refine m_getr B (i7 _) hK hM 30 (by decide) rfl (List.mem_cons_of_mem _ w7_fRX7_59) dX7_reads_247 ?_
            refine z_iconst B.1 B.2.1 dX7_reads_250 ?_
            refine m_iald (x := (M_closeBody T).2 30 (0 : Int).toNat) B hK hM 16 30 rfl rfl (by decide) (by decide) rfl dX7_reads_251 ?_
            refine z_bipush B.1 B.2.1 (by decide) dX7_reads_252 ?_
            refine z_joinH (P := fun v H' locs' => v = (if 120 < ((M_closeBody T).2 30 (0 : Int).toNat) then 0 else (if 9 < ((M_closeBody T).1 20) then 0 else (if ((M_closeBody T).1 20) < ((M_closeBody T).1 23) then 0 else 1 : Int) : Int) : Int) ∧ mH D cy o q (mA o q) s.heap (M_emit 16 0 0 0 (M_closeBody T)) H' locs') (pcJ := 282) (lsJ := ls) (stJ := []) (fun v_11 H locs hv_12 => ?_) (fun hJ_13 => ?_)
            · --
              obtain ⟨hv_12, hM⟩ := hv_12
              have hb_14 : (if 120 < ((M_closeBody T).2 30 (0 : Int).toNat) then 0 else (if 9 < ((M_closeBody T).1 20) then 0 else (if ((M_closeBody T).1 20) < ((M_closeBody T).1 23) then 0 else 1 : Int) : Int) : Int) = 0 ∨ (if 120 < ((M_closeBody T).2 30 (0 : Int).toNat) then 0 else (if 9 < ((M_closeBody T).1 20) then 0 else (if ((M_closeBody T).1 20) < ((M_closeBody T).1 23) then 0 else 1 : Int) : Int) : Int) = 1 := by (repeat' split) <;> simp
              have hv_12 := hv_12.symm
              subst hv_12
              have hq : M_readsL  (n + 1) T = ((if 120 < ((M_closeBody T).2 30 (0 : Int).toNat) then 0 else (if 9 < ((M_closeBody T).1 20) then 0 else (if ((M_closeBody T).1 20) < ((M_closeBody T).1 23) then 0 else 1 : Int) : Int) : Int), (M_emit 16 0 0 0 (M_closeBody T))) := by rw [M_readsL]; exact ((if_pos c_1).trans ((if_pos c_3).trans (if_pos c_5)))
              rw [hq] at hpost
              exact m_retz B hM (by omega) (hpost) dX7_reads_282
            · --
              refine z_icmp_gt (tgt := 281) B.1 B.2.1 (zr_of (by omega) (by omega)) (zr_of (by decide) (by decide)) dX7_reads_254 (by decide) (fun c_15 => ?_) (fun c_15 => ?_)
              · --
                refine z_iconst B.1 B.2.1 dX7_reads_281 ?_
                exact hJ_13 _ _ _ ⟨(if_pos c_15).symm, hM⟩
              · --
                refine lv_aload_n B.1 B.2.1 dX7_reads_257 rfl (lv_at hl 0 rfl) ?_
                refine m_get (x := (M_closeBody T).1 20) B (i7 _) hK hM 20 (by decide) rfl rfl (List.mem_cons_of_mem _ w7_fRX7_153) dX7_reads_258 ?_
                refine z_bipush B.1 B.2.1 (by decide) dX7_reads_261 ?_
                refine z_icmp_gt (tgt := 281) B.1 B.2.1 (zr_of (by omega) (by omega)) (zr_of (by decide) (by decide)) dX7_reads_263 (by decide) (fun c_16 => ?_) (fun c_16 => ?_)
                · --
                  refine z_iconst B.1 B.2.1 dX7_reads_281 ?_
                  exact hJ_13 _ _ _ ⟨((if_neg c_15).trans (if_pos c_16)).symm, hM⟩
                · --
                  refine lv_aload_n B.1 B.2.1 dX7_reads_266 rfl (lv_at hl 0 rfl) ?_
                  refine m_get (x := (M_closeBody T).1 23) B (i7 _) hK hM 23 (by decide) rfl rfl (List.mem_cons_of_mem _ w7_fRX7_172) dX7_reads_267 ?_
                  refine lv_aload_n B.1 B.2.1 dX7_reads_270 rfl (lv_at hl 0 rfl) ?_
                  refine m_get (x := (M_closeBody T).1 20) B (i7 _) hK hM 20 (by decide) rfl rfl (List.mem_cons_of_mem _ w7_fRX7_153) dX7_reads_271 ?_
                  refine z_icmp_gt (tgt := 281) B.1 B.2.1 (zr_of (by omega) (by omega)) (zr_of (by omega) (by omega)) dX7_reads_274 (by decide) (fun c_17 => ?_) (fun c_17 => ?_)
                  · --
                    refine z_iconst B.1 B.2.1 dX7_reads_281 ?_
                    exact hJ_13 _ _ _ ⟨((if_neg c_15).trans ((if_neg c_16).trans (if_pos c_17))).symm, hM⟩
                  · --
                    refine z_iconst B.1 B.2.1 dX7_reads_277 ?_
                    refine lv_goto (tgt := 282) B.1 B.2.1 dX7_reads_278 (by decide) ?_
                    exact hJ_13 _ _ _ ⟨((if_neg c_15).trans ((if_neg c_16).trans (if_neg c_17))).symm, hM⟩
          · --
            refine z_iconst B.1 B.2.1 dX7_reads_230 ?_
            have hq : M_readsL  (n + 1) T = (0, T) := by rw [M_readsL]; exact ((if_pos c_1).trans ((if_pos c_3).trans (if_neg c_5)))
            rw [hq] at hpost
            exact m_retz B hM (by decide) (hpost) dX7_reads_231
      · --
        obtain ⟨n', hn', hA1, hA2, hA3, hA3b, hA4, hA5⟩ := rA (by omega) (by omega)
        obtain rfl : n = n' := by omega
        refine lv_aload_n B.1 B.2.1 dX7_reads_64 rfl (lv_at hl 0 rfl) ?_
        refine lv_aload_n B.1 B.2.1 dX7_reads_65 rfl (lv_at hl 0 rfl) ?_
        refine m_get (x := T.1 24) B (i7 _) hK hM 24 (by decide) rfl rfl (List.mem_cons_of_mem _ w7_fRX7_139) dX7_reads_66 ?_
        refine m_calli (As := [.int (zI (T.1 24))]) (rest := []) B hK hM (cX7_sign_ok l D cy o q T (T.1 24) (by show 0 ≤ (T.1 24); omega) (by show (T.1 24) ≤ 100000; omega) (by show 0 ≤ (T.1 14); omega) (by show (T.1 14) ≤ 40; omega)) (cw7 1 B w7_mRX7_142 w7_im_yX7_sign w7_sl_yX7_sign w7_cd_yX7_sign rfl rfl (by decide +kernel) ⟨Nat.le_of_ble_eq_true rfl, Nat.le_of_ble_eq_true rfl⟩) rfl hl.1 rfl (Nat.le_of_ble_eq_true rfl) dX7_reads_69 ⟨Nat.zero_le _, Nat.zero_le _⟩ (fun z_20 S_19 H locs hp_18 hM => ?_)
        obtain ⟨hp_18, he_hp_18⟩ := hp_18
        have he_hp_18 := he_hp_18.symm
        subst he_hp_18
        have hp_18 : M_sign T (T.1 24) = z_20 := hp_18.symm
        subst hp_18
        have f_21 := M_sign_bd T hs (T.1 24)
        refine lv_istore_n (lv' := [(1, .int (zI (M_sign T (T.1 24)))), (0, .ref o)]) B.1 B.2.1 dX7_reads_72 rfl hl (by decide) rfl (fun ls hl => ?_)
        refine lv_iload_n B.1 B.2.1 dX7_reads_73 rfl (lv_at hl 0 rfl) ?_
        refine z_bipush B.1 B.2.1 (by decide) dX7_reads_74 ?_
        refine z_icmp_ne (tgt := 97) B.1 B.2.1 (zr_of (by omega) (by omega)) (zr_of (by decide) (by decide)) dX7_reads_76 (by decide) (fun c_22 => ?_) (fun c_22 => ?_)
        · --
          refine lv_iload_n B.1 B.2.1 dX7_reads_97 rfl (lv_at hl 0 rfl) ?_
          refine z_bipush B.1 B.2.1 (by decide) dX7_reads_98 ?_
          refine z_icmp_ne (tgt := 144) B.1 B.2.1 (zr_of (by omega) (by omega)) (zr_of (by decide) (by decide)) dX7_reads_100 (by decide) (fun c_23 => ?_) (fun c_23 => ?_)
          · --
            refine lv_iload_n B.1 B.2.1 dX7_reads_144 rfl (lv_at hl 0 rfl) ?_
            refine z_bipush B.1 B.2.1 (by decide) dX7_reads_145 ?_
            refine z_icmp_eq (tgt := 156) B.1 B.2.1 (zr_of (by omega) (by omega)) (zr_of (by decide) (by decide)) dX7_reads_147 (by decide) (fun c_24 => ?_) (fun c_24 => ?_)
            · --
              obtain ⟨k1, k2, k3, k4, hE5⟩ := hA3 (by omega)
              refine lv_aload_n B.1 B.2.1 dX7_reads_156 rfl (lv_at hl 1 rfl) ?_
              refine lv_iload_n B.1 B.2.1 dX7_reads_157 rfl (lv_at hl 0 rfl) ?_
              refine z_bipush B.1 B.2.1 (by decide) dX7_reads_158 ?_
              refine z_icmp_ne (tgt := 168) B.1 B.2.1 (zr_of (by omega) (by omega)) (zr_of (by decide) (by decide)) dX7_reads_160 (by decide) (fun c_25 => ?_) (fun c_25 => ?_)
              · exact absurd c_25 (by omega)
              · --
                refine z_bipush B.1 B.2.1 (by decide) dX7_reads_163 ?_
                refine lv_goto (tgt := 170) B.1 B.2.1 dX7_reads_165 (by decide) ?_
                refine z_iconst B.1 B.2.1 dX7_reads_170 ?_
                refine z_iconst B.1 B.2.1 dX7_reads_171 ?_
                refine z_iconst B.1 B.2.1 dX7_reads_172 ?_
                refine m_calli (As := [.int (zI 8), .int (zI 0), .int (zI 0), .int (zI 0)]) (rest := []) B hK hM (cX7_emit_ok l D cy o q T 8 0 0 0 (by show 0 ≤ (T.1 19); omega) (by show (T.1 19) < 220; omega)) (cw7 4 B w7_mRX7_124 w7_im_yX7_emit w7_sl_yX7_emit w7_cd_yX7_emit rfl rfl (by decide +kernel) ⟨Nat.le_of_ble_eq_true rfl, Nat.le_of_ble_eq_true rfl⟩) rfl hl.1 rfl (Nat.le_of_ble_eq_true rfl) dX7_reads_173 ⟨Nat.zero_le _, Nat.zero_le _⟩ (fun z_28 S_27 H locs hp_26 hM => ?_)
                obtain ⟨hp_26, he_hp_26⟩ := hp_26
                have he_hp_26 := he_hp_26.symm
                subst he_hp_26
                have hp_26 : T.1 19 = z_28 := hp_26.symm
                subst hp_26
                refine lv_pop B.1 B.2.1 dX7_reads_176 rfl ?_
                refine lv_aload_n B.1 B.2.1 dX7_reads_177 rfl (lv_at hl 1 rfl) ?_
                refine z_iconst B.1 B.2.1 dX7_reads_178 ?_
                refine m_callv (As := [.int (zI 1)]) (rest := []) B hK hM (cX7_weigh_ok l D cy o q (M_emit 8 0 0 0 T) 1 (by show 1 ≤ (T.1 32); omega) (by show (T.1 32) ≤ 44; omega)) (cw7 1 B w7_mRX7_132 w7_im_yX7_weigh w7_sl_yX7_weigh w7_cd_yX7_weigh rfl rfl (by decide +kernel) ⟨Nat.le_of_ble_eq_true rfl, Nat.le_of_ble_eq_true rfl⟩) rfl hl.1 rfl (Nat.le_of_ble_eq_true rfl) dX7_reads_179 ⟨Nat.zero_le _, Nat.zero_le _⟩ (fun S_30 H locs hp_29 hM => ?_)
                have hp_29 := hp_29.symm
                subst hp_29
                refine lv_aload_n B.1 B.2.1 dX7_reads_182 rfl (lv_at hl 1 rfl) ?_
                refine lv_dup B.1 B.2.1 dX7_reads_183 rfl ?_
                refine m_get (x := T.1 24) B (i7 _) hK hM 24 (by decide) rfl rfl (List.mem_cons_of_mem _ w7_fRX7_139) dX7_reads_184 ?_
                refine z_iconst B.1 B.2.1 dX7_reads_187 ?_
                refine z_iadd (x := (T.1 24) + 1) B.1 B.2.1 rfl dX7_reads_188 ?_
                refine m_put B (i7 _) hK hM 24 (by decide) rfl (by decide +kernel) (List.mem_cons_of_mem _ w7_fRX7_139) dX7_reads_189 (fun H locs hM => ?_)
                refine lv_goto (tgt := 212) B.1 B.2.1 dX7_reads_192 (by decide) ?_
                refine lv_goto (tgt := 46) B.1 B.2.1 dX7_reads_212 (by decide) ?_
                have hq : M_readsL  (n + 1) T = M_readsL  n ((mi (M_weigh 1 (M_emit 8 0 0 0 T)) 24 ((T.1 24) + 1))) := by rw [M_readsL]; exact ((if_pos c_1).trans ((if_neg c_3).trans ((if_neg c_22).trans ((if_neg c_23).trans (if_pos c_24)))))
                rw [hq] at hpost
                exact ih ((mi (M_weigh 1 (M_emit 8 0 0 0 T)) 24 ((T.1 24) + 1))) H locs ls hE5 hM (lv_sub hl [1] rfl) hpost
            · --
              refine lv_iload_n B.1 B.2.1 dX7_reads_150 rfl (lv_at hl 0 rfl) ?_
              refine z_bipush B.1 B.2.1 (by decide) dX7_reads_151 ?_
              refine z_icmp_ne (tgt := 195) B.1 B.2.1 (zr_of (by omega) (by omega)) (zr_of (by decide) (by decide)) dX7_reads_153 (by decide) (fun c_31 => ?_) (fun c_31 => ?_)
              · --
                refine lv_iload_n B.1 B.2.1 dX7_reads_195 rfl (lv_at hl 0 rfl) ?_
                refine z_bipush B.1 B.2.1 (by decide) dX7_reads_196 ?_
                refine z_icmp_ne (tgt := 208) B.1 B.2.1 (zr_of (by omega) (by omega)) (zr_of (by decide) (by decide)) dX7_reads_198 (by decide) (fun c_32 => ?_) (fun c_32 => ?_)
                · --
                  have hE := hA5 (by omega) (by omega) (by omega) (by omega) (by omega)
                  refine lv_aload_n B.1 B.2.1 dX7_reads_208 rfl (lv_at hl 1 rfl) ?_
                  refine m_callv (As := []) (rest := []) B hK hM (cX7_atom_ok' l D cy o q T  hE.1) (cw7 0 B w7_mRX7_187 w7_im_yX7_atom w7_sl_yX7_atom w7_cd_yX7_atom rfl rfl (by decide +kernel) ⟨Nat.le_of_ble_eq_true rfl, Nat.le_of_ble_eq_true rfl⟩) rfl hl.1 rfl (Nat.le_of_ble_eq_true rfl) dX7_reads_209 ⟨Nat.zero_le _, Nat.zero_le _⟩ (fun S_34 H locs hp_33 hM => ?_)
                  have hp_33 := hp_33.symm
                  subst hp_33
                  refine lv_goto (tgt := 46) B.1 B.2.1 dX7_reads_212 (by decide) ?_
                  have hq : M_readsL  (n + 1) T = M_readsL  n ((M_atom T)) := by rw [M_readsL]; exact ((if_pos c_1).trans ((if_neg c_3).trans ((if_neg c_22).trans ((if_neg c_23).trans ((if_neg c_24).trans ((if_neg c_31).trans (if_neg c_32)))))))
                  rw [hq] at hpost
                  exact ih ((M_atom T)) H locs ls hE.2 hM (lv_sub hl [1] rfl) hpost
                · --
                  have hE := hA4 (by omega)
                  refine lv_aload_n B.1 B.2.1 dX7_reads_201 rfl (lv_at hl 1 rfl) ?_
                  refine m_callv (As := []) (rest := []) B hK hM (cX7_openParenthesis_ok' l D cy o q T  hE.1) (cw7 0 B w7_mRX7_184 w7_im_yX7_openParenthesis w7_sl_yX7_openParenthesis w7_cd_yX7_openParenthesis rfl rfl (by decide +kernel) ⟨Nat.le_of_ble_eq_true rfl, Nat.le_of_ble_eq_true rfl⟩) rfl hl.1 rfl (Nat.le_of_ble_eq_true rfl) dX7_reads_202 ⟨Nat.zero_le _, Nat.zero_le _⟩ (fun S_36 H locs hp_35 hM => ?_)
                  have hp_35 := hp_35.symm
                  subst hp_35
                  refine lv_goto (tgt := 212) B.1 B.2.1 dX7_reads_205 (by decide) ?_
                  refine lv_goto (tgt := 46) B.1 B.2.1 dX7_reads_212 (by decide) ?_
                  have hq : M_readsL  (n + 1) T = M_readsL  n ((M_openParenthesis T)) := by rw [M_readsL]; exact ((if_pos c_1).trans ((if_neg c_3).trans ((if_neg c_22).trans ((if_neg c_23).trans ((if_neg c_24).trans ((if_neg c_31).trans (if_pos c_32)))))))
                  rw [hq] at hpost
                  exact ih ((M_openParenthesis T)) H locs ls hE.2 hM (lv_sub hl [1] rfl) hpost
              · --
                obtain ⟨k1, k2, k3, k4, hE5⟩ := hA3b (by omega)
                refine lv_aload_n B.1 B.2.1 dX7_reads_156 rfl (lv_at hl 1 rfl) ?_
                refine lv_iload_n B.1 B.2.1 dX7_reads_157 rfl (lv_at hl 0 rfl) ?_
                refine z_bipush B.1 B.2.1 (by decide) dX7_reads_158 ?_
                refine z_icmp_ne (tgt := 168) B.1 B.2.1 (zr_of (by omega) (by omega)) (zr_of (by decide) (by decide)) dX7_reads_160 (by decide) (fun c_37 => ?_) (fun c_37 => ?_)
                · --
                  refine z_bipush B.1 B.2.1 (by decide) dX7_reads_168 ?_
                  refine z_iconst B.1 B.2.1 dX7_reads_170 ?_
                  refine z_iconst B.1 B.2.1 dX7_reads_171 ?_
                  refine z_iconst B.1 B.2.1 dX7_reads_172 ?_
                  refine m_calli (As := [.int (zI 9), .int (zI 0), .int (zI 0), .int (zI 0)]) (rest := []) B hK hM (cX7_emit_ok l D cy o q T 9 0 0 0 (by show 0 ≤ (T.1 19); omega) (by show (T.1 19) < 220; omega)) (cw7 4 B w7_mRX7_124 w7_im_yX7_emit w7_sl_yX7_emit w7_cd_yX7_emit rfl rfl (by decide +kernel) ⟨Nat.le_of_ble_eq_true rfl, Nat.le_of_ble_eq_true rfl⟩) rfl hl.1 rfl (Nat.le_of_ble_eq_true rfl) dX7_reads_173 ⟨Nat.zero_le _, Nat.zero_le _⟩ (fun z_40 S_39 H locs hp_38 hM => ?_)
                  obtain ⟨hp_38, he_hp_38⟩ := hp_38
                  have he_hp_38 := he_hp_38.symm
                  subst he_hp_38
                  have hp_38 : T.1 19 = z_40 := hp_38.symm
                  subst hp_38
                  refine lv_pop B.1 B.2.1 dX7_reads_176 rfl ?_
                  refine lv_aload_n B.1 B.2.1 dX7_reads_177 rfl (lv_at hl 1 rfl) ?_
                  refine z_iconst B.1 B.2.1 dX7_reads_178 ?_
                  refine m_callv (As := [.int (zI 1)]) (rest := []) B hK hM (cX7_weigh_ok l D cy o q (M_emit 9 0 0 0 T) 1 (by show 1 ≤ (T.1 32); omega) (by show (T.1 32) ≤ 44; omega)) (cw7 1 B w7_mRX7_132 w7_im_yX7_weigh w7_sl_yX7_weigh w7_cd_yX7_weigh rfl rfl (by decide +kernel) ⟨Nat.le_of_ble_eq_true rfl, Nat.le_of_ble_eq_true rfl⟩) rfl hl.1 rfl (Nat.le_of_ble_eq_true rfl) dX7_reads_179 ⟨Nat.zero_le _, Nat.zero_le _⟩ (fun S_42 H locs hp_41 hM => ?_)
                  have hp_41 := hp_41.symm
                  subst hp_41
                  refine lv_aload_n B.1 B.2.1 dX7_reads_182 rfl (lv_at hl 1 rfl) ?_
                  refine lv_dup B.1 B.2.1 dX7_reads_183 rfl ?_
                  refine m_get (x := T.1 24) B (i7 _) hK hM 24 (by decide) rfl rfl (List.mem_cons_of_mem _ w7_fRX7_139) dX7_reads_184 ?_
                  refine z_iconst B.1 B.2.1 dX7_reads_187 ?_
                  refine z_iadd (x := (T.1 24) + 1) B.1 B.2.1 rfl dX7_reads_188 ?_
                  refine m_put B (i7 _) hK hM 24 (by decide) rfl (by decide +kernel) (List.mem_cons_of_mem _ w7_fRX7_139) dX7_reads_189 (fun H locs hM => ?_)
                  refine lv_goto (tgt := 212) B.1 B.2.1 dX7_reads_192 (by decide) ?_
                  refine lv_goto (tgt := 46) B.1 B.2.1 dX7_reads_212 (by decide) ?_
                  have hq : M_readsL  (n + 1) T = M_readsL  n ((mi (M_weigh 1 (M_emit 9 0 0 0 T)) 24 ((T.1 24) + 1))) := by rw [M_readsL]; exact ((if_pos c_1).trans ((if_neg c_3).trans ((if_neg c_22).trans ((if_neg c_23).trans ((if_neg c_24).trans (if_pos c_31))))))
                  rw [hq] at hpost
                  exact ih ((mi (M_weigh 1 (M_emit 9 0 0 0 T)) 24 ((T.1 24) + 1))) H locs ls hE5 hM (lv_sub hl [1] rfl) hpost
                · exact absurd c_37 (by omega)
          · --
            obtain ⟨k1, k2, hE1, hE2⟩ := hA2 (by omega)
            refine lv_aload_n B.1 B.2.1 dX7_reads_103 rfl (lv_at hl 1 rfl) ?_
            refine lv_dup B.1 B.2.1 dX7_reads_104 rfl ?_
            refine m_get (x := T.1 24) B (i7 _) hK hM 24 (by decide) rfl rfl (List.mem_cons_of_mem _ w7_fRX7_139) dX7_reads_105 ?_
            refine z_iconst B.1 B.2.1 dX7_reads_108 ?_
            refine z_iadd (x := (T.1 24) + 1) B.1 B.2.1 rfl dX7_reads_109 ?_
            refine m_put B (i7 _) hK hM 24 (by decide) rfl (by decide +kernel) (List.mem_cons_of_mem _ w7_fRX7_139) dX7_reads_110 (fun H locs hM => ?_)
            refine lv_aload_n B.1 B.2.1 dX7_reads_113 rfl (lv_at hl 1 rfl) ?_
            refine lv_aload_n B.1 B.2.1 dX7_reads_114 rfl (lv_at hl 1 rfl) ?_
            refine m_get (x := T.1 32) B (i7 _) hK hM 32 (by decide) rfl rfl (List.mem_cons_of_mem _ w7_fRX7_121) dX7_reads_115 ?_
            refine z_iconst B.1 B.2.1 dX7_reads_118 ?_
            refine z_joinH (P := fun v H' locs' => v = (if (T.1 32) = 1 then 1 else 0 : Int) ∧ mH D cy o q (mA o q) s.heap (mi T 24 ((T.1 24) + 1)) H' locs') (pcJ := 127) (lsJ := ls) (stJ := [.ref o]) (fun v_43 H locs hv_44 => ?_) (fun hJ_45 => ?_)
            · --
              obtain ⟨hv_44, hM⟩ := hv_44
              have hb_46 : (if (T.1 32) = 1 then 1 else 0 : Int) = 0 ∨ (if (T.1 32) = 1 then 1 else 0 : Int) = 1 := by (repeat' split) <;> simp
              have hv_44 := hv_44.symm
              subst hv_44
              refine m_putz B (i7 _) hK hM 25 (by decide) rfl (by omega) (by decide +kernel) (List.mem_cons_of_mem _ w7_fRX7_117) dX7_reads_127 (fun H locs hM => ?_)
              refine lv_aload_n B.1 B.2.1 dX7_reads_130 rfl (lv_at hl 1 rfl) ?_
              refine m_get (x := (if (T.1 32) = 1 then 1 else 0 : Int)) B (i7 _) hK hM 25 (by decide) rfl rfl (List.mem_cons_of_mem _ w7_fRX7_117) dX7_reads_131 ?_
              refine z_if_ne (tgt := 212) B.1 B.2.1 (zr_of (by omega) (by omega)) dX7_reads_134 (by decide) (fun c_47 => ?_) (fun c_47 => ?_)
              · --
                refine lv_goto (tgt := 46) B.1 B.2.1 dX7_reads_212 (by decide) ?_
                have hq : M_readsL  (n + 1) T = M_readsL  n ((mi (mi T 24 ((T.1 24) + 1)) 25 ((if (T.1 32) = 1 then 1 else 0 : Int)))) := by rw [M_readsL]; exact ((if_pos c_1).trans ((if_neg c_3).trans ((if_neg c_22).trans ((if_pos c_23).trans (if_neg c_47)))))
                rw [hq] at hpost
                exact ih ((mi (mi T 24 ((T.1 24) + 1)) 25 ((if (T.1 32) = 1 then 1 else 0 : Int)))) H locs ls (hE1 c_47) hM (lv_sub hl [1] rfl) hpost
              · --
                have hE3 := hE2 c_47
                refine lv_aload_n B.1 B.2.1 dX7_reads_137 rfl (lv_at hl 1 rfl) ?_
                refine m_callv (As := []) (rest := []) B hK hM (cX7_closeBody_ok' l D cy o q (mi (mi T 24 ((T.1 24) + 1)) 25 ((if (T.1 32) = 1 then 1 else 0 : Int)))  hE3.1) (cw7 0 B w7_mRX7_181 w7_im_yX7_closeBody w7_sl_yX7_closeBody w7_cd_yX7_closeBody rfl rfl (by decide +kernel) ⟨Nat.le_of_ble_eq_true rfl, Nat.le_of_ble_eq_true rfl⟩) rfl hl.1 rfl (Nat.le_of_ble_eq_true rfl) dX7_reads_138 ⟨Nat.zero_le _, Nat.zero_le _⟩ (fun S_49 H locs hp_48 hM => ?_)
                have hp_48 := hp_48.symm
                subst hp_48
                refine lv_goto (tgt := 212) B.1 B.2.1 dX7_reads_141 (by decide) ?_
                refine lv_goto (tgt := 46) B.1 B.2.1 dX7_reads_212 (by decide) ?_
                have hq : M_readsL  (n + 1) T = M_readsL  n ((M_closeBody (mi (mi T 24 ((T.1 24) + 1)) 25 ((if (T.1 32) = 1 then 1 else 0 : Int))))) := by rw [M_readsL]; exact ((if_pos c_1).trans ((if_neg c_3).trans ((if_neg c_22).trans ((if_pos c_23).trans (if_pos c_47)))))
                rw [hq] at hpost
                exact ih ((M_closeBody (mi (mi T 24 ((T.1 24) + 1)) 25 ((if (T.1 32) = 1 then 1 else 0 : Int))))) H locs ls hE3.2 hM (lv_sub hl [1] rfl) hpost
            · --
              refine z_icmp_ne (tgt := 126) B.1 B.2.1 (zr_of (by omega) (by omega)) (zr_of (by decide) (by decide)) dX7_reads_119 (by decide) (fun c_50 => ?_) (fun c_50 => ?_)
              · --
                refine z_iconst B.1 B.2.1 dX7_reads_126 ?_
                exact hJ_45 _ _ _ ⟨(if_neg c_50).symm, hM⟩
              · --
                refine z_iconst B.1 B.2.1 dX7_reads_122 ?_
                refine lv_goto (tgt := 127) B.1 B.2.1 dX7_reads_123 (by decide) ?_
                exact hJ_45 _ _ _ ⟨(if_pos c_50).symm, hM⟩
        · --
          have hE := hA1 (by omega)
          refine lv_aload_n B.1 B.2.1 dX7_reads_79 rfl (lv_at hl 1 rfl) ?_
          refine z_iconst B.1 B.2.1 dX7_reads_80 ?_
          refine m_callv (As := [.int (zI 1)]) (rest := []) B hK hM (cX7_endAlternative_ok' l D cy o q T 1 hE.1) (cw7 1 B w7_mRX7_128 w7_im_yX7_endAlternative w7_sl_yX7_endAlternative w7_cd_yX7_endAlternative rfl rfl (by decide +kernel) ⟨Nat.le_of_ble_eq_true rfl, Nat.le_of_ble_eq_true rfl⟩) rfl hl.1 rfl (Nat.le_of_ble_eq_true rfl) dX7_reads_81 ⟨Nat.zero_le _, Nat.zero_le _⟩ (fun S_52 H locs hp_51 hM => ?_)
          have hp_51 := hp_51.symm
          subst hp_51
          refine lv_aload_n B.1 B.2.1 dX7_reads_84 rfl (lv_at hl 1 rfl) ?_
          refine lv_dup B.1 B.2.1 dX7_reads_85 rfl ?_
          refine m_get (x := (M_endAlternative 1 T).1 24) B (i7 _) hK hM 24 (by decide) rfl rfl (List.mem_cons_of_mem _ w7_fRX7_139) dX7_reads_86 ?_
          refine z_iconst B.1 B.2.1 dX7_reads_89 ?_
          refine z_iadd (x := ((M_endAlternative 1 T).1 24) + 1) B.1 B.2.1 rfl dX7_reads_90 ?_
          refine m_put B (i7 _) hK hM 24 (by decide) rfl (by decide +kernel) (List.mem_cons_of_mem _ w7_fRX7_139) dX7_reads_91 (fun H locs hM => ?_)
          refine lv_goto (tgt := 212) B.1 B.2.1 dX7_reads_94 (by decide) ?_
          refine lv_goto (tgt := 46) B.1 B.2.1 dX7_reads_212 (by decide) ?_
          have hq : M_readsL  (n + 1) T = M_readsL  n ((mi (M_endAlternative 1 T) 24 (((M_endAlternative 1 T).1 24) + 1))) := by rw [M_readsL]; exact ((if_pos c_1).trans ((if_neg c_3).trans (if_pos c_22)))
          rw [hq] at hpost
          exact ih ((mi (M_endAlternative 1 T) 24 (((M_endAlternative 1 T).1 24) + 1))) H locs ls hE.2 hM (lv_sub hl [1] rfl) hpost
def M_readsOK (S : MSt) : Prop := ∃ V : Nat → MSt → Prop, (∀ n T, V n T → M_readsStep V n T) ∧ V 100 (M_openBody 0 0 (mi (mi (mi (mi (mi (mi (mi (mi S 19 0) 20 0) 21 0) 22 0) 23 0) 24 0) 25 0) 32 0))
def M_reads (S : MSt) : Int × MSt := M_readsL 100 (M_openBody 0 0 (mi (mi (mi (mi (mi (mi (mi (mi S 19 0) 20 0) 21 0) 22 0) 23 0) 24 0) 25 0) 32 0))
set_option maxHeartbeats 4000000 in
set_option maxRecDepth 100000 in
theorem cX7_reads_ok (l : Launch) (D : va_G) (cy : Nat → ClassId) (o : Nat) (q : Nat → Nat) (S : MSt) (hok : M_readsOK S) : mMi l D cy o q yX7_reads (.code yX7_reads cX7_reads 2 (some .boolean) :: TB7) ({ frames := 4, cells := 0, slots := 0, locals := 91 }) S [] (fun r S' => r = (M_reads S).1 ∧ S' = (M_reads S).2) := by
  refine m_of (cc := cX7_reads) (maxL := 2) (ret := (some .boolean)) (by decide) rfl rfl (Nat.le_of_ble_eq_true rfl) ?_
  intro p e s m args below meth c ls B hK hM hl
  have hl : lv_has ls 2 [(0, .ref o)] := hl
  refine lv_aload_n B.1 B.2.1 dX7_reads_0 rfl (lv_at hl 0 rfl) ?_
  refine z_iconst B.1 B.2.1 dX7_reads_1 ?_
  refine m_put B (i7 _) hK hM 19 (by decide) rfl (by decide +kernel) (List.mem_cons_of_mem _ w7_fRX7_114) dX7_reads_2 (fun H locs hM => ?_)
  refine lv_aload_n B.1 B.2.1 dX7_reads_5 rfl (lv_at hl 0 rfl) ?_
  refine z_iconst B.1 B.2.1 dX7_reads_6 ?_
  refine m_put B (i7 _) hK hM 20 (by decide) rfl (by decide +kernel) (List.mem_cons_of_mem _ w7_fRX7_153) dX7_reads_7 (fun H locs hM => ?_)
  refine lv_aload_n B.1 B.2.1 dX7_reads_10 rfl (lv_at hl 0 rfl) ?_
  refine z_iconst B.1 B.2.1 dX7_reads_11 ?_
  refine m_put B (i7 _) hK hM 21 (by decide) rfl (by decide +kernel) (List.mem_cons_of_mem _ w7_fRX7_150) dX7_reads_12 (fun H locs hM => ?_)
  refine lv_aload_n B.1 B.2.1 dX7_reads_15 rfl (lv_at hl 0 rfl) ?_
  refine z_iconst B.1 B.2.1 dX7_reads_16 ?_
  refine m_put B (i7 _) hK hM 22 (by decide) rfl (by decide +kernel) (List.mem_cons_of_mem _ w7_fRX7_159) dX7_reads_17 (fun H locs hM => ?_)
  refine lv_aload_n B.1 B.2.1 dX7_reads_20 rfl (lv_at hl 0 rfl) ?_
  refine z_iconst B.1 B.2.1 dX7_reads_21 ?_
  refine m_put B (i7 _) hK hM 23 (by decide) rfl (by decide +kernel) (List.mem_cons_of_mem _ w7_fRX7_172) dX7_reads_22 (fun H locs hM => ?_)
  refine lv_aload_n B.1 B.2.1 dX7_reads_25 rfl (lv_at hl 0 rfl) ?_
  refine z_iconst B.1 B.2.1 dX7_reads_26 ?_
  refine m_put B (i7 _) hK hM 24 (by decide) rfl (by decide +kernel) (List.mem_cons_of_mem _ w7_fRX7_139) dX7_reads_27 (fun H locs hM => ?_)
  refine lv_aload_n B.1 B.2.1 dX7_reads_30 rfl (lv_at hl 0 rfl) ?_
  refine z_iconst B.1 B.2.1 dX7_reads_31 ?_
  refine m_putz B (i7 _) hK hM 25 (by decide) rfl (by decide) (by decide +kernel) (List.mem_cons_of_mem _ w7_fRX7_117) dX7_reads_32 (fun H locs hM => ?_)
  refine lv_aload_n B.1 B.2.1 dX7_reads_35 rfl (lv_at hl 0 rfl) ?_
  refine z_iconst B.1 B.2.1 dX7_reads_36 ?_
  refine m_put B (i7 _) hK hM 32 (by decide) rfl (by decide +kernel) (List.mem_cons_of_mem _ w7_fRX7_121) dX7_reads_37 (fun H locs hM => ?_)
  refine lv_aload_n B.1 B.2.1 dX7_reads_40 rfl (lv_at hl 0 rfl) ?_
  refine z_iconst B.1 B.2.1 dX7_reads_41 ?_
  refine z_iconst B.1 B.2.1 dX7_reads_42 ?_
  refine m_callv (As := [.int (zI 0), .int (zI 0)]) (rest := []) B hK hM (cX7_openBody_ok l D cy o q (mi (mi (mi (mi (mi (mi (mi (mi S 19 0) 20 0) 21 0) 22 0) 23 0) 24 0) 25 0) 32 0) 0 0 (by show 0 ≤ 0; omega) (by show 0 ≤ 1; omega) (by show 0 ≤ 0; omega) (by show 0 ≤ 200; omega) (by show 0 ≤ 0; omega) (by show 0 ≤ 43; omega)) (cw7 2 B w7_mRX7_156 w7_im_yX7_openBody w7_sl_yX7_openBody w7_cd_yX7_openBody rfl rfl (by decide +kernel) ⟨Nat.le_of_ble_eq_true rfl, Nat.le_of_ble_eq_true rfl⟩) rfl hl.1 rfl (Nat.le_of_ble_eq_true rfl) dX7_reads_43 ⟨Nat.zero_le _, Nat.zero_le _⟩ (fun S_2 H locs hp_1 hM => ?_)
  have hp_1 := hp_1.symm
  subst hp_1
  obtain ⟨V, hV, hv⟩ := hok
  exact lp7_reads l D cy o q V hV B hK _ 100 (M_openBody 0 0 (mi (mi (mi (mi (mi (mi (mi (mi S 19 0) 20 0) 21 0) 22 0) 23 0) 24 0) 25 0) 32 0)) _ _ ls hv hM (lv_sub hl [0] rfl) ⟨rfl, rfl⟩
