theorem M_set_24 {S : MSt} (hs : ∀ j, 0 ≤ S.2 13 j ∧ S.2 13 j ≤ 126) (hn1 : S.1 14 ≤ 40) (ha0 : 0 ≤ S.1 24) (ha1 : S.1 24 ≤ 41) : 0 ≤ (M_set S).1 24 ∧ (M_set S).1 24 ≤ 47 := by
  have h1 : ((if (M_sign S ((S.1 24) + 1)) = 94 then 1 else 0 : Int)) = 0 ∨ ((if (M_sign S ((S.1 24) + 1)) = 94 then 1 else 0 : Int)) = 1 := by split <;> simp
  have h2 : (if ((if (M_sign S ((S.1 24) + 1)) = 94 then 1 else 0 : Int)) = 0 then 0 else 1 : Int) = 0 ∨ (if ((if (M_sign S ((S.1 24) + 1)) = 94 then 1 else 0 : Int)) = 0 then 0 else 1 : Int) = 1 := by split <;> simp
  refine M_setL_24 _ _ 60 1 _ hs hn1 ?_ ?_ (fun _ => ?_)
  · show 0 ≤ (((S.1 24) + 1) + ((if ((if (M_sign S ((S.1 24) + 1)) = 94 then 1 else 0 : Int)) = 0 then 0 else 1 : Int)))
    omega
  · show (((S.1 24) + 1) + ((if ((if (M_sign S ((S.1 24) + 1)) = 94 then 1 else 0 : Int)) = 0 then 0 else 1 : Int))) ≤ 46
    omega
  · show (((S.1 24) + 1) + ((if ((if (M_sign S ((S.1 24) + 1)) = 94 then 1 else 0 : Int)) = 0 then 0 else 1 : Int))) ≤ 43
    omega
theorem M_escaped_i {j : Nat} (h4 : j ≠ 24) (h5 : j ≠ 25) (h9 : j ≠ 19) (h3 : j ≠ 23) (S : MSt) : (M_escaped S).1 j = S.1 j := by
  unfold M_escaped
  (repeat' split) <;> simp only [M_emit, mi_ne h4, mi_ne h5, mi_ne h9, mi_ne h3, ma_1]
theorem M_escaped_a {j : Nat} (h1 : j ≠ 15) (h2 : j ≠ 16) (h3 : j ≠ 17) (h4 : j ≠ 18) (S : MSt) : (M_escaped S).2 j = S.2 j := by
  unfold M_escaped
  (repeat' split) <;> simp only [M_emit, mi_2, ma_ne h1, ma_ne h2, ma_ne h3, ma_ne h4]
theorem M_escaped_19 (S : MSt) : (M_escaped S).1 19 = S.1 19 + 1 := by
  unfold M_escaped
  (repeat' split) <;> rfl
theorem M_escaped_24 (S : MSt) : (M_escaped S).1 24 = S.1 24 + 2 := by
  unfold M_escaped
  (repeat' split) <;> rfl
theorem M_escaped_25 {S : MSt} (h : S.1 25 = 0 ∨ S.1 25 = 1) : (M_escaped S).1 25 = 0 ∨ (M_escaped S).1 25 = 1 := by
  unfold M_escaped
  (repeat' (first | exact h | exact Or.inl rfl | exact Or.inr rfl | split))
theorem M_escaped_i0 (S : MSt) : (M_escaped S).1 0 = S.1 0 := M_escaped_i (by decide) (by decide) (by decide) (by decide) S
theorem M_escaped_a1 (S : MSt) : (M_escaped S).2 1 = S.2 1 := M_escaped_a (by decide) (by decide) (by decide) (by decide) S
theorem M_escaped_i2 (S : MSt) : (M_escaped S).1 2 = S.1 2 := M_escaped_i (by decide) (by decide) (by decide) (by decide) S
theorem M_escaped_a3 (S : MSt) : (M_escaped S).2 3 = S.2 3 := M_escaped_a (by decide) (by decide) (by decide) (by decide) S
theorem M_escaped_i4 (S : MSt) : (M_escaped S).1 4 = S.1 4 := M_escaped_i (by decide) (by decide) (by decide) (by decide) S
theorem M_escaped_i5 (S : MSt) : (M_escaped S).1 5 = S.1 5 := M_escaped_i (by decide) (by decide) (by decide) (by decide) S
theorem M_escaped_i6 (S : MSt) : (M_escaped S).1 6 = S.1 6 := M_escaped_i (by decide) (by decide) (by decide) (by decide) S
theorem M_escaped_a7 (S : MSt) : (M_escaped S).2 7 = S.2 7 := M_escaped_a (by decide) (by decide) (by decide) (by decide) S
theorem M_escaped_a8 (S : MSt) : (M_escaped S).2 8 = S.2 8 := M_escaped_a (by decide) (by decide) (by decide) (by decide) S
theorem M_escaped_a9 (S : MSt) : (M_escaped S).2 9 = S.2 9 := M_escaped_a (by decide) (by decide) (by decide) (by decide) S
theorem M_escaped_a10 (S : MSt) : (M_escaped S).2 10 = S.2 10 := M_escaped_a (by decide) (by decide) (by decide) (by decide) S
theorem M_escaped_a11 (S : MSt) : (M_escaped S).2 11 = S.2 11 := M_escaped_a (by decide) (by decide) (by decide) (by decide) S
theorem M_escaped_i12 (S : MSt) : (M_escaped S).1 12 = S.1 12 := M_escaped_i (by decide) (by decide) (by decide) (by decide) S
theorem M_escaped_a13 (S : MSt) : (M_escaped S).2 13 = S.2 13 := M_escaped_a (by decide) (by decide) (by decide) (by decide) S
theorem M_escaped_i14 (S : MSt) : (M_escaped S).1 14 = S.1 14 := M_escaped_i (by decide) (by decide) (by decide) (by decide) S
theorem M_escaped_i20 (S : MSt) : (M_escaped S).1 20 = S.1 20 := M_escaped_i (by decide) (by decide) (by decide) (by decide) S
theorem M_escaped_i21 (S : MSt) : (M_escaped S).1 21 = S.1 21 := M_escaped_i (by decide) (by decide) (by decide) (by decide) S
theorem M_escaped_i22 (S : MSt) : (M_escaped S).1 22 = S.1 22 := M_escaped_i (by decide) (by decide) (by decide) (by decide) S
theorem M_escaped_a26 (S : MSt) : (M_escaped S).2 26 = S.2 26 := M_escaped_a (by decide) (by decide) (by decide) (by decide) S
theorem M_escaped_a27 (S : MSt) : (M_escaped S).2 27 = S.2 27 := M_escaped_a (by decide) (by decide) (by decide) (by decide) S
theorem M_escaped_a28 (S : MSt) : (M_escaped S).2 28 = S.2 28 := M_escaped_a (by decide) (by decide) (by decide) (by decide) S
theorem M_escaped_a29 (S : MSt) : (M_escaped S).2 29 = S.2 29 := M_escaped_a (by decide) (by decide) (by decide) (by decide) S
theorem M_escaped_a30 (S : MSt) : (M_escaped S).2 30 = S.2 30 := M_escaped_a (by decide) (by decide) (by decide) (by decide) S
theorem M_escaped_a31 (S : MSt) : (M_escaped S).2 31 = S.2 31 := M_escaped_a (by decide) (by decide) (by decide) (by decide) S
theorem M_escaped_i32 (S : MSt) : (M_escaped S).1 32 = S.1 32 := M_escaped_i (by decide) (by decide) (by decide) (by decide) S
theorem M_escaped_a33 (S : MSt) : (M_escaped S).2 33 = S.2 33 := M_escaped_a (by decide) (by decide) (by decide) (by decide) S
theorem M_escaped_a34 (S : MSt) : (M_escaped S).2 34 = S.2 34 := M_escaped_a (by decide) (by decide) (by decide) (by decide) S
theorem M_escaped_i35 (S : MSt) : (M_escaped S).1 35 = S.1 35 := M_escaped_i (by decide) (by decide) (by decide) (by decide) S
theorem M_escaped_a36 (S : MSt) : (M_escaped S).2 36 = S.2 36 := M_escaped_a (by decide) (by decide) (by decide) (by decide) S
theorem M_escaped_i37 (S : MSt) : (M_escaped S).1 37 = S.1 37 := M_escaped_i (by decide) (by decide) (by decide) (by decide) S
theorem M_escaped_i38 (S : MSt) : (M_escaped S).1 38 = S.1 38 := M_escaped_i (by decide) (by decide) (by decide) (by decide) S
theorem M_escaped_i39 (S : MSt) : (M_escaped S).1 39 = S.1 39 := M_escaped_i (by decide) (by decide) (by decide) (by decide) S
theorem M_escaped_i40 (S : MSt) : (M_escaped S).1 40 = S.1 40 := M_escaped_i (by decide) (by decide) (by decide) (by decide) S
theorem M_escaped_i41 (S : MSt) : (M_escaped S).1 41 = S.1 41 := M_escaped_i (by decide) (by decide) (by decide) (by decide) S
theorem M_escaped_i42 (S : MSt) : (M_escaped S).1 42 = S.1 42 := M_escaped_i (by decide) (by decide) (by decide) (by decide) S
theorem M_escaped_a43 (S : MSt) : (M_escaped S).2 43 = S.2 43 := M_escaped_a (by decide) (by decide) (by decide) (by decide) S
theorem M_escaped_a44 (S : MSt) : (M_escaped S).2 44 = S.2 44 := M_escaped_a (by decide) (by decide) (by decide) (by decide) S
theorem M_escaped_i45 (S : MSt) : (M_escaped S).1 45 = S.1 45 := M_escaped_i (by decide) (by decide) (by decide) (by decide) S
theorem M_escaped_a46 (S : MSt) : (M_escaped S).2 46 = S.2 46 := M_escaped_a (by decide) (by decide) (by decide) (by decide) S
theorem M_escaped_i47 (S : MSt) : (M_escaped S).1 47 = S.1 47 := M_escaped_i (by decide) (by decide) (by decide) (by decide) S
theorem M_escaped_a48 (S : MSt) : (M_escaped S).2 48 = S.2 48 := M_escaped_a (by decide) (by decide) (by decide) (by decide) S
theorem M_escaped_i49 (S : MSt) : (M_escaped S).1 49 = S.1 49 := M_escaped_i (by decide) (by decide) (by decide) (by decide) S
def M_atom (S : MSt) : MSt := (if (M_sign S (S.1 24)) = 91 then (if ((M_set (M_emit 17 0 (S.1 20) 0 S)).1 25) = 0 then (M_count (S.1 19) 1 (M_set (M_emit 17 0 (S.1 20) 0 S))) else (M_set (M_emit 17 0 (S.1 20) 0 S))) else (if (M_sign S (S.1 24)) = 92 then (if ((M_escaped (M_emit 17 0 (S.1 20) 0 S)).1 25) = 0 then (M_count (S.1 19) 1 (M_escaped (M_emit 17 0 (S.1 20) 0 S))) else (M_escaped (M_emit 17 0 (S.1 20) 0 S))) else (if (M_sign S (S.1 24)) = 46 then (if (S.1 25) = 0 then (M_count (S.1 19) 1 (mi (M_emit 4 0 0 0 (M_emit 17 0 (S.1 20) 0 S)) 24 ((S.1 24) + 1))) else (mi (M_emit 4 0 0 0 (M_emit 17 0 (S.1 20) 0 S)) 24 ((S.1 24) + 1))) else (if ((if (S.1 25) = 0 then (if (zb (M_isSpecial (M_sign S (S.1 24)))) = 0 then 0 else 1 : Int) else 1 : Int)) = 0 then (M_count (S.1 19) 1 (mi (M_emit 3 (M_sign S (S.1 24)) 0 0 (mi (M_emit 17 0 (S.1 20) 0 S) 25 ((if (S.1 25) = 0 then (if (zb (M_isSpecial (M_sign S (S.1 24)))) = 0 then 0 else 1 : Int) else 1 : Int)))) 24 ((S.1 24) + 1))) else (mi (M_emit 3 (M_sign S (S.1 24)) 0 0 (mi (M_emit 17 0 (S.1 20) 0 S) 25 ((if (S.1 25) = 0 then (if (zb (M_isSpecial (M_sign S (S.1 24)))) = 0 then 0 else 1 : Int) else 1 : Int)))) 24 ((S.1 24) + 1))))))
set_option maxHeartbeats 4000000 in
set_option maxRecDepth 100000 in
theorem cX7_atom_ok (l : Launch) (D : va_G) (cy : Nat → ClassId) (o : Nat) (q : Nat → Nat) (S : MSt) (hb0 : 0 ≤ S.1 25) (hb1 : S.1 25 ≤ 1) (hc0 : 0 ≤ S.1 19) (hc1 : S.1 19 ≤ 190) (hs : ∀ j, 0 ≤ S.2 13 j ∧ S.2 13 j ≤ 126) (hn0 : 0 ≤ S.1 14) (hn1 : S.1 14 ≤ 40) (ha0 : 0 ≤ S.1 24) (ha1 : S.1 24 ≤ 41) (hd1 : 1 ≤ S.1 32) (hd2 : S.1 32 ≤ 43) (hg0 : 0 ≤ S.1 23) (hg1 : S.1 23 ≤ 100) : mMv l D cy o q yX7_atom (.code yX7_atom cX7_atom 3 none :: TB7) ({ frames := 3, cells := 0, slots := 0, locals := 69 }) S [] (fun S' => S' = M_atom S) := by
  refine m_of (cc := cX7_atom) (maxL := 3) (ret := none) (by decide) rfl rfl (Nat.le_of_ble_eq_true rfl) ?_
  intro p e s m args below meth c ls B hK hM hl
  have hl : lv_has ls 3 [(0, .ref o)] := hl
  refine lv_aload_n B.1 B.2.1 dX7_atom_0 rfl (lv_at hl 0 rfl) ?_
  refine z_bipush B.1 B.2.1 (by decide) dX7_atom_1 ?_
  refine z_iconst B.1 B.2.1 dX7_atom_3 ?_
  refine lv_aload_n B.1 B.2.1 dX7_atom_4 rfl (lv_at hl 0 rfl) ?_
  refine m_get (x := S.1 20) B (i7 _) hK hM 20 (by decide) rfl rfl (List.mem_cons_of_mem _ w7_fRX7_153) dX7_atom_5 ?_
  refine z_iconst B.1 B.2.1 dX7_atom_8 ?_
  refine m_calli (As := [.int (zI 17), .int (zI 0), .int (zI (S.1 20)), .int (zI 0)]) (rest := []) B hK hM (cX7_emit_ok l D cy o q S 17 0 (S.1 20) 0 (by show 0 ≤ (S.1 19); omega) (by show (S.1 19) < 220; omega)) (cw7 4 B w7_mRX7_124 w7_im_yX7_emit w7_sl_yX7_emit w7_cd_yX7_emit rfl rfl (by decide +kernel) ⟨Nat.le_of_ble_eq_true rfl, Nat.le_of_ble_eq_true rfl⟩) rfl hl.1 rfl (Nat.le_of_ble_eq_true rfl) dX7_atom_9 ⟨Nat.zero_le _, Nat.zero_le _⟩ (fun z_3 S_2 H locs hp_1 hM => ?_)
  obtain ⟨hp_1, he_hp_1⟩ := hp_1
  have he_hp_1 := he_hp_1.symm
  subst he_hp_1
  have hp_1 : S.1 19 = z_3 := hp_1.symm
  subst hp_1
  refine lv_istore_n (lv' := [(1, .int (zI (S.1 19))), (0, .ref o)]) B.1 B.2.1 dX7_atom_12 rfl hl (by decide) rfl (fun ls hl => ?_)
  refine lv_aload_n B.1 B.2.1 dX7_atom_13 rfl (lv_at hl 1 rfl) ?_
  refine lv_aload_n B.1 B.2.1 dX7_atom_14 rfl (lv_at hl 1 rfl) ?_
  refine m_get (x := S.1 24) B (i7 _) hK hM 24 (by decide) rfl rfl (List.mem_cons_of_mem _ w7_fRX7_139) dX7_atom_15 ?_
  refine m_calli (As := [.int (zI (S.1 24))]) (rest := []) B hK hM (cX7_sign_ok l D cy o q (M_emit 17 0 (S.1 20) 0 S) (S.1 24) (by show 0 ≤ (S.1 24); omega) (by show (S.1 24) ≤ 100000; omega) (by show 0 ≤ (S.1 14); omega) (by show (S.1 14) ≤ 40; omega)) (cw7 1 B w7_mRX7_142 w7_im_yX7_sign w7_sl_yX7_sign w7_cd_yX7_sign rfl rfl (by decide +kernel) ⟨Nat.le_of_ble_eq_true rfl, Nat.le_of_ble_eq_true rfl⟩) rfl hl.1 rfl (Nat.le_of_ble_eq_true rfl) dX7_atom_18 ⟨Nat.zero_le _, Nat.zero_le _⟩ (fun z_6 S_5 H locs hp_4 hM => ?_)
  obtain ⟨hp_4, he_hp_4⟩ := hp_4
  have he_hp_4 := he_hp_4.symm
  subst he_hp_4
  have hp_4 : M_sign S (S.1 24) = z_6 := hp_4.symm
  subst hp_4
  have f_7 := M_sign_bd S hs (S.1 24)
  refine lv_istore_n (lv' := [(2, .int (zI (M_sign S (S.1 24)))), (1, .int (zI (S.1 19))), (0, .ref o)]) B.1 B.2.1 dX7_atom_21 rfl hl (by decide) rfl (fun ls hl => ?_)
  refine lv_iload_n B.1 B.2.1 dX7_atom_22 rfl (lv_at hl 0 rfl) ?_
  refine z_bipush B.1 B.2.1 (by decide) dX7_atom_23 ?_
  refine z_icmp_ne (tgt := 35) B.1 B.2.1 (zr_of (by omega) (by omega)) (zr_of (by decide) (by decide)) dX7_atom_25 (by decide) (fun c_8 => ?_) (fun c_8 => ?_)
  · --
    refine lv_iload_n B.1 B.2.1 dX7_atom_35 rfl (lv_at hl 0 rfl) ?_
    refine z_bipush B.1 B.2.1 (by decide) dX7_atom_36 ?_
    refine z_icmp_ne (tgt := 48) B.1 B.2.1 (zr_of (by omega) (by omega)) (zr_of (by decide) (by decide)) dX7_atom_38 (by decide) (fun c_9 => ?_) (fun c_9 => ?_)
    · --
      refine lv_iload_n B.1 B.2.1 dX7_atom_48 rfl (lv_at hl 0 rfl) ?_
      refine z_bipush B.1 B.2.1 (by decide) dX7_atom_49 ?_
      refine z_icmp_ne (tgt := 76) B.1 B.2.1 (zr_of (by omega) (by omega)) (zr_of (by decide) (by decide)) dX7_atom_51 (by decide) (fun c_10 => ?_) (fun c_10 => ?_)
      · --
        refine lv_aload_n B.1 B.2.1 dX7_atom_76 rfl (lv_at hl 2 rfl) ?_
        refine lv_aload_n B.1 B.2.1 dX7_atom_77 rfl (lv_at hl 2 rfl) ?_
        refine m_get (x := S.1 25) B (i7 _) hK hM 25 (by decide) rfl rfl (List.mem_cons_of_mem _ w7_fRX7_117) dX7_atom_78 ?_
        refine z_joinH (P := fun v H' locs' => v = (if (S.1 25) = 0 then (if (zb (M_isSpecial (M_sign S (S.1 24)))) = 0 then 0 else 1 : Int) else 1 : Int) ∧ mH D cy o q (mA o q) s.heap (M_emit 17 0 (S.1 20) 0 S) H' locs') (pcJ := 96) (lsJ := ls) (stJ := [.ref o]) (fun v_11 H locs hv_12 => ?_) (fun hJ_13 => ?_)
        · --
          obtain ⟨hv_12, hM⟩ := hv_12
          have hb_14 : (if (S.1 25) = 0 then (if (zb (M_isSpecial (M_sign S (S.1 24)))) = 0 then 0 else 1 : Int) else 1 : Int) = 0 ∨ (if (S.1 25) = 0 then (if (zb (M_isSpecial (M_sign S (S.1 24)))) = 0 then 0 else 1 : Int) else 1 : Int) = 1 := by (repeat' split) <;> simp
          have hv_12 := hv_12.symm
          subst hv_12
          refine m_putz B (i7 _) hK hM 25 (by decide) rfl (by omega) (by decide +kernel) (List.mem_cons_of_mem _ w7_fRX7_117) dX7_atom_96 (fun H locs hM => ?_)
          refine lv_aload_n B.1 B.2.1 dX7_atom_99 rfl (lv_at hl 2 rfl) ?_
          refine z_iconst B.1 B.2.1 dX7_atom_100 ?_
          refine lv_iload_n B.1 B.2.1 dX7_atom_101 rfl (lv_at hl 0 rfl) ?_
          refine z_iconst B.1 B.2.1 dX7_atom_102 ?_
          refine z_iconst B.1 B.2.1 dX7_atom_103 ?_
          refine m_calli (As := [.int (zI 3), .int (zI (M_sign S (S.1 24))), .int (zI 0), .int (zI 0)]) (rest := []) B hK hM (cX7_emit_ok l D cy o q (mi (M_emit 17 0 (S.1 20) 0 S) 25 ((if (S.1 25) = 0 then (if (zb (M_isSpecial (M_sign S (S.1 24)))) = 0 then 0 else 1 : Int) else 1 : Int))) 3 (M_sign S (S.1 24)) 0 0 (by show 0 ≤ ((S.1 19) + 1); omega) (by show ((S.1 19) + 1) < 220; omega)) (cw7 4 B w7_mRX7_124 w7_im_yX7_emit w7_sl_yX7_emit w7_cd_yX7_emit rfl rfl (by decide +kernel) ⟨Nat.le_of_ble_eq_true rfl, Nat.le_of_ble_eq_true rfl⟩) rfl hl.1 rfl (Nat.le_of_ble_eq_true rfl) dX7_atom_104 ⟨Nat.zero_le _, Nat.zero_le _⟩ (fun z_17 S_16 H locs hp_15 hM => ?_)
          obtain ⟨hp_15, he_hp_15⟩ := hp_15
          have he_hp_15 := he_hp_15.symm
          subst he_hp_15
          have hp_15 : (S.1 19) + 1 = z_17 := hp_15.symm
          subst hp_15
          refine lv_pop B.1 B.2.1 dX7_atom_107 rfl ?_
          refine lv_aload_n B.1 B.2.1 dX7_atom_108 rfl (lv_at hl 2 rfl) ?_
          refine lv_dup B.1 B.2.1 dX7_atom_109 rfl ?_
          refine m_get (x := S.1 24) B (i7 _) hK hM 24 (by decide) rfl rfl (List.mem_cons_of_mem _ w7_fRX7_139) dX7_atom_110 ?_
          refine z_iconst B.1 B.2.1 dX7_atom_113 ?_
          refine z_iadd (x := (S.1 24) + 1) B.1 B.2.1 rfl dX7_atom_114 ?_
          refine m_put B (i7 _) hK hM 24 (by decide) rfl (by decide +kernel) (List.mem_cons_of_mem _ w7_fRX7_139) dX7_atom_115 (fun H locs hM => ?_)
          refine lv_aload_n B.1 B.2.1 dX7_atom_118 rfl (lv_at hl 2 rfl) ?_
          refine m_get (x := (if (S.1 25) = 0 then (if (zb (M_isSpecial (M_sign S (S.1 24)))) = 0 then 0 else 1 : Int) else 1 : Int)) B (i7 _) hK hM 25 (by decide) rfl rfl (List.mem_cons_of_mem _ w7_fRX7_117) dX7_atom_119 ?_
          refine z_if_ne (tgt := 131) B.1 B.2.1 (zr_of (by omega) (by omega)) dX7_atom_122 (by decide) (fun c_18 => ?_) (fun c_18 => ?_)
          · --
            exact m_retv B hM (by unfold M_atom; exact ((if_neg c_8).trans ((if_neg c_9).trans ((if_neg c_10).trans (if_neg c_18)))).symm) dX7_atom_131
          · --
            refine lv_aload_n B.1 B.2.1 dX7_atom_125 rfl (lv_at hl 2 rfl) ?_
            refine lv_iload_n B.1 B.2.1 dX7_atom_126 rfl (lv_at hl 1 rfl) ?_
            refine z_iconst B.1 B.2.1 dX7_atom_127 ?_
            refine m_callv (As := [.int (zI (S.1 19)), .int (zI 1)]) (rest := []) B hK hM (cX7_count_ok l D cy o q (mi (M_emit 3 (M_sign S (S.1 24)) 0 0 (mi (M_emit 17 0 (S.1 20) 0 S) 25 ((if (S.1 25) = 0 then (if (zb (M_isSpecial (M_sign S (S.1 24)))) = 0 then 0 else 1 : Int) else 1 : Int)))) 24 ((S.1 24) + 1)) (S.1 19) 1 (by show 0 ≤ ((if (S.1 25) = 0 then (if (zb (M_isSpecial (M_sign S (S.1 24)))) = 0 then 0 else 1 : Int) else 1 : Int)); omega) (by show ((if (S.1 25) = 0 then (if (zb (M_isSpecial (M_sign S (S.1 24)))) = 0 then 0 else 1 : Int) else 1 : Int)) ≤ 1; omega) (by show 0 ≤ (((S.1 19) + 1) + 1); omega) (by show (((S.1 19) + 1) + 1) ≤ 200; omega) (by (try simp only [mi_2, M_emit, ma_ne (show (13 : Nat) ≠ 18 by decide), ma_ne (show (13 : Nat) ≠ 17 by decide), ma_ne (show (13 : Nat) ≠ 16 by decide), ma_ne (show (13 : Nat) ≠ 15 by decide)]); exact hs) (by show 0 ≤ (S.1 14); omega) (by show (S.1 14) ≤ 40; omega) (by show 0 ≤ ((S.1 24) + 1); omega) (by show ((S.1 24) + 1) ≤ 1000; omega) (by show 1 ≤ (S.1 32); omega) (by show (S.1 32) ≤ 43; omega) (by show 0 ≤ (S.1 19); omega) (by show (S.1 19) < 220; omega) (by show 0 ≤ 1; omega) (by show 1 ≤ 1000000000000000; omega)) (cw7 2 B w7_mRX7_135 w7_im_yX7_count w7_sl_yX7_count w7_cd_yX7_count rfl rfl (by decide +kernel) ⟨Nat.le_of_ble_eq_true rfl, Nat.le_of_ble_eq_true rfl⟩) rfl hl.1 rfl (Nat.le_of_ble_eq_true rfl) dX7_atom_128 ⟨Nat.zero_le _, Nat.zero_le _⟩ (fun S_20 H locs hp_19 hM => ?_)
            have hp_19 := hp_19.symm
            subst hp_19
            exact m_retv B hM (by unfold M_atom; exact ((if_neg c_8).trans ((if_neg c_9).trans ((if_neg c_10).trans (if_pos c_18)))).symm) dX7_atom_131
        · --
          refine z_if_ne (tgt := 91) B.1 B.2.1 (zr_of (by omega) (by omega)) dX7_atom_81 (by decide) (fun c_21 => ?_) (fun c_21 => ?_)
          · --
            refine z_iconst B.1 B.2.1 dX7_atom_91 ?_
            refine lv_goto (tgt := 96) B.1 B.2.1 dX7_atom_92 (by decide) ?_
            exact hJ_13 _ _ _ ⟨(if_neg c_21).symm, hM⟩
          · --
            refine lv_iload_n B.1 B.2.1 dX7_atom_84 rfl (lv_at hl 0 rfl) ?_
            refine s_calli (As := [.int (zI (M_sign S (S.1 24)))]) (rest := [.ref o]) B (cX7_isSpecial_ok l (M_sign S (S.1 24)) (by show -100000 ≤ (M_sign S (S.1 24)); omega) (by show (M_sign S (S.1 24)) ≤ 100000; omega)) (cs7 1 B rfl w7_mRX7_162 w7_st_yX7_isSpecial w7_cd_yX7_isSpecial rfl rfl (by decide +kernel) ⟨Nat.le_of_ble_eq_true rfl, Nat.le_of_ble_eq_true rfl⟩) rfl hl.1 rfl (Nat.le_of_ble_eq_true rfl) dX7_atom_85 ⟨Nat.zero_le _, Nat.zero_le _⟩ (fun z_22 hz_23 => ?_)
            have hz_23 := hz_23.symm
            subst hz_23
            have f_24 := zb_01 (M_isSpecial (M_sign S (S.1 24)))
            refine z_if_eq (tgt := 95) B.1 B.2.1 (zr_of (by omega) (by omega)) dX7_atom_88 (by decide) (fun c_25 => ?_) (fun c_25 => ?_)
            · --
              refine z_iconst B.1 B.2.1 dX7_atom_95 ?_
              exact hJ_13 _ _ _ ⟨((if_pos c_21).trans (if_pos c_25)).symm, hM⟩
            · --
              refine z_iconst B.1 B.2.1 dX7_atom_91 ?_
              refine lv_goto (tgt := 96) B.1 B.2.1 dX7_atom_92 (by decide) ?_
              exact hJ_13 _ _ _ ⟨((if_pos c_21).trans (if_neg c_25)).symm, hM⟩
      · --
        refine lv_aload_n B.1 B.2.1 dX7_atom_54 rfl (lv_at hl 2 rfl) ?_
        refine z_iconst B.1 B.2.1 dX7_atom_55 ?_
        refine z_iconst B.1 B.2.1 dX7_atom_56 ?_
        refine z_iconst B.1 B.2.1 dX7_atom_57 ?_
        refine z_iconst B.1 B.2.1 dX7_atom_58 ?_
        refine m_calli (As := [.int (zI 4), .int (zI 0), .int (zI 0), .int (zI 0)]) (rest := []) B hK hM (cX7_emit_ok l D cy o q (M_emit 17 0 (S.1 20) 0 S) 4 0 0 0 (by show 0 ≤ ((S.1 19) + 1); omega) (by show ((S.1 19) + 1) < 220; omega)) (cw7 4 B w7_mRX7_124 w7_im_yX7_emit w7_sl_yX7_emit w7_cd_yX7_emit rfl rfl (by decide +kernel) ⟨Nat.le_of_ble_eq_true rfl, Nat.le_of_ble_eq_true rfl⟩) rfl hl.1 rfl (Nat.le_of_ble_eq_true rfl) dX7_atom_59 ⟨Nat.zero_le _, Nat.zero_le _⟩ (fun z_28 S_27 H locs hp_26 hM => ?_)
        obtain ⟨hp_26, he_hp_26⟩ := hp_26
        have he_hp_26 := he_hp_26.symm
        subst he_hp_26
        have hp_26 : (S.1 19) + 1 = z_28 := hp_26.symm
        subst hp_26
        refine lv_pop B.1 B.2.1 dX7_atom_62 rfl ?_
        refine lv_aload_n B.1 B.2.1 dX7_atom_63 rfl (lv_at hl 2 rfl) ?_
        refine lv_dup B.1 B.2.1 dX7_atom_64 rfl ?_
        refine m_get (x := S.1 24) B (i7 _) hK hM 24 (by decide) rfl rfl (List.mem_cons_of_mem _ w7_fRX7_139) dX7_atom_65 ?_
        refine z_iconst B.1 B.2.1 dX7_atom_68 ?_
        refine z_iadd (x := (S.1 24) + 1) B.1 B.2.1 rfl dX7_atom_69 ?_
        refine m_put B (i7 _) hK hM 24 (by decide) rfl (by decide +kernel) (List.mem_cons_of_mem _ w7_fRX7_139) dX7_atom_70 (fun H locs hM => ?_)
        refine lv_goto (tgt := 118) B.1 B.2.1 dX7_atom_73 (by decide) ?_
        refine lv_aload_n B.1 B.2.1 dX7_atom_118 rfl (lv_at hl 2 rfl) ?_
        refine m_get (x := S.1 25) B (i7 _) hK hM 25 (by decide) rfl rfl (List.mem_cons_of_mem _ w7_fRX7_117) dX7_atom_119 ?_
        refine z_if_ne (tgt := 131) B.1 B.2.1 (zr_of (by omega) (by omega)) dX7_atom_122 (by decide) (fun c_29 => ?_) (fun c_29 => ?_)
        · --
          exact m_retv B hM (by unfold M_atom; exact ((if_neg c_8).trans ((if_neg c_9).trans ((if_pos c_10).trans (if_neg c_29)))).symm) dX7_atom_131
        · --
          refine lv_aload_n B.1 B.2.1 dX7_atom_125 rfl (lv_at hl 2 rfl) ?_
          refine lv_iload_n B.1 B.2.1 dX7_atom_126 rfl (lv_at hl 1 rfl) ?_
          refine z_iconst B.1 B.2.1 dX7_atom_127 ?_
          refine m_callv (As := [.int (zI (S.1 19)), .int (zI 1)]) (rest := []) B hK hM (cX7_count_ok l D cy o q (mi (M_emit 4 0 0 0 (M_emit 17 0 (S.1 20) 0 S)) 24 ((S.1 24) + 1)) (S.1 19) 1 (by show 0 ≤ (S.1 25); omega) (by show (S.1 25) ≤ 1; omega) (by show 0 ≤ (((S.1 19) + 1) + 1); omega) (by show (((S.1 19) + 1) + 1) ≤ 200; omega) (by (try simp only [mi_2, M_emit, ma_ne (show (13 : Nat) ≠ 18 by decide), ma_ne (show (13 : Nat) ≠ 17 by decide), ma_ne (show (13 : Nat) ≠ 16 by decide), ma_ne (show (13 : Nat) ≠ 15 by decide)]); exact hs) (by show 0 ≤ (S.1 14); omega) (by show (S.1 14) ≤ 40; omega) (by show 0 ≤ ((S.1 24) + 1); omega) (by show ((S.1 24) + 1) ≤ 1000; omega) (by show 1 ≤ (S.1 32); omega) (by show (S.1 32) ≤ 43; omega) (by show 0 ≤ (S.1 19); omega) (by show (S.1 19) < 220; omega) (by show 0 ≤ 1; omega) (by show 1 ≤ 1000000000000000; omega)) (cw7 2 B w7_mRX7_135 w7_im_yX7_count w7_sl_yX7_count w7_cd_yX7_count rfl rfl (by decide +kernel) ⟨Nat.le_of_ble_eq_true rfl, Nat.le_of_ble_eq_true rfl⟩) rfl hl.1 rfl (Nat.le_of_ble_eq_true rfl) dX7_atom_128 ⟨Nat.zero_le _, Nat.zero_le _⟩ (fun S_31 H locs hp_30 hM => ?_)
          have hp_30 := hp_30.symm
          subst hp_30
          exact m_retv B hM (by unfold M_atom; exact ((if_neg c_8).trans ((if_neg c_9).trans ((if_pos c_10).trans (if_pos c_29)))).symm) dX7_atom_131
    · --
      refine lv_aload_n B.1 B.2.1 dX7_atom_41 rfl (lv_at hl 2 rfl) ?_
      refine m_callv (As := []) (rest := []) B hK hM (cX7_escaped_ok l D cy o q (M_emit 17 0 (S.1 20) 0 S)  (by show 0 ≤ (S.1 25); omega) (by show (S.1 25) ≤ 1; omega) (by show 0 ≤ ((S.1 19) + 1); omega) (by show ((S.1 19) + 1) ≤ 200; omega) (by (try simp only [M_emit, mi_2, ma_ne (show (13 : Nat) ≠ 18 by decide), ma_ne (show (13 : Nat) ≠ 17 by decide), ma_ne (show (13 : Nat) ≠ 16 by decide), ma_ne (show (13 : Nat) ≠ 15 by decide)]); exact hs) (by show 0 ≤ (S.1 14); omega) (by show (S.1 14) ≤ 40; omega) (by show 0 ≤ (S.1 24); omega) (by show (S.1 24) ≤ 1000; omega) (by show 0 ≤ (S.1 23); omega) (by show (S.1 23) ≤ 100; omega)) (cw7 0 B w7_mRX7_178 w7_im_yX7_escaped w7_sl_yX7_escaped w7_cd_yX7_escaped rfl rfl (by decide +kernel) ⟨Nat.le_of_ble_eq_true rfl, Nat.le_of_ble_eq_true rfl⟩) rfl hl.1 rfl (Nat.le_of_ble_eq_true rfl) dX7_atom_42 ⟨Nat.zero_le _, Nat.zero_le _⟩ (fun S_33 H locs hp_32 hM => ?_)
      have hp_32 := hp_32.symm
      subst hp_32
      have f_34 : (M_escaped (M_emit 17 0 (S.1 20) 0 S)).1 19 = ((S.1 19) + 1) + 1 := M_escaped_19 _
      have f_35 := M_escaped_25 (S := (M_emit 17 0 (S.1 20) 0 S)) (by show (S.1 25) = 0 ∨ (S.1 25) = 1; omega)
      have f_36 : (M_escaped (M_emit 17 0 (S.1 20) 0 S)).1 24 = (S.1 24) + 2 := M_escaped_24 _
      refine lv_goto (tgt := 118) B.1 B.2.1 dX7_atom_45 (by decide) ?_
      refine lv_aload_n B.1 B.2.1 dX7_atom_118 rfl (lv_at hl 2 rfl) ?_
      refine m_get (x := (M_escaped (M_emit 17 0 (S.1 20) 0 S)).1 25) B (i7 _) hK hM 25 (by decide) rfl rfl (List.mem_cons_of_mem _ w7_fRX7_117) dX7_atom_119 ?_
      refine z_if_ne (tgt := 131) B.1 B.2.1 (zr_of (by omega) (by omega)) dX7_atom_122 (by decide) (fun c_37 => ?_) (fun c_37 => ?_)
      · --
        exact m_retv B hM (by unfold M_atom; exact ((if_neg c_8).trans ((if_pos c_9).trans (if_neg c_37))).symm) dX7_atom_131
      · --
        refine lv_aload_n B.1 B.2.1 dX7_atom_125 rfl (lv_at hl 2 rfl) ?_
        refine lv_iload_n B.1 B.2.1 dX7_atom_126 rfl (lv_at hl 1 rfl) ?_
        refine z_iconst B.1 B.2.1 dX7_atom_127 ?_
        refine m_callv (As := [.int (zI (S.1 19)), .int (zI 1)]) (rest := []) B hK hM (cX7_count_ok l D cy o q (M_escaped (M_emit 17 0 (S.1 20) 0 S)) (S.1 19) 1 (by show 0 ≤ ((M_escaped (M_emit 17 0 (S.1 20) 0 S)).1 25); omega) (by show ((M_escaped (M_emit 17 0 (S.1 20) 0 S)).1 25) ≤ 1; omega) (by show 0 ≤ ((M_escaped (M_emit 17 0 (S.1 20) 0 S)).1 19); omega) (by show ((M_escaped (M_emit 17 0 (S.1 20) 0 S)).1 19) ≤ 200; omega) (by (try simp only [M_escaped_a13, M_emit, mi_2, ma_ne (show (13 : Nat) ≠ 18 by decide), ma_ne (show (13 : Nat) ≠ 17 by decide), ma_ne (show (13 : Nat) ≠ 16 by decide), ma_ne (show (13 : Nat) ≠ 15 by decide)]); exact hs) (by (try simp only [M_escaped_i14, M_emit, mi_ne (show (14 : Nat) ≠ 19 by decide), ma_1]); omega) (by (try simp only [M_escaped_i14, M_emit, mi_ne (show (14 : Nat) ≠ 19 by decide), ma_1]); omega) (by show 0 ≤ ((M_escaped (M_emit 17 0 (S.1 20) 0 S)).1 24); omega) (by show ((M_escaped (M_emit 17 0 (S.1 20) 0 S)).1 24) ≤ 1000; omega) (by (try simp only [M_escaped_i32, M_emit, mi_ne (show (32 : Nat) ≠ 19 by decide), ma_1]); omega) (by (try simp only [M_escaped_i32, M_emit, mi_ne (show (32 : Nat) ≠ 19 by decide), ma_1]); omega) (by show 0 ≤ (S.1 19); omega) (by show (S.1 19) < 220; omega) (by show 0 ≤ 1; omega) (by show 1 ≤ 1000000000000000; omega)) (cw7 2 B w7_mRX7_135 w7_im_yX7_count w7_sl_yX7_count w7_cd_yX7_count rfl rfl (by decide +kernel) ⟨Nat.le_of_ble_eq_true rfl, Nat.le_of_ble_eq_true rfl⟩) rfl hl.1 rfl (Nat.le_of_ble_eq_true rfl) dX7_atom_128 ⟨Nat.zero_le _, Nat.zero_le _⟩ (fun S_39 H locs hp_38 hM => ?_)
        have hp_38 := hp_38.symm
        subst hp_38
        exact m_retv B hM (by unfold M_atom; exact ((if_neg c_8).trans ((if_pos c_9).trans (if_pos c_37))).symm) dX7_atom_131
  · --
    refine lv_aload_n B.1 B.2.1 dX7_atom_28 rfl (lv_at hl 2 rfl) ?_
    refine m_callv (As := []) (rest := []) B hK hM (cX7_set_ok l D cy o q (M_emit 17 0 (S.1 20) 0 S)  (by show 0 ≤ (S.1 25); omega) (by show (S.1 25) ≤ 1; omega) (by show 0 ≤ ((S.1 19) + 1); omega) (by show ((S.1 19) + 1) ≤ 200; omega) (by (try simp only [M_emit, mi_2, ma_ne (show (13 : Nat) ≠ 18 by decide), ma_ne (show (13 : Nat) ≠ 17 by decide), ma_ne (show (13 : Nat) ≠ 16 by decide), ma_ne (show (13 : Nat) ≠ 15 by decide)]); exact hs) (by show 0 ≤ (S.1 14); omega) (by show (S.1 14) ≤ 40; omega) (by show 0 ≤ (S.1 24); omega) (by show (S.1 24) ≤ 41; omega)) (cw7 0 B w7_mRX7_175 w7_im_yX7_set w7_sl_yX7_set w7_cd_yX7_set rfl rfl (by decide +kernel) ⟨Nat.le_of_ble_eq_true rfl, Nat.le_of_ble_eq_true rfl⟩) rfl hl.1 rfl (Nat.le_of_ble_eq_true rfl) dX7_atom_29 ⟨Nat.zero_le _, Nat.zero_le _⟩ (fun S_41 H locs hp_40 hM => ?_)
    have hp_40 := hp_40.symm
    subst hp_40
    have f_42 : (M_set (M_emit 17 0 (S.1 20) 0 S)).1 19 = ((S.1 19) + 1) + 1 := M_set_19 _
    have f_43 := M_set_25 (S := (M_emit 17 0 (S.1 20) 0 S)) (by show (S.1 25) = 0 ∨ (S.1 25) = 1; omega)
    have f_44 := M_set_24 (S := (M_emit 17 0 (S.1 20) 0 S)) hs hn1 ha0 ha1
    refine lv_goto (tgt := 118) B.1 B.2.1 dX7_atom_32 (by decide) ?_
    refine lv_aload_n B.1 B.2.1 dX7_atom_118 rfl (lv_at hl 2 rfl) ?_
    refine m_get (x := (M_set (M_emit 17 0 (S.1 20) 0 S)).1 25) B (i7 _) hK hM 25 (by decide) rfl rfl (List.mem_cons_of_mem _ w7_fRX7_117) dX7_atom_119 ?_
    refine z_if_ne (tgt := 131) B.1 B.2.1 (zr_of (by omega) (by omega)) dX7_atom_122 (by decide) (fun c_45 => ?_) (fun c_45 => ?_)
    · --
      exact m_retv B hM (by unfold M_atom; exact ((if_pos c_8).trans (if_neg c_45)).symm) dX7_atom_131
    · --
      refine lv_aload_n B.1 B.2.1 dX7_atom_125 rfl (lv_at hl 2 rfl) ?_
      refine lv_iload_n B.1 B.2.1 dX7_atom_126 rfl (lv_at hl 1 rfl) ?_
      refine z_iconst B.1 B.2.1 dX7_atom_127 ?_
      refine m_callv (As := [.int (zI (S.1 19)), .int (zI 1)]) (rest := []) B hK hM (cX7_count_ok l D cy o q (M_set (M_emit 17 0 (S.1 20) 0 S)) (S.1 19) 1 (by show 0 ≤ ((M_set (M_emit 17 0 (S.1 20) 0 S)).1 25); omega) (by show ((M_set (M_emit 17 0 (S.1 20) 0 S)).1 25) ≤ 1; omega) (by show 0 ≤ ((M_set (M_emit 17 0 (S.1 20) 0 S)).1 19); omega) (by show ((M_set (M_emit 17 0 (S.1 20) 0 S)).1 19) ≤ 200; omega) (by (try simp only [M_set_a13, M_emit, mi_2, ma_ne (show (13 : Nat) ≠ 18 by decide), ma_ne (show (13 : Nat) ≠ 17 by decide), ma_ne (show (13 : Nat) ≠ 16 by decide), ma_ne (show (13 : Nat) ≠ 15 by decide)]); exact hs) (by (try simp only [M_set_i14, M_emit, mi_ne (show (14 : Nat) ≠ 19 by decide), ma_1]); omega) (by (try simp only [M_set_i14, M_emit, mi_ne (show (14 : Nat) ≠ 19 by decide), ma_1]); omega) (by show 0 ≤ ((M_set (M_emit 17 0 (S.1 20) 0 S)).1 24); omega) (by show ((M_set (M_emit 17 0 (S.1 20) 0 S)).1 24) ≤ 1000; omega) (by (try simp only [M_set_i32, M_emit, mi_ne (show (32 : Nat) ≠ 19 by decide), ma_1]); omega) (by (try simp only [M_set_i32, M_emit, mi_ne (show (32 : Nat) ≠ 19 by decide), ma_1]); omega) (by show 0 ≤ (S.1 19); omega) (by show (S.1 19) < 220; omega) (by show 0 ≤ 1; omega) (by show 1 ≤ 1000000000000000; omega)) (cw7 2 B w7_mRX7_135 w7_im_yX7_count w7_sl_yX7_count w7_cd_yX7_count rfl rfl (by decide +kernel) ⟨Nat.le_of_ble_eq_true rfl, Nat.le_of_ble_eq_true rfl⟩) rfl hl.1 rfl (Nat.le_of_ble_eq_true rfl) dX7_atom_128 ⟨Nat.zero_le _, Nat.zero_le _⟩ (fun S_47 H locs hp_46 hM => ?_)
      have hp_46 := hp_46.symm
      subst hp_46
      exact m_retv B hM (by unfold M_atom; exact ((if_pos c_8).trans (if_pos c_45)).symm) dX7_atom_131
def M_openParenthesis (S : MSt) : MSt := (if (M_sign S ((S.1 24) + 1)) = 63 then (if (M_sign S (((S.1 24) + 1) + 1)) = 58 then (M_openBody 2 (S.1 19) (M_emit 17 0 (S.1 20) 0 (mi (mi S 24 ((S.1 24) + 1)) 24 (((S.1 24) + 1) + 2)))) else (if (M_sign S (((S.1 24) + 1) + 1)) = 61 then (M_openBody 3 (S.1 19) (mi (M_emit 12 1 0 (S.1 22) (mi (mi S 24 ((S.1 24) + 1)) 24 (((S.1 24) + 1) + 2))) 22 ((S.1 22) + 1))) else (if (M_sign S (((S.1 24) + 1) + 1)) = 33 then (M_openBody 4 (S.1 19) (mi (M_emit 12 0 0 (S.1 22) (mi (mi S 24 ((S.1 24) + 1)) 24 (((S.1 24) + 1) + 2))) 22 ((S.1 22) + 1))) else (mi (mi (mi S 24 ((S.1 24) + 1)) 24 (((S.1 24) + 1) + 2)) 25 1)))) else (ma (M_openBody 1 (S.1 19) (M_emit 10 ((S.1 20) + 1) 0 0 (mi (M_emit 17 0 (S.1 20) 0 (mi S 24 ((S.1 24) + 1))) 20 ((S.1 20) + 1)))) 27 (((S.1 32) + 1) - 1).toNat ((S.1 20) + 1)))
set_option maxHeartbeats 4000000 in
set_option maxRecDepth 100000 in
theorem cX7_openParenthesis_ok (l : Launch) (D : va_G) (cy : Nat → ClassId) (o : Nat) (q : Nat → Nat) (S : MSt) (hb0 : 0 ≤ S.1 25) (hb1 : S.1 25 ≤ 1) (hc0 : 0 ≤ S.1 19) (hc1 : S.1 19 ≤ 190) (hs : ∀ j, 0 ≤ S.2 13 j ∧ S.2 13 j ≤ 126) (hn0 : 0 ≤ S.1 14) (hn1 : S.1 14 ≤ 40) (ha0 : 0 ≤ S.1 24) (ha1 : S.1 24 ≤ 1000) (hd1 : 1 ≤ S.1 32) (hd2 : S.1 32 ≤ 42) : mMv l D cy o q yX7_openParenthesis (.code yX7_openParenthesis cX7_openParenthesis 3 none :: TB7) ({ frames := 2, cells := 0, slots := 0, locals := 47 }) S [] (fun S' => S' = M_openParenthesis S) := by
  refine m_of (cc := cX7_openParenthesis) (maxL := 3) (ret := none) (by decide) rfl rfl (Nat.le_of_ble_eq_true rfl) ?_
  intro p e s m args below meth c ls B hK hM hl
  have hl : lv_has ls 3 [(0, .ref o)] := hl
  refine lv_aload_n B.1 B.2.1 dX7_openParenthesis_0 rfl (lv_at hl 0 rfl) ?_
  refine lv_dup B.1 B.2.1 dX7_openParenthesis_1 rfl ?_
  refine m_get (x := S.1 24) B (i7 _) hK hM 24 (by decide) rfl rfl (List.mem_cons_of_mem _ w7_fRX7_139) dX7_openParenthesis_2 ?_
  refine z_iconst B.1 B.2.1 dX7_openParenthesis_5 ?_
  refine z_iadd (x := (S.1 24) + 1) B.1 B.2.1 rfl dX7_openParenthesis_6 ?_
  refine m_put B (i7 _) hK hM 24 (by decide) rfl (by decide +kernel) (List.mem_cons_of_mem _ w7_fRX7_139) dX7_openParenthesis_7 (fun H locs hM => ?_)
  refine lv_aload_n B.1 B.2.1 dX7_openParenthesis_10 rfl (lv_at hl 0 rfl) ?_
  refine lv_aload_n B.1 B.2.1 dX7_openParenthesis_11 rfl (lv_at hl 0 rfl) ?_
  refine m_get (x := (S.1 24) + 1) B (i7 _) hK hM 24 (by decide) rfl rfl (List.mem_cons_of_mem _ w7_fRX7_139) dX7_openParenthesis_12 ?_
  refine m_calli (As := [.int (zI ((S.1 24) + 1))]) (rest := []) B hK hM (cX7_sign_ok l D cy o q (mi S 24 ((S.1 24) + 1)) ((S.1 24) + 1) (by show 0 ≤ ((S.1 24) + 1); omega) (by show ((S.1 24) + 1) ≤ 100000; omega) (by show 0 ≤ (S.1 14); omega) (by show (S.1 14) ≤ 40; omega)) (cw7 1 B w7_mRX7_142 w7_im_yX7_sign w7_sl_yX7_sign w7_cd_yX7_sign rfl rfl (by decide +kernel) ⟨Nat.le_of_ble_eq_true rfl, Nat.le_of_ble_eq_true rfl⟩) rfl hl.1 rfl (Nat.le_of_ble_eq_true rfl) dX7_openParenthesis_15 ⟨Nat.zero_le _, Nat.zero_le _⟩ (fun z_3 S_2 H locs hp_1 hM => ?_)
  obtain ⟨hp_1, he_hp_1⟩ := hp_1
  have he_hp_1 := he_hp_1.symm
  subst he_hp_1
  have hp_1 : M_sign S ((S.1 24) + 1) = z_3 := hp_1.symm
  subst hp_1
  have f_4 := M_sign_bd S hs ((S.1 24) + 1)
  refine z_bipush B.1 B.2.1 (by decide) dX7_openParenthesis_18 ?_
  refine z_icmp_eq (tgt := 81) B.1 B.2.1 (zr_of (by omega) (by omega)) (zr_of (by decide) (by decide)) dX7_openParenthesis_20 (by decide) (fun c_5 => ?_) (fun c_5 => ?_)
  · --
    refine lv_aload_n B.1 B.2.1 dX7_openParenthesis_81 rfl (lv_at hl 0 rfl) ?_
    refine lv_aload_n B.1 B.2.1 dX7_openParenthesis_82 rfl (lv_at hl 0 rfl) ?_
    refine m_get (x := (S.1 24) + 1) B (i7 _) hK hM 24 (by decide) rfl rfl (List.mem_cons_of_mem _ w7_fRX7_139) dX7_openParenthesis_83 ?_
    refine z_iconst B.1 B.2.1 dX7_openParenthesis_86 ?_
    refine z_iadd (x := ((S.1 24) + 1) + 1) B.1 B.2.1 rfl dX7_openParenthesis_87 ?_
    refine m_calli (As := [.int (zI (((S.1 24) + 1) + 1))]) (rest := []) B hK hM (cX7_sign_ok l D cy o q (mi S 24 ((S.1 24) + 1)) (((S.1 24) + 1) + 1) (by show 0 ≤ (((S.1 24) + 1) + 1); omega) (by show (((S.1 24) + 1) + 1) ≤ 100000; omega) (by show 0 ≤ (S.1 14); omega) (by show (S.1 14) ≤ 40; omega)) (cw7 1 B w7_mRX7_142 w7_im_yX7_sign w7_sl_yX7_sign w7_cd_yX7_sign rfl rfl (by decide +kernel) ⟨Nat.le_of_ble_eq_true rfl, Nat.le_of_ble_eq_true rfl⟩) rfl hl.1 rfl (Nat.le_of_ble_eq_true rfl) dX7_openParenthesis_88 ⟨Nat.zero_le _, Nat.zero_le _⟩ (fun z_8 S_7 H locs hp_6 hM => ?_)
    obtain ⟨hp_6, he_hp_6⟩ := hp_6
    have he_hp_6 := he_hp_6.symm
    subst he_hp_6
    have hp_6 : M_sign S (((S.1 24) + 1) + 1) = z_8 := hp_6.symm
    subst hp_6
    have f_9 := M_sign_bd S hs (((S.1 24) + 1) + 1)
    refine lv_istore_n (lv' := [(1, .int (zI (M_sign S (((S.1 24) + 1) + 1)))), (0, .ref o)]) B.1 B.2.1 dX7_openParenthesis_91 rfl hl (by decide) rfl (fun ls hl => ?_)
    refine lv_aload_n B.1 B.2.1 dX7_openParenthesis_92 rfl (lv_at hl 1 rfl) ?_
    refine lv_dup B.1 B.2.1 dX7_openParenthesis_93 rfl ?_
    refine m_get (x := (S.1 24) + 1) B (i7 _) hK hM 24 (by decide) rfl rfl (List.mem_cons_of_mem _ w7_fRX7_139) dX7_openParenthesis_94 ?_
    refine z_iconst B.1 B.2.1 dX7_openParenthesis_97 ?_
    refine z_iadd (x := ((S.1 24) + 1) + 2) B.1 B.2.1 rfl dX7_openParenthesis_98 ?_
    refine m_put B (i7 _) hK hM 24 (by decide) rfl (by decide +kernel) (List.mem_cons_of_mem _ w7_fRX7_139) dX7_openParenthesis_99 (fun H locs hM => ?_)
    refine lv_iload_n B.1 B.2.1 dX7_openParenthesis_102 rfl (lv_at hl 0 rfl) ?_
    refine z_bipush B.1 B.2.1 (by decide) dX7_openParenthesis_103 ?_
    refine z_icmp_ne (tgt := 130) B.1 B.2.1 (zr_of (by omega) (by omega)) (zr_of (by decide) (by decide)) dX7_openParenthesis_105 (by decide) (fun c_10 => ?_) (fun c_10 => ?_)
    · --
      refine lv_iload_n B.1 B.2.1 dX7_openParenthesis_130 rfl (lv_at hl 0 rfl) ?_
      refine z_bipush B.1 B.2.1 (by decide) dX7_openParenthesis_131 ?_
      refine z_icmp_eq (tgt := 142) B.1 B.2.1 (zr_of (by omega) (by omega)) (zr_of (by decide) (by decide)) dX7_openParenthesis_133 (by decide) (fun c_11 => ?_) (fun c_11 => ?_)
      · --
        refine lv_aload_n B.1 B.2.1 dX7_openParenthesis_142 rfl (lv_at hl 1 rfl) ?_
        refine z_bipush B.1 B.2.1 (by decide) dX7_openParenthesis_143 ?_
        refine lv_iload_n B.1 B.2.1 dX7_openParenthesis_145 rfl (lv_at hl 0 rfl) ?_
        refine z_bipush B.1 B.2.1 (by decide) dX7_openParenthesis_146 ?_
        refine z_icmp_ne (tgt := 155) B.1 B.2.1 (zr_of (by omega) (by omega)) (zr_of (by decide) (by decide)) dX7_openParenthesis_148 (by decide) (fun c_12 => ?_) (fun c_12 => ?_)
        · exact absurd c_12 (by omega)
        · --
          refine z_iconst B.1 B.2.1 dX7_openParenthesis_151 ?_
          refine lv_goto (tgt := 156) B.1 B.2.1 dX7_openParenthesis_152 (by decide) ?_
          refine z_iconst B.1 B.2.1 dX7_openParenthesis_156 ?_
          refine lv_aload_n B.1 B.2.1 dX7_openParenthesis_157 rfl (lv_at hl 1 rfl) ?_
          refine m_get (x := S.1 22) B (i7 _) hK hM 22 (by decide) rfl rfl (List.mem_cons_of_mem _ w7_fRX7_159) dX7_openParenthesis_158 ?_
          refine m_calli (As := [.int (zI 12), .int (zI 1), .int (zI 0), .int (zI (S.1 22))]) (rest := []) B hK hM (cX7_emit_ok l D cy o q (mi (mi S 24 ((S.1 24) + 1)) 24 (((S.1 24) + 1) + 2)) 12 1 0 (S.1 22) (by show 0 ≤ (S.1 19); omega) (by show (S.1 19) < 220; omega)) (cw7 4 B w7_mRX7_124 w7_im_yX7_emit w7_sl_yX7_emit w7_cd_yX7_emit rfl rfl (by decide +kernel) ⟨Nat.le_of_ble_eq_true rfl, Nat.le_of_ble_eq_true rfl⟩) rfl hl.1 rfl (Nat.le_of_ble_eq_true rfl) dX7_openParenthesis_161 ⟨Nat.zero_le _, Nat.zero_le _⟩ (fun z_15 S_14 H locs hp_13 hM => ?_)
          obtain ⟨hp_13, he_hp_13⟩ := hp_13
          have he_hp_13 := he_hp_13.symm
          subst he_hp_13
          have hp_13 : S.1 19 = z_15 := hp_13.symm
          subst hp_13
          refine lv_istore_n (lv' := [(2, .int (zI (S.1 19))), (1, .int (zI (M_sign S (((S.1 24) + 1) + 1)))), (0, .ref o)]) B.1 B.2.1 dX7_openParenthesis_164 rfl hl (by decide) rfl (fun ls hl => ?_)
          refine lv_aload_n B.1 B.2.1 dX7_openParenthesis_165 rfl (lv_at hl 2 rfl) ?_
          refine lv_dup B.1 B.2.1 dX7_openParenthesis_166 rfl ?_
          refine m_get (x := S.1 22) B (i7 _) hK hM 22 (by decide) rfl rfl (List.mem_cons_of_mem _ w7_fRX7_159) dX7_openParenthesis_167 ?_
          refine z_iconst B.1 B.2.1 dX7_openParenthesis_170 ?_
          refine z_iadd (x := (S.1 22) + 1) B.1 B.2.1 rfl dX7_openParenthesis_171 ?_
          refine m_put B (i7 _) hK hM 22 (by decide) rfl (by decide +kernel) (List.mem_cons_of_mem _ w7_fRX7_159) dX7_openParenthesis_172 (fun H locs hM => ?_)
          refine lv_aload_n B.1 B.2.1 dX7_openParenthesis_175 rfl (lv_at hl 2 rfl) ?_
          refine lv_iload_n B.1 B.2.1 dX7_openParenthesis_176 rfl (lv_at hl 1 rfl) ?_
          refine z_bipush B.1 B.2.1 (by decide) dX7_openParenthesis_177 ?_
          refine z_icmp_ne (tgt := 186) B.1 B.2.1 (zr_of (by omega) (by omega)) (zr_of (by decide) (by decide)) dX7_openParenthesis_179 (by decide) (fun c_16 => ?_) (fun c_16 => ?_)
          · exact absurd c_16 (by omega)
          · --
            refine z_iconst B.1 B.2.1 dX7_openParenthesis_182 ?_
            refine lv_goto (tgt := 187) B.1 B.2.1 dX7_openParenthesis_183 (by decide) ?_
            refine lv_iload_n B.1 B.2.1 dX7_openParenthesis_187 rfl (lv_at hl 0 rfl) ?_
            refine m_callv (As := [.int (zI 3), .int (zI (S.1 19))]) (rest := []) B hK hM (cX7_openBody_ok l D cy o q (mi (M_emit 12 1 0 (S.1 22) (mi (mi S 24 ((S.1 24) + 1)) 24 (((S.1 24) + 1) + 2))) 22 ((S.1 22) + 1)) 3 (S.1 19) (by show 0 ≤ (S.1 25); omega) (by show (S.1 25) ≤ 1; omega) (by show 0 ≤ ((S.1 19) + 1); omega) (by show ((S.1 19) + 1) ≤ 200; omega) (by show 0 ≤ (S.1 32); omega) (by show (S.1 32) ≤ 43; omega)) (cw7 2 B w7_mRX7_156 w7_im_yX7_openBody w7_sl_yX7_openBody w7_cd_yX7_openBody rfl rfl (by decide +kernel) ⟨Nat.le_of_ble_eq_true rfl, Nat.le_of_ble_eq_true rfl⟩) rfl hl.1 rfl (Nat.le_of_ble_eq_true rfl) dX7_openParenthesis_188 ⟨Nat.zero_le _, Nat.zero_le _⟩ (fun S_18 H locs hp_17 hM => ?_)
            have hp_17 := hp_17.symm
            subst hp_17
            refine lv_goto (tgt := 199) B.1 B.2.1 dX7_openParenthesis_191 (by decide) ?_
            exact m_retv B hM (by unfold M_openParenthesis; exact ((if_pos c_5).trans ((if_neg c_10).trans (if_pos c_11))).symm) dX7_openParenthesis_199
      · --
        refine lv_iload_n B.1 B.2.1 dX7_openParenthesis_136 rfl (lv_at hl 0 rfl) ?_
        refine z_bipush B.1 B.2.1 (by decide) dX7_openParenthesis_137 ?_
        refine z_icmp_ne (tgt := 194) B.1 B.2.1 (zr_of (by omega) (by omega)) (zr_of (by decide) (by decide)) dX7_openParenthesis_139 (by decide) (fun c_19 => ?_) (fun c_19 => ?_)
        · --
          refine lv_aload_n B.1 B.2.1 dX7_openParenthesis_194 rfl (lv_at hl 1 rfl) ?_
          refine z_iconst B.1 B.2.1 dX7_openParenthesis_195 ?_
          refine m_putz B (i7 _) hK hM 25 (by decide) rfl (by decide) (by decide +kernel) (List.mem_cons_of_mem _ w7_fRX7_117) dX7_openParenthesis_196 (fun H locs hM => ?_)
          exact m_retv B hM (by unfold M_openParenthesis; exact ((if_pos c_5).trans ((if_neg c_10).trans ((if_neg c_11).trans (if_neg c_19)))).symm) dX7_openParenthesis_199
        · --
          refine lv_aload_n B.1 B.2.1 dX7_openParenthesis_142 rfl (lv_at hl 1 rfl) ?_
          refine z_bipush B.1 B.2.1 (by decide) dX7_openParenthesis_143 ?_
          refine lv_iload_n B.1 B.2.1 dX7_openParenthesis_145 rfl (lv_at hl 0 rfl) ?_
          refine z_bipush B.1 B.2.1 (by decide) dX7_openParenthesis_146 ?_
          refine z_icmp_ne (tgt := 155) B.1 B.2.1 (zr_of (by omega) (by omega)) (zr_of (by decide) (by decide)) dX7_openParenthesis_148 (by decide) (fun c_20 => ?_) (fun c_20 => ?_)
          · --
            refine z_iconst B.1 B.2.1 dX7_openParenthesis_155 ?_
            refine z_iconst B.1 B.2.1 dX7_openParenthesis_156 ?_
            refine lv_aload_n B.1 B.2.1 dX7_openParenthesis_157 rfl (lv_at hl 1 rfl) ?_
            refine m_get (x := S.1 22) B (i7 _) hK hM 22 (by decide) rfl rfl (List.mem_cons_of_mem _ w7_fRX7_159) dX7_openParenthesis_158 ?_
            refine m_calli (As := [.int (zI 12), .int (zI 0), .int (zI 0), .int (zI (S.1 22))]) (rest := []) B hK hM (cX7_emit_ok l D cy o q (mi (mi S 24 ((S.1 24) + 1)) 24 (((S.1 24) + 1) + 2)) 12 0 0 (S.1 22) (by show 0 ≤ (S.1 19); omega) (by show (S.1 19) < 220; omega)) (cw7 4 B w7_mRX7_124 w7_im_yX7_emit w7_sl_yX7_emit w7_cd_yX7_emit rfl rfl (by decide +kernel) ⟨Nat.le_of_ble_eq_true rfl, Nat.le_of_ble_eq_true rfl⟩) rfl hl.1 rfl (Nat.le_of_ble_eq_true rfl) dX7_openParenthesis_161 ⟨Nat.zero_le _, Nat.zero_le _⟩ (fun z_23 S_22 H locs hp_21 hM => ?_)
            obtain ⟨hp_21, he_hp_21⟩ := hp_21
            have he_hp_21 := he_hp_21.symm
            subst he_hp_21
            have hp_21 : S.1 19 = z_23 := hp_21.symm
            subst hp_21
            refine lv_istore_n (lv' := [(2, .int (zI (S.1 19))), (1, .int (zI (M_sign S (((S.1 24) + 1) + 1)))), (0, .ref o)]) B.1 B.2.1 dX7_openParenthesis_164 rfl hl (by decide) rfl (fun ls hl => ?_)
            refine lv_aload_n B.1 B.2.1 dX7_openParenthesis_165 rfl (lv_at hl 2 rfl) ?_
            refine lv_dup B.1 B.2.1 dX7_openParenthesis_166 rfl ?_
            refine m_get (x := S.1 22) B (i7 _) hK hM 22 (by decide) rfl rfl (List.mem_cons_of_mem _ w7_fRX7_159) dX7_openParenthesis_167 ?_
            refine z_iconst B.1 B.2.1 dX7_openParenthesis_170 ?_
            refine z_iadd (x := (S.1 22) + 1) B.1 B.2.1 rfl dX7_openParenthesis_171 ?_
            refine m_put B (i7 _) hK hM 22 (by decide) rfl (by decide +kernel) (List.mem_cons_of_mem _ w7_fRX7_159) dX7_openParenthesis_172 (fun H locs hM => ?_)
            refine lv_aload_n B.1 B.2.1 dX7_openParenthesis_175 rfl (lv_at hl 2 rfl) ?_
            refine lv_iload_n B.1 B.2.1 dX7_openParenthesis_176 rfl (lv_at hl 1 rfl) ?_
            refine z_bipush B.1 B.2.1 (by decide) dX7_openParenthesis_177 ?_
            refine z_icmp_ne (tgt := 186) B.1 B.2.1 (zr_of (by omega) (by omega)) (zr_of (by decide) (by decide)) dX7_openParenthesis_179 (by decide) (fun c_24 => ?_) (fun c_24 => ?_)
            · --
              refine z_iconst B.1 B.2.1 dX7_openParenthesis_186 ?_
              refine lv_iload_n B.1 B.2.1 dX7_openParenthesis_187 rfl (lv_at hl 0 rfl) ?_
              refine m_callv (As := [.int (zI 4), .int (zI (S.1 19))]) (rest := []) B hK hM (cX7_openBody_ok l D cy o q (mi (M_emit 12 0 0 (S.1 22) (mi (mi S 24 ((S.1 24) + 1)) 24 (((S.1 24) + 1) + 2))) 22 ((S.1 22) + 1)) 4 (S.1 19) (by show 0 ≤ (S.1 25); omega) (by show (S.1 25) ≤ 1; omega) (by show 0 ≤ ((S.1 19) + 1); omega) (by show ((S.1 19) + 1) ≤ 200; omega) (by show 0 ≤ (S.1 32); omega) (by show (S.1 32) ≤ 43; omega)) (cw7 2 B w7_mRX7_156 w7_im_yX7_openBody w7_sl_yX7_openBody w7_cd_yX7_openBody rfl rfl (by decide +kernel) ⟨Nat.le_of_ble_eq_true rfl, Nat.le_of_ble_eq_true rfl⟩) rfl hl.1 rfl (Nat.le_of_ble_eq_true rfl) dX7_openParenthesis_188 ⟨Nat.zero_le _, Nat.zero_le _⟩ (fun S_26 H locs hp_25 hM => ?_)
              have hp_25 := hp_25.symm
              subst hp_25
              refine lv_goto (tgt := 199) B.1 B.2.1 dX7_openParenthesis_191 (by decide) ?_
              exact m_retv B hM (by unfold M_openParenthesis; exact ((if_pos c_5).trans ((if_neg c_10).trans ((if_neg c_11).trans (if_pos c_19)))).symm) dX7_openParenthesis_199
            · exact absurd c_24 (by omega)
          · exact absurd c_20 (by omega)
    · --
      refine lv_aload_n B.1 B.2.1 dX7_openParenthesis_108 rfl (lv_at hl 1 rfl) ?_
      refine z_bipush B.1 B.2.1 (by decide) dX7_openParenthesis_109 ?_
      refine z_iconst B.1 B.2.1 dX7_openParenthesis_111 ?_
      refine lv_aload_n B.1 B.2.1 dX7_openParenthesis_112 rfl (lv_at hl 1 rfl) ?_
      refine m_get (x := S.1 20) B (i7 _) hK hM 20 (by decide) rfl rfl (List.mem_cons_of_mem _ w7_fRX7_153) dX7_openParenthesis_113 ?_
      refine z_iconst B.1 B.2.1 dX7_openParenthesis_116 ?_
      refine m_calli (As := [.int (zI 17), .int (zI 0), .int (zI (S.1 20)), .int (zI 0)]) (rest := []) B hK hM (cX7_emit_ok l D cy o q (mi (mi S 24 ((S.1 24) + 1)) 24 (((S.1 24) + 1) + 2)) 17 0 (S.1 20) 0 (by show 0 ≤ (S.1 19); omega) (by show (S.1 19) < 220; omega)) (cw7 4 B w7_mRX7_124 w7_im_yX7_emit w7_sl_yX7_emit w7_cd_yX7_emit rfl rfl (by decide +kernel) ⟨Nat.le_of_ble_eq_true rfl, Nat.le_of_ble_eq_true rfl⟩) rfl hl.1 rfl (Nat.le_of_ble_eq_true rfl) dX7_openParenthesis_117 ⟨Nat.zero_le _, Nat.zero_le _⟩ (fun z_29 S_28 H locs hp_27 hM => ?_)
      obtain ⟨hp_27, he_hp_27⟩ := hp_27
      have he_hp_27 := he_hp_27.symm
      subst he_hp_27
      have hp_27 : S.1 19 = z_29 := hp_27.symm
      subst hp_27
      refine lv_istore_n (lv' := [(2, .int (zI (S.1 19))), (1, .int (zI (M_sign S (((S.1 24) + 1) + 1)))), (0, .ref o)]) B.1 B.2.1 dX7_openParenthesis_120 rfl hl (by decide) rfl (fun ls hl => ?_)
      refine lv_aload_n B.1 B.2.1 dX7_openParenthesis_121 rfl (lv_at hl 2 rfl) ?_
      refine z_iconst B.1 B.2.1 dX7_openParenthesis_122 ?_
      refine lv_iload_n B.1 B.2.1 dX7_openParenthesis_123 rfl (lv_at hl 0 rfl) ?_
      refine m_callv (As := [.int (zI 2), .int (zI (S.1 19))]) (rest := []) B hK hM (cX7_openBody_ok l D cy o q (M_emit 17 0 (S.1 20) 0 (mi (mi S 24 ((S.1 24) + 1)) 24 (((S.1 24) + 1) + 2))) 2 (S.1 19) (by show 0 ≤ (S.1 25); omega) (by show (S.1 25) ≤ 1; omega) (by show 0 ≤ ((S.1 19) + 1); omega) (by show ((S.1 19) + 1) ≤ 200; omega) (by show 0 ≤ (S.1 32); omega) (by show (S.1 32) ≤ 43; omega)) (cw7 2 B w7_mRX7_156 w7_im_yX7_openBody w7_sl_yX7_openBody w7_cd_yX7_openBody rfl rfl (by decide +kernel) ⟨Nat.le_of_ble_eq_true rfl, Nat.le_of_ble_eq_true rfl⟩) rfl hl.1 rfl (Nat.le_of_ble_eq_true rfl) dX7_openParenthesis_124 ⟨Nat.zero_le _, Nat.zero_le _⟩ (fun S_31 H locs hp_30 hM => ?_)
      have hp_30 := hp_30.symm
      subst hp_30
      refine lv_goto (tgt := 199) B.1 B.2.1 dX7_openParenthesis_127 (by decide) ?_
      exact m_retv B hM (by unfold M_openParenthesis; exact ((if_pos c_5).trans (if_pos c_10)).symm) dX7_openParenthesis_199
  · --
    refine lv_aload_n B.1 B.2.1 dX7_openParenthesis_23 rfl (lv_at hl 0 rfl) ?_
    refine z_bipush B.1 B.2.1 (by decide) dX7_openParenthesis_24 ?_
    refine z_iconst B.1 B.2.1 dX7_openParenthesis_26 ?_
    refine lv_aload_n B.1 B.2.1 dX7_openParenthesis_27 rfl (lv_at hl 0 rfl) ?_
    refine m_get (x := S.1 20) B (i7 _) hK hM 20 (by decide) rfl rfl (List.mem_cons_of_mem _ w7_fRX7_153) dX7_openParenthesis_28 ?_
    refine z_iconst B.1 B.2.1 dX7_openParenthesis_31 ?_
    refine m_calli (As := [.int (zI 17), .int (zI 0), .int (zI (S.1 20)), .int (zI 0)]) (rest := []) B hK hM (cX7_emit_ok l D cy o q (mi S 24 ((S.1 24) + 1)) 17 0 (S.1 20) 0 (by show 0 ≤ (S.1 19); omega) (by show (S.1 19) < 220; omega)) (cw7 4 B w7_mRX7_124 w7_im_yX7_emit w7_sl_yX7_emit w7_cd_yX7_emit rfl rfl (by decide +kernel) ⟨Nat.le_of_ble_eq_true rfl, Nat.le_of_ble_eq_true rfl⟩) rfl hl.1 rfl (Nat.le_of_ble_eq_true rfl) dX7_openParenthesis_32 ⟨Nat.zero_le _, Nat.zero_le _⟩ (fun z_34 S_33 H locs hp_32 hM => ?_)
    obtain ⟨hp_32, he_hp_32⟩ := hp_32
    have he_hp_32 := he_hp_32.symm
    subst he_hp_32
    have hp_32 : S.1 19 = z_34 := hp_32.symm
    subst hp_32
    refine lv_istore_n (lv' := [(1, .int (zI (S.1 19))), (0, .ref o)]) B.1 B.2.1 dX7_openParenthesis_35 rfl hl (by decide) rfl (fun ls hl => ?_)
    refine lv_aload_n B.1 B.2.1 dX7_openParenthesis_36 rfl (lv_at hl 1 rfl) ?_
    refine lv_dup B.1 B.2.1 dX7_openParenthesis_37 rfl ?_
    refine m_get (x := S.1 20) B (i7 _) hK hM 20 (by decide) rfl rfl (List.mem_cons_of_mem _ w7_fRX7_153) dX7_openParenthesis_38 ?_
    refine z_iconst B.1 B.2.1 dX7_openParenthesis_41 ?_
    refine z_iadd (x := (S.1 20) + 1) B.1 B.2.1 rfl dX7_openParenthesis_42 ?_
    refine m_put B (i7 _) hK hM 20 (by decide) rfl (by decide +kernel) (List.mem_cons_of_mem _ w7_fRX7_153) dX7_openParenthesis_43 (fun H locs hM => ?_)
    refine lv_aload_n B.1 B.2.1 dX7_openParenthesis_46 rfl (lv_at hl 1 rfl) ?_
    refine z_bipush B.1 B.2.1 (by decide) dX7_openParenthesis_47 ?_
    refine lv_aload_n B.1 B.2.1 dX7_openParenthesis_49 rfl (lv_at hl 1 rfl) ?_
    refine m_get (x := (S.1 20) + 1) B (i7 _) hK hM 20 (by decide) rfl rfl (List.mem_cons_of_mem _ w7_fRX7_153) dX7_openParenthesis_50 ?_
    refine z_iconst B.1 B.2.1 dX7_openParenthesis_53 ?_
    refine z_iconst B.1 B.2.1 dX7_openParenthesis_54 ?_
    refine m_calli (As := [.int (zI 10), .int (zI ((S.1 20) + 1)), .int (zI 0), .int (zI 0)]) (rest := []) B hK hM (cX7_emit_ok l D cy o q (mi (M_emit 17 0 (S.1 20) 0 (mi S 24 ((S.1 24) + 1))) 20 ((S.1 20) + 1)) 10 ((S.1 20) + 1) 0 0 (by show 0 ≤ ((S.1 19) + 1); omega) (by show ((S.1 19) + 1) < 220; omega)) (cw7 4 B w7_mRX7_124 w7_im_yX7_emit w7_sl_yX7_emit w7_cd_yX7_emit rfl rfl (by decide +kernel) ⟨Nat.le_of_ble_eq_true rfl, Nat.le_of_ble_eq_true rfl⟩) rfl hl.1 rfl (Nat.le_of_ble_eq_true rfl) dX7_openParenthesis_55 ⟨Nat.zero_le _, Nat.zero_le _⟩ (fun z_37 S_36 H locs hp_35 hM => ?_)
    obtain ⟨hp_35, he_hp_35⟩ := hp_35
    have he_hp_35 := he_hp_35.symm
    subst he_hp_35
    have hp_35 : (S.1 19) + 1 = z_37 := hp_35.symm
    subst hp_35
    refine lv_pop B.1 B.2.1 dX7_openParenthesis_58 rfl ?_
    refine lv_aload_n B.1 B.2.1 dX7_openParenthesis_59 rfl (lv_at hl 1 rfl) ?_
    refine z_iconst B.1 B.2.1 dX7_openParenthesis_60 ?_
    refine lv_iload_n B.1 B.2.1 dX7_openParenthesis_61 rfl (lv_at hl 0 rfl) ?_
    refine m_callv (As := [.int (zI 1), .int (zI (S.1 19))]) (rest := []) B hK hM (cX7_openBody_ok l D cy o q (M_emit 10 ((S.1 20) + 1) 0 0 (mi (M_emit 17 0 (S.1 20) 0 (mi S 24 ((S.1 24) + 1))) 20 ((S.1 20) + 1))) 1 (S.1 19) (by show 0 ≤ (S.1 25); omega) (by show (S.1 25) ≤ 1; omega) (by show 0 ≤ (((S.1 19) + 1) + 1); omega) (by show (((S.1 19) + 1) + 1) ≤ 200; omega) (by show 0 ≤ (S.1 32); omega) (by show (S.1 32) ≤ 43; omega)) (cw7 2 B w7_mRX7_156 w7_im_yX7_openBody w7_sl_yX7_openBody w7_cd_yX7_openBody rfl rfl (by decide +kernel) ⟨Nat.le_of_ble_eq_true rfl, Nat.le_of_ble_eq_true rfl⟩) rfl hl.1 rfl (Nat.le_of_ble_eq_true rfl) dX7_openParenthesis_62 ⟨Nat.zero_le _, Nat.zero_le _⟩ (fun S_39 H locs hp_38 hM => ?_)
    have hp_38 := hp_38.symm
    subst hp_38
    refine lv_aload_n B.1 B.2.1 dX7_openParenthesis_65 rfl (lv_at hl 1 rfl) ?_
    refine m_getr B (i7 _) hK hM 27 (by decide) rfl (List.mem_cons_of_mem _ w7_fRX7_50) dX7_openParenthesis_66 ?_
    refine lv_aload_n B.1 B.2.1 dX7_openParenthesis_69 rfl (lv_at hl 1 rfl) ?_
    refine m_get (x := (S.1 32) + 1) B (i7 _) hK hM 32 (by decide) rfl rfl (List.mem_cons_of_mem _ w7_fRX7_121) dX7_openParenthesis_70 ?_
    refine z_iconst B.1 B.2.1 dX7_openParenthesis_73 ?_
    refine z_isub (x := ((S.1 32) + 1) - 1) B.1 B.2.1 rfl dX7_openParenthesis_74 ?_
    refine lv_aload_n B.1 B.2.1 dX7_openParenthesis_75 rfl (lv_at hl 1 rfl) ?_
    refine m_get (x := (S.1 20) + 1) B (i7 _) hK hM 20 (by decide) rfl rfl (List.mem_cons_of_mem _ w7_fRX7_153) dX7_openParenthesis_76 ?_
    refine m_iast B hK hM 13 27 rfl rfl (by omega) (by simp only [mN]; omega) dX7_openParenthesis_79 (fun H locs hM => ?_)
    exact m_retv B hM (by unfold M_openParenthesis; exact (if_neg c_5).symm) dX7_openParenthesis_80
