theorem M_put_33 (r v : Int) (S : MSt) : (M_put r v S).2 33 = zu (S.2 33) r.toNat v := by
  unfold M_put
  split
  · rename_i h
    funext j
    unfold zu
    split
    · rename_i e
      rw [e]; exact h
    · rfl
  · rfl
theorem M_put_35 (r v : Int) (S : MSt) : S.1 35 ≤ (M_put r v S).1 35 ∧ (M_put r v S).1 35 ≤ S.1 35 + 1 := by
  unfold M_put
  split
  · omega
  · show S.1 35 ≤ S.1 35 + 1 ∧ S.1 35 + 1 ≤ S.1 35 + 1
    omega
theorem M_put_reg {r v : Int} {S : MSt} (hr : ∀ j, -100000 ≤ S.2 33 j ∧ S.2 33 j ≤ 100000) (h0 : -100000 ≤ v) (h1 : v ≤ 100000) : ∀ j, -100000 ≤ (M_put r v S).2 33 j ∧ (M_put r v S).2 33 j ≤ 100000 := by
  intro j
  rw [M_put_33]
  exact zu_in (P := fun x => -100000 ≤ x ∧ x ≤ 100000) hr ⟨h0, h1⟩ j
theorem M_put_i0 (r v : Int) (S : MSt) : (M_put r v S).1 0 = S.1 0 := by unfold M_put; split <;> rfl
theorem M_put_a1 (r v : Int) (S : MSt) : (M_put r v S).2 1 = S.2 1 := by unfold M_put; split <;> rfl
theorem M_put_i2 (r v : Int) (S : MSt) : (M_put r v S).1 2 = S.1 2 := by unfold M_put; split <;> rfl
theorem M_put_a3 (r v : Int) (S : MSt) : (M_put r v S).2 3 = S.2 3 := by unfold M_put; split <;> rfl
theorem M_put_i4 (r v : Int) (S : MSt) : (M_put r v S).1 4 = S.1 4 := by unfold M_put; split <;> rfl
theorem M_put_i5 (r v : Int) (S : MSt) : (M_put r v S).1 5 = S.1 5 := by unfold M_put; split <;> rfl
theorem M_put_i6 (r v : Int) (S : MSt) : (M_put r v S).1 6 = S.1 6 := by unfold M_put; split <;> rfl
theorem M_put_a7 (r v : Int) (S : MSt) : (M_put r v S).2 7 = S.2 7 := by unfold M_put; split <;> rfl
theorem M_put_a8 (r v : Int) (S : MSt) : (M_put r v S).2 8 = S.2 8 := by unfold M_put; split <;> rfl
theorem M_put_a9 (r v : Int) (S : MSt) : (M_put r v S).2 9 = S.2 9 := by unfold M_put; split <;> rfl
theorem M_put_a10 (r v : Int) (S : MSt) : (M_put r v S).2 10 = S.2 10 := by unfold M_put; split <;> rfl
theorem M_put_a11 (r v : Int) (S : MSt) : (M_put r v S).2 11 = S.2 11 := by unfold M_put; split <;> rfl
theorem M_put_i12 (r v : Int) (S : MSt) : (M_put r v S).1 12 = S.1 12 := by unfold M_put; split <;> rfl
theorem M_put_a13 (r v : Int) (S : MSt) : (M_put r v S).2 13 = S.2 13 := by unfold M_put; split <;> rfl
theorem M_put_i14 (r v : Int) (S : MSt) : (M_put r v S).1 14 = S.1 14 := by unfold M_put; split <;> rfl
theorem M_put_a15 (r v : Int) (S : MSt) : (M_put r v S).2 15 = S.2 15 := by unfold M_put; split <;> rfl
theorem M_put_a16 (r v : Int) (S : MSt) : (M_put r v S).2 16 = S.2 16 := by unfold M_put; split <;> rfl
theorem M_put_a17 (r v : Int) (S : MSt) : (M_put r v S).2 17 = S.2 17 := by unfold M_put; split <;> rfl
theorem M_put_a18 (r v : Int) (S : MSt) : (M_put r v S).2 18 = S.2 18 := by unfold M_put; split <;> rfl
theorem M_put_i19 (r v : Int) (S : MSt) : (M_put r v S).1 19 = S.1 19 := by unfold M_put; split <;> rfl
theorem M_put_i20 (r v : Int) (S : MSt) : (M_put r v S).1 20 = S.1 20 := by unfold M_put; split <;> rfl
theorem M_put_i21 (r v : Int) (S : MSt) : (M_put r v S).1 21 = S.1 21 := by unfold M_put; split <;> rfl
theorem M_put_i22 (r v : Int) (S : MSt) : (M_put r v S).1 22 = S.1 22 := by unfold M_put; split <;> rfl
theorem M_put_i23 (r v : Int) (S : MSt) : (M_put r v S).1 23 = S.1 23 := by unfold M_put; split <;> rfl
theorem M_put_i24 (r v : Int) (S : MSt) : (M_put r v S).1 24 = S.1 24 := by unfold M_put; split <;> rfl
theorem M_put_i25 (r v : Int) (S : MSt) : (M_put r v S).1 25 = S.1 25 := by unfold M_put; split <;> rfl
theorem M_put_a26 (r v : Int) (S : MSt) : (M_put r v S).2 26 = S.2 26 := by unfold M_put; split <;> rfl
theorem M_put_a27 (r v : Int) (S : MSt) : (M_put r v S).2 27 = S.2 27 := by unfold M_put; split <;> rfl
theorem M_put_a28 (r v : Int) (S : MSt) : (M_put r v S).2 28 = S.2 28 := by unfold M_put; split <;> rfl
theorem M_put_a29 (r v : Int) (S : MSt) : (M_put r v S).2 29 = S.2 29 := by unfold M_put; split <;> rfl
theorem M_put_a30 (r v : Int) (S : MSt) : (M_put r v S).2 30 = S.2 30 := by unfold M_put; split <;> rfl
theorem M_put_a31 (r v : Int) (S : MSt) : (M_put r v S).2 31 = S.2 31 := by unfold M_put; split <;> rfl
theorem M_put_i32 (r v : Int) (S : MSt) : (M_put r v S).1 32 = S.1 32 := by unfold M_put; split <;> rfl
theorem M_put_a36 (r v : Int) (S : MSt) : (M_put r v S).2 36 = S.2 36 := by unfold M_put; split <;> rfl
theorem M_put_i37 (r v : Int) (S : MSt) : (M_put r v S).1 37 = S.1 37 := by unfold M_put; split <;> rfl
theorem M_put_i38 (r v : Int) (S : MSt) : (M_put r v S).1 38 = S.1 38 := by unfold M_put; split <;> rfl
theorem M_put_i39 (r v : Int) (S : MSt) : (M_put r v S).1 39 = S.1 39 := by unfold M_put; split <;> rfl
theorem M_put_i40 (r v : Int) (S : MSt) : (M_put r v S).1 40 = S.1 40 := by unfold M_put; split <;> rfl
theorem M_put_i41 (r v : Int) (S : MSt) : (M_put r v S).1 41 = S.1 41 := by unfold M_put; split <;> rfl
theorem M_put_i42 (r v : Int) (S : MSt) : (M_put r v S).1 42 = S.1 42 := by unfold M_put; split <;> rfl
theorem M_put_a43 (r v : Int) (S : MSt) : (M_put r v S).2 43 = S.2 43 := by unfold M_put; split <;> rfl
theorem M_put_a44 (r v : Int) (S : MSt) : (M_put r v S).2 44 = S.2 44 := by unfold M_put; split <;> rfl
theorem M_put_i45 (r v : Int) (S : MSt) : (M_put r v S).1 45 = S.1 45 := by unfold M_put; split <;> rfl
theorem M_put_a46 (r v : Int) (S : MSt) : (M_put r v S).2 46 = S.2 46 := by unfold M_put; split <;> rfl
theorem M_put_i47 (r v : Int) (S : MSt) : (M_put r v S).1 47 = S.1 47 := by unfold M_put; split <;> rfl
theorem M_put_a48 (r v : Int) (S : MSt) : (M_put r v S).2 48 = S.2 48 := by unfold M_put; split <;> rfl
theorem M_put_i49 (r v : Int) (S : MSt) : (M_put r v S).1 49 = S.1 49 := by unfold M_put; split <;> rfl
/-- all groups g, g + 1, .. (n of them) have taken nothing -/
def M_clr : Nat → Int → MSt → MSt
  | 0, _, S => S
  | n + 1, g, S => M_clr n (g + 1) (M_put (10 + g) (-1) (M_put g (-1) S))
def M_pass (k : Int) (S : MSt) : MSt :=
  mi (M_clr (S.2 10 k.toNat % 16 - S.2 10 k.toNat / 16 % 256).toNat (S.2 10 k.toNat / 16 % 256 + 1) (M_put (80 + S.2 11 k.toNat) (S.1 38) (M_put (30 + S.2 11 k.toNat) (S.2 33 (30 + S.2 11 k.toNat).toNat + 1) S))) 39 (k + 1)
set_option maxHeartbeats 4000000 in
set_option maxRecDepth 100000 in
theorem lp7_pass (l : Launch) (D : va_G) (cy : Nat → ClassId) (o : Nat) (q : Nat → Nat) (k l2 last : Int) {p : Program} {e : Env} {s : State} {m : MethodId} {args : Array Value} {below : List Frame} {meth : Method} {c : Code} (B : zAt p s m args meth c RX7 cX7_pass 5 none (.code yX7_pass cX7_pass 5 none :: TB7)) (hK : va_K D vwCl (zTY cy) s) (post : MSt → Prop) :
    ∀ (n : Nat) (T : MSt) (g : Int) (H : Heap) (locs : List Loc) (ls : Array Slot), (0 ≤ g) → (g + n ≤ 100) → (last + 1 = g + n) → (0 ≤ T.1 35) → (T.1 35 + 2 * n < 6000) → (∀ j, -100000 ≤ T.2 33 j ∧ T.2 33 j ≤ 100000) → mH D cy o q (mA o q) s.heap T H locs → lv_has ls 5 [(0, .ref o), (1, .int (zI k)), (2, .int (zI l2)), (3, .int (zI last)), (4, .int (zI g))] → (post (mi (M_clr n g T) 39 (k + 1))) → W p l e (headSpec (.code yX7_pass cX7_pass 5 none :: TB7) ({ frames := 1, cells := 0, slots := 0, locals := 22 })).room s m args below meth c H locs 0 0 (MQ below (mQv D cy o q post) args s 0 0 (mA o q)) (F0 m 65 ls []) := by
  intro n
  induction n with
  | zero =>
    intro T g H locs ls hg0 hg1 hl1 ht0 ht1 hr hM hl hpost
    refine lv_iload B.1 B.2.1 dX7_pass_65 (lv_at hl 4 rfl) ?_
    refine lv_iload_n B.1 B.2.1 dX7_pass_67 rfl (lv_at hl 3 rfl) ?_
    refine z_icmp_gt (tgt := 94) B.1 B.2.1 (zr_of (by omega) (by omega)) (zr_of (by omega) (by omega)) dX7_pass_68 (by decide) (fun c_1 => ?_) (fun c_1 => ?_)
    · --
      refine lv_aload_n B.1 B.2.1 dX7_pass_94 rfl (lv_at hl 0 rfl) ?_
      refine lv_iload_n B.1 B.2.1 dX7_pass_95 rfl (lv_at hl 1 rfl) ?_
      refine z_iconst B.1 B.2.1 dX7_pass_96 ?_
      refine z_iadd (x := k + 1) B.1 B.2.1 rfl dX7_pass_97 ?_
      refine m_put B (i7 _) hK hM 39 (by decide) rfl (by decide +kernel) (List.mem_cons_of_mem _ w7_fRX7_235) dX7_pass_98 (fun H locs hM => ?_)
      exact m_retv B hM (hpost) dX7_pass_101
    · exact absurd c_1 (by omega)
  | succ n ih =>
    intro T g H locs ls hg0 hg1 hl1 ht0 ht1 hr hM hl hpost
    refine lv_iload B.1 B.2.1 dX7_pass_65 (lv_at hl 4 rfl) ?_
    refine lv_iload_n B.1 B.2.1 dX7_pass_67 rfl (lv_at hl 3 rfl) ?_
    refine z_icmp_gt (tgt := 94) B.1 B.2.1 (zr_of (by omega) (by omega)) (zr_of (by omega) (by omega)) dX7_pass_68 (by decide) (fun c_1 => ?_) (fun c_1 => ?_)
    · exact absurd c_1 (by omega)
    · --
      refine lv_aload_n B.1 B.2.1 dX7_pass_71 rfl (lv_at hl 0 rfl) ?_
      refine lv_iload B.1 B.2.1 dX7_pass_72 (lv_at hl 4 rfl) ?_
      refine z_iconst B.1 B.2.1 dX7_pass_74 ?_
      refine m_callv (As := [.int (zI g), .int (zI (-1))]) (rest := []) B hK hM (cX7_put_ok l D cy o q T g (-1) (by show 0 ≤ g; omega) (by show g < 180; omega) (by show -100000 ≤ (-1); omega) (by show (-1) ≤ 100000; omega) (by show 0 ≤ (T.1 35); omega) (by show (T.1 35) < 6000; omega) (hr _).1 (hr _).2) (cw7 2 B w7_mRX7_241 w7_im_yX7_put w7_sl_yX7_put w7_cd_yX7_put rfl rfl (by decide +kernel) ⟨Nat.le_of_ble_eq_true rfl, Nat.le_of_ble_eq_true rfl⟩) rfl hl.1 rfl (Nat.le_of_ble_eq_true rfl) dX7_pass_75 ⟨Nat.zero_le _, Nat.zero_le _⟩ (fun S_3 H locs hp_2 hM => ?_)
      have hp_2 := hp_2.symm
      subst hp_2
      have f_5 : (T.1 35) ≤ (M_put g (-1) T).1 35 ∧ (M_put g (-1) T).1 35 ≤ (T.1 35) + 1 := M_put_35 g (-1) T
      have hr_4 := M_put_reg (r := g) (v := (-1)) (S := T) hr (by omega) (by omega)
      refine lv_aload_n B.1 B.2.1 dX7_pass_78 rfl (lv_at hl 0 rfl) ?_
      refine z_bipush B.1 B.2.1 (by decide) dX7_pass_79 ?_
      refine lv_iload B.1 B.2.1 dX7_pass_81 (lv_at hl 4 rfl) ?_
      refine z_iadd (x := 10 + g) B.1 B.2.1 rfl dX7_pass_83 ?_
      refine z_iconst B.1 B.2.1 dX7_pass_84 ?_
      refine m_callv (As := [.int (zI (10 + g)), .int (zI (-1))]) (rest := []) B hK hM (cX7_put_ok l D cy o q (M_put g (-1) T) (10 + g) (-1) (by show 0 ≤ (10 + g); omega) (by show (10 + g) < 180; omega) (by show -100000 ≤ (-1); omega) (by show (-1) ≤ 100000; omega) (by show 0 ≤ ((M_put g (-1) T).1 35); omega) (by show ((M_put g (-1) T).1 35) < 6000; omega) (hr_4 _).1 (hr_4 _).2) (cw7 2 B w7_mRX7_241 w7_im_yX7_put w7_sl_yX7_put w7_cd_yX7_put rfl rfl (by decide +kernel) ⟨Nat.le_of_ble_eq_true rfl, Nat.le_of_ble_eq_true rfl⟩) rfl hl.1 rfl (Nat.le_of_ble_eq_true rfl) dX7_pass_85 ⟨Nat.zero_le _, Nat.zero_le _⟩ (fun S_7 H locs hp_6 hM => ?_)
      have hp_6 := hp_6.symm
      subst hp_6
      have f_9 : ((M_put g (-1) T).1 35) ≤ (M_put (10 + g) (-1) (M_put g (-1) T)).1 35 ∧ (M_put (10 + g) (-1) (M_put g (-1) T)).1 35 ≤ ((M_put g (-1) T).1 35) + 1 := M_put_35 (10 + g) (-1) (M_put g (-1) T)
      have hr_8 := M_put_reg (r := (10 + g)) (v := (-1)) (S := (M_put g (-1) T)) hr_4 (by omega) (by omega)
      refine z_iinc (v := g + 1) (lv' := [(4, .int (zI (g + 1))), (0, .ref o), (1, .int (zI k)), (2, .int (zI l2)), (3, .int (zI last))]) B.1 B.2.1 dX7_pass_88 hl (k := 4) rfl rfl (by decide) rfl (fun ls hl => ?_)
      refine lv_goto (tgt := 65) B.1 B.2.1 dX7_pass_91 (by decide) ?_
      exact ih (M_put (10 + g) (-1) (M_put g (-1) T)) (g + 1) H locs ls (by omega) (by omega) (by omega) (by omega) (by omega) hr_8 hM (lv_sub hl [1, 2, 3, 4, 0] rfl) hpost
set_option maxHeartbeats 4000000 in
set_option maxRecDepth 100000 in
theorem cX7_pass_ok (l : Launch) (D : va_G) (cy : Nat → ClassId) (o : Nat) (q : Nat → Nat) (S : MSt) (k : Int) (hk0 : 0 ≤ k) (hk1 : k < 220) (hl0 : 0 ≤ S.2 11 k.toNat) (hl1 : S.2 11 k.toNat < 50) (hb0 : 0 ≤ S.2 10 k.toNat) (hb1 : S.2 10 k.toNat ≤ 2000000) (hb2 : S.2 10 k.toNat / 16 % 256 ≤ S.2 10 k.toNat % 16) (hp0 : 0 ≤ S.1 38) (hp1 : S.1 38 ≤ 1000) (ht0 : 0 ≤ S.1 35) (ht1 : S.1 35 ≤ 5900) (hr : ∀ j, -100000 ≤ S.2 33 j ∧ S.2 33 j ≤ 100000) (hr9 : S.2 33 (30 + S.2 11 k.toNat).toNat < 100000) : mMv l D cy o q yX7_pass (.code yX7_pass cX7_pass 5 none :: TB7) ({ frames := 1, cells := 0, slots := 0, locals := 22 }) S [.int (zI k)] (fun S' => S' = M_pass k S) := by
  refine m_of (cc := cX7_pass) (maxL := 5) (ret := none) (by decide) rfl rfl (Nat.le_of_ble_eq_true rfl) ?_
  intro p e s m args below meth c ls B hK hM hl
  have hl : lv_has ls 5 [(0, .ref o), (1, .int (zI k))] := hl
  refine lv_aload_n B.1 B.2.1 dX7_pass_0 rfl (lv_at hl 0 rfl) ?_
  refine m_getr B (i7 _) hK hM 11 (by decide) rfl (List.mem_cons_of_mem _ w7_fRX7_29) dX7_pass_1 ?_
  refine lv_iload_n B.1 B.2.1 dX7_pass_4 rfl (lv_at hl 1 rfl) ?_
  refine m_iald (x := S.2 11 k.toNat) B hK hM 6 11 rfl rfl (by omega) (by simp only [mN]; omega) rfl dX7_pass_5 ?_
  refine lv_istore_n (lv' := [(2, .int (zI (S.2 11 k.toNat))), (0, .ref o), (1, .int (zI k))]) B.1 B.2.1 dX7_pass_6 rfl hl (by decide) rfl (fun ls hl => ?_)
  refine lv_aload_n B.1 B.2.1 dX7_pass_7 rfl (lv_at hl 1 rfl) ?_
  refine m_getr B (i7 _) hK hM 10 (by decide) rfl (List.mem_cons_of_mem _ w7_fRX7_26) dX7_pass_8 ?_
  refine lv_iload_n B.1 B.2.1 dX7_pass_11 rfl (lv_at hl 2 rfl) ?_
  refine m_iald (x := S.2 10 k.toNat) B hK hM 5 10 rfl rfl (by omega) (by simp only [mN]; omega) rfl dX7_pass_12 ?_
  refine z_bipush B.1 B.2.1 (by decide) dX7_pass_13 ?_
  refine z_irem (x := (S.2 10 k.toNat) % 16) B.1 B.2.1 rfl (zr_of (by omega) (by omega)) (by omega) (zr_of (by decide) (by decide)) (by decide) dX7_pass_15 ?_
  refine lv_istore_n (lv' := [(3, .int (zI ((S.2 10 k.toNat) % 16))), (2, .int (zI (S.2 11 k.toNat))), (0, .ref o), (1, .int (zI k))]) B.1 B.2.1 dX7_pass_16 rfl hl (by decide) rfl (fun ls hl => ?_)
  refine lv_aload_n B.1 B.2.1 dX7_pass_17 rfl (lv_at hl 2 rfl) ?_
  refine z_bipush B.1 B.2.1 (by decide) dX7_pass_18 ?_
  refine lv_iload_n B.1 B.2.1 dX7_pass_20 rfl (lv_at hl 1 rfl) ?_
  refine z_iadd (x := 30 + (S.2 11 k.toNat)) B.1 B.2.1 rfl dX7_pass_21 ?_
  refine lv_aload_n B.1 B.2.1 dX7_pass_22 rfl (lv_at hl 2 rfl) ?_
  refine m_getr B (i7 _) hK hM 33 (by decide) rfl (List.mem_cons_of_mem _ w7_fRX7_65) dX7_pass_23 ?_
  refine z_bipush B.1 B.2.1 (by decide) dX7_pass_26 ?_
  refine lv_iload_n B.1 B.2.1 dX7_pass_28 rfl (lv_at hl 1 rfl) ?_
  refine z_iadd (x := 30 + (S.2 11 k.toNat)) B.1 B.2.1 rfl dX7_pass_29 ?_
  refine m_iald (x := S.2 33 (30 + (S.2 11 k.toNat)).toNat) B hK hM 18 33 rfl rfl (by omega) (by simp only [mN]; omega) rfl dX7_pass_30 ?_
  have hr8 := hr (30 + S.2 11 k.toNat).toNat
  refine z_iconst B.1 B.2.1 dX7_pass_31 ?_
  refine z_iadd (x := (S.2 33 (30 + (S.2 11 k.toNat)).toNat) + 1) B.1 B.2.1 rfl dX7_pass_32 ?_
  refine m_callv (As := [.int (zI (30 + (S.2 11 k.toNat))), .int (zI ((S.2 33 (30 + (S.2 11 k.toNat)).toNat) + 1))]) (rest := []) B hK hM (cX7_put_ok l D cy o q S (30 + (S.2 11 k.toNat)) ((S.2 33 (30 + (S.2 11 k.toNat)).toNat) + 1) (by show 0 ≤ (30 + (S.2 11 k.toNat)); omega) (by show (30 + (S.2 11 k.toNat)) < 180; omega) (by show -100000 ≤ ((S.2 33 (30 + (S.2 11 k.toNat)).toNat) + 1); omega) (by show ((S.2 33 (30 + (S.2 11 k.toNat)).toNat) + 1) ≤ 100000; omega) (by show 0 ≤ (S.1 35); omega) (by show (S.1 35) < 6000; omega) (hr _).1 (hr _).2) (cw7 2 B w7_mRX7_241 w7_im_yX7_put w7_sl_yX7_put w7_cd_yX7_put rfl rfl (by decide +kernel) ⟨Nat.le_of_ble_eq_true rfl, Nat.le_of_ble_eq_true rfl⟩) rfl hl.1 rfl (Nat.le_of_ble_eq_true rfl) dX7_pass_33 ⟨Nat.zero_le _, Nat.zero_le _⟩ (fun S_2 H locs hp_1 hM => ?_)
  have hp_1 := hp_1.symm
  subst hp_1
  have f_4 : (S.1 35) ≤ (M_put (30 + (S.2 11 k.toNat)) ((S.2 33 (30 + (S.2 11 k.toNat)).toNat) + 1) S).1 35 ∧ (M_put (30 + (S.2 11 k.toNat)) ((S.2 33 (30 + (S.2 11 k.toNat)).toNat) + 1) S).1 35 ≤ (S.1 35) + 1 := M_put_35 (30 + (S.2 11 k.toNat)) ((S.2 33 (30 + (S.2 11 k.toNat)).toNat) + 1) S
  have hr_3 := M_put_reg (r := (30 + (S.2 11 k.toNat))) (v := ((S.2 33 (30 + (S.2 11 k.toNat)).toNat) + 1)) (S := S) hr (by omega) (by omega)
  refine lv_aload_n B.1 B.2.1 dX7_pass_36 rfl (lv_at hl 2 rfl) ?_
  refine z_bipush B.1 B.2.1 (by decide) dX7_pass_37 ?_
  refine lv_iload_n B.1 B.2.1 dX7_pass_39 rfl (lv_at hl 1 rfl) ?_
  refine z_iadd (x := 80 + (S.2 11 k.toNat)) B.1 B.2.1 rfl dX7_pass_40 ?_
  refine lv_aload_n B.1 B.2.1 dX7_pass_41 rfl (lv_at hl 2 rfl) ?_
  refine m_get (x := S.1 38) B (i7 _) hK hM 38 (by decide) rfl (by simp only [M_put_i38]) (List.mem_cons_of_mem _ w7_fRX7_216) dX7_pass_42 ?_
  refine m_callv (As := [.int (zI (80 + (S.2 11 k.toNat))), .int (zI (S.1 38))]) (rest := []) B hK hM (cX7_put_ok l D cy o q (M_put (30 + (S.2 11 k.toNat)) ((S.2 33 (30 + (S.2 11 k.toNat)).toNat) + 1) S) (80 + (S.2 11 k.toNat)) (S.1 38) (by show 0 ≤ (80 + (S.2 11 k.toNat)); omega) (by show (80 + (S.2 11 k.toNat)) < 180; omega) (by show -100000 ≤ (S.1 38); omega) (by show (S.1 38) ≤ 100000; omega) (by show 0 ≤ ((M_put (30 + (S.2 11 k.toNat)) ((S.2 33 (30 + (S.2 11 k.toNat)).toNat) + 1) S).1 35); omega) (by show ((M_put (30 + (S.2 11 k.toNat)) ((S.2 33 (30 + (S.2 11 k.toNat)).toNat) + 1) S).1 35) < 6000; omega) (hr_3 _).1 (hr_3 _).2) (cw7 2 B w7_mRX7_241 w7_im_yX7_put w7_sl_yX7_put w7_cd_yX7_put rfl rfl (by decide +kernel) ⟨Nat.le_of_ble_eq_true rfl, Nat.le_of_ble_eq_true rfl⟩) rfl hl.1 rfl (Nat.le_of_ble_eq_true rfl) dX7_pass_45 ⟨Nat.zero_le _, Nat.zero_le _⟩ (fun S_6 H locs hp_5 hM => ?_)
  have hp_5 := hp_5.symm
  subst hp_5
  have f_8 : ((M_put (30 + (S.2 11 k.toNat)) ((S.2 33 (30 + (S.2 11 k.toNat)).toNat) + 1) S).1 35) ≤ (M_put (80 + (S.2 11 k.toNat)) (S.1 38) (M_put (30 + (S.2 11 k.toNat)) ((S.2 33 (30 + (S.2 11 k.toNat)).toNat) + 1) S)).1 35 ∧ (M_put (80 + (S.2 11 k.toNat)) (S.1 38) (M_put (30 + (S.2 11 k.toNat)) ((S.2 33 (30 + (S.2 11 k.toNat)).toNat) + 1) S)).1 35 ≤ ((M_put (30 + (S.2 11 k.toNat)) ((S.2 33 (30 + (S.2 11 k.toNat)).toNat) + 1) S).1 35) + 1 := M_put_35 (80 + (S.2 11 k.toNat)) (S.1 38) (M_put (30 + (S.2 11 k.toNat)) ((S.2 33 (30 + (S.2 11 k.toNat)).toNat) + 1) S)
  have hr_7 := M_put_reg (r := (80 + (S.2 11 k.toNat))) (v := (S.1 38)) (S := (M_put (30 + (S.2 11 k.toNat)) ((S.2 33 (30 + (S.2 11 k.toNat)).toNat) + 1) S)) hr_3 (by omega) (by omega)
  refine lv_aload_n B.1 B.2.1 dX7_pass_48 rfl (lv_at hl 2 rfl) ?_
  refine m_getr B (i7 _) hK hM 10 (by decide) rfl (List.mem_cons_of_mem _ w7_fRX7_26) dX7_pass_49 ?_
  refine lv_iload_n B.1 B.2.1 dX7_pass_52 rfl (lv_at hl 3 rfl) ?_
  refine m_iald (x := S.2 10 k.toNat) B hK hM 5 10 rfl rfl (by omega) (by simp only [mN]; omega) (by simp only [M_put_a10]) dX7_pass_53 ?_
  refine z_bipush B.1 B.2.1 (by decide) dX7_pass_54 ?_
  refine z_idiv (x := (S.2 10 k.toNat) / 16) B.1 B.2.1 rfl (zr_of (by omega) (by omega)) (by omega) (zr_of (by decide) (by decide)) (by decide) dX7_pass_56 ?_
  refine z_sipush B.1 B.2.1 (by decide) dX7_pass_57 ?_
  refine z_irem (x := ((S.2 10 k.toNat) / 16) % 256) B.1 B.2.1 rfl (zr_of (by omega) (by omega)) (by omega) (zr_of (by decide) (by decide)) (by decide) dX7_pass_60 ?_
  refine z_iconst B.1 B.2.1 dX7_pass_61 ?_
  refine z_iadd (x := (((S.2 10 k.toNat) / 16) % 256) + 1) B.1 B.2.1 rfl dX7_pass_62 ?_
  refine lv_istore (lv' := [(4, .int (zI ((((S.2 10 k.toNat) / 16) % 256) + 1))), (3, .int (zI ((S.2 10 k.toNat) % 16))), (2, .int (zI (S.2 11 k.toNat))), (0, .ref o), (1, .int (zI k))]) B.1 B.2.1 dX7_pass_63 hl (by decide) rfl (fun ls hl => ?_)
  exact lp7_pass l D cy o q k _ _ B hK _ (S.2 10 k.toNat % 16 - S.2 10 k.toNat / 16 % 256).toNat (M_put (80 + (S.2 11 k.toNat)) (S.1 38) (M_put (30 + (S.2 11 k.toNat)) ((S.2 33 (30 + (S.2 11 k.toNat)).toNat) + 1) S)) _ H locs ls (by omega) (by omega) (by omega) (by omega) (by omega) hr_7 hM (lv_sub hl [3, 4, 2, 1, 0] rfl) rfl
