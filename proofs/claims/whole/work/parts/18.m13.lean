theorem M_write_i0 (x : Int) (S : MSt) : (M_write x S).1 0 = S.1 0 := by unfold M_write; split <;> rfl
theorem M_write_a1 (x : Int) (S : MSt) : (M_write x S).2 1 = S.2 1 := by unfold M_write; split <;> rfl
theorem M_write_i2 (x : Int) (S : MSt) : (M_write x S).1 2 = S.1 2 := by unfold M_write; split <;> rfl
theorem M_write_a3 (x : Int) (S : MSt) : (M_write x S).2 3 = S.2 3 := by unfold M_write; split <;> rfl
theorem M_write_i4 (x : Int) (S : MSt) : (M_write x S).1 4 = S.1 4 := by unfold M_write; split <;> rfl
theorem M_write_i5 (x : Int) (S : MSt) : (M_write x S).1 5 = S.1 5 := by unfold M_write; split <;> rfl
theorem M_write_i6 (x : Int) (S : MSt) : (M_write x S).1 6 = S.1 6 := by unfold M_write; split <;> rfl
theorem M_write_a7 (x : Int) (S : MSt) : (M_write x S).2 7 = S.2 7 := by unfold M_write; split <;> rfl
theorem M_write_a8 (x : Int) (S : MSt) : (M_write x S).2 8 = S.2 8 := by unfold M_write; split <;> rfl
theorem M_write_a9 (x : Int) (S : MSt) : (M_write x S).2 9 = S.2 9 := by unfold M_write; split <;> rfl
theorem M_write_a10 (x : Int) (S : MSt) : (M_write x S).2 10 = S.2 10 := by unfold M_write; split <;> rfl
theorem M_write_a11 (x : Int) (S : MSt) : (M_write x S).2 11 = S.2 11 := by unfold M_write; split <;> rfl
theorem M_write_i12 (x : Int) (S : MSt) : (M_write x S).1 12 = S.1 12 := by unfold M_write; split <;> rfl
theorem M_write_a13 (x : Int) (S : MSt) : (M_write x S).2 13 = S.2 13 := by unfold M_write; split <;> rfl
theorem M_write_i14 (x : Int) (S : MSt) : (M_write x S).1 14 = S.1 14 := by unfold M_write; split <;> rfl
theorem M_write_a15 (x : Int) (S : MSt) : (M_write x S).2 15 = S.2 15 := by unfold M_write; split <;> rfl
theorem M_write_a16 (x : Int) (S : MSt) : (M_write x S).2 16 = S.2 16 := by unfold M_write; split <;> rfl
theorem M_write_a17 (x : Int) (S : MSt) : (M_write x S).2 17 = S.2 17 := by unfold M_write; split <;> rfl
theorem M_write_a18 (x : Int) (S : MSt) : (M_write x S).2 18 = S.2 18 := by unfold M_write; split <;> rfl
theorem M_write_i19 (x : Int) (S : MSt) : (M_write x S).1 19 = S.1 19 := by unfold M_write; split <;> rfl
theorem M_write_i20 (x : Int) (S : MSt) : (M_write x S).1 20 = S.1 20 := by unfold M_write; split <;> rfl
theorem M_write_i21 (x : Int) (S : MSt) : (M_write x S).1 21 = S.1 21 := by unfold M_write; split <;> rfl
theorem M_write_i22 (x : Int) (S : MSt) : (M_write x S).1 22 = S.1 22 := by unfold M_write; split <;> rfl
theorem M_write_i23 (x : Int) (S : MSt) : (M_write x S).1 23 = S.1 23 := by unfold M_write; split <;> rfl
theorem M_write_i24 (x : Int) (S : MSt) : (M_write x S).1 24 = S.1 24 := by unfold M_write; split <;> rfl
theorem M_write_i25 (x : Int) (S : MSt) : (M_write x S).1 25 = S.1 25 := by unfold M_write; split <;> rfl
theorem M_write_a26 (x : Int) (S : MSt) : (M_write x S).2 26 = S.2 26 := by unfold M_write; split <;> rfl
theorem M_write_a27 (x : Int) (S : MSt) : (M_write x S).2 27 = S.2 27 := by unfold M_write; split <;> rfl
theorem M_write_a28 (x : Int) (S : MSt) : (M_write x S).2 28 = S.2 28 := by unfold M_write; split <;> rfl
theorem M_write_a29 (x : Int) (S : MSt) : (M_write x S).2 29 = S.2 29 := by unfold M_write; split <;> rfl
theorem M_write_a30 (x : Int) (S : MSt) : (M_write x S).2 30 = S.2 30 := by unfold M_write; split <;> rfl
theorem M_write_a31 (x : Int) (S : MSt) : (M_write x S).2 31 = S.2 31 := by unfold M_write; split <;> rfl
theorem M_write_i32 (x : Int) (S : MSt) : (M_write x S).1 32 = S.1 32 := by unfold M_write; split <;> rfl
theorem M_write_a33 (x : Int) (S : MSt) : (M_write x S).2 33 = S.2 33 := by unfold M_write; split <;> rfl
theorem M_write_a34 (x : Int) (S : MSt) : (M_write x S).2 34 = S.2 34 := by unfold M_write; split <;> rfl
theorem M_write_i35 (x : Int) (S : MSt) : (M_write x S).1 35 = S.1 35 := by unfold M_write; split <;> rfl
theorem M_write_a36 (x : Int) (S : MSt) : (M_write x S).2 36 = S.2 36 := by unfold M_write; split <;> rfl
theorem M_write_i37 (x : Int) (S : MSt) : (M_write x S).1 37 = S.1 37 := by unfold M_write; split <;> rfl
theorem M_write_i38 (x : Int) (S : MSt) : (M_write x S).1 38 = S.1 38 := by unfold M_write; split <;> rfl
theorem M_write_i39 (x : Int) (S : MSt) : (M_write x S).1 39 = S.1 39 := by unfold M_write; split <;> rfl
theorem M_write_i40 (x : Int) (S : MSt) : (M_write x S).1 40 = S.1 40 := by unfold M_write; split <;> rfl
theorem M_write_i41 (x : Int) (S : MSt) : (M_write x S).1 41 = S.1 41 := by unfold M_write; split <;> rfl
theorem M_write_i42 (x : Int) (S : MSt) : (M_write x S).1 42 = S.1 42 := by unfold M_write; split <;> rfl
theorem M_write_a43 (x : Int) (S : MSt) : (M_write x S).2 43 = S.2 43 := by unfold M_write; split <;> rfl
theorem M_write_a44 (x : Int) (S : MSt) : (M_write x S).2 44 = S.2 44 := by unfold M_write; split <;> rfl
theorem M_write_i45 (x : Int) (S : MSt) : (M_write x S).1 45 = S.1 45 := by unfold M_write; split <;> rfl
theorem M_write_a46 (x : Int) (S : MSt) : (M_write x S).2 46 = S.2 46 := by unfold M_write; split <;> rfl
theorem M_write_i47 (x : Int) (S : MSt) : (M_write x S).1 47 = S.1 47 := by unfold M_write; split <;> rfl
theorem M_write_49 {x : Int} {S : MSt} (h0 : 0 ≤ S.1 49) (h1 : S.1 49 ≤ 260) : 0 ≤ (M_write x S).1 49 ∧ (M_write x S).1 49 ≤ 260 := by
  unfold M_write
  split
  · show 0 ≤ S.1 49 + 0 ∧ S.1 49 + 0 ≤ 260
    omega
  · show 0 ≤ S.1 49 + 1 ∧ S.1 49 + 1 ≤ 260
    omega
def M_writeTextL (fr : Int) (to : Int) : Nat → Int → MSt → MSt
  | 0, k, T => T
  | n + 1, k, T => (if to ≤ k then T else M_writeTextL fr to n (k + 1) ((M_write (T.2 3 k.toNat) T)))
set_option maxHeartbeats 4000000 in
set_option maxRecDepth 100000 in
theorem lp7_writeText (l : Launch) (D : va_G) (cy : Nat → ClassId) (o : Nat) (q : Nat → Nat) (fr : Int) (to : Int)  {p : Program} {e : Env} {s : State} {m : MethodId} {args : Array Value} {below : List Frame} {meth : Method} {c : Code} (B : zAt p s m args meth c RX7 cX7_writeText 4 none (.code yX7_writeText cX7_writeText 4 none :: TB7)) (hK : va_K D vwCl (zTY cy) s) (post : MSt → Prop) :
    ∀ (n : Nat) (k : Int) (T : MSt) (H : Heap) (locs : List Loc) (ls : Array Slot), (to - k ≤ n) → (k < to → 0 ≤ k) → (-1000 ≤ k ∧ k ≤ 1000) → (to ≤ 24) → (-1000 ≤ to) → (0 ≤ T.1 49) → (T.1 49 ≤ 260) → (∀ j, 0 ≤ T.2 3 j ∧ T.2 3 j ≤ 126) → mH D cy o q (mA o q) s.heap T H locs → lv_has ls 4 [(0, .ref o), (1, .int (zI fr)), (2, .int (zI to)), (3, .int (zI k))] → post (M_writeTextL fr to n k T) → W p l e (headSpec (.code yX7_writeText cX7_writeText 4 none :: TB7) ({ frames := 1, cells := 0, slots := 0, locals := 21 })).room s m args below meth c H locs 0 0 (MQ below (mQv D cy o q post) args s 0 0 (mA o q)) (F0 m 2 ls []) := by
  intro n
  induction n with
  | zero =>
    intro k T H locs ls hn hk0 hkb hto htb h490 h491 htx hM hl hpost
    refine lv_iload_n B.1 B.2.1 dX7_writeText_2 rfl (lv_at hl 3 rfl) ?_
    refine lv_iload_n B.1 B.2.1 dX7_writeText_3 rfl (lv_at hl 2 rfl) ?_
    refine z_icmp_ge (tgt := 23) B.1 B.2.1 (zr_of (by omega) (by omega)) (zr_of (by omega) (by omega)) dX7_writeText_4 (by decide) (fun c_1 => ?_) (fun c_1 => ?_)
    · --
      have hq : M_writeTextL fr to 0 k T = T := rfl
      rw [hq] at hpost
      exact m_retv B hM (hpost) dX7_writeText_23
    · exact absurd c_1 (by omega)
  | succ n ih =>
    intro k T H locs ls hn hk0 hkb hto htb h490 h491 htx hM hl hpost
    refine lv_iload_n B.1 B.2.1 dX7_writeText_2 rfl (lv_at hl 3 rfl) ?_
    refine lv_iload_n B.1 B.2.1 dX7_writeText_3 rfl (lv_at hl 2 rfl) ?_
    refine z_icmp_ge (tgt := 23) B.1 B.2.1 (zr_of (by omega) (by omega)) (zr_of (by omega) (by omega)) dX7_writeText_4 (by decide) (fun c_1 => ?_) (fun c_1 => ?_)
    · --
      have hq : M_writeTextL fr to (n + 1) k T = T := by rw [M_writeTextL]; exact (if_pos c_1)
      rw [hq] at hpost
      exact m_retv B hM (hpost) dX7_writeText_23
    · --
      have hk1 := hk0 (by omega)
      refine lv_aload_n B.1 B.2.1 dX7_writeText_7 rfl (lv_at hl 0 rfl) ?_
      refine lv_aload_n B.1 B.2.1 dX7_writeText_8 rfl (lv_at hl 0 rfl) ?_
      refine m_getr B (i7 _) hK hM 3 (by decide) rfl (List.mem_cons_of_mem _ w7_fRX7_13) dX7_writeText_9 ?_
      refine lv_iload_n B.1 B.2.1 dX7_writeText_12 rfl (lv_at hl 3 rfl) ?_
      have f_2 := htx k.toNat
      refine m_cald (x := T.2 3 k.toNat) B hK hM 1 3 rfl rfl (by omega) (by simp only [mN]; omega) rfl dX7_writeText_13 ?_
      refine m_callv (As := [.int (zI (T.2 3 k.toNat))]) (rest := []) B hK hM (cX7_write_ok l D cy o q T (T.2 3 k.toNat) (by show 0 ≤ (T.2 3 k.toNat); omega) (by show (T.2 3 k.toNat) < 65536; omega) (by show 0 ≤ (T.1 49); omega) (by show (T.1 49) ≤ 260; omega)) (cw7 1 B w7_mRX7_295 w7_im_yX7_write w7_sl_yX7_write w7_cd_yX7_write rfl rfl (by decide +kernel) ⟨Nat.le_of_ble_eq_true rfl, Nat.le_of_ble_eq_true rfl⟩) rfl hl.1 rfl (Nat.le_of_ble_eq_true rfl) dX7_writeText_14 ⟨Nat.zero_le _, Nat.zero_le _⟩ (fun S_4 H locs hp_3 hM => ?_)
      have hp_3 := hp_3.symm
      subst hp_3
      have f_5 : 0 ≤ (M_write (T.2 3 k.toNat) T).1 49 ∧ (M_write (T.2 3 k.toNat) T).1 49 ≤ 260 := M_write_49 (x := (T.2 3 k.toNat)) (S := T) (by show 0 ≤ (T.1 49); omega) (by show (T.1 49) ≤ 260; omega)
      refine z_iinc (v := k + 1) (lv' := [(3, .int (zI (k + 1))), (0, .ref o), (1, .int (zI fr)), (2, .int (zI to))]) B.1 B.2.1 dX7_writeText_17 hl (k := 3) rfl rfl (by decide) rfl (fun ls hl => ?_)
      refine lv_goto (tgt := 2) B.1 B.2.1 dX7_writeText_20 (by decide) ?_
      have hq : M_writeTextL fr to (n + 1) k T = M_writeTextL fr to n (k + 1) ((M_write (T.2 3 k.toNat) T)) := by rw [M_writeTextL]; exact (if_neg c_1)
      rw [hq] at hpost
      exact ih (k + 1) ((M_write (T.2 3 k.toNat) T)) H locs ls (by omega) (by omega) (by omega) hto htb (by omega) (by omega) (by rw [M_write_a3]; exact htx) hM (lv_sub hl [1, 2, 3, 0] rfl) hpost
def M_writeText (fr to : Int) (S : MSt) : MSt := M_writeTextL fr to (to - fr).toNat fr S
set_option maxHeartbeats 4000000 in
set_option maxRecDepth 100000 in
theorem cX7_writeText_ok (l : Launch) (D : va_G) (cy : Nat → ClassId) (o : Nat) (q : Nat → Nat) (S : MSt) (fr to : Int) (hk0 : fr < to → 0 ≤ fr) (hkb : -1000 ≤ fr ∧ fr ≤ 1000) (hto : to ≤ 24) (htb : -1000 ≤ to) (h490 : 0 ≤ S.1 49) (h491 : S.1 49 ≤ 260) (htx : ∀ j, 0 ≤ S.2 3 j ∧ S.2 3 j ≤ 126) : mMv l D cy o q yX7_writeText (.code yX7_writeText cX7_writeText 4 none :: TB7) ({ frames := 1, cells := 0, slots := 0, locals := 21 }) S [.int (zI fr), .int (zI to)] (fun S' => S' = M_writeText fr to S) := by
  refine m_of (cc := cX7_writeText) (maxL := 4) (ret := none) (by decide) rfl rfl (Nat.le_of_ble_eq_true rfl) ?_
  intro p e s m args below meth c ls B hK hM hl
  have hl : lv_has ls 4 [(0, .ref o), (1, .int (zI fr)), (2, .int (zI to))] := hl
  refine lv_iload_n B.1 B.2.1 dX7_writeText_0 rfl (lv_at hl 1 rfl) ?_
  refine lv_istore_n (lv' := [(3, .int (zI fr)), (0, .ref o), (1, .int (zI fr)), (2, .int (zI to))]) B.1 B.2.1 dX7_writeText_1 rfl hl (by decide) rfl (fun ls hl => ?_)
  exact lp7_writeText l D cy o q fr to B hK _ (to - fr).toNat fr S _ _ ls (by omega) hk0 hkb hto htb h490 h491 htx hM (lv_sub hl [1, 2, 3, 0] rfl) rfl
theorem M_write_i {x : Int} {S : MSt} {j : Nat} (h : j ≠ 49) : (M_write x S).1 j = S.1 j := by
  unfold M_write
  split
  · exact mi_ne h
  · exact mi_ne h
theorem M_write_a {x : Int} {S : MSt} {j : Nat} (h : j ≠ 48) : (M_write x S).2 j = S.2 j := by
  unfold M_write
  split
  · rfl
  · exact ma_ne h
theorem M_writeTextL_i {j : Nat} (h : j ≠ 49) (fr to : Int) : ∀ (n : Nat) (k : Int) (S : MSt), (M_writeTextL fr to n k S).1 j = S.1 j := by
  intro n
  induction n with
  | zero => intro k S; rfl
  | succ n ih =>
    intro k S
    rw [M_writeTextL]
    split
    · rfl
    · rw [ih, M_write_i h]
theorem M_writeTextL_a {j : Nat} (h : j ≠ 48) (fr to : Int) : ∀ (n : Nat) (k : Int) (S : MSt), (M_writeTextL fr to n k S).2 j = S.2 j := by
  intro n
  induction n with
  | zero => intro k S; rfl
  | succ n ih =>
    intro k S
    rw [M_writeTextL]
    split
    · rfl
    · rw [ih, M_write_a h]
theorem M_writeTextL_49 (fr to : Int) : ∀ (n : Nat) (k : Int) (S : MSt), 0 ≤ S.1 49 → S.1 49 ≤ 260 → 0 ≤ (M_writeTextL fr to n k S).1 49 ∧ (M_writeTextL fr to n k S).1 49 ≤ 260 := by
  intro n
  induction n with
  | zero => intro k S h0 h1; exact ⟨h0, h1⟩
  | succ n ih =>
    intro k S h0 h1
    rw [M_writeTextL]
    split
    · exact ⟨h0, h1⟩
    · have := M_write_49 (x := S.2 3 k.toNat) h0 h1
      exact ih _ _ this.1 this.2
theorem M_writeText_i0 (fr to : Int) (S : MSt) : (M_writeText fr to S).1 0 = S.1 0 := M_writeTextL_i (by decide) fr to _ _ _
theorem M_writeText_a1 (fr to : Int) (S : MSt) : (M_writeText fr to S).2 1 = S.2 1 := M_writeTextL_a (by decide) fr to _ _ _
theorem M_writeText_i2 (fr to : Int) (S : MSt) : (M_writeText fr to S).1 2 = S.1 2 := M_writeTextL_i (by decide) fr to _ _ _
theorem M_writeText_a3 (fr to : Int) (S : MSt) : (M_writeText fr to S).2 3 = S.2 3 := M_writeTextL_a (by decide) fr to _ _ _
theorem M_writeText_i4 (fr to : Int) (S : MSt) : (M_writeText fr to S).1 4 = S.1 4 := M_writeTextL_i (by decide) fr to _ _ _
theorem M_writeText_i5 (fr to : Int) (S : MSt) : (M_writeText fr to S).1 5 = S.1 5 := M_writeTextL_i (by decide) fr to _ _ _
theorem M_writeText_i6 (fr to : Int) (S : MSt) : (M_writeText fr to S).1 6 = S.1 6 := M_writeTextL_i (by decide) fr to _ _ _
theorem M_writeText_a7 (fr to : Int) (S : MSt) : (M_writeText fr to S).2 7 = S.2 7 := M_writeTextL_a (by decide) fr to _ _ _
theorem M_writeText_a8 (fr to : Int) (S : MSt) : (M_writeText fr to S).2 8 = S.2 8 := M_writeTextL_a (by decide) fr to _ _ _
theorem M_writeText_a9 (fr to : Int) (S : MSt) : (M_writeText fr to S).2 9 = S.2 9 := M_writeTextL_a (by decide) fr to _ _ _
theorem M_writeText_a10 (fr to : Int) (S : MSt) : (M_writeText fr to S).2 10 = S.2 10 := M_writeTextL_a (by decide) fr to _ _ _
theorem M_writeText_a11 (fr to : Int) (S : MSt) : (M_writeText fr to S).2 11 = S.2 11 := M_writeTextL_a (by decide) fr to _ _ _
theorem M_writeText_i12 (fr to : Int) (S : MSt) : (M_writeText fr to S).1 12 = S.1 12 := M_writeTextL_i (by decide) fr to _ _ _
theorem M_writeText_a13 (fr to : Int) (S : MSt) : (M_writeText fr to S).2 13 = S.2 13 := M_writeTextL_a (by decide) fr to _ _ _
theorem M_writeText_i14 (fr to : Int) (S : MSt) : (M_writeText fr to S).1 14 = S.1 14 := M_writeTextL_i (by decide) fr to _ _ _
theorem M_writeText_a15 (fr to : Int) (S : MSt) : (M_writeText fr to S).2 15 = S.2 15 := M_writeTextL_a (by decide) fr to _ _ _
theorem M_writeText_a16 (fr to : Int) (S : MSt) : (M_writeText fr to S).2 16 = S.2 16 := M_writeTextL_a (by decide) fr to _ _ _
theorem M_writeText_a17 (fr to : Int) (S : MSt) : (M_writeText fr to S).2 17 = S.2 17 := M_writeTextL_a (by decide) fr to _ _ _
theorem M_writeText_a18 (fr to : Int) (S : MSt) : (M_writeText fr to S).2 18 = S.2 18 := M_writeTextL_a (by decide) fr to _ _ _
theorem M_writeText_i19 (fr to : Int) (S : MSt) : (M_writeText fr to S).1 19 = S.1 19 := M_writeTextL_i (by decide) fr to _ _ _
theorem M_writeText_i20 (fr to : Int) (S : MSt) : (M_writeText fr to S).1 20 = S.1 20 := M_writeTextL_i (by decide) fr to _ _ _
theorem M_writeText_i21 (fr to : Int) (S : MSt) : (M_writeText fr to S).1 21 = S.1 21 := M_writeTextL_i (by decide) fr to _ _ _
theorem M_writeText_i22 (fr to : Int) (S : MSt) : (M_writeText fr to S).1 22 = S.1 22 := M_writeTextL_i (by decide) fr to _ _ _
theorem M_writeText_i23 (fr to : Int) (S : MSt) : (M_writeText fr to S).1 23 = S.1 23 := M_writeTextL_i (by decide) fr to _ _ _
theorem M_writeText_i24 (fr to : Int) (S : MSt) : (M_writeText fr to S).1 24 = S.1 24 := M_writeTextL_i (by decide) fr to _ _ _
theorem M_writeText_i25 (fr to : Int) (S : MSt) : (M_writeText fr to S).1 25 = S.1 25 := M_writeTextL_i (by decide) fr to _ _ _
theorem M_writeText_a26 (fr to : Int) (S : MSt) : (M_writeText fr to S).2 26 = S.2 26 := M_writeTextL_a (by decide) fr to _ _ _
theorem M_writeText_a27 (fr to : Int) (S : MSt) : (M_writeText fr to S).2 27 = S.2 27 := M_writeTextL_a (by decide) fr to _ _ _
theorem M_writeText_a28 (fr to : Int) (S : MSt) : (M_writeText fr to S).2 28 = S.2 28 := M_writeTextL_a (by decide) fr to _ _ _
theorem M_writeText_a29 (fr to : Int) (S : MSt) : (M_writeText fr to S).2 29 = S.2 29 := M_writeTextL_a (by decide) fr to _ _ _
theorem M_writeText_a30 (fr to : Int) (S : MSt) : (M_writeText fr to S).2 30 = S.2 30 := M_writeTextL_a (by decide) fr to _ _ _
theorem M_writeText_a31 (fr to : Int) (S : MSt) : (M_writeText fr to S).2 31 = S.2 31 := M_writeTextL_a (by decide) fr to _ _ _
theorem M_writeText_i32 (fr to : Int) (S : MSt) : (M_writeText fr to S).1 32 = S.1 32 := M_writeTextL_i (by decide) fr to _ _ _
theorem M_writeText_a33 (fr to : Int) (S : MSt) : (M_writeText fr to S).2 33 = S.2 33 := M_writeTextL_a (by decide) fr to _ _ _
theorem M_writeText_a34 (fr to : Int) (S : MSt) : (M_writeText fr to S).2 34 = S.2 34 := M_writeTextL_a (by decide) fr to _ _ _
theorem M_writeText_i35 (fr to : Int) (S : MSt) : (M_writeText fr to S).1 35 = S.1 35 := M_writeTextL_i (by decide) fr to _ _ _
theorem M_writeText_a36 (fr to : Int) (S : MSt) : (M_writeText fr to S).2 36 = S.2 36 := M_writeTextL_a (by decide) fr to _ _ _
theorem M_writeText_i37 (fr to : Int) (S : MSt) : (M_writeText fr to S).1 37 = S.1 37 := M_writeTextL_i (by decide) fr to _ _ _
theorem M_writeText_i38 (fr to : Int) (S : MSt) : (M_writeText fr to S).1 38 = S.1 38 := M_writeTextL_i (by decide) fr to _ _ _
theorem M_writeText_i39 (fr to : Int) (S : MSt) : (M_writeText fr to S).1 39 = S.1 39 := M_writeTextL_i (by decide) fr to _ _ _
theorem M_writeText_i40 (fr to : Int) (S : MSt) : (M_writeText fr to S).1 40 = S.1 40 := M_writeTextL_i (by decide) fr to _ _ _
theorem M_writeText_i41 (fr to : Int) (S : MSt) : (M_writeText fr to S).1 41 = S.1 41 := M_writeTextL_i (by decide) fr to _ _ _
theorem M_writeText_i42 (fr to : Int) (S : MSt) : (M_writeText fr to S).1 42 = S.1 42 := M_writeTextL_i (by decide) fr to _ _ _
theorem M_writeText_a43 (fr to : Int) (S : MSt) : (M_writeText fr to S).2 43 = S.2 43 := M_writeTextL_a (by decide) fr to _ _ _
theorem M_writeText_a44 (fr to : Int) (S : MSt) : (M_writeText fr to S).2 44 = S.2 44 := M_writeTextL_a (by decide) fr to _ _ _
theorem M_writeText_i45 (fr to : Int) (S : MSt) : (M_writeText fr to S).1 45 = S.1 45 := M_writeTextL_i (by decide) fr to _ _ _
theorem M_writeText_a46 (fr to : Int) (S : MSt) : (M_writeText fr to S).2 46 = S.2 46 := M_writeTextL_a (by decide) fr to _ _ _
theorem M_writeText_i47 (fr to : Int) (S : MSt) : (M_writeText fr to S).1 47 = S.1 47 := M_writeTextL_i (by decide) fr to _ _ _
def M_writeTemplateL (pl : Int) : Nat → Int → MSt → MSt
  | 0, k, T => T
  | n + 1, k, T => (if (T.1 2) ≤ k then T else (if (T.2 1 k.toNat) = 36 then (if ((if (T.1 2) ≤ (k + 1) then 0 else T.2 1 (k + 1).toNat : Int)) = 36 then M_writeTemplateL pl n (k + 2) ((M_write 36 T)) else (if ((if (T.1 2) ≤ (k + 1) then 0 else T.2 1 (k + 1).toNat : Int)) = 38 then M_writeTemplateL pl n (k + 2) ((M_writeText pl (T.1 38) T)) else (if (((if (T.1 2) ≤ (k + 1) then 0 else T.2 1 (k + 1).toNat : Int)) - 48) < 1 then M_writeTemplateL pl n (k + 2 + (-1)) ((M_write (T.2 1 k.toNat) T)) else (if (T.1 12) < (((if (T.1 2) ≤ (k + 1) then 0 else T.2 1 (k + 1).toNat : Int)) - 48) then M_writeTemplateL pl n (k + 2 + (-1)) ((M_write (T.2 1 k.toNat) T)) else (if 9 < (((if (T.1 2) ≤ (k + 1) then 0 else T.2 1 (k + 1).toNat : Int)) - 48) then M_writeTemplateL pl n (k + 2 + (-1)) ((M_write (T.2 1 k.toNat) T)) else M_writeTemplateL pl n (k + 2) ((M_writeText (T.2 33 (((if (T.1 2) ≤ (k + 1) then 0 else T.2 1 (k + 1).toNat : Int)) - 48).toNat) (T.2 33 (10 + (((if (T.1 2) ≤ (k + 1) then 0 else T.2 1 (k + 1).toNat : Int)) - 48)).toNat) T))))))) else M_writeTemplateL pl n (k + 2 + (-1)) ((M_write (T.2 1 k.toNat) T))))
set_option maxHeartbeats 4000000 in
set_option maxRecDepth 100000 in
theorem lp7_writeTemplate (l : Launch) (D : va_G) (cy : Nat → ClassId) (o : Nat) (q : Nat → Nat) (pl : Int) (hpl0 : 0 ≤ pl) (hpl1 : pl ≤ 1000) {p : Program} {e : Env} {s : State} {m : MethodId} {args : Array Value} {below : List Frame} {meth : Method} {c : Code} (B : zAt p s m args meth c RX7 cX7_writeTemplate 6 none (.code yX7_writeTemplate cX7_writeTemplate 6 none :: TB7)) (hK : va_K D vwCl (zTY cy) s) (post : MSt → Prop) :
    ∀ (n : Nat) (k : Int) (T : MSt) (H : Heap) (locs : List Loc) (ls : Array Slot), (T.1 2 - k ≤ n) → (0 ≤ k) → (k ≤ 100) → (0 ≤ T.1 2) → (T.1 2 ≤ 40) → (0 ≤ T.1 38) → (T.1 38 ≤ 24) → (0 ≤ T.1 12 ∧ T.1 12 ≤ 9) → (0 ≤ T.1 49) → (T.1 49 ≤ 260) → (∀ j, 0 ≤ T.2 3 j ∧ T.2 3 j ≤ 126) → (∀ j, 0 ≤ T.2 1 j ∧ T.2 1 j ≤ 126) → (∀ g : Int, 1 ≤ g → g ≤ 9 → -1000 ≤ T.2 33 g.toNat ∧ -1000 ≤ T.2 33 (10 + g).toNat ∧ T.2 33 (10 + g).toNat ≤ 24 ∧ (T.2 33 g.toNat < T.2 33 (10 + g).toNat → 0 ≤ T.2 33 g.toNat) ∧ T.2 33 g.toNat ≤ 1000) → mH D cy o q (mA o q) s.heap T H locs → lv_has ls 6 [(0, .ref o), (1, .int (zI pl)), (2, .int (zI k))] → post (M_writeTemplateL pl n k T) → W p l e (headSpec (.code yX7_writeTemplate cX7_writeTemplate 6 none :: TB7) ({ frames := 2, cells := 0, slots := 0, locals := 44 })).room s m args below meth c H locs 0 0 (MQ below (mQv D cy o q post) args s 0 0 (mA o q)) (F0 m 2 ls []) := by
  intro n
  induction n with
  | zero =>
    intro k T H locs ls hn hk0 hkb htc0 htc hp0 hp1 hgr h490 h491 htx hty hrg hM hl hpost
    refine lv_iload_n B.1 B.2.1 dX7_writeTemplate_2 rfl (lv_at hl 2 rfl) ?_
    refine lv_aload_n B.1 B.2.1 dX7_writeTemplate_3 rfl (lv_at hl 0 rfl) ?_
    refine m_get (x := T.1 2) B (i7 _) hK hM 2 (by decide) rfl rfl (List.mem_cons_of_mem _ w7_fRX7_101) dX7_writeTemplate_4 ?_
    refine z_icmp_ge (tgt := 161) B.1 B.2.1 (zr_of (by omega) (by omega)) (zr_of (by omega) (by omega)) dX7_writeTemplate_7 (by decide) (fun c_1 => ?_) (fun c_1 => ?_)
    · --
      have hq : M_writeTemplateL pl 0 k T = T := rfl
      rw [hq] at hpost
      exact m_retv B hM (hpost) dX7_writeTemplate_161
    · exact absurd c_1 (by omega)
  | succ n ih =>
    intro k T H locs ls hn hk0 hkb htc0 htc hp0 hp1 hgr h490 h491 htx hty hrg hM hl hpost
    refine lv_iload_n B.1 B.2.1 dX7_writeTemplate_2 rfl (lv_at hl 2 rfl) ?_
    refine lv_aload_n B.1 B.2.1 dX7_writeTemplate_3 rfl (lv_at hl 0 rfl) ?_
    refine m_get (x := T.1 2) B (i7 _) hK hM 2 (by decide) rfl rfl (List.mem_cons_of_mem _ w7_fRX7_101) dX7_writeTemplate_4 ?_
    refine z_icmp_ge (tgt := 161) B.1 B.2.1 (zr_of (by omega) (by omega)) (zr_of (by omega) (by omega)) dX7_writeTemplate_7 (by decide) (fun c_1 => ?_) (fun c_1 => ?_)
    · --
      have hq : M_writeTemplateL pl (n + 1) k T = T := by rw [M_writeTemplateL]; exact (if_pos c_1)
      rw [hq] at hpost
      exact m_retv B hM (hpost) dX7_writeTemplate_161
    · --
      refine lv_aload_n B.1 B.2.1 dX7_writeTemplate_10 rfl (lv_at hl 0 rfl) ?_
      refine m_getr B (i7 _) hK hM 1 (by decide) rfl (List.mem_cons_of_mem _ w7_fRX7_7) dX7_writeTemplate_11 ?_
      refine lv_iload_n B.1 B.2.1 dX7_writeTemplate_14 rfl (lv_at hl 2 rfl) ?_
      have f_2 := hty k.toNat
      refine m_cald (x := T.2 1 k.toNat) B hK hM 0 1 rfl rfl (by omega) (by simp only [mN]; omega) rfl dX7_writeTemplate_15 ?_
      refine lv_istore_n (lv' := [(3, .int (zI (T.2 1 k.toNat))), (0, .ref o), (1, .int (zI pl)), (2, .int (zI k))]) B.1 B.2.1 dX7_writeTemplate_16 rfl hl (by decide) rfl (fun ls hl => ?_)
      refine lv_iload_n B.1 B.2.1 dX7_writeTemplate_17 rfl (lv_at hl 3 rfl) ?_
      refine z_iconst B.1 B.2.1 dX7_writeTemplate_18 ?_
      refine z_iadd (x := k + 1) B.1 B.2.1 rfl dX7_writeTemplate_19 ?_
      refine lv_aload_n B.1 B.2.1 dX7_writeTemplate_20 rfl (lv_at hl 1 rfl) ?_
      refine m_get (x := T.1 2) B (i7 _) hK hM 2 (by decide) rfl rfl (List.mem_cons_of_mem _ w7_fRX7_101) dX7_writeTemplate_21 ?_
      refine z_joinH (P := fun v H' locs' => v = (if (T.1 2) ≤ (k + 1) then 0 else T.2 1 (k + 1).toNat : Int) ∧ mH D cy o q (mA o q) s.heap T H' locs') (pcJ := 39) (lsJ := ls) (stJ := []) (fun v_3 H locs hv_4 => ?_) (fun hJ_5 => ?_)
      · --
        obtain ⟨hv_4, hM⟩ := hv_4
        have hv_4 := hv_4.symm
        subst hv_4
        have hy9 := hty (k + 1).toNat
        refine lv_istore (lv' := [(4, .int (zI ((if (T.1 2) ≤ (k + 1) then 0 else T.2 1 (k + 1).toNat : Int)))), (3, .int (zI (T.2 1 k.toNat))), (0, .ref o), (1, .int (zI pl)), (2, .int (zI k))]) B.1 B.2.1 dX7_writeTemplate_39 hl (by decide) rfl (fun ls hl => ?_)
        refine lv_iload B.1 B.2.1 dX7_writeTemplate_41 (lv_at hl 0 rfl) ?_
        refine z_bipush B.1 B.2.1 (by decide) dX7_writeTemplate_43 ?_
        refine z_isub (x := ((if (T.1 2) ≤ (k + 1) then 0 else T.2 1 (k + 1).toNat : Int)) - 48) B.1 B.2.1 rfl dX7_writeTemplate_45 ?_
        refine lv_istore (lv' := [(5, .int (zI (((if (T.1 2) ≤ (k + 1) then 0 else T.2 1 (k + 1).toNat : Int)) - 48))), (4, .int (zI ((if (T.1 2) ≤ (k + 1) then 0 else T.2 1 (k + 1).toNat : Int)))), (3, .int (zI (T.2 1 k.toNat))), (0, .ref o), (1, .int (zI pl)), (2, .int (zI k))]) B.1 B.2.1 dX7_writeTemplate_46 hl (by decide) rfl (fun ls hl => ?_)
        refine z_iinc (v := k + 2) (lv' := [(2, .int (zI (k + 2))), (5, .int (zI (((if (T.1 2) ≤ (k + 1) then 0 else T.2 1 (k + 1).toNat : Int)) - 48))), (4, .int (zI ((if (T.1 2) ≤ (k + 1) then 0 else T.2 1 (k + 1).toNat : Int)))), (3, .int (zI (T.2 1 k.toNat))), (0, .ref o), (1, .int (zI pl))]) B.1 B.2.1 dX7_writeTemplate_48 hl (k := 5) rfl rfl (by decide) rfl (fun ls hl => ?_)
        refine lv_iload_n B.1 B.2.1 dX7_writeTemplate_51 rfl (lv_at hl 3 rfl) ?_
        refine z_bipush B.1 B.2.1 (by decide) dX7_writeTemplate_52 ?_
        refine z_icmp_ne (tgt := 73) B.1 B.2.1 (zr_of (by omega) (by omega)) (zr_of (by decide) (by decide)) dX7_writeTemplate_54 (by decide) (fun c_6 => ?_) (fun c_6 => ?_)
        · --
          refine lv_iload_n B.1 B.2.1 dX7_writeTemplate_73 rfl (lv_at hl 3 rfl) ?_
          refine z_bipush B.1 B.2.1 (by decide) dX7_writeTemplate_74 ?_
          refine z_icmp_ne (tgt := 98) B.1 B.2.1 (zr_of (by omega) (by omega)) (zr_of (by decide) (by decide)) dX7_writeTemplate_76 (by decide) (fun c_7 => ?_) (fun c_7 => ?_)
          · --
            refine lv_iload_n B.1 B.2.1 dX7_writeTemplate_98 rfl (lv_at hl 3 rfl) ?_
            refine z_bipush B.1 B.2.1 (by decide) dX7_writeTemplate_99 ?_
            refine z_icmp_ne (tgt := 150) B.1 B.2.1 (zr_of (by omega) (by omega)) (zr_of (by decide) (by decide)) dX7_writeTemplate_101 (by decide) (fun c_8 => ?_) (fun c_8 => ?_)
            · --
              refine lv_aload_n B.1 B.2.1 dX7_writeTemplate_150 rfl (lv_at hl 4 rfl) ?_
              refine lv_iload_n B.1 B.2.1 dX7_writeTemplate_151 rfl (lv_at hl 3 rfl) ?_
              refine m_callv (As := [.int (zI (T.2 1 k.toNat))]) (rest := []) B hK hM (cX7_write_ok l D cy o q T (T.2 1 k.toNat) (by show 0 ≤ (T.2 1 k.toNat); omega) (by show (T.2 1 k.toNat) < 65536; omega) (by show 0 ≤ (T.1 49); omega) (by show (T.1 49) ≤ 260; omega)) (cw7 1 B w7_mRX7_295 w7_im_yX7_write w7_sl_yX7_write w7_cd_yX7_write rfl rfl (by decide +kernel) ⟨Nat.le_of_ble_eq_true rfl, Nat.le_of_ble_eq_true rfl⟩) rfl hl.1 rfl (Nat.le_of_ble_eq_true rfl) dX7_writeTemplate_152 ⟨Nat.zero_le _, Nat.zero_le _⟩ (fun S_10 H locs hp_9 hM => ?_)
              have hp_9 := hp_9.symm
              subst hp_9
              have f_11 : 0 ≤ (M_write (T.2 1 k.toNat) T).1 49 ∧ (M_write (T.2 1 k.toNat) T).1 49 ≤ 260 := M_write_49 (x := (T.2 1 k.toNat)) (S := T) (by show 0 ≤ (T.1 49); omega) (by show (T.1 49) ≤ 260; omega)
              refine z_iinc (v := k + 2 + (-1)) (lv' := [(2, .int (zI (k + 2 + (-1)))), (5, .int (zI (((if (T.1 2) ≤ (k + 1) then 0 else T.2 1 (k + 1).toNat : Int)) - 48))), (4, .int (zI ((if (T.1 2) ≤ (k + 1) then 0 else T.2 1 (k + 1).toNat : Int)))), (3, .int (zI (T.2 1 k.toNat))), (0, .ref o), (1, .int (zI pl))]) B.1 B.2.1 dX7_writeTemplate_155 hl (k := 0) rfl rfl (by decide) rfl (fun ls hl => ?_)
              refine lv_goto (tgt := 2) B.1 B.2.1 dX7_writeTemplate_158 (by decide) ?_
              have hq : M_writeTemplateL pl (n + 1) k T = M_writeTemplateL pl n (k + 2 + (-1)) ((M_write (T.2 1 k.toNat) T)) := by rw [M_writeTemplateL]; exact ((if_neg c_1).trans (if_neg c_6))
              rw [hq] at hpost
              exact ih (k + 2 + (-1)) ((M_write (T.2 1 k.toNat) T)) H locs ls (by rw [M_write_i2]; omega) (by omega) (by omega) (by rw [M_write_i2]; omega) (by rw [M_write_i2]; omega) (by rw [M_write_i38]; omega) (by rw [M_write_i38]; omega) (by rw [M_write_i12]; exact hgr) (by omega) (by omega) (by rw [M_write_a3]; exact htx) (by rw [M_write_a1]; exact hty) (by rw [M_write_a33]; exact hrg) hM (lv_sub hl [4, 5, 0] rfl) hpost
            · exact absurd c_8 (by omega)
          · exact absurd c_7 (by omega)
        · --
          refine lv_iload B.1 B.2.1 dX7_writeTemplate_57 (lv_at hl 2 rfl) ?_
          refine z_bipush B.1 B.2.1 (by decide) dX7_writeTemplate_59 ?_
          refine z_icmp_ne (tgt := 73) B.1 B.2.1 (zr_of (by omega) (by omega)) (zr_of (by decide) (by decide)) dX7_writeTemplate_61 (by decide) (fun c_12 => ?_) (fun c_12 => ?_)
          · --
            refine lv_iload_n B.1 B.2.1 dX7_writeTemplate_73 rfl (lv_at hl 3 rfl) ?_
            refine z_bipush B.1 B.2.1 (by decide) dX7_writeTemplate_74 ?_
            refine z_icmp_ne (tgt := 98) B.1 B.2.1 (zr_of (by omega) (by omega)) (zr_of (by decide) (by decide)) dX7_writeTemplate_76 (by decide) (fun c_13 => ?_) (fun c_13 => ?_)
            · exact absurd c_13 (by omega)
            · --
              refine lv_iload B.1 B.2.1 dX7_writeTemplate_79 (lv_at hl 2 rfl) ?_
              refine z_bipush B.1 B.2.1 (by decide) dX7_writeTemplate_81 ?_
              refine z_icmp_ne (tgt := 98) B.1 B.2.1 (zr_of (by omega) (by omega)) (zr_of (by decide) (by decide)) dX7_writeTemplate_83 (by decide) (fun c_14 => ?_) (fun c_14 => ?_)
              · --
                refine lv_iload_n B.1 B.2.1 dX7_writeTemplate_98 rfl (lv_at hl 3 rfl) ?_
                refine z_bipush B.1 B.2.1 (by decide) dX7_writeTemplate_99 ?_
                refine z_icmp_ne (tgt := 150) B.1 B.2.1 (zr_of (by omega) (by omega)) (zr_of (by decide) (by decide)) dX7_writeTemplate_101 (by decide) (fun c_15 => ?_) (fun c_15 => ?_)
                · exact absurd c_15 (by omega)
                · --
                  refine lv_iload B.1 B.2.1 dX7_writeTemplate_104 (lv_at hl 1 rfl) ?_
                  refine z_iconst B.1 B.2.1 dX7_writeTemplate_106 ?_
                  refine z_icmp_lt (tgt := 150) B.1 B.2.1 (zr_of (by omega) (by omega)) (zr_of (by decide) (by decide)) dX7_writeTemplate_107 (by decide) (fun c_16 => ?_) (fun c_16 => ?_)
                  · --
                    refine lv_aload_n B.1 B.2.1 dX7_writeTemplate_150 rfl (lv_at hl 4 rfl) ?_
                    refine lv_iload_n B.1 B.2.1 dX7_writeTemplate_151 rfl (lv_at hl 3 rfl) ?_
                    refine m_callv (As := [.int (zI (T.2 1 k.toNat))]) (rest := []) B hK hM (cX7_write_ok l D cy o q T (T.2 1 k.toNat) (by show 0 ≤ (T.2 1 k.toNat); omega) (by show (T.2 1 k.toNat) < 65536; omega) (by show 0 ≤ (T.1 49); omega) (by show (T.1 49) ≤ 260; omega)) (cw7 1 B w7_mRX7_295 w7_im_yX7_write w7_sl_yX7_write w7_cd_yX7_write rfl rfl (by decide +kernel) ⟨Nat.le_of_ble_eq_true rfl, Nat.le_of_ble_eq_true rfl⟩) rfl hl.1 rfl (Nat.le_of_ble_eq_true rfl) dX7_writeTemplate_152 ⟨Nat.zero_le _, Nat.zero_le _⟩ (fun S_18 H locs hp_17 hM => ?_)
                    have hp_17 := hp_17.symm
                    subst hp_17
                    have f_19 : 0 ≤ (M_write (T.2 1 k.toNat) T).1 49 ∧ (M_write (T.2 1 k.toNat) T).1 49 ≤ 260 := M_write_49 (x := (T.2 1 k.toNat)) (S := T) (by show 0 ≤ (T.1 49); omega) (by show (T.1 49) ≤ 260; omega)
                    refine z_iinc (v := k + 2 + (-1)) (lv' := [(2, .int (zI (k + 2 + (-1)))), (5, .int (zI (((if (T.1 2) ≤ (k + 1) then 0 else T.2 1 (k + 1).toNat : Int)) - 48))), (4, .int (zI ((if (T.1 2) ≤ (k + 1) then 0 else T.2 1 (k + 1).toNat : Int)))), (3, .int (zI (T.2 1 k.toNat))), (0, .ref o), (1, .int (zI pl))]) B.1 B.2.1 dX7_writeTemplate_155 hl (k := 0) rfl rfl (by decide) rfl (fun ls hl => ?_)
                    refine lv_goto (tgt := 2) B.1 B.2.1 dX7_writeTemplate_158 (by decide) ?_
                    have hq : M_writeTemplateL pl (n + 1) k T = M_writeTemplateL pl n (k + 2 + (-1)) ((M_write (T.2 1 k.toNat) T)) := by rw [M_writeTemplateL]; exact ((if_neg c_1).trans ((if_pos c_6).trans ((if_neg c_12).trans ((if_neg c_14).trans (if_pos c_16)))))
                    rw [hq] at hpost
                    exact ih (k + 2 + (-1)) ((M_write (T.2 1 k.toNat) T)) H locs ls (by rw [M_write_i2]; omega) (by omega) (by omega) (by rw [M_write_i2]; omega) (by rw [M_write_i2]; omega) (by rw [M_write_i38]; omega) (by rw [M_write_i38]; omega) (by rw [M_write_i12]; exact hgr) (by omega) (by omega) (by rw [M_write_a3]; exact htx) (by rw [M_write_a1]; exact hty) (by rw [M_write_a33]; exact hrg) hM (lv_sub hl [4, 5, 0] rfl) hpost
                  · --
                    refine lv_iload B.1 B.2.1 dX7_writeTemplate_110 (lv_at hl 1 rfl) ?_
                    refine lv_aload_n B.1 B.2.1 dX7_writeTemplate_112 rfl (lv_at hl 4 rfl) ?_
                    refine m_get (x := T.1 12) B (i7 _) hK hM 12 (by decide) rfl rfl (List.mem_cons_of_mem _ w7_fRX7_190) dX7_writeTemplate_113 ?_
                    refine z_icmp_gt (tgt := 150) B.1 B.2.1 (zr_of (by omega) (by omega)) (zr_of (by omega) (by omega)) dX7_writeTemplate_116 (by decide) (fun c_20 => ?_) (fun c_20 => ?_)
                    · --
                      refine lv_aload_n B.1 B.2.1 dX7_writeTemplate_150 rfl (lv_at hl 4 rfl) ?_
                      refine lv_iload_n B.1 B.2.1 dX7_writeTemplate_151 rfl (lv_at hl 3 rfl) ?_
                      refine m_callv (As := [.int (zI (T.2 1 k.toNat))]) (rest := []) B hK hM (cX7_write_ok l D cy o q T (T.2 1 k.toNat) (by show 0 ≤ (T.2 1 k.toNat); omega) (by show (T.2 1 k.toNat) < 65536; omega) (by show 0 ≤ (T.1 49); omega) (by show (T.1 49) ≤ 260; omega)) (cw7 1 B w7_mRX7_295 w7_im_yX7_write w7_sl_yX7_write w7_cd_yX7_write rfl rfl (by decide +kernel) ⟨Nat.le_of_ble_eq_true rfl, Nat.le_of_ble_eq_true rfl⟩) rfl hl.1 rfl (Nat.le_of_ble_eq_true rfl) dX7_writeTemplate_152 ⟨Nat.zero_le _, Nat.zero_le _⟩ (fun S_22 H locs hp_21 hM => ?_)
                      have hp_21 := hp_21.symm
                      subst hp_21
                      have f_23 : 0 ≤ (M_write (T.2 1 k.toNat) T).1 49 ∧ (M_write (T.2 1 k.toNat) T).1 49 ≤ 260 := M_write_49 (x := (T.2 1 k.toNat)) (S := T) (by show 0 ≤ (T.1 49); omega) (by show (T.1 49) ≤ 260; omega)
                      refine z_iinc (v := k + 2 + (-1)) (lv' := [(2, .int (zI (k + 2 + (-1)))), (5, .int (zI (((if (T.1 2) ≤ (k + 1) then 0 else T.2 1 (k + 1).toNat : Int)) - 48))), (4, .int (zI ((if (T.1 2) ≤ (k + 1) then 0 else T.2 1 (k + 1).toNat : Int)))), (3, .int (zI (T.2 1 k.toNat))), (0, .ref o), (1, .int (zI pl))]) B.1 B.2.1 dX7_writeTemplate_155 hl (k := 0) rfl rfl (by decide) rfl (fun ls hl => ?_)
                      refine lv_goto (tgt := 2) B.1 B.2.1 dX7_writeTemplate_158 (by decide) ?_
                      have hq : M_writeTemplateL pl (n + 1) k T = M_writeTemplateL pl n (k + 2 + (-1)) ((M_write (T.2 1 k.toNat) T)) := by rw [M_writeTemplateL]; exact ((if_neg c_1).trans ((if_pos c_6).trans ((if_neg c_12).trans ((if_neg c_14).trans ((if_neg c_16).trans (if_pos c_20))))))
                      rw [hq] at hpost
                      exact ih (k + 2 + (-1)) ((M_write (T.2 1 k.toNat) T)) H locs ls (by rw [M_write_i2]; omega) (by omega) (by omega) (by rw [M_write_i2]; omega) (by rw [M_write_i2]; omega) (by rw [M_write_i38]; omega) (by rw [M_write_i38]; omega) (by rw [M_write_i12]; exact hgr) (by omega) (by omega) (by rw [M_write_a3]; exact htx) (by rw [M_write_a1]; exact hty) (by rw [M_write_a33]; exact hrg) hM (lv_sub hl [4, 5, 0] rfl) hpost
                    · --
                      refine lv_iload B.1 B.2.1 dX7_writeTemplate_119 (lv_at hl 1 rfl) ?_
                      refine z_bipush B.1 B.2.1 (by decide) dX7_writeTemplate_121 ?_
                      refine z_icmp_gt (tgt := 150) B.1 B.2.1 (zr_of (by omega) (by omega)) (zr_of (by decide) (by decide)) dX7_writeTemplate_123 (by decide) (fun c_24 => ?_) (fun c_24 => ?_)
                      · --
                        refine lv_aload_n B.1 B.2.1 dX7_writeTemplate_150 rfl (lv_at hl 4 rfl) ?_
                        refine lv_iload_n B.1 B.2.1 dX7_writeTemplate_151 rfl (lv_at hl 3 rfl) ?_
                        refine m_callv (As := [.int (zI (T.2 1 k.toNat))]) (rest := []) B hK hM (cX7_write_ok l D cy o q T (T.2 1 k.toNat) (by show 0 ≤ (T.2 1 k.toNat); omega) (by show (T.2 1 k.toNat) < 65536; omega) (by show 0 ≤ (T.1 49); omega) (by show (T.1 49) ≤ 260; omega)) (cw7 1 B w7_mRX7_295 w7_im_yX7_write w7_sl_yX7_write w7_cd_yX7_write rfl rfl (by decide +kernel) ⟨Nat.le_of_ble_eq_true rfl, Nat.le_of_ble_eq_true rfl⟩) rfl hl.1 rfl (Nat.le_of_ble_eq_true rfl) dX7_writeTemplate_152 ⟨Nat.zero_le _, Nat.zero_le _⟩ (fun S_26 H locs hp_25 hM => ?_)
                        have hp_25 := hp_25.symm
                        subst hp_25
                        have f_27 : 0 ≤ (M_write (T.2 1 k.toNat) T).1 49 ∧ (M_write (T.2 1 k.toNat) T).1 49 ≤ 260 := M_write_49 (x := (T.2 1 k.toNat)) (S := T) (by show 0 ≤ (T.1 49); omega) (by show (T.1 49) ≤ 260; omega)
                        refine z_iinc (v := k + 2 + (-1)) (lv' := [(2, .int (zI (k + 2 + (-1)))), (5, .int (zI (((if (T.1 2) ≤ (k + 1) then 0 else T.2 1 (k + 1).toNat : Int)) - 48))), (4, .int (zI ((if (T.1 2) ≤ (k + 1) then 0 else T.2 1 (k + 1).toNat : Int)))), (3, .int (zI (T.2 1 k.toNat))), (0, .ref o), (1, .int (zI pl))]) B.1 B.2.1 dX7_writeTemplate_155 hl (k := 0) rfl rfl (by decide) rfl (fun ls hl => ?_)
                        refine lv_goto (tgt := 2) B.1 B.2.1 dX7_writeTemplate_158 (by decide) ?_
                        have hq : M_writeTemplateL pl (n + 1) k T = M_writeTemplateL pl n (k + 2 + (-1)) ((M_write (T.2 1 k.toNat) T)) := by rw [M_writeTemplateL]; exact ((if_neg c_1).trans ((if_pos c_6).trans ((if_neg c_12).trans ((if_neg c_14).trans ((if_neg c_16).trans ((if_neg c_20).trans (if_pos c_24)))))))
                        rw [hq] at hpost
                        exact ih (k + 2 + (-1)) ((M_write (T.2 1 k.toNat) T)) H locs ls (by rw [M_write_i2]; omega) (by omega) (by omega) (by rw [M_write_i2]; omega) (by rw [M_write_i2]; omega) (by rw [M_write_i38]; omega) (by rw [M_write_i38]; omega) (by rw [M_write_i12]; exact hgr) (by omega) (by omega) (by rw [M_write_a3]; exact htx) (by rw [M_write_a1]; exact hty) (by rw [M_write_a33]; exact hrg) hM (lv_sub hl [4, 5, 0] rfl) hpost
                      · --
                        have hq9 := hrg (((if (T.1 2) ≤ (k + 1) then 0 else T.2 1 (k + 1).toNat : Int)) - 48) (by omega) (by omega)
                        refine lv_aload_n B.1 B.2.1 dX7_writeTemplate_126 rfl (lv_at hl 4 rfl) ?_
                        refine lv_aload_n B.1 B.2.1 dX7_writeTemplate_127 rfl (lv_at hl 4 rfl) ?_
                        refine m_getr B (i7 _) hK hM 33 (by decide) rfl (List.mem_cons_of_mem _ w7_fRX7_65) dX7_writeTemplate_128 ?_
                        refine lv_iload B.1 B.2.1 dX7_writeTemplate_131 (lv_at hl 1 rfl) ?_
                        refine m_iald (x := T.2 33 (((if (T.1 2) ≤ (k + 1) then 0 else T.2 1 (k + 1).toNat : Int)) - 48).toNat) B hK hM 18 33 rfl rfl (by omega) (by simp only [mN]; omega) rfl dX7_writeTemplate_133 ?_
                        refine lv_aload_n B.1 B.2.1 dX7_writeTemplate_134 rfl (lv_at hl 4 rfl) ?_
                        refine m_getr B (i7 _) hK hM 33 (by decide) rfl (List.mem_cons_of_mem _ w7_fRX7_65) dX7_writeTemplate_135 ?_
                        refine z_bipush B.1 B.2.1 (by decide) dX7_writeTemplate_138 ?_
                        refine lv_iload B.1 B.2.1 dX7_writeTemplate_140 (lv_at hl 1 rfl) ?_
                        refine z_iadd (x := 10 + (((if (T.1 2) ≤ (k + 1) then 0 else T.2 1 (k + 1).toNat : Int)) - 48)) B.1 B.2.1 rfl dX7_writeTemplate_142 ?_
                        refine m_iald (x := T.2 33 (10 + (((if (T.1 2) ≤ (k + 1) then 0 else T.2 1 (k + 1).toNat : Int)) - 48)).toNat) B hK hM 18 33 rfl rfl (by omega) (by simp only [mN]; omega) rfl dX7_writeTemplate_143 ?_
                        refine m_callv (As := [.int (zI (T.2 33 (((if (T.1 2) ≤ (k + 1) then 0 else T.2 1 (k + 1).toNat : Int)) - 48).toNat)), .int (zI (T.2 33 (10 + (((if (T.1 2) ≤ (k + 1) then 0 else T.2 1 (k + 1).toNat : Int)) - 48)).toNat))]) (rest := []) B hK hM (cX7_writeText_ok l D cy o q T (T.2 33 (((if (T.1 2) ≤ (k + 1) then 0 else T.2 1 (k + 1).toNat : Int)) - 48).toNat) (T.2 33 (10 + (((if (T.1 2) ≤ (k + 1) then 0 else T.2 1 (k + 1).toNat : Int)) - 48)).toNat) (by show (T.2 33 (((if (T.1 2) ≤ (k + 1) then 0 else T.2 1 (k + 1).toNat : Int)) - 48).toNat) < (T.2 33 (10 + (((if (T.1 2) ≤ (k + 1) then 0 else T.2 1 (k + 1).toNat : Int)) - 48)).toNat) → 0 ≤ (T.2 33 (((if (T.1 2) ≤ (k + 1) then 0 else T.2 1 (k + 1).toNat : Int)) - 48).toNat); omega) (by show -1000 ≤ (T.2 33 (((if (T.1 2) ≤ (k + 1) then 0 else T.2 1 (k + 1).toNat : Int)) - 48).toNat) ∧ (T.2 33 (((if (T.1 2) ≤ (k + 1) then 0 else T.2 1 (k + 1).toNat : Int)) - 48).toNat) ≤ 1000; omega) (by show (T.2 33 (10 + (((if (T.1 2) ≤ (k + 1) then 0 else T.2 1 (k + 1).toNat : Int)) - 48)).toNat) ≤ 24; omega) (by show -1000 ≤ (T.2 33 (10 + (((if (T.1 2) ≤ (k + 1) then 0 else T.2 1 (k + 1).toNat : Int)) - 48)).toNat); omega) (by show 0 ≤ (T.1 49); omega) (by show (T.1 49) ≤ 260; omega) htx) (cw7 2 B w7_mRX7_298 w7_im_yX7_writeText w7_sl_yX7_writeText w7_cd_yX7_writeText rfl rfl (by decide +kernel) ⟨Nat.le_of_ble_eq_true rfl, Nat.le_of_ble_eq_true rfl⟩) rfl hl.1 rfl (Nat.le_of_ble_eq_true rfl) dX7_writeTemplate_144 ⟨Nat.zero_le _, Nat.zero_le _⟩ (fun S_29 H locs hp_28 hM => ?_)
                        have hp_28 := hp_28.symm
                        subst hp_28
                        have f_30 : 0 ≤ (M_writeText (T.2 33 (((if (T.1 2) ≤ (k + 1) then 0 else T.2 1 (k + 1).toNat : Int)) - 48).toNat) (T.2 33 (10 + (((if (T.1 2) ≤ (k + 1) then 0 else T.2 1 (k + 1).toNat : Int)) - 48)).toNat) T).1 49 ∧ (M_writeText (T.2 33 (((if (T.1 2) ≤ (k + 1) then 0 else T.2 1 (k + 1).toNat : Int)) - 48).toNat) (T.2 33 (10 + (((if (T.1 2) ≤ (k + 1) then 0 else T.2 1 (k + 1).toNat : Int)) - 48)).toNat) T).1 49 ≤ 260 := M_writeTextL_49 (T.2 33 (((if (T.1 2) ≤ (k + 1) then 0 else T.2 1 (k + 1).toNat : Int)) - 48).toNat) (T.2 33 (10 + (((if (T.1 2) ≤ (k + 1) then 0 else T.2 1 (k + 1).toNat : Int)) - 48)).toNat) _ _ _ (by show 0 ≤ (T.1 49); omega) (by show (T.1 49) ≤ 260; omega)
                        refine lv_goto (tgt := 158) B.1 B.2.1 dX7_writeTemplate_147 (by decide) ?_
                        refine lv_goto (tgt := 2) B.1 B.2.1 dX7_writeTemplate_158 (by decide) ?_
                        have hq : M_writeTemplateL pl (n + 1) k T = M_writeTemplateL pl n (k + 2) ((M_writeText (T.2 33 (((if (T.1 2) ≤ (k + 1) then 0 else T.2 1 (k + 1).toNat : Int)) - 48).toNat) (T.2 33 (10 + (((if (T.1 2) ≤ (k + 1) then 0 else T.2 1 (k + 1).toNat : Int)) - 48)).toNat) T)) := by rw [M_writeTemplateL]; exact ((if_neg c_1).trans ((if_pos c_6).trans ((if_neg c_12).trans ((if_neg c_14).trans ((if_neg c_16).trans ((if_neg c_20).trans (if_neg c_24)))))))
                        rw [hq] at hpost
                        exact ih (k + 2) ((M_writeText (T.2 33 (((if (T.1 2) ≤ (k + 1) then 0 else T.2 1 (k + 1).toNat : Int)) - 48).toNat) (T.2 33 (10 + (((if (T.1 2) ≤ (k + 1) then 0 else T.2 1 (k + 1).toNat : Int)) - 48)).toNat) T)) H locs ls (by rw [M_writeText_i2]; omega) (by omega) (by omega) (by rw [M_writeText_i2]; omega) (by rw [M_writeText_i2]; omega) (by rw [M_writeText_i38]; omega) (by rw [M_writeText_i38]; omega) (by rw [M_writeText_i12]; exact hgr) (by omega) (by omega) (by rw [M_writeText_a3]; exact htx) (by rw [M_writeText_a1]; exact hty) (by rw [M_writeText_a33]; exact hrg) hM (lv_sub hl [4, 5, 0] rfl) hpost
              · --
                refine lv_aload_n B.1 B.2.1 dX7_writeTemplate_86 rfl (lv_at hl 4 rfl) ?_
                refine lv_iload_n B.1 B.2.1 dX7_writeTemplate_87 rfl (lv_at hl 5 rfl) ?_
                refine lv_aload_n B.1 B.2.1 dX7_writeTemplate_88 rfl (lv_at hl 4 rfl) ?_
                refine m_get (x := T.1 38) B (i7 _) hK hM 38 (by decide) rfl rfl (List.mem_cons_of_mem _ w7_fRX7_216) dX7_writeTemplate_89 ?_
                refine m_callv (As := [.int (zI pl), .int (zI (T.1 38))]) (rest := []) B hK hM (cX7_writeText_ok l D cy o q T pl (T.1 38) (by show pl < (T.1 38) → 0 ≤ pl; omega) (by show -1000 ≤ pl ∧ pl ≤ 1000; omega) (by show (T.1 38) ≤ 24; omega) (by show -1000 ≤ (T.1 38); omega) (by show 0 ≤ (T.1 49); omega) (by show (T.1 49) ≤ 260; omega) htx) (cw7 2 B w7_mRX7_298 w7_im_yX7_writeText w7_sl_yX7_writeText w7_cd_yX7_writeText rfl rfl (by decide +kernel) ⟨Nat.le_of_ble_eq_true rfl, Nat.le_of_ble_eq_true rfl⟩) rfl hl.1 rfl (Nat.le_of_ble_eq_true rfl) dX7_writeTemplate_92 ⟨Nat.zero_le _, Nat.zero_le _⟩ (fun S_32 H locs hp_31 hM => ?_)
                have hp_31 := hp_31.symm
                subst hp_31
                have f_33 : 0 ≤ (M_writeText pl (T.1 38) T).1 49 ∧ (M_writeText pl (T.1 38) T).1 49 ≤ 260 := M_writeTextL_49 pl (T.1 38) _ _ _ (by show 0 ≤ (T.1 49); omega) (by show (T.1 49) ≤ 260; omega)
                refine lv_goto (tgt := 158) B.1 B.2.1 dX7_writeTemplate_95 (by decide) ?_
                refine lv_goto (tgt := 2) B.1 B.2.1 dX7_writeTemplate_158 (by decide) ?_
                have hq : M_writeTemplateL pl (n + 1) k T = M_writeTemplateL pl n (k + 2) ((M_writeText pl (T.1 38) T)) := by rw [M_writeTemplateL]; exact ((if_neg c_1).trans ((if_pos c_6).trans ((if_neg c_12).trans (if_pos c_14))))
                rw [hq] at hpost
                exact ih (k + 2) ((M_writeText pl (T.1 38) T)) H locs ls (by rw [M_writeText_i2]; omega) (by omega) (by omega) (by rw [M_writeText_i2]; omega) (by rw [M_writeText_i2]; omega) (by rw [M_writeText_i38]; omega) (by rw [M_writeText_i38]; omega) (by rw [M_writeText_i12]; exact hgr) (by omega) (by omega) (by rw [M_writeText_a3]; exact htx) (by rw [M_writeText_a1]; exact hty) (by rw [M_writeText_a33]; exact hrg) hM (lv_sub hl [4, 5, 0] rfl) hpost
          · --
            refine lv_aload_n B.1 B.2.1 dX7_writeTemplate_64 rfl (lv_at hl 4 rfl) ?_
            refine z_bipush B.1 B.2.1 (by decide) dX7_writeTemplate_65 ?_
            refine m_callv (As := [.int (zI 36)]) (rest := []) B hK hM (cX7_write_ok l D cy o q T 36 (by show 0 ≤ 36; omega) (by show 36 < 65536; omega) (by show 0 ≤ (T.1 49); omega) (by show (T.1 49) ≤ 260; omega)) (cw7 1 B w7_mRX7_295 w7_im_yX7_write w7_sl_yX7_write w7_cd_yX7_write rfl rfl (by decide +kernel) ⟨Nat.le_of_ble_eq_true rfl, Nat.le_of_ble_eq_true rfl⟩) rfl hl.1 rfl (Nat.le_of_ble_eq_true rfl) dX7_writeTemplate_67 ⟨Nat.zero_le _, Nat.zero_le _⟩ (fun S_35 H locs hp_34 hM => ?_)
            have hp_34 := hp_34.symm
            subst hp_34
            have f_36 : 0 ≤ (M_write 36 T).1 49 ∧ (M_write 36 T).1 49 ≤ 260 := M_write_49 (x := 36) (S := T) (by show 0 ≤ (T.1 49); omega) (by show (T.1 49) ≤ 260; omega)
            refine lv_goto (tgt := 158) B.1 B.2.1 dX7_writeTemplate_70 (by decide) ?_
            refine lv_goto (tgt := 2) B.1 B.2.1 dX7_writeTemplate_158 (by decide) ?_
            have hq : M_writeTemplateL pl (n + 1) k T = M_writeTemplateL pl n (k + 2) ((M_write 36 T)) := by rw [M_writeTemplateL]; exact ((if_neg c_1).trans ((if_pos c_6).trans (if_pos c_12)))
            rw [hq] at hpost
            exact ih (k + 2) ((M_write 36 T)) H locs ls (by rw [M_write_i2]; omega) (by omega) (by omega) (by rw [M_write_i2]; omega) (by rw [M_write_i2]; omega) (by rw [M_write_i38]; omega) (by rw [M_write_i38]; omega) (by rw [M_write_i12]; exact hgr) (by omega) (by omega) (by rw [M_write_a3]; exact htx) (by rw [M_write_a1]; exact hty) (by rw [M_write_a33]; exact hrg) hM (lv_sub hl [4, 5, 0] rfl) hpost
      · --
        refine z_icmp_ge (tgt := 38) B.1 B.2.1 (zr_of (by omega) (by omega)) (zr_of (by omega) (by omega)) dX7_writeTemplate_24 (by decide) (fun c_37 => ?_) (fun c_37 => ?_)
        · --
          refine z_iconst B.1 B.2.1 dX7_writeTemplate_38 ?_
          exact hJ_5 _ _ _ ⟨(if_pos c_37).symm, hM⟩
        · --
          refine lv_aload_n B.1 B.2.1 dX7_writeTemplate_27 rfl (lv_at hl 1 rfl) ?_
          refine m_getr B (i7 _) hK hM 1 (by decide) rfl (List.mem_cons_of_mem _ w7_fRX7_7) dX7_writeTemplate_28 ?_
          refine lv_iload_n B.1 B.2.1 dX7_writeTemplate_31 rfl (lv_at hl 3 rfl) ?_
          refine z_iconst B.1 B.2.1 dX7_writeTemplate_32 ?_
          refine z_iadd (x := k + 1) B.1 B.2.1 rfl dX7_writeTemplate_33 ?_
          have f_38 := hty (k + 1).toNat
          refine m_cald (x := T.2 1 (k + 1).toNat) B hK hM 0 1 rfl rfl (by omega) (by simp only [mN]; omega) rfl dX7_writeTemplate_34 ?_
          refine lv_goto (tgt := 39) B.1 B.2.1 dX7_writeTemplate_35 (by decide) ?_
          exact hJ_5 _ _ _ ⟨(if_neg c_37).symm, hM⟩
def M_writeTemplate (pl : Int) (S : MSt) : MSt := M_writeTemplateL pl (S.1 2).toNat 0 S
set_option maxHeartbeats 4000000 in
set_option maxRecDepth 100000 in
theorem cX7_writeTemplate_ok (l : Launch) (D : va_G) (cy : Nat → ClassId) (o : Nat) (q : Nat → Nat) (S : MSt) (pl : Int) (hpl0 : 0 ≤ pl) (hpl1 : pl ≤ 1000) (htc0 : 0 ≤ S.1 2) (htc : S.1 2 ≤ 40) (hp0 : 0 ≤ S.1 38) (hp1 : S.1 38 ≤ 24) (hgr : 0 ≤ S.1 12 ∧ S.1 12 ≤ 9) (h490 : 0 ≤ S.1 49) (h491 : S.1 49 ≤ 260) (htx : ∀ j, 0 ≤ S.2 3 j ∧ S.2 3 j ≤ 126) (hty : ∀ j, 0 ≤ S.2 1 j ∧ S.2 1 j ≤ 126) (hrg : ∀ g : Int, 1 ≤ g → g ≤ 9 → -1000 ≤ S.2 33 g.toNat ∧ -1000 ≤ S.2 33 (10 + g).toNat ∧ S.2 33 (10 + g).toNat ≤ 24 ∧ (S.2 33 g.toNat < S.2 33 (10 + g).toNat → 0 ≤ S.2 33 g.toNat) ∧ S.2 33 g.toNat ≤ 1000) : mMv l D cy o q yX7_writeTemplate (.code yX7_writeTemplate cX7_writeTemplate 6 none :: TB7) ({ frames := 2, cells := 0, slots := 0, locals := 44 }) S [.int (zI pl)] (fun S' => S' = M_writeTemplate pl S) := by
  refine m_of (cc := cX7_writeTemplate) (maxL := 6) (ret := none) (by decide) rfl rfl (Nat.le_of_ble_eq_true rfl) ?_
  intro p e s m args below meth c ls B hK hM hl
  have hl : lv_has ls 6 [(0, .ref o), (1, .int (zI pl))] := hl
  refine z_iconst B.1 B.2.1 dX7_writeTemplate_0 ?_
  refine lv_istore_n (lv' := [(2, .int (zI 0)), (0, .ref o), (1, .int (zI pl))]) B.1 B.2.1 dX7_writeTemplate_1 rfl hl (by decide) rfl (fun ls hl => ?_)
  exact lp7_writeTemplate l D cy o q pl hpl0 hpl1 B hK _ (S.1 2).toNat 0 S _ _ ls (by omega) (by omega) (by omega) htc0 htc hp0 hp1 hgr h490 h491 htx hty hrg hM (lv_sub hl [1, 2, 0] rfl) rfl
