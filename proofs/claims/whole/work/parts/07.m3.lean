theorem zu_in {f : Nat → Int} {k : Nat} {x : Int} {P : Int → Prop} (h : ∀ j, P (f j)) (hx : P x) (j : Nat) : P (zu f k x j) := by
  unfold zu
  split
  · exact hx
  · exact h j
/-- undo: n entries of the trail are taken back -/
def M_undoL : Nat → MSt → MSt
  | 0, S => S
  | n + 1, S => M_undoL n (ma (mi S 35 (S.1 35 - 1)) 33 (S.2 34 (S.1 35 - 1).toNat / 64).toNat (S.2 34 (S.1 35 - 1).toNat % 64 - 2))
def M_undo (mark : Int) (S : MSt) : MSt := M_undoL (S.1 35 - mark).toNat S
set_option maxHeartbeats 4000000 in
set_option maxRecDepth 100000 in
theorem lp7_undo (l : Launch) (D : va_G) (cy : Nat → ClassId) (o : Nat) (q : Nat → Nat) (mark : Int) (h0 : 0 ≤ mark) {p : Program} {e : Env} {s : State} {m : MethodId} {args : Array Value} {below : List Frame} {meth : Method} {c : Code} (B : zAt p s m args meth c RX7 cX7_undo 2 none (.code yX7_undo cX7_undo 2 none :: TB7)) (hK : va_K D vwCl (zTY cy) s) (post : MSt → Prop) :
    ∀ (n : Nat) (T : MSt)  (H : Heap) (locs : List Loc) (ls : Array Slot), (T.1 35 = mark + n) → (T.1 35 ≤ 6000) → (∀ j : Nat, 0 ≤ T.2 34 j ∧ T.2 34 j < 11520) → mH D cy o q (mA o q) s.heap T H locs → lv_has ls 2 [(0, .ref o), (1, .int (zI mark))] → (post (M_undoL n T)) → W p l e (headSpec (.code yX7_undo cX7_undo 2 none :: TB7) ({ frames := 0, cells := 0, slots := 0, locals := 0 })).room s m args below meth c H locs 0 0 (MQ below (mQv D cy o q post) args s 0 0 (mA o q)) (F0 m 0 ls []) := by
  intro n
  induction n with
  | zero =>
    intro T  H locs ls hn h1 ht hM hl hpost
    refine lv_aload_n B.1 B.2.1 dX7_undo_0 rfl (lv_at hl 0 rfl) ?_
    refine m_get (x := T.1 35) B (i7 _) hK hM 35 (by decide) rfl rfl (List.mem_cons_of_mem _ w7_fRX7_225) dX7_undo_1 ?_
    refine lv_iload_n B.1 B.2.1 dX7_undo_4 rfl (lv_at hl 1 rfl) ?_
    have hn0 : (0 : Int) ≤ (T.1 35) := by omega
    refine z_icmp_le (tgt := 52) B.1 B.2.1 (zr_of (by omega) (by omega)) (zr_of (by omega) (by omega)) dX7_undo_5 (by decide) (fun c_1 => ?_) (fun c_1 => ?_)
    · --
      exact m_retv B hM (hpost) dX7_undo_52
    · exact absurd c_1 (by omega)
  | succ n ih =>
    intro T  H locs ls hn h1 ht hM hl hpost
    refine lv_aload_n B.1 B.2.1 dX7_undo_0 rfl (lv_at hl 0 rfl) ?_
    refine m_get (x := T.1 35) B (i7 _) hK hM 35 (by decide) rfl rfl (List.mem_cons_of_mem _ w7_fRX7_225) dX7_undo_1 ?_
    refine lv_iload_n B.1 B.2.1 dX7_undo_4 rfl (lv_at hl 1 rfl) ?_
    have hn0 : (0 : Int) ≤ (T.1 35) := by omega
    refine z_icmp_le (tgt := 52) B.1 B.2.1 (zr_of (by omega) (by omega)) (zr_of (by omega) (by omega)) dX7_undo_5 (by decide) (fun c_1 => ?_) (fun c_1 => ?_)
    · exact absurd c_1 (by omega)
    · --
      refine lv_aload_n B.1 B.2.1 dX7_undo_8 rfl (lv_at hl 0 rfl) ?_
      refine lv_dup B.1 B.2.1 dX7_undo_9 rfl ?_
      refine m_get (x := T.1 35) B (i7 _) hK hM 35 (by decide) rfl rfl (List.mem_cons_of_mem _ w7_fRX7_225) dX7_undo_10 ?_
      refine z_iconst B.1 B.2.1 dX7_undo_13 ?_
      refine z_isub (x := (T.1 35) - 1) B.1 B.2.1 rfl dX7_undo_14 ?_
      refine m_put B (i7 _) hK hM 35 (by decide) rfl (by decide +kernel) (List.mem_cons_of_mem _ w7_fRX7_225) dX7_undo_15 (fun H locs hM => ?_)
      have hx := ht (T.1 35 - 1).toNat
      have hx2 : 0 ≤ T.2 34 (T.1 35 - 1).toNat / 64 ∧ T.2 34 (T.1 35 - 1).toNat / 64 < 180 := by omega
      refine lv_aload_n B.1 B.2.1 dX7_undo_18 rfl (lv_at hl 0 rfl) ?_
      refine m_getr B (i7 _) hK hM 33 (by decide) rfl (List.mem_cons_of_mem _ w7_fRX7_65) dX7_undo_19 ?_
      refine lv_aload_n B.1 B.2.1 dX7_undo_22 rfl (lv_at hl 0 rfl) ?_
      refine m_getr B (i7 _) hK hM 34 (by decide) rfl (List.mem_cons_of_mem _ w7_fRX7_68) dX7_undo_23 ?_
      refine lv_aload_n B.1 B.2.1 dX7_undo_26 rfl (lv_at hl 0 rfl) ?_
      refine m_get (x := (T.1 35) - 1) B (i7 _) hK hM 35 (by decide) rfl rfl (List.mem_cons_of_mem _ w7_fRX7_225) dX7_undo_27 ?_
      refine m_iald (x := T.2 34 ((T.1 35) - 1).toNat) B hK hM 19 34 rfl rfl (by omega) (by simp only [mN]; omega) rfl dX7_undo_30 ?_
      refine z_bipush B.1 B.2.1 (by decide) dX7_undo_31 ?_
      refine z_idiv (x := (T.2 34 ((T.1 35) - 1).toNat) / 64) B.1 B.2.1 rfl (zr_of (by omega) (by omega)) (by omega) (zr_of (by decide) (by decide)) (by decide) dX7_undo_33 ?_
      refine lv_aload_n B.1 B.2.1 dX7_undo_34 rfl (lv_at hl 0 rfl) ?_
      refine m_getr B (i7 _) hK hM 34 (by decide) rfl (List.mem_cons_of_mem _ w7_fRX7_68) dX7_undo_35 ?_
      refine lv_aload_n B.1 B.2.1 dX7_undo_38 rfl (lv_at hl 0 rfl) ?_
      refine m_get (x := (T.1 35) - 1) B (i7 _) hK hM 35 (by decide) rfl rfl (List.mem_cons_of_mem _ w7_fRX7_225) dX7_undo_39 ?_
      refine m_iald (x := T.2 34 ((T.1 35) - 1).toNat) B hK hM 19 34 rfl rfl (by omega) (by simp only [mN]; omega) rfl dX7_undo_42 ?_
      refine z_bipush B.1 B.2.1 (by decide) dX7_undo_43 ?_
      refine z_irem (x := (T.2 34 ((T.1 35) - 1).toNat) % 64) B.1 B.2.1 rfl (zr_of (by omega) (by omega)) (by omega) (zr_of (by decide) (by decide)) (by decide) dX7_undo_45 ?_
      refine z_iconst B.1 B.2.1 dX7_undo_46 ?_
      refine z_isub (x := ((T.2 34 ((T.1 35) - 1).toNat) % 64) - 2) B.1 B.2.1 rfl dX7_undo_47 ?_
      refine m_iast B hK hM 18 33 rfl rfl (by omega) (by simp only [mN]; omega) dX7_undo_48 (fun H locs hM => ?_)
      refine lv_goto (tgt := 0) B.1 B.2.1 dX7_undo_49 (by decide) ?_
      refine ih (ma (mi T 35 ((T.1 35) - 1)) 33 ((T.2 34 ((T.1 35) - 1).toNat) / 64).toNat (((T.2 34 ((T.1 35) - 1).toNat) % 64) - 2)) H locs ls ?_ (by show _ ≤ (6000 : Int); show T.1 35 - 1 ≤ 6000; omega) (fun j => ht j) hM (lv_sub hl [0, 1] rfl) hpost
      show T.1 35 - 1 = mark + n
      omega
set_option maxHeartbeats 4000000 in
set_option maxRecDepth 100000 in
theorem cX7_undo_ok (l : Launch) (D : va_G) (cy : Nat → ClassId) (o : Nat) (q : Nat → Nat) (S : MSt) (mark : Int) (h0 : 0 ≤ mark) (h1 : mark ≤ S.1 35) (h2 : S.1 35 ≤ 6000) (ht : ∀ j : Nat, 0 ≤ S.2 34 j ∧ S.2 34 j < 11520) : mMv l D cy o q yX7_undo (.code yX7_undo cX7_undo 2 none :: TB7) ({ frames := 0, cells := 0, slots := 0, locals := 0 }) S [.int (zI mark)] (fun S' => S' = M_undo mark S) := by
  refine m_of (cc := cX7_undo) (maxL := 2) (ret := none) (by decide) rfl rfl (Nat.le_of_ble_eq_true rfl) ?_
  intro p e s m args below meth c ls B hK hM hl
  have hl : lv_has ls 2 [(0, .ref o), (1, .int (zI mark))] := hl
  exact lp7_undo l D cy o q mark h0 B hK _ (S.1 35 - mark).toNat S _ _ ls (by omega) h2 ht hM (lv_sub hl [0, 1] rfl) rfl
