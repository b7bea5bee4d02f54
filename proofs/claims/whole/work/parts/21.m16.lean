def M_set (S : MSt) : MSt := M_setL ((if (M_sign S ((S.1 24) + 1)) = 94 then 1 else 0 : Int)) (((S.1 24) + 1) + ((if ((if (M_sign S ((S.1 24) + 1)) = 94 then 1 else 0 : Int)) = 0 then 0 else 1 : Int))) 60 1 (mi (mi S 24 ((S.1 24) + 1)) 24 (((S.1 24) + 1) + ((if ((if (M_sign S ((S.1 24) + 1)) = 94 then 1 else 0 : Int)) = 0 then 0 else 1 : Int))))
set_option maxHeartbeats 4000000 in
set_option maxRecDepth 100000 in
theorem cX7_set_ok (l : Launch) (D : va_G) (cy : Nat → ClassId) (o : Nat) (q : Nat → Nat) (S : MSt) (hb0 : 0 ≤ S.1 25) (hb1 : S.1 25 ≤ 1) (hc0 : 0 ≤ S.1 19) (hc1 : S.1 19 ≤ 200) (hs : ∀ j, 0 ≤ S.2 13 j ∧ S.2 13 j ≤ 126) (hn0 : 0 ≤ S.1 14) (hn1 : S.1 14 ≤ 40) (ha0 : 0 ≤ S.1 24) (ha1 : S.1 24 ≤ 41) : mMv l D cy o q yX7_set (.code yX7_set cX7_set 7 none :: TB7) ({ frames := 2, cells := 0, slots := 0, locals := 43 }) S [] (fun S' => S' = M_set S) := by
  refine m_of (cc := cX7_set) (maxL := 7) (ret := none) (by decide) rfl rfl (Nat.le_of_ble_eq_true rfl) ?_
  intro p e s m args below meth c ls B hK hM hl
  have hl : lv_has ls 7 [(0, .ref o)] := hl
  refine lv_aload_n B.1 B.2.1 dX7_set_0 rfl (lv_at hl 0 rfl) ?_
  refine lv_dup B.1 B.2.1 dX7_set_1 rfl ?_
  refine m_get (x := S.1 24) B (i7 _) hK hM 24 (by decide) rfl rfl (List.mem_cons_of_mem _ w7_fRX7_139) dX7_set_2 ?_
  refine z_iconst B.1 B.2.1 dX7_set_5 ?_
  refine z_iadd (x := (S.1 24) + 1) B.1 B.2.1 rfl dX7_set_6 ?_
  refine m_put B (i7 _) hK hM 24 (by decide) rfl (by decide +kernel) (List.mem_cons_of_mem _ w7_fRX7_139) dX7_set_7 (fun H locs hM => ?_)
  refine lv_aload_n B.1 B.2.1 dX7_set_10 rfl (lv_at hl 0 rfl) ?_
  refine lv_aload_n B.1 B.2.1 dX7_set_11 rfl (lv_at hl 0 rfl) ?_
  refine m_get (x := (S.1 24) + 1) B (i7 _) hK hM 24 (by decide) rfl rfl (List.mem_cons_of_mem _ w7_fRX7_139) dX7_set_12 ?_
  refine m_calli (As := [.int (zI ((S.1 24) + 1))]) (rest := []) B hK hM (cX7_sign_ok l D cy o q (mi S 24 ((S.1 24) + 1)) ((S.1 24) + 1) (by show 0 ≤ ((S.1 24) + 1); omega) (by show ((S.1 24) + 1) ≤ 100000; omega) (by show 0 ≤ (S.1 14); omega) (by show (S.1 14) ≤ 40; omega)) (cw7 1 B w7_mRX7_142 w7_im_yX7_sign w7_sl_yX7_sign w7_cd_yX7_sign rfl rfl (by decide +kernel) ⟨Nat.le_of_ble_eq_true rfl, Nat.le_of_ble_eq_true rfl⟩) rfl hl.1 rfl (Nat.le_of_ble_eq_true rfl) dX7_set_15 ⟨Nat.zero_le _, Nat.zero_le _⟩ (fun z_3 S_2 H locs hp_1 hM => ?_)
  obtain ⟨hp_1, he_hp_1⟩ := hp_1
  have he_hp_1 := he_hp_1.symm
  subst he_hp_1
  have hp_1 : M_sign S ((S.1 24) + 1) = z_3 := hp_1.symm
  subst hp_1
  have f_4 := M_sign_bd S hs ((S.1 24) + 1)
  refine z_bipush B.1 B.2.1 (by decide) dX7_set_18 ?_
  refine z_joinH (P := fun v H' locs' => v = (if (M_sign S ((S.1 24) + 1)) = 94 then 1 else 0 : Int) ∧ mH D cy o q (mA o q) s.heap (mi S 24 ((S.1 24) + 1)) H' locs') (pcJ := 28) (lsJ := ls) (stJ := []) (fun v_5 H locs hv_6 => ?_) (fun hJ_7 => ?_)
  · --
    obtain ⟨hv_6, hM⟩ := hv_6
    have hb_8 : (if (M_sign S ((S.1 24) + 1)) = 94 then 1 else 0 : Int) = 0 ∨ (if (M_sign S ((S.1 24) + 1)) = 94 then 1 else 0 : Int) = 1 := by (repeat' split) <;> simp
    have hv_6 := hv_6.symm
    subst hv_6
    refine lv_istore_n (lv' := [(1, .int (zI ((if (M_sign S ((S.1 24) + 1)) = 94 then 1 else 0 : Int)))), (0, .ref o)]) B.1 B.2.1 dX7_set_28 rfl hl (by decide) rfl (fun ls hl => ?_)
    refine lv_aload_n B.1 B.2.1 dX7_set_29 rfl (lv_at hl 1 rfl) ?_
    refine lv_dup B.1 B.2.1 dX7_set_30 rfl ?_
    refine m_get (x := (S.1 24) + 1) B (i7 _) hK hM 24 (by decide) rfl rfl (List.mem_cons_of_mem _ w7_fRX7_139) dX7_set_31 ?_
    refine lv_iload_n B.1 B.2.1 dX7_set_34 rfl (lv_at hl 0 rfl) ?_
    refine z_joinH (P := fun v H' locs' => v = (if ((if (M_sign S ((S.1 24) + 1)) = 94 then 1 else 0 : Int)) = 0 then 0 else 1 : Int) ∧ mH D cy o q (mA o q) s.heap (mi S 24 ((S.1 24) + 1)) H' locs') (pcJ := 43) (lsJ := ls) (stJ := [.int (zI ((S.1 24) + 1)), .ref o]) (fun v_9 H locs hv_10 => ?_) (fun hJ_11 => ?_)
    · --
      obtain ⟨hv_10, hM⟩ := hv_10
      have hb_12 : (if ((if (M_sign S ((S.1 24) + 1)) = 94 then 1 else 0 : Int)) = 0 then 0 else 1 : Int) = 0 ∨ (if ((if (M_sign S ((S.1 24) + 1)) = 94 then 1 else 0 : Int)) = 0 then 0 else 1 : Int) = 1 := by (repeat' split) <;> simp
      have hv_10 := hv_10.symm
      subst hv_10
      refine z_iadd (x := ((S.1 24) + 1) + ((if ((if (M_sign S ((S.1 24) + 1)) = 94 then 1 else 0 : Int)) = 0 then 0 else 1 : Int))) B.1 B.2.1 rfl dX7_set_43 ?_
      refine m_put B (i7 _) hK hM 24 (by decide) rfl (by decide +kernel) (List.mem_cons_of_mem _ w7_fRX7_139) dX7_set_44 (fun H locs hM => ?_)
      refine lv_aload_n B.1 B.2.1 dX7_set_47 rfl (lv_at hl 1 rfl) ?_
      refine m_get (x := ((S.1 24) + 1) + ((if ((if (M_sign S ((S.1 24) + 1)) = 94 then 1 else 0 : Int)) = 0 then 0 else 1 : Int))) B (i7 _) hK hM 24 (by decide) rfl rfl (List.mem_cons_of_mem _ w7_fRX7_139) dX7_set_48 ?_
      refine lv_istore_n (lv' := [(2, .int (zI (((S.1 24) + 1) + ((if ((if (M_sign S ((S.1 24) + 1)) = 94 then 1 else 0 : Int)) = 0 then 0 else 1 : Int))))), (1, .int (zI ((if (M_sign S ((S.1 24) + 1)) = 94 then 1 else 0 : Int)))), (0, .ref o)]) B.1 B.2.1 dX7_set_51 rfl hl (by decide) rfl (fun ls hl => ?_)
      refine z_iconst B.1 B.2.1 dX7_set_52 ?_
      refine lv_istore_n (lv' := [(3, .int (zI 1)), (2, .int (zI (((S.1 24) + 1) + ((if ((if (M_sign S ((S.1 24) + 1)) = 94 then 1 else 0 : Int)) = 0 then 0 else 1 : Int))))), (1, .int (zI ((if (M_sign S ((S.1 24) + 1)) = 94 then 1 else 0 : Int)))), (0, .ref o)]) B.1 B.2.1 dX7_set_53 rfl hl (by decide) rfl (fun ls hl => ?_)
      exact lp7_set l D cy o q _ _ (by omega) (by omega) B hK _ 60 1 (mi (mi S 24 ((S.1 24) + 1)) 24 (((S.1 24) + 1) + ((if ((if (M_sign S ((S.1 24) + 1)) = 94 then 1 else 0 : Int)) = 0 then 0 else 1 : Int)))) _ _ ls (fun _ => (by show 60 - (((S.1 24) + 1) + ((if ((if (M_sign S ((S.1 24) + 1)) = 94 then 1 else 0 : Int)) = 0 then 0 else 1 : Int))) ≤ ((60 : Nat) : Int); omega)) hb0 hb1 (by show 0 ≤ (((S.1 24) + 1) + ((if ((if (M_sign S ((S.1 24) + 1)) = 94 then 1 else 0 : Int)) = 0 then 0 else 1 : Int))); omega) (by show (((S.1 24) + 1) + ((if ((if (M_sign S ((S.1 24) + 1)) = 94 then 1 else 0 : Int)) = 0 then 0 else 1 : Int))) ≤ 50; omega) (fun _ => (by show (((S.1 24) + 1) + ((if ((if (M_sign S ((S.1 24) + 1)) = 94 then 1 else 0 : Int)) = 0 then 0 else 1 : Int))) ≤ 44; omega)) hc0 hc1 (by omega) (by omega) hn0 hn1 hs hM (lv_sub hl [3, 2, 1, 0] rfl) rfl
    · --
      refine z_if_eq (tgt := 42) B.1 B.2.1 (zr_of (by omega) (by omega)) dX7_set_35 (by decide) (fun c_13 => ?_) (fun c_13 => ?_)
      · --
        refine z_iconst B.1 B.2.1 dX7_set_42 ?_
        exact hJ_11 _ _ _ ⟨(if_pos c_13).symm, hM⟩
      · --
        refine z_iconst B.1 B.2.1 dX7_set_38 ?_
        refine lv_goto (tgt := 43) B.1 B.2.1 dX7_set_39 (by decide) ?_
        exact hJ_11 _ _ _ ⟨(if_neg c_13).symm, hM⟩
  · --
    refine z_icmp_ne (tgt := 27) B.1 B.2.1 (zr_of (by omega) (by omega)) (zr_of (by decide) (by decide)) dX7_set_20 (by decide) (fun c_14 => ?_) (fun c_14 => ?_)
    · --
      refine z_iconst B.1 B.2.1 dX7_set_27 ?_
      exact hJ_7 _ _ _ ⟨(if_neg c_14).symm, hM⟩
    · --
      refine z_iconst B.1 B.2.1 dX7_set_23 ?_
      refine lv_goto (tgt := 28) B.1 B.2.1 dX7_set_24 (by decide) ?_
      exact hJ_7 _ _ _ ⟨(if_pos c_14).symm, hM⟩
theorem ite_pr {α : Type} {P : α → Prop} {c : Prop} [Decidable c] {a b : α} (ha : P a) (hb : P b) : P (if c then a else b) := by
  split
  · exact ha
  · exact hb
/-- what holds of every state that set's loop comes to holds of its end -/
theorem M_setL_inv (nt fr : Int) (P Qx : MSt → Prop) (h25 : ∀ T v, P T → (v = 0 ∨ v = 1) → P (mi T 25 v)) (h24 : ∀ T, P T → P (mi T 24 (T.1 24 + 1))) (hm : ∀ T, P T → P (M_mark T).2)
    (hx : ∀ T, P T → Qx (mi (M_emit 6 fr (T.1 24) (if nt = 0 then 0 else 1 : Int) T) 24 (T.1 24 + 1))) : ∀ (n : Nat) (alone : Int) (T : MSt), P T → Qx (M_setL nt fr n alone T) := by
  intro n
  induction n with
  | zero => intro alone T h; exact hx T h
  | succ n ih =>
    intro alone T h
    have h1 := h25 _ (if (M_mark T).1 = 0 then 1 else 0 : Int) (hm T h) (by split <;> simp)
    rw [M_setL]
    refine ite_pr (ite_pr (hx T h) (ite_pr (ite_pr (ite_pr (ite_pr (ih _ _ h1) (ih _ _ (h25 _ _ (hm _ (h24 _ h1)) ?_))) (ih _ _ h1)) (ih _ _ h1)) (ih _ _ h1))) (hx T h)
    repeat' (first | exact Or.inl rfl | exact Or.inr rfl | apply ite01)
theorem M_set_i {j : Nat} (h4 : j ≠ 24) (h5 : j ≠ 25) (h9 : j ≠ 19) (S : MSt) : (M_set S).1 j = S.1 j := by
  refine M_setL_inv _ _ (fun T => T.1 j = S.1 j) (fun T => T.1 j = S.1 j) (fun T v h _ => ?_) (fun T h => ?_) (fun T h => ?_) (fun T h => ?_) _ _ _ ?_
  · exact (mi_ne h5).trans h
  · exact (mi_ne h4).trans h
  · exact (M_mark_i h4 T).trans h
  · exact (mi_ne h4).trans ((mi_ne h9).trans h)
  · exact (mi_ne h4).trans (mi_ne h4)
theorem M_set_a {j : Nat} (h1 : j ≠ 15) (h2 : j ≠ 16) (h3 : j ≠ 17) (h4 : j ≠ 18) (S : MSt) : (M_set S).2 j = S.2 j := by
  refine M_setL_inv _ _ (fun T => T.2 j = S.2 j) (fun T => T.2 j = S.2 j) (fun T v h _ => h) (fun T h => h) (fun T h => ?_) (fun T h => ?_) _ _ _ rfl
  · rw [M_mark_a]; exact h
  · show (ma (ma (ma (ma T 15 _ _) 16 _ _) 17 _ _) 18 _ _).2 j = S.2 j
    rw [ma_ne h4, ma_ne h3, ma_ne h2, ma_ne h1]
    exact h
theorem M_set_19 (S : MSt) : (M_set S).1 19 = S.1 19 + 1 := by
  refine M_setL_inv _ _ (fun T => T.1 19 = S.1 19) (fun T => T.1 19 = S.1 19 + 1) (fun T v h _ => h) (fun T h => h) (fun T h => ?_) (fun T h => ?_) _ _ _ rfl
  · exact (M_mark_i (by decide) T).trans h
  · show T.1 19 + 1 = S.1 19 + 1
    rw [h]
theorem M_set_25 {S : MSt} (h : S.1 25 = 0 ∨ S.1 25 = 1) : (M_set S).1 25 = 0 ∨ (M_set S).1 25 = 1 := by
  refine M_setL_inv _ _ (fun T => T.1 25 = 0 ∨ T.1 25 = 1) (fun T => T.1 25 = 0 ∨ T.1 25 = 1) (fun T v _ hv => hv) (fun T h => h) (fun T h => ?_) (fun T h => h) _ _ _ h
  rw [M_mark_i (by decide)]
  exact h
theorem M_set_i0 (S : MSt) : (M_set S).1 0 = S.1 0 := M_set_i (by decide) (by decide) (by decide) S
theorem M_set_a1 (S : MSt) : (M_set S).2 1 = S.2 1 := M_set_a (by decide) (by decide) (by decide) (by decide) S
theorem M_set_i2 (S : MSt) : (M_set S).1 2 = S.1 2 := M_set_i (by decide) (by decide) (by decide) S
theorem M_set_a3 (S : MSt) : (M_set S).2 3 = S.2 3 := M_set_a (by decide) (by decide) (by decide) (by decide) S
theorem M_set_i4 (S : MSt) : (M_set S).1 4 = S.1 4 := M_set_i (by decide) (by decide) (by decide) S
theorem M_set_i5 (S : MSt) : (M_set S).1 5 = S.1 5 := M_set_i (by decide) (by decide) (by decide) S
theorem M_set_i6 (S : MSt) : (M_set S).1 6 = S.1 6 := M_set_i (by decide) (by decide) (by decide) S
theorem M_set_a7 (S : MSt) : (M_set S).2 7 = S.2 7 := M_set_a (by decide) (by decide) (by decide) (by decide) S
theorem M_set_a8 (S : MSt) : (M_set S).2 8 = S.2 8 := M_set_a (by decide) (by decide) (by decide) (by decide) S
theorem M_set_a9 (S : MSt) : (M_set S).2 9 = S.2 9 := M_set_a (by decide) (by decide) (by decide) (by decide) S
theorem M_set_a10 (S : MSt) : (M_set S).2 10 = S.2 10 := M_set_a (by decide) (by decide) (by decide) (by decide) S
theorem M_set_a11 (S : MSt) : (M_set S).2 11 = S.2 11 := M_set_a (by decide) (by decide) (by decide) (by decide) S
theorem M_set_i12 (S : MSt) : (M_set S).1 12 = S.1 12 := M_set_i (by decide) (by decide) (by decide) S
theorem M_set_a13 (S : MSt) : (M_set S).2 13 = S.2 13 := M_set_a (by decide) (by decide) (by decide) (by decide) S
theorem M_set_i14 (S : MSt) : (M_set S).1 14 = S.1 14 := M_set_i (by decide) (by decide) (by decide) S
theorem M_set_i20 (S : MSt) : (M_set S).1 20 = S.1 20 := M_set_i (by decide) (by decide) (by decide) S
theorem M_set_i21 (S : MSt) : (M_set S).1 21 = S.1 21 := M_set_i (by decide) (by decide) (by decide) S
theorem M_set_i22 (S : MSt) : (M_set S).1 22 = S.1 22 := M_set_i (by decide) (by decide) (by decide) S
theorem M_set_i23 (S : MSt) : (M_set S).1 23 = S.1 23 := M_set_i (by decide) (by decide) (by decide) S
theorem M_set_a26 (S : MSt) : (M_set S).2 26 = S.2 26 := M_set_a (by decide) (by decide) (by decide) (by decide) S
theorem M_set_a27 (S : MSt) : (M_set S).2 27 = S.2 27 := M_set_a (by decide) (by decide) (by decide) (by decide) S
theorem M_set_a28 (S : MSt) : (M_set S).2 28 = S.2 28 := M_set_a (by decide) (by decide) (by decide) (by decide) S
theorem M_set_a29 (S : MSt) : (M_set S).2 29 = S.2 29 := M_set_a (by decide) (by decide) (by decide) (by decide) S
theorem M_set_a30 (S : MSt) : (M_set S).2 30 = S.2 30 := M_set_a (by decide) (by decide) (by decide) (by decide) S
theorem M_set_a31 (S : MSt) : (M_set S).2 31 = S.2 31 := M_set_a (by decide) (by decide) (by decide) (by decide) S
theorem M_set_i32 (S : MSt) : (M_set S).1 32 = S.1 32 := M_set_i (by decide) (by decide) (by decide) S
theorem M_set_a33 (S : MSt) : (M_set S).2 33 = S.2 33 := M_set_a (by decide) (by decide) (by decide) (by decide) S
theorem M_set_a34 (S : MSt) : (M_set S).2 34 = S.2 34 := M_set_a (by decide) (by decide) (by decide) (by decide) S
theorem M_set_i35 (S : MSt) : (M_set S).1 35 = S.1 35 := M_set_i (by decide) (by decide) (by decide) S
theorem M_set_a36 (S : MSt) : (M_set S).2 36 = S.2 36 := M_set_a (by decide) (by decide) (by decide) (by decide) S
theorem M_set_i37 (S : MSt) : (M_set S).1 37 = S.1 37 := M_set_i (by decide) (by decide) (by decide) S
theorem M_set_i38 (S : MSt) : (M_set S).1 38 = S.1 38 := M_set_i (by decide) (by decide) (by decide) S
theorem M_set_i39 (S : MSt) : (M_set S).1 39 = S.1 39 := M_set_i (by decide) (by decide) (by decide) S
theorem M_set_i40 (S : MSt) : (M_set S).1 40 = S.1 40 := M_set_i (by decide) (by decide) (by decide) S
theorem M_set_i41 (S : MSt) : (M_set S).1 41 = S.1 41 := M_set_i (by decide) (by decide) (by decide) S
theorem M_set_i42 (S : MSt) : (M_set S).1 42 = S.1 42 := M_set_i (by decide) (by decide) (by decide) S
theorem M_set_a43 (S : MSt) : (M_set S).2 43 = S.2 43 := M_set_a (by decide) (by decide) (by decide) (by decide) S
theorem M_set_a44 (S : MSt) : (M_set S).2 44 = S.2 44 := M_set_a (by decide) (by decide) (by decide) (by decide) S
theorem M_set_i45 (S : MSt) : (M_set S).1 45 = S.1 45 := M_set_i (by decide) (by decide) (by decide) S
theorem M_set_a46 (S : MSt) : (M_set S).2 46 = S.2 46 := M_set_a (by decide) (by decide) (by decide) (by decide) S
theorem M_set_i47 (S : MSt) : (M_set S).1 47 = S.1 47 := M_set_i (by decide) (by decide) (by decide) S
theorem M_set_a48 (S : MSt) : (M_set S).2 48 = S.2 48 := M_set_a (by decide) (by decide) (by decide) (by decide) S
theorem M_set_i49 (S : MSt) : (M_set S).1 49 = S.1 49 := M_set_i (by decide) (by decide) (by decide) S
theorem M_setL_24 (nt fr : Int) : ∀ (n : Nat) (alone : Int) (T : MSt), (∀ j, 0 ≤ T.2 13 j ∧ T.2 13 j ≤ 126) → T.1 14 ≤ 40 → 0 ≤ T.1 24 → T.1 24 ≤ 46 → (T.1 25 = 0 → T.1 24 ≤ 43) → 0 ≤ (M_setL nt fr n alone T).1 24 ∧ (M_setL nt fr n alone T).1 24 ≤ 47 := by
  intro n
  induction n with
  | zero =>
    intro alone T hs hn h0 h1 h2
    show 0 ≤ T.1 24 + 1 ∧ T.1 24 + 1 ≤ 47
    omega
  | succ n ih =>
    intro alone T hs hn h0 h1 h2
    have hx : 0 ≤ T.1 24 + 1 ∧ T.1 24 + 1 ≤ 47 := by omega
    have hm := M_mark_bd T hs
    have hs1 : ∀ j, 0 ≤ (M_mark T).2.2 13 j ∧ (M_mark T).2.2 13 j ≤ 126 := by rw [M_mark_a]; exact hs
    have hn1 : (M_mark T).2.1 14 ≤ 40 := by rw [M_mark_i14]; exact hn
    by_cases c25 : T.1 25 = 0
    · have h3 := h2 c25
      have ih1 : ∀ a, 0 ≤ (M_setL nt fr n a (mi (M_mark T).2 25 (if (M_mark T).1 = 0 then 1 else 0 : Int))).1 24 ∧ (M_setL nt fr n a (mi (M_mark T).2 25 (if (M_mark T).1 = 0 then 1 else 0 : Int))).1 24 ≤ 47 := by
        intro a
        refine ih a _ hs1 hn1 (by show 0 ≤ (M_mark T).2.1 24; omega) (by show (M_mark T).2.1 24 ≤ 46; omega) (fun hz => ?_)
        show (M_mark T).2.1 24 ≤ 43
        have hz : (if (M_mark T).1 = 0 then 1 else 0 : Int) = 0 := hz
        have : ¬ (M_mark T).1 = 0 := by
          intro e
          rw [if_pos e] at hz
          exact absurd hz (by decide)
        have := hm.2.2.2.2 this
        omega
      rw [M_setL, if_pos c25]
      refine ite_pr (P := fun X : MSt => 0 ≤ X.1 24 ∧ X.1 24 ≤ 47) hx ?_
      by_cases cz : (if (M_mark T).1 = 0 then 1 else 0 : Int) = 0
      · rw [if_pos cz]
        refine ite_pr (P := fun X : MSt => 0 ≤ X.1 24 ∧ X.1 24 ≤ 47) (ite_pr (P := fun X : MSt => 0 ≤ X.1 24 ∧ X.1 24 ≤ 47) (ite_pr (P := fun X : MSt => 0 ≤ X.1 24 ∧ X.1 24 ≤ 47) (ih1 _) ?_) (ih1 _)) (ih1 _)
        have hne : ¬ (M_mark T).1 = 0 := by
          intro e
          rw [if_pos e] at cz
          exact absurd cz (by decide)
        have hm1 := hm.2.2.2.2 hne
        have hb := M_mark_bd (mi (mi (M_mark T).2 25 (if (M_mark T).1 = 0 then 1 else 0 : Int)) 24 ((M_mark T).2.1 24 + 1)) hs1
        have e24 : (mi (mi (M_mark T).2 25 (if (M_mark T).1 = 0 then 1 else 0 : Int)) 24 ((M_mark T).2.1 24 + 1)).1 24 = (M_mark T).2.1 24 + 1 := rfl
        have e14 : (mi (mi (M_mark T).2 25 (if (M_mark T).1 = 0 then 1 else 0 : Int)) 24 ((M_mark T).2.1 24 + 1)).1 14 = T.1 14 := M_mark_i14 T
        rw [e24, e14] at hb
        generalize hM2 : M_mark (mi (mi (M_mark T).2 25 (if (M_mark T).1 = 0 then 1 else 0 : Int)) 24 ((M_mark T).2.1 24 + 1)) = M2 at hb ⊢
        have hs2 : ∀ j, 0 ≤ M2.2.2 13 j ∧ M2.2.2 13 j ≤ 126 := by rw [← hM2, M_mark_a]; exact hs1
        have hn2 : M2.2.1 14 ≤ 40 := by rw [← hM2, M_mark_i14, e14]; exact hn
        refine ih _ _ hs2 hn2 (by show 0 ≤ M2.2.1 24; omega) (by show M2.2.1 24 ≤ 46; omega) (fun hz => ?_)
        show M2.2.1 24 ≤ 43
        have hz : (if (M_mark T).1 < 0 then 1 else (if M2.1 ≤ 0 then 1 else (if (M_mark T).1 ≤ M2.1 then 0 else 1 : Int) : Int) : Int) = 0 := hz
        have : ¬ M2.1 = 0 := by
          intro e
          rw [e] at hz
          by_cases d : (M_mark T).1 < 0
          · rw [if_pos d] at hz; exact absurd hz (by decide)
          · rw [if_neg d, if_pos (by decide)] at hz; exact absurd hz (by decide)
        have := hb.2.2.2.2 this
        omega
      · rw [if_neg cz]
        exact ih1 _
    · rw [M_setL, if_neg c25]
      exact hx
