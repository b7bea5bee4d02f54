/-- what holds while a result is written -/
def fV (S : CSt) : Prop := sV S ∧ pB 6 S ∧ 0 ≤ S.1 1 1 ∧ S.1 1 1 ≤ 40 ∧ (∀ j, 0 ≤ S.1 12 j ∧ S.1 12 j < 65536) ∧ 0 ≤ S.1 3 1 ∧ S.1 3 1 ≤ 24 ∧ (∀ j, 0 ≤ S.1 14 j ∧ S.1 14 j < 65536) ∧ 0 ≤ S.1 5 1 ∧ S.1 5 1 ≤ 200
def dK (S S' : CSt) : Prop := S'.2 = S.2 ∧ ∀ n, n ≠ 5 → n ≠ 16 → S'.1 n = S.1 n
theorem dK.rf {S : CSt} : dK S S := ⟨rfl, fun _ _ _ => rfl⟩
theorem dK.tr {S T U : CSt} (h : dK S T) (h' : dK T U) : dK S U := ⟨h'.1.trans h.1, fun n a b => (h'.2 n a b).trans (h.2 n a b)⟩
theorem fV_of {S S' : CSt} (hV : fV S) (hk : dK S S') (h0 : 0 ≤ S'.1 5 1) (h1 : S'.1 5 1 ≤ 200) : fV S' := by
  obtain ⟨a1, a2, a3, a4, a5, a6, a7, a8, -, -⟩ := hV
  obtain ⟨k1, k2⟩ := hk
  refine ⟨sV_of a1 (k2 35 (by decide) (by decide)) (k2 11 (by decide) (by decide)) (k2 36 (by decide) (by decide)) (k2 37 (by decide) (by decide)) (by rw [k1]), pB_of (k2 6 (by decide) (by decide)) (fun j hj => k2 _ (by unfold pA; omega) (by unfold pA; omega)) a2, ?_, ?_, ?_, ?_, ?_, ?_, h0, h1⟩
  · rw [k2 1 (by decide) (by decide)]; exact a3
  · rw [k2 1 (by decide) (by decide)]; exact a4
  · rw [k2 12 (by decide) (by decide)]; exact a5
  · rw [k2 3 (by decide) (by decide)]; exact a6
  · rw [k2 3 (by decide) (by decide)]; exact a7
  · rw [k2 14 (by decide) (by decide)]; exact a8
def fR (S : CSt) (r : CR) : Prop := dK S r.2.2 ∧ fV r.2.2 ∧ (r.1 = 0 ∨ r.1 = 1)
theorem fR.bd {S : CSt} {r : CR} {k : Int → CSt → CR} (h : fR S r) (hk : r.1 = 0 → fV r.2.2 → fR r.2.2 (k r.2.1 r.2.2)) : fR S (gBd r k) := by
  obtain ⟨h1, h2, h3⟩ := h
  show fR S (if r.1 = 0 then k r.2.1 r.2.2 else (1, 0, r.2.2))
  by_cases c : r.1 = 0
  · rw [if_pos c]
    obtain ⟨a1, a2, a3⟩ := hk c h2
    exact ⟨h1.tr a1, a2, a3⟩
  · rw [if_neg c]
    exact ⟨h1, h2, Or.inr rfl⟩
theorem fR.ret {S : CSt} {v : Int} (h : fV S) : fR S (0, v, S) := ⟨dK.rf, h, Or.inl rfl⟩
theorem K4_add_b {t : Nat} {sign : Int} {S : CSt} : (K4_add t sign S).1 = 0 ∨ (K4_add t sign S).1 = 1 := by
  unfold K4_add
  (repeat' split) <;> simp
def K6_write (sg : Int) (S : CSt) : CR := (if ((K4_add 5 sg S).1) = 0 then (1, 0, (K4_add 5 sg S).2) else (0, 0, (K4_add 5 sg S).2))
set_option maxHeartbeats 1000000 in
set_option maxRecDepth 100000 in
theorem cX6_write_ok (l : Launch) (hl0 : l.stackTraces = false) (D : va_G) (cy : Nat → ClassId) (q : Nat → Nat) (V : Nat × (Nat → Nat)) (n0 x y a b : Nat) (S : CSt) (hF : cFx a b S) (sg : Int) (hW : fV S) (hs0 : 0 ≤ sg) (hs1 : sg < 65536) : gMv l D cy q V n0 x y "java/lang/UnsupportedOperationException" yX6_write (.code yX6_write cX6_write 2 none :: TBC) 6 90 S [.ref (q 0), .int (zI sg)] (K6_write sg S) := by
  refine g_of (cc := cX6_write) (maxL := 2) (ret := none) (by decide) rfl rfl (Nat.le_of_ble_eq_true rfl) ?_
  intro p e s m args below meth c ls B hK hG hM hl
  generalize gA (cq q x y) n0 = A at hG hM ⊢
  have hR : (headSpec (.code yX6_write cX6_write 2 none :: TBC) (gRm 6 90 S)).room.cells = (gK - gl S) + 1 ∧ (headSpec (.code yX6_write cX6_write 2 none :: TBC) (gRm 6 90 S)).room.slots = 2 * (gK - gl S) + 6 := ⟨rfl, rfl⟩
  have hl : lv_has ls 2 [(0, .ref (q 0)), (1, .int (zI sg))] := hl
  obtain ⟨hV, hP, hta, htb, hc1, hba, hbb, hc3, hda, hdb⟩ := id hW
  obtain ⟨-, -, -, -, -, -, -, pga, pgb, -, -⟩ := id hP
  refine lv_aload_n B.1 B.2.1 dX6_write_0 rfl (lv_at hl 0 rfl) ?_
  refine c_getr (q := (cq q x y)) (r := 5) B (iC6 _) hK hM 0 4 6 (by decide) rfl rfl (by decide) (by decide) rfl rfl rfl (cFx_r hF 0 4) (List.mem_cons_of_mem _ wC_fRX6_27) dX6_write_1 ?_
  refine lv_iload_n B.1 B.2.1 dX6_write_4 rfl (lv_at hl 1 rfl) ?_
  refine c_calli (q := (cq q x y)) (As := [.int (zI sg)]) (rest := []) B hK hM 5 (by decide) (by decide) rfl (cX4_add_ok l D cy (cq q x y) a b S hF 5 (by decide) sg (by show 0 ≤ (S.1 5 1); omega) (by show (S.1 5 1) ≤ 100000; omega) (by show 0 ≤ sg; omega) (by show sg < 65536; omega)) (cwC 1 B wC_mRX6_92 wC_im_yX4_add wC_sl_yX4_add wC_in_RX4 wC_cd_yX4_add rfl rfl (by decide +kernel) ⟨Nat.le_of_ble_eq_true rfl, Nat.le_of_ble_eq_true rfl⟩) rfl hl.1 rfl (Nat.le_of_ble_eq_true rfl) dX6_write_5 ⟨g_rc hR (Nat.le_refl _) (cFx_gl (S := S) hF), g_rs hR (Nat.le_refl _) (cFx_gl (S := S) hF)⟩ (fun z_4 S_3 H locs hp_2 hM => ?_)
  obtain ⟨hp_2, he_hp_2⟩ := hp_2
  have he_hp_2 := he_hp_2.symm
  subst he_hp_2
  have hp_2 : (K4_add 5 sg S).1 = z_4 := hp_2.symm
  subst hp_2
  have hg : gl S ≤ gl (K4_add 5 sg S).2 := Nat.le_trans (Nat.le_refl _) (gl_of (S := S) (S' := (K4_add 5 sg S).2) (congrArg Prod.snd K4_add_2))
  refine W.widen (k := gl (K4_add 5 sg S).2 - gl S) (n := 2 * (gl (K4_add 5 sg S).2 - gl S)) (Nat.sub_le_sub_right (gl_of (S := S) (S' := (K4_add 5 sg S).2) (congrArg Prod.snd K4_add_2)) _) (Nat.mul_le_mul_left 2 (Nat.sub_le_sub_right (gl_of (S := S) (S' := (K4_add 5 sg S).2) (congrArg Prod.snd K4_add_2)) _)) ?_
  have hF : cFx a b (K4_add 5 sg S).2 := cFx_of (congrArg Prod.snd K4_add_2) hF
  have hab := K4_add_b (t := 5) (sign := sg) (S := S)
  refine z_if_ne (tgt := 21) B.1 B.2.1 (zr_of (by omega) (by omega)) dX6_write_8 (by decide) (fun c_5 => ?_) (fun c_5 => ?_)
  · --
    exact g_retv (S := (K4_add 5 sg S).2) B hM (by unfold K6_write; exact (if_neg c_5)) dX6_write_21
  · --
    exact g_throw (S := (K4_add 5 sg S).2) (E := "java/lang/UnsupportedOperationException") (ik := 161) (is := 163) (ic := 165) 3 (by decide) hl0 B hG hM rfl sX_java_lang_UnsupportedOperationException (by decide +kernel) (List.mem_cons_of_mem _ wC_cRX6_161) (List.mem_cons_of_mem _ wC_in__java_lang_UnsupportedOperationException_) (tC_RX6_165 _) tN_RX6_165 hl.1 (Nat.le_of_ble_eq_true rfl) hR (Nat.le_of_ble_eq_true rfl) (Nat.le_of_ble_eq_true rfl) hg (cFx_gl hF) (tO_RX6_165 _) dX6_write_11 dX6_write_14 dX6_write_15 dX6_write_17 dX6_write_20 (by unfold K6_write; exact (if_pos c_5))
theorem K6_write_R {sg : Int} {S : CSt} (hW : fV S) : fR S (K6_write sg S) := by
  have h0 := hW.2.2.2.2.2.2.2.2.1
  have h1 := hW.2.2.2.2.2.2.2.2.2
  have hk : dK S (K4_add 5 sg S).2 := ⟨K4_add_2, fun n a b => K4_add_1 a b⟩
  have hl := K4_add_l (t := 5) (sign := sg) h0
  have hc : (K4_add 5 sg S).2.1 5 1 ≤ 200 := by
    have hL : ((cLen (11 + 5) : Nat) : Int) = 200 := rfl
    unfold K4_add
    (repeat' split)
    · exact h1
    · simp only [ci_eq, zu_eq]; omega
    · exact h1
  have hV := fV_of hW hk (by omega) hc
  unfold K6_write
  split
  · exact ⟨hk, hV, Or.inr rfl⟩
  · exact ⟨hk, hV, Or.inl rfl⟩
def K6_wtL (en : Int) : Nat → Int → CSt → CR
  | 0, k, T => (0, 0, T)
  | n + 1, k, T => (if en ≤ k then (0, 0, T) else (gBd (K6_write ((K4_at 3 k T)) T) (fun _ S_9 => K6_wtL en n (k + 1) S_9)))
set_option maxHeartbeats 1000000 in
set_option maxRecDepth 100000 in
theorem lp6_wt (l : Launch) (hl0 : l.stackTraces = false) (D : va_G) (cy : Nat → ClassId) (q : Nat → Nat) (V : Nat × (Nat → Nat)) (n0 a b : Nat)  (en : Int) (he0 : -1 ≤ en) (he1 : en ≤ 100000) (S0 : CSt) (rc : CR) {A : Nat → Prop} {p : Program} {e : Env} {s : State} {m : MethodId} {args : Array Value} {below : List Frame} {meth : Method} {c : Code} (B : zAt p s m args meth c RX6 cX6_writeText 4 none (.code yX6_writeText cX6_writeText 4 none :: TBC)) (hK : va_K D vwCl (zTY cy) s) (hG : gEn V n0 A s c) (hR : (headSpec (.code yX6_writeText cX6_writeText 4 none :: TBC) (gRm 7 111 S0)).room.cells = (gK - gl S0) + 1 ∧ (headSpec (.code yX6_writeText cX6_writeText 4 none :: TBC) (gRm 7 111 S0)).room.slots = 2 * (gK - gl S0) + 6) :
    ∀ (n : Nat) (k : Int) (T : CSt) (x y : Nat) (H : Heap) (locs : List Loc) (ls : Array Slot), (cFx a b T) → (gl S0 ≤ gl T) → (fV T) → (-1 ≤ k) → (k ≤ 200000) → (en - k ≤ n) → cH D cy (cq q x y) A s.heap T H locs → lv_has ls 4 [(0, .ref (q 0)), (2, .int (zI en)), (3, .int (zI k))] → (rc = K6_wtL en n k T) → W p l e (headSpec (.code yX6_writeText cX6_writeText 4 none :: TBC) (gRm 7 111 S0)).room s m args below meth c H locs (gl T - gl S0) (2 * (gl T - gl S0)) (vx_MQ below (gQv D cy q A rc) (gX D cy q A "java/lang/UnsupportedOperationException" rc) args s (gc S0 rc) (gs S0 rc) A) (F0 m 2 ls []) := by
  intro n
  induction n with
  | zero =>
    intro k T x y H locs ls hF hg hW hi0 hi1 hn hM hl hpost
    obtain ⟨hV, hP, hta, htb, hc1, hba, hbb, hc3, hda, hdb⟩ := id hW
    obtain ⟨-, -, -, -, -, -, -, pga, pgb, -, -⟩ := id hP
    refine lv_iload_n B.1 B.2.1 dX6_writeText_2 rfl (lv_at hl 2 rfl) ?_
    refine lv_iload_n B.1 B.2.1 dX6_writeText_3 rfl (lv_at hl 1 rfl) ?_
    refine z_icmp_ge (tgt := 25) B.1 B.2.1 (zr_of (by omega) (by omega)) (zr_of (by omega) (by omega)) dX6_writeText_4 (by decide) (fun c_1 => ?_) (fun c_1 => ?_)
    · --
      exact g_retv (S := T) B hM (hpost.trans (by rw [K6_wtL])) dX6_writeText_25
    · exact absurd c_1 (by omega)
  | succ n ih =>
    intro k T x y H locs ls hF hg hW hi0 hi1 hn hM hl hpost
    obtain ⟨hV, hP, hta, htb, hc1, hba, hbb, hc3, hda, hdb⟩ := id hW
    obtain ⟨-, -, -, -, -, -, -, pga, pgb, -, -⟩ := id hP
    refine lv_iload_n B.1 B.2.1 dX6_writeText_2 rfl (lv_at hl 2 rfl) ?_
    refine lv_iload_n B.1 B.2.1 dX6_writeText_3 rfl (lv_at hl 1 rfl) ?_
    refine z_icmp_ge (tgt := 25) B.1 B.2.1 (zr_of (by omega) (by omega)) (zr_of (by omega) (by omega)) dX6_writeText_4 (by decide) (fun c_1 => ?_) (fun c_1 => ?_)
    · --
      exact g_retv (S := T) B hM (hpost.trans (by rw [K6_wtL]; exact (if_pos c_1))) dX6_writeText_25
    · --
      refine lv_aload_n B.1 B.2.1 dX6_writeText_7 rfl (lv_at hl 0 rfl) ?_
      refine lv_aload_n B.1 B.2.1 dX6_writeText_8 rfl (lv_at hl 0 rfl) ?_
      refine c_getr (q := (cq q x y)) (r := 3) B (iC6 _) hK hM 0 2 6 (by decide) rfl rfl (by decide) (by decide) rfl rfl rfl (cFx_r hF 0 2) (List.mem_cons_of_mem _ wC_fRX6_21) dX6_writeText_9 ?_
      refine lv_iload_n B.1 B.2.1 dX6_writeText_12 rfl (lv_at hl 2 rfl) ?_
      refine c_calli (q := (cq q x y)) (As := [.int (zI k)]) (rest := [.ref (q 0)]) B hK hM 3 (by decide) (by decide) rfl (cX4_at_ok l D cy (cq q x y) a b T hF 3 (by decide) k (by show 0 ≤ (T.1 3 1); omega) (by show (T.1 3 1) ≤ 100000; omega) (by show -10000000 ≤ k; omega) (by show k ≤ 10000000; omega) hc3) (cwC 1 B wC_mRX6_144 wC_im_yX4_at wC_sl_yX4_at wC_in_RX4 wC_cd_yX4_at rfl rfl (by decide +kernel) ⟨Nat.le_of_ble_eq_true rfl, Nat.le_of_ble_eq_true rfl⟩) rfl hl.1 rfl (Nat.le_of_ble_eq_true rfl) dX6_writeText_13 ⟨g_rc hR hg (cFx_gl (S := T) hF), g_rs hR hg (cFx_gl (S := T) hF)⟩ (fun z_5 S_4 H locs hp_3 hM => ?_)
      obtain ⟨hp_3, he_hp_3⟩ := hp_3
      have he_hp_3 := he_hp_3.symm
      subst he_hp_3
      have hp_3 : (K4_at 3 k T) = z_5 := hp_3.symm
      subst hp_3
      have f_6 := K4_at_bd (t := 3) (S := T) hc3 k
      refine g_callv (E := "java/lang/UnsupportedOperationException") (As := [.int (zI ((K4_at 3 k T)))]) (rest := []) B hK hG hM 0 (by decide) (by decide) rfl (cX6_write_ok l hl0 D cy q V n0 x y a b T hF  ((K4_at 3 k T)) hW (by show 0 ≤ ((K4_at 3 k T)); omega) (by show ((K4_at 3 k T)) < 65536; omega)) (cwC 1 B wC_mRX6_157 wC_im_yX6_write wC_sl_yX6_write wC_in_RX6 wC_cd_yX6_write rfl rfl (by decide +kernel) ⟨Nat.le_of_ble_eq_true rfl, Nat.le_of_ble_eq_true rfl⟩) rfl hl.1 rfl (Nat.le_of_ble_eq_true rfl) dX6_writeText_16 hR hg (cFx_gl hF) (gl_of (congrArg Prod.snd (K6_write_R (sg := (K4_at 3 k T)) (S := T) hW).1.1)) (fun c_8 => (hpost.trans (by rw [K6_wtL]; exact ((if_neg c_1).trans (if_neg c_8))))) (fun x y H locs c_8 hM => ?_)
      have hg : gl S0 ≤ gl (K6_write ((K4_at 3 k T)) T).2.2 := Nat.le_trans hg (gl_of (congrArg Prod.snd (K6_write_R (sg := (K4_at 3 k T)) (S := T) hW).1.1))
      obtain ⟨k_7, hW, -⟩ := K6_write_R (sg := (K4_at 3 k T)) (S := T) hW
      have hF : cFx a b (K6_write ((K4_at 3 k T)) T).2.2 := cFx_of (congrArg Prod.snd k_7.1) hF
      generalize hS_9 : (K6_write ((K4_at 3 k T)) T).2.2 = S_9 at *
      obtain ⟨hV, hP, hta, htb, hc1, hba, hbb, hc3, hda, hdb⟩ := id hW
      obtain ⟨-, -, -, -, -, -, -, pga, pgb, -, -⟩ := id hP
      refine z_iinc (v := k + 1) (lv' := [(3, .int (zI (k + 1))), (0, .ref (q 0)), (2, .int (zI en))]) B.1 B.2.1 dX6_writeText_19 hl (k := 2) rfl rfl (by decide) rfl (fun ls hl => ?_)
      refine lv_goto (tgt := 2) B.1 B.2.1 dX6_writeText_22 (by decide) ?_
      have hq : K6_wtL en (n + 1) k T = K6_wtL en n (k + 1) S_9 := by subst hS_9; rw [K6_wtL]; exact ((if_neg c_1).trans (if_pos c_8))
      rw [hq] at hpost
      exact ih (k + 1) S_9 x y H locs ls hF hg hW (by omega) (by omega) (by omega) hM (lv_sub hl [1, 2, 0] rfl) hpost
def K6_writeText (bg : Int) (en : Int) (S : CSt) : CR := (K6_wtL en (en - bg).toNat bg S)
set_option maxHeartbeats 1000000 in
set_option maxRecDepth 100000 in
theorem cX6_writeText_ok (l : Launch) (hl0 : l.stackTraces = false) (D : va_G) (cy : Nat → ClassId) (q : Nat → Nat) (V : Nat × (Nat → Nat)) (n0 x y a b : Nat) (S : CSt) (hF : cFx a b S) (bg : Int) (en : Int) (hW : fV S) (hb0 : -1 ≤ bg) (hb1 : bg ≤ 100000) (he0 : -1 ≤ en) (he1 : en ≤ 100000) : gMv l D cy q V n0 x y "java/lang/UnsupportedOperationException" yX6_writeText (.code yX6_writeText cX6_writeText 4 none :: TBC) 7 111 S [.ref (q 0), .int (zI bg), .int (zI en)] (K6_writeText bg en S) := by
  refine g_of (cc := cX6_writeText) (maxL := 4) (ret := none) (by decide) rfl rfl (Nat.le_of_ble_eq_true rfl) ?_
  intro p e s m args below meth c ls B hK hG hM hl
  generalize gA (cq q x y) n0 = A at hG hM ⊢
  have hR : (headSpec (.code yX6_writeText cX6_writeText 4 none :: TBC) (gRm 7 111 S)).room.cells = (gK - gl S) + 1 ∧ (headSpec (.code yX6_writeText cX6_writeText 4 none :: TBC) (gRm 7 111 S)).room.slots = 2 * (gK - gl S) + 6 := ⟨rfl, rfl⟩
  have hl : lv_has ls 4 [(0, .ref (q 0)), (1, .int (zI bg)), (2, .int (zI en))] := hl
  obtain ⟨hV, hP, hta, htb, hc1, hba, hbb, hc3, hda, hdb⟩ := id hW
  obtain ⟨-, -, -, -, -, -, -, pga, pgb, -, -⟩ := id hP
  refine lv_iload_n B.1 B.2.1 dX6_writeText_0 rfl (lv_at hl 1 rfl) ?_
  refine lv_istore_n (lv' := [(3, .int (zI bg)), (0, .ref (q 0)), (1, .int (zI bg)), (2, .int (zI en))]) B.1 B.2.1 dX6_writeText_1 rfl hl (by decide) rfl (fun ls hl => ?_)
  exact lp6_wt l hl0 D cy q V n0 a b en (by omega) (by omega) S _ B hK hG hR (en - bg).toNat bg S x y _ _ ls hF (Nat.le_refl _) hW (by omega) (by omega) (by omega) hM (lv_sub hl [1, 3, 0] rfl) (by unfold K6_writeText; rfl)
theorem K6_wtL_R {en : Int} : ∀ (n : Nat) (k : Int) (S : CSt), fV S → fR S (K6_wtL en n k S)
  | 0, k, S, hW => by rw [K6_wtL]; exact fR.ret hW
  | n + 1, k, S, hW => by
    rw [K6_wtL]
    split
    · exact fR.ret hW
    · exact fR.bd (K6_write_R hW) (fun _ h => K6_wtL_R n _ _ h)
theorem K6_writeText_R {bg en : Int} {S : CSt} (hW : fV S) : fR S (K6_writeText bg en S) := K6_wtL_R _ _ _ hW
def K6_writePart (i : Int) (S : CSt) : CR := (if ((K4_at 1 i S)) = 36 then (if ((K4_at 1 (i + 1) S)) = 36 then (gBd (K6_write 36 S) (fun _ S_54 => (0, 2, S_54))) else (if ((K4_at 1 (i + 1) S)) = 38 then (gBd (K6_writeText ((K0_tookFrom 0 S)) ((K0_tookTo 0 S)) S) (fun _ S_51 => (0, 2, S_51))) else (if (((K4_at 1 (i + 1) S)) - 48) < 1 then (gBd (K6_write 36 S) (fun _ S_17 => (0, 1, S_17))) else (if (S.1 6 12) < (((K4_at 1 (i + 1) S)) - 48) then (gBd (K6_write 36 S) (fun _ S_25 => (0, 1, S_25))) else (gBd (K6_writeText ((K0_tookFrom (((K4_at 1 (i + 1) S)) - 48) S)) ((K0_tookTo (((K4_at 1 (i + 1) S)) - 48) S)) S) (fun _ S_38 => (0, 2, S_38))))))) else (gBd (K6_write ((K4_at 1 i S)) S) (fun _ S_57 => (0, 1, S_57))))
set_option maxHeartbeats 1000000 in
set_option maxRecDepth 100000 in
theorem cX6_writePart_ok (l : Launch) (hl0 : l.stackTraces = false) (D : va_G) (cy : Nat → ClassId) (q : Nat → Nat) (V : Nat × (Nat → Nat)) (n0 x y a : Nat) (S : CSt) (hF : cFx a 6 S) (i : Int) (hW : fV S) (h0 : 0 ≤ i) (h1 : i ≤ 100) : gMi l D cy q V n0 x y "java/lang/UnsupportedOperationException" yX6_writePart (.code yX6_writePart cX6_writePart 5 (some .int) :: TBC) 8 134 S [.ref (q 0), .int (zI i)] (K6_writePart i S) := by
  refine g_of (cc := cX6_writePart) (maxL := 5) (ret := (some .int)) (by decide) rfl rfl (Nat.le_of_ble_eq_true rfl) ?_
  intro p e s m args below meth c ls B hK hG hM hl
  generalize gA (cq q x y) n0 = A at hG hM ⊢
  have hR : (headSpec (.code yX6_writePart cX6_writePart 5 (some .int) :: TBC) (gRm 8 134 S)).room.cells = (gK - gl S) + 1 ∧ (headSpec (.code yX6_writePart cX6_writePart 5 (some .int) :: TBC) (gRm 8 134 S)).room.slots = 2 * (gK - gl S) + 6 := ⟨rfl, rfl⟩
  have hl : lv_has ls 5 [(0, .ref (q 0)), (1, .int (zI i))] := hl
  obtain ⟨hV, hP, hta, htb, hc1, hba, hbb, hc3, hda, hdb⟩ := id hW
  obtain ⟨-, -, -, -, -, -, -, pga, pgb, -, -⟩ := id hP
  refine lv_aload_n B.1 B.2.1 dX6_writePart_0 rfl (lv_at hl 0 rfl) ?_
  refine c_getr (q := (cq q x y)) (r := 1) B (iC6 _) hK hM 0 0 6 (by decide) rfl rfl (by decide) (by decide) rfl rfl rfl (cFx_r hF 0 0) (List.mem_cons_of_mem _ wC_fRX6_14) dX6_writePart_1 ?_
  refine lv_iload_n B.1 B.2.1 dX6_writePart_4 rfl (lv_at hl 1 rfl) ?_
  refine c_calli (q := (cq q x y)) (As := [.int (zI i)]) (rest := []) B hK hM 1 (by decide) (by decide) rfl (cX4_at_ok l D cy (cq q x y) a 6 S hF 1 (by decide) i (by show 0 ≤ (S.1 1 1); omega) (by show (S.1 1 1) ≤ 100000; omega) (by show -10000000 ≤ i; omega) (by show i ≤ 10000000; omega) hc1) (cwC 1 B wC_mRX6_144 wC_im_yX4_at wC_sl_yX4_at wC_in_RX4 wC_cd_yX4_at rfl rfl (by decide +kernel) ⟨Nat.le_of_ble_eq_true rfl, Nat.le_of_ble_eq_true rfl⟩) rfl hl.1 rfl (Nat.le_of_ble_eq_true rfl) dX6_writePart_5 ⟨g_rc hR (Nat.le_refl _) (cFx_gl (S := S) hF), g_rs hR (Nat.le_refl _) (cFx_gl (S := S) hF)⟩ (fun z_4 S_3 H locs hp_2 hM => ?_)
  obtain ⟨hp_2, he_hp_2⟩ := hp_2
  have he_hp_2 := he_hp_2.symm
  subst he_hp_2
  have hp_2 : (K4_at 1 i S) = z_4 := hp_2.symm
  subst hp_2
  have f_5 := K4_at_bd (t := 1) (S := S) hc1 i
  refine lv_istore_n (lv' := [(2, .int (zI ((K4_at 1 i S)))), (0, .ref (q 0)), (1, .int (zI i))]) B.1 B.2.1 dX6_writePart_8 rfl hl (by decide) rfl (fun ls hl => ?_)
  refine lv_aload_n B.1 B.2.1 dX6_writePart_9 rfl (lv_at hl 1 rfl) ?_
  refine c_getr (q := (cq q x y)) (r := 1) B (iC6 _) hK hM 0 0 6 (by decide) rfl rfl (by decide) (by decide) rfl rfl rfl (cFx_r hF 0 0) (List.mem_cons_of_mem _ wC_fRX6_14) dX6_writePart_10 ?_
  refine lv_iload_n B.1 B.2.1 dX6_writePart_13 rfl (lv_at hl 2 rfl) ?_
  refine z_iconst B.1 B.2.1 dX6_writePart_14 ?_
  refine z_iadd (x := i + 1) B.1 B.2.1 rfl dX6_writePart_15 ?_
  refine c_calli (q := (cq q x y)) (As := [.int (zI (i + 1))]) (rest := []) B hK hM 1 (by decide) (by decide) rfl (cX4_at_ok l D cy (cq q x y) a 6 S hF 1 (by decide) (i + 1) (by show 0 ≤ (S.1 1 1); omega) (by show (S.1 1 1) ≤ 100000; omega) (by show -10000000 ≤ (i + 1); omega) (by show (i + 1) ≤ 10000000; omega) hc1) (cwC 1 B wC_mRX6_144 wC_im_yX4_at wC_sl_yX4_at wC_in_RX4 wC_cd_yX4_at rfl rfl (by decide +kernel) ⟨Nat.le_of_ble_eq_true rfl, Nat.le_of_ble_eq_true rfl⟩) rfl hl.1 rfl (Nat.le_of_ble_eq_true rfl) dX6_writePart_16 ⟨g_rc hR (Nat.le_refl _) (cFx_gl (S := S) hF), g_rs hR (Nat.le_refl _) (cFx_gl (S := S) hF)⟩ (fun z_9 S_8 H locs hp_7 hM => ?_)
  obtain ⟨hp_7, he_hp_7⟩ := hp_7
  have he_hp_7 := he_hp_7.symm
  subst he_hp_7
  have hp_7 : (K4_at 1 (i + 1) S) = z_9 := hp_7.symm
  subst hp_7
  have f_10 := K4_at_bd (t := 1) (S := S) hc1 (i + 1)
  refine lv_istore_n (lv' := [(3, .int (zI ((K4_at 1 (i + 1) S)))), (2, .int (zI ((K4_at 1 i S)))), (0, .ref (q 0)), (1, .int (zI i))]) B.1 B.2.1 dX6_writePart_19 rfl hl (by decide) rfl (fun ls hl => ?_)
  refine lv_iload_n B.1 B.2.1 dX6_writePart_20 rfl (lv_at hl 0 rfl) ?_
  refine z_bipush B.1 B.2.1 (by decide) dX6_writePart_21 ?_
  refine z_isub (x := ((K4_at 1 (i + 1) S)) - 48) B.1 B.2.1 rfl dX6_writePart_23 ?_
  refine lv_istore (lv' := [(4, .int (zI (((K4_at 1 (i + 1) S)) - 48))), (3, .int (zI ((K4_at 1 (i + 1) S)))), (2, .int (zI ((K4_at 1 i S)))), (0, .ref (q 0)), (1, .int (zI i))]) B.1 B.2.1 dX6_writePart_24 hl (by decide) rfl (fun ls hl => ?_)
  refine lv_iload_n B.1 B.2.1 dX6_writePart_26 rfl (lv_at hl 2 rfl) ?_
  refine z_bipush B.1 B.2.1 (by decide) dX6_writePart_27 ?_
  refine z_icmp_eq (tgt := 39) B.1 B.2.1 (zr_of (by omega) (by omega)) (zr_of (by decide) (by decide)) dX6_writePart_29 (by decide) (fun c_11 => ?_) (fun c_11 => ?_)
  · --
    refine lv_iload_n B.1 B.2.1 dX6_writePart_39 rfl (lv_at hl 1 rfl) ?_
    refine z_bipush B.1 B.2.1 (by decide) dX6_writePart_40 ?_
    refine z_icmp_ne (tgt := 53) B.1 B.2.1 (zr_of (by omega) (by omega)) (zr_of (by decide) (by decide)) dX6_writePart_42 (by decide) (fun c_12 => ?_) (fun c_12 => ?_)
    · --
      refine lv_iload_n B.1 B.2.1 dX6_writePart_53 rfl (lv_at hl 1 rfl) ?_
      refine z_bipush B.1 B.2.1 (by decide) dX6_writePart_54 ?_
      refine z_icmp_ne (tgt := 81) B.1 B.2.1 (zr_of (by omega) (by omega)) (zr_of (by decide) (by decide)) dX6_writePart_56 (by decide) (fun c_13 => ?_) (fun c_13 => ?_)
      · --
        refine lv_iload B.1 B.2.1 dX6_writePart_81 (lv_at hl 0 rfl) ?_
        refine z_iconst B.1 B.2.1 dX6_writePart_83 ?_
        refine z_icmp_lt (tgt := 123) B.1 B.2.1 (zr_of (by omega) (by omega)) (zr_of (by decide) (by decide)) dX6_writePart_84 (by decide) (fun c_14 => ?_) (fun c_14 => ?_)
        · --
          refine lv_aload_n B.1 B.2.1 dX6_writePart_123 rfl (lv_at hl 3 rfl) ?_
          refine z_bipush B.1 B.2.1 (by decide) dX6_writePart_124 ?_
          refine g_callv (E := "java/lang/UnsupportedOperationException") (As := [.int (zI 36)]) (rest := []) B hK hG hM 0 (by decide) (by decide) rfl (cX6_write_ok l hl0 D cy q V n0 x y a 6 S hF  36 hW (by show 0 ≤ 36; omega) (by show 36 < 65536; omega)) (cwC 1 B wC_mRX6_157 wC_im_yX6_write wC_sl_yX6_write wC_in_RX6 wC_cd_yX6_write rfl rfl (by decide +kernel) ⟨Nat.le_of_ble_eq_true rfl, Nat.le_of_ble_eq_true rfl⟩) rfl hl.1 rfl (Nat.le_of_ble_eq_true rfl) dX6_writePart_126 hR (Nat.le_refl _) (cFx_gl hF) (gl_of (congrArg Prod.snd (K6_write_R (sg := 36) (S := S) hW).1.1)) (fun c_16 => (by unfold K6_writePart; exact ((if_pos c_11).trans ((if_neg c_12).trans ((if_neg c_13).trans ((if_pos c_14).trans (if_neg c_16))))))) (fun x y H locs c_16 hM => ?_)
          have hg : gl S ≤ gl (K6_write 36 S).2.2 := Nat.le_trans (Nat.le_refl _) (gl_of (congrArg Prod.snd (K6_write_R (sg := 36) (S := S) hW).1.1))
          obtain ⟨k_15, hW, -⟩ := K6_write_R (sg := 36) (S := S) hW
          have hF : cFx a 6 (K6_write 36 S).2.2 := cFx_of (congrArg Prod.snd k_15.1) hF
          generalize hS_17 : (K6_write 36 S).2.2 = S_17 at *
          obtain ⟨hV, hP, hta, htb, hc1, hba, hbb, hc3, hda, hdb⟩ := id hW
          obtain ⟨-, -, -, -, -, -, -, pga, pgb, -, -⟩ := id hP
          refine z_iconst B.1 B.2.1 dX6_writePart_129 ?_
          exact g_reti (S := S_17) B hM (by subst hS_17; unfold K6_writePart; exact ((if_pos c_11).trans ((if_neg c_12).trans ((if_neg c_13).trans ((if_pos c_14).trans (if_pos c_16)))))) dX6_writePart_130
        · --
          refine lv_iload B.1 B.2.1 dX6_writePart_87 (lv_at hl 0 rfl) ?_
          refine lv_aload_n B.1 B.2.1 dX6_writePart_89 rfl (lv_at hl 3 rfl) ?_
          refine c_getr (q := (cq q x y)) (r := 6) B (iC6 _) hK hM 0 5 6 (by decide) rfl rfl (by decide) (by decide) rfl rfl rfl (cFx_r hF 0 5) (List.mem_cons_of_mem _ wC_fRX6_33) dX6_writePart_90 ?_
          refine c_calli (q := (cq q x y)) (As := []) (rest := [.int (zI (((K4_at 1 (i + 1) S)) - 48))]) B hK hM 6 (by decide) (by decide) rfl (cX2_groups_ok l D cy (cq q x y) a 6 S hF 6 (by decide)  ) (cwC 0 B wC_mRX6_109 wC_im_yX2_groups wC_sl_yX2_groups wC_in_RX2 wC_cd_yX2_groups rfl rfl (by decide +kernel) ⟨Nat.le_of_ble_eq_true rfl, Nat.le_of_ble_eq_true rfl⟩) rfl hl.1 rfl (Nat.le_of_ble_eq_true rfl) dX6_writePart_93 ⟨g_rc hR (Nat.le_refl _) (cFx_gl (S := S) hF), g_rs hR (Nat.le_refl _) (cFx_gl (S := S) hF)⟩ (fun z_21 S_20 H locs hp_19 hM => ?_)
          obtain ⟨hp_19, he_hp_19⟩ := hp_19
          have he_hp_19 := he_hp_19.symm
          subst he_hp_19
          have hp_19 : S.1 6 12 = z_21 := hp_19.symm
          subst hp_19
          refine z_icmp_gt (tgt := 123) B.1 B.2.1 (zr_of (by omega) (by omega)) (zr_of (by omega) (by omega)) dX6_writePart_96 (by decide) (fun c_22 => ?_) (fun c_22 => ?_)
          · --
            refine lv_aload_n B.1 B.2.1 dX6_writePart_123 rfl (lv_at hl 3 rfl) ?_
            refine z_bipush B.1 B.2.1 (by decide) dX6_writePart_124 ?_
            refine g_callv (E := "java/lang/UnsupportedOperationException") (As := [.int (zI 36)]) (rest := []) B hK hG hM 0 (by decide) (by decide) rfl (cX6_write_ok l hl0 D cy q V n0 x y a 6 S hF  36 hW (by show 0 ≤ 36; omega) (by show 36 < 65536; omega)) (cwC 1 B wC_mRX6_157 wC_im_yX6_write wC_sl_yX6_write wC_in_RX6 wC_cd_yX6_write rfl rfl (by decide +kernel) ⟨Nat.le_of_ble_eq_true rfl, Nat.le_of_ble_eq_true rfl⟩) rfl hl.1 rfl (Nat.le_of_ble_eq_true rfl) dX6_writePart_126 hR (Nat.le_refl _) (cFx_gl hF) (gl_of (congrArg Prod.snd (K6_write_R (sg := 36) (S := S) hW).1.1)) (fun c_24 => (by unfold K6_writePart; exact ((if_pos c_11).trans ((if_neg c_12).trans ((if_neg c_13).trans ((if_neg c_14).trans ((if_pos c_22).trans (if_neg c_24)))))))) (fun x y H locs c_24 hM => ?_)
            have hg : gl S ≤ gl (K6_write 36 S).2.2 := Nat.le_trans (Nat.le_refl _) (gl_of (congrArg Prod.snd (K6_write_R (sg := 36) (S := S) hW).1.1))
            obtain ⟨k_23, hW, -⟩ := K6_write_R (sg := 36) (S := S) hW
            have hF : cFx a 6 (K6_write 36 S).2.2 := cFx_of (congrArg Prod.snd k_23.1) hF
            generalize hS_25 : (K6_write 36 S).2.2 = S_25 at *
            obtain ⟨hV, hP, hta, htb, hc1, hba, hbb, hc3, hda, hdb⟩ := id hW
            obtain ⟨-, -, -, -, -, -, -, pga, pgb, -, -⟩ := id hP
            refine z_iconst B.1 B.2.1 dX6_writePart_129 ?_
            exact g_reti (S := S_25) B hM (by subst hS_25; unfold K6_writePart; exact ((if_pos c_11).trans ((if_neg c_12).trans ((if_neg c_13).trans ((if_neg c_14).trans ((if_pos c_22).trans (if_pos c_24))))))) dX6_writePart_130
          · --
            refine lv_aload_n B.1 B.2.1 dX6_writePart_99 rfl (lv_at hl 3 rfl) ?_
            refine lv_aload_n B.1 B.2.1 dX6_writePart_100 rfl (lv_at hl 3 rfl) ?_
            refine c_getr (q := (cq q x y)) (r := 10) B (iC6 _) hK hM 0 8 6 (by decide) rfl rfl (by decide) (by decide) rfl rfl rfl (cFx_r hF 0 8) (List.mem_cons_of_mem _ wC_fRX6_52) dX6_writePart_101 ?_
            refine lv_iload B.1 B.2.1 dX6_writePart_104 (lv_at hl 0 rfl) ?_
            refine c_calli (q := (cq q x y)) (As := [.int (zI (((K4_at 1 (i + 1) S)) - 48))]) (rest := [.ref (q 0)]) B hK hM 10 (by decide) (by decide) rfl (cX0_tookFrom_ok l D cy (cq q x y) a S hF  (((K4_at 1 (i + 1) S)) - 48) hV (by show -1 ≤ (((K4_at 1 (i + 1) S)) - 48); omega) (by show (((K4_at 1 (i + 1) S)) - 48) ≤ 1000000; omega)) (cwC 1 B wC_mRX6_129 wC_im_yX0_tookFrom wC_sl_yX0_tookFrom wC_in_RX0 wC_cd_yX0_tookFrom rfl rfl (by decide +kernel) ⟨Nat.le_of_ble_eq_true rfl, Nat.le_of_ble_eq_true rfl⟩) rfl hl.1 rfl (Nat.le_of_ble_eq_true rfl) dX6_writePart_106 ⟨g_rc hR (Nat.le_refl _) (cFx_gl (S := S) hF), g_rs hR (Nat.le_refl _) (cFx_gl (S := S) hF)⟩ (fun z_29 S_28 H locs hp_27 hM => ?_)
            obtain ⟨hp_27, he_hp_27⟩ := hp_27
            have he_hp_27 := he_hp_27.symm
            subst he_hp_27
            have hp_27 : (K0_tookFrom (((K4_at 1 (i + 1) S)) - 48) S) = z_29 := hp_27.symm
            subst hp_27
            have f_30 : -1 ≤ (K0_tookFrom (((K4_at 1 (i + 1) S)) - 48) S) ∧ (K0_tookFrom (((K4_at 1 (i + 1) S)) - 48) S) ≤ 100000 := K1_mark_bd (S := S) (10 + (((K4_at 1 (i + 1) S)) - 48)) hV
            refine lv_aload_n B.1 B.2.1 dX6_writePart_109 rfl (lv_at hl 3 rfl) ?_
            refine c_getr (q := (cq q x y)) (r := 10) B (iC6 _) hK hM 0 8 6 (by decide) rfl rfl (by decide) (by decide) rfl rfl rfl (cFx_r hF 0 8) (List.mem_cons_of_mem _ wC_fRX6_52) dX6_writePart_110 ?_
            refine lv_iload B.1 B.2.1 dX6_writePart_113 (lv_at hl 0 rfl) ?_
            refine c_calli (q := (cq q x y)) (As := [.int (zI (((K4_at 1 (i + 1) S)) - 48))]) (rest := [.int (zI ((K0_tookFrom (((K4_at 1 (i + 1) S)) - 48) S))), .ref (q 0)]) B hK hM 10 (by decide) (by decide) rfl (cX0_tookTo_ok l D cy (cq q x y) a S hF  (((K4_at 1 (i + 1) S)) - 48) hV (by show -1 ≤ (((K4_at 1 (i + 1) S)) - 48); omega) (by show (((K4_at 1 (i + 1) S)) - 48) ≤ 1000000; omega)) (cwC 1 B wC_mRX6_125 wC_im_yX0_tookTo wC_sl_yX0_tookTo wC_in_RX0 wC_cd_yX0_tookTo rfl rfl (by decide +kernel) ⟨Nat.le_of_ble_eq_true rfl, Nat.le_of_ble_eq_true rfl⟩) rfl hl.1 rfl (Nat.le_of_ble_eq_true rfl) dX6_writePart_115 ⟨g_rc hR (Nat.le_refl _) (cFx_gl (S := S) hF), g_rs hR (Nat.le_refl _) (cFx_gl (S := S) hF)⟩ (fun z_34 S_33 H locs hp_32 hM => ?_)
            obtain ⟨hp_32, he_hp_32⟩ := hp_32
            have he_hp_32 := he_hp_32.symm
            subst he_hp_32
            have hp_32 : (K0_tookTo (((K4_at 1 (i + 1) S)) - 48) S) = z_34 := hp_32.symm
            subst hp_32
            have f_35 : -1 ≤ (K0_tookTo (((K4_at 1 (i + 1) S)) - 48) S) ∧ (K0_tookTo (((K4_at 1 (i + 1) S)) - 48) S) ≤ 100000 := K1_mark_bd (S := S) (20 + (((K4_at 1 (i + 1) S)) - 48)) hV
            refine g_callv (E := "java/lang/UnsupportedOperationException") (As := [.int (zI ((K0_tookFrom (((K4_at 1 (i + 1) S)) - 48) S))), .int (zI ((K0_tookTo (((K4_at 1 (i + 1) S)) - 48) S)))]) (rest := []) B hK hG hM 0 (by decide) (by decide) rfl (cX6_writeText_ok l hl0 D cy q V n0 x y a 6 S hF  ((K0_tookFrom (((K4_at 1 (i + 1) S)) - 48) S)) ((K0_tookTo (((K4_at 1 (i + 1) S)) - 48) S)) hW (by show -1 ≤ ((K0_tookFrom (((K4_at 1 (i + 1) S)) - 48) S)); omega) (by show ((K0_tookFrom (((K4_at 1 (i + 1) S)) - 48) S)) ≤ 100000; omega) (by show -1 ≤ ((K0_tookTo (((K4_at 1 (i + 1) S)) - 48) S)); omega) (by show ((K0_tookTo (((K4_at 1 (i + 1) S)) - 48) S)) ≤ 100000; omega)) (cwC 2 B wC_mRX6_132 wC_im_yX6_writeText wC_sl_yX6_writeText wC_in_RX6 wC_cd_yX6_writeText rfl rfl (by decide +kernel) ⟨Nat.le_of_ble_eq_true rfl, Nat.le_of_ble_eq_true rfl⟩) rfl hl.1 rfl (Nat.le_of_ble_eq_true rfl) dX6_writePart_118 hR (Nat.le_refl _) (cFx_gl hF) (gl_of (congrArg Prod.snd (K6_writeText_R (bg := (K0_tookFrom (((K4_at 1 (i + 1) S)) - 48) S)) (en := (K0_tookTo (((K4_at 1 (i + 1) S)) - 48) S)) (S := S) hW).1.1)) (fun c_37 => (by unfold K6_writePart; exact ((if_pos c_11).trans ((if_neg c_12).trans ((if_neg c_13).trans ((if_neg c_14).trans ((if_neg c_22).trans (if_neg c_37)))))))) (fun x y H locs c_37 hM => ?_)
            have hg : gl S ≤ gl (K6_writeText ((K0_tookFrom (((K4_at 1 (i + 1) S)) - 48) S)) ((K0_tookTo (((K4_at 1 (i + 1) S)) - 48) S)) S).2.2 := Nat.le_trans (Nat.le_refl _) (gl_of (congrArg Prod.snd (K6_writeText_R (bg := (K0_tookFrom (((K4_at 1 (i + 1) S)) - 48) S)) (en := (K0_tookTo (((K4_at 1 (i + 1) S)) - 48) S)) (S := S) hW).1.1))
            obtain ⟨k_36, hW, -⟩ := K6_writeText_R (bg := (K0_tookFrom (((K4_at 1 (i + 1) S)) - 48) S)) (en := (K0_tookTo (((K4_at 1 (i + 1) S)) - 48) S)) (S := S) hW
            have hF : cFx a 6 (K6_writeText ((K0_tookFrom (((K4_at 1 (i + 1) S)) - 48) S)) ((K0_tookTo (((K4_at 1 (i + 1) S)) - 48) S)) S).2.2 := cFx_of (congrArg Prod.snd k_36.1) hF
            generalize hS_38 : (K6_writeText ((K0_tookFrom (((K4_at 1 (i + 1) S)) - 48) S)) ((K0_tookTo (((K4_at 1 (i + 1) S)) - 48) S)) S).2.2 = S_38 at *
            obtain ⟨hV, hP, hta, htb, hc1, hba, hbb, hc3, hda, hdb⟩ := id hW
            obtain ⟨-, -, -, -, -, -, -, pga, pgb, -, -⟩ := id hP
            refine z_iconst B.1 B.2.1 dX6_writePart_121 ?_
            exact g_reti (S := S_38) B hM (by subst hS_38; unfold K6_writePart; exact ((if_pos c_11).trans ((if_neg c_12).trans ((if_neg c_13).trans ((if_neg c_14).trans ((if_neg c_22).trans (if_pos c_37))))))) dX6_writePart_122
      · --
        refine lv_aload_n B.1 B.2.1 dX6_writePart_59 rfl (lv_at hl 3 rfl) ?_
        refine lv_aload_n B.1 B.2.1 dX6_writePart_60 rfl (lv_at hl 3 rfl) ?_
        refine c_getr (q := (cq q x y)) (r := 10) B (iC6 _) hK hM 0 8 6 (by decide) rfl rfl (by decide) (by decide) rfl rfl rfl (cFx_r hF 0 8) (List.mem_cons_of_mem _ wC_fRX6_52) dX6_writePart_61 ?_
        refine z_iconst B.1 B.2.1 dX6_writePart_64 ?_
        refine c_calli (q := (cq q x y)) (As := [.int (zI 0)]) (rest := [.ref (q 0)]) B hK hM 10 (by decide) (by decide) rfl (cX0_tookFrom_ok l D cy (cq q x y) a S hF  0 hV (by show -1 ≤ 0; omega) (by show 0 ≤ 1000000; omega)) (cwC 1 B wC_mRX6_129 wC_im_yX0_tookFrom wC_sl_yX0_tookFrom wC_in_RX0 wC_cd_yX0_tookFrom rfl rfl (by decide +kernel) ⟨Nat.le_of_ble_eq_true rfl, Nat.le_of_ble_eq_true rfl⟩) rfl hl.1 rfl (Nat.le_of_ble_eq_true rfl) dX6_writePart_65 ⟨g_rc hR (Nat.le_refl _) (cFx_gl (S := S) hF), g_rs hR (Nat.le_refl _) (cFx_gl (S := S) hF)⟩ (fun z_42 S_41 H locs hp_40 hM => ?_)
        obtain ⟨hp_40, he_hp_40⟩ := hp_40
        have he_hp_40 := he_hp_40.symm
        subst he_hp_40
        have hp_40 : (K0_tookFrom 0 S) = z_42 := hp_40.symm
        subst hp_40
        have f_43 : -1 ≤ (K0_tookFrom 0 S) ∧ (K0_tookFrom 0 S) ≤ 100000 := K1_mark_bd (S := S) (10 + 0) hV
        refine lv_aload_n B.1 B.2.1 dX6_writePart_68 rfl (lv_at hl 3 rfl) ?_
        refine c_getr (q := (cq q x y)) (r := 10) B (iC6 _) hK hM 0 8 6 (by decide) rfl rfl (by decide) (by decide) rfl rfl rfl (cFx_r hF 0 8) (List.mem_cons_of_mem _ wC_fRX6_52) dX6_writePart_69 ?_
        refine z_iconst B.1 B.2.1 dX6_writePart_72 ?_
        refine c_calli (q := (cq q x y)) (As := [.int (zI 0)]) (rest := [.int (zI ((K0_tookFrom 0 S))), .ref (q 0)]) B hK hM 10 (by decide) (by decide) rfl (cX0_tookTo_ok l D cy (cq q x y) a S hF  0 hV (by show -1 ≤ 0; omega) (by show 0 ≤ 1000000; omega)) (cwC 1 B wC_mRX6_125 wC_im_yX0_tookTo wC_sl_yX0_tookTo wC_in_RX0 wC_cd_yX0_tookTo rfl rfl (by decide +kernel) ⟨Nat.le_of_ble_eq_true rfl, Nat.le_of_ble_eq_true rfl⟩) rfl hl.1 rfl (Nat.le_of_ble_eq_true rfl) dX6_writePart_73 ⟨g_rc hR (Nat.le_refl _) (cFx_gl (S := S) hF), g_rs hR (Nat.le_refl _) (cFx_gl (S := S) hF)⟩ (fun z_47 S_46 H locs hp_45 hM => ?_)
        obtain ⟨hp_45, he_hp_45⟩ := hp_45
        have he_hp_45 := he_hp_45.symm
        subst he_hp_45
        have hp_45 : (K0_tookTo 0 S) = z_47 := hp_45.symm
        subst hp_45
        have f_48 : -1 ≤ (K0_tookTo 0 S) ∧ (K0_tookTo 0 S) ≤ 100000 := K1_mark_bd (S := S) (20 + 0) hV
        refine g_callv (E := "java/lang/UnsupportedOperationException") (As := [.int (zI ((K0_tookFrom 0 S))), .int (zI ((K0_tookTo 0 S)))]) (rest := []) B hK hG hM 0 (by decide) (by decide) rfl (cX6_writeText_ok l hl0 D cy q V n0 x y a 6 S hF  ((K0_tookFrom 0 S)) ((K0_tookTo 0 S)) hW (by show -1 ≤ ((K0_tookFrom 0 S)); omega) (by show ((K0_tookFrom 0 S)) ≤ 100000; omega) (by show -1 ≤ ((K0_tookTo 0 S)); omega) (by show ((K0_tookTo 0 S)) ≤ 100000; omega)) (cwC 2 B wC_mRX6_132 wC_im_yX6_writeText wC_sl_yX6_writeText wC_in_RX6 wC_cd_yX6_writeText rfl rfl (by decide +kernel) ⟨Nat.le_of_ble_eq_true rfl, Nat.le_of_ble_eq_true rfl⟩) rfl hl.1 rfl (Nat.le_of_ble_eq_true rfl) dX6_writePart_76 hR (Nat.le_refl _) (cFx_gl hF) (gl_of (congrArg Prod.snd (K6_writeText_R (bg := (K0_tookFrom 0 S)) (en := (K0_tookTo 0 S)) (S := S) hW).1.1)) (fun c_50 => (by unfold K6_writePart; exact ((if_pos c_11).trans ((if_neg c_12).trans ((if_pos c_13).trans (if_neg c_50)))))) (fun x y H locs c_50 hM => ?_)
        have hg : gl S ≤ gl (K6_writeText ((K0_tookFrom 0 S)) ((K0_tookTo 0 S)) S).2.2 := Nat.le_trans (Nat.le_refl _) (gl_of (congrArg Prod.snd (K6_writeText_R (bg := (K0_tookFrom 0 S)) (en := (K0_tookTo 0 S)) (S := S) hW).1.1))
        obtain ⟨k_49, hW, -⟩ := K6_writeText_R (bg := (K0_tookFrom 0 S)) (en := (K0_tookTo 0 S)) (S := S) hW
        have hF : cFx a 6 (K6_writeText ((K0_tookFrom 0 S)) ((K0_tookTo 0 S)) S).2.2 := cFx_of (congrArg Prod.snd k_49.1) hF
        generalize hS_51 : (K6_writeText ((K0_tookFrom 0 S)) ((K0_tookTo 0 S)) S).2.2 = S_51 at *
        obtain ⟨hV, hP, hta, htb, hc1, hba, hbb, hc3, hda, hdb⟩ := id hW
        obtain ⟨-, -, -, -, -, -, -, pga, pgb, -, -⟩ := id hP
        refine z_iconst B.1 B.2.1 dX6_writePart_79 ?_
        exact g_reti (S := S_51) B hM (by subst hS_51; unfold K6_writePart; exact ((if_pos c_11).trans ((if_neg c_12).trans ((if_pos c_13).trans (if_pos c_50))))) dX6_writePart_80
    · --
      refine lv_aload_n B.1 B.2.1 dX6_writePart_45 rfl (lv_at hl 3 rfl) ?_
      refine z_bipush B.1 B.2.1 (by decide) dX6_writePart_46 ?_
      refine g_callv (E := "java/lang/UnsupportedOperationException") (As := [.int (zI 36)]) (rest := []) B hK hG hM 0 (by decide) (by decide) rfl (cX6_write_ok l hl0 D cy q V n0 x y a 6 S hF  36 hW (by show 0 ≤ 36; omega) (by show 36 < 65536; omega)) (cwC 1 B wC_mRX6_157 wC_im_yX6_write wC_sl_yX6_write wC_in_RX6 wC_cd_yX6_write rfl rfl (by decide +kernel) ⟨Nat.le_of_ble_eq_true rfl, Nat.le_of_ble_eq_true rfl⟩) rfl hl.1 rfl (Nat.le_of_ble_eq_true rfl) dX6_writePart_48 hR (Nat.le_refl _) (cFx_gl hF) (gl_of (congrArg Prod.snd (K6_write_R (sg := 36) (S := S) hW).1.1)) (fun c_53 => (by unfold K6_writePart; exact ((if_pos c_11).trans ((if_pos c_12).trans (if_neg c_53))))) (fun x y H locs c_53 hM => ?_)
      have hg : gl S ≤ gl (K6_write 36 S).2.2 := Nat.le_trans (Nat.le_refl _) (gl_of (congrArg Prod.snd (K6_write_R (sg := 36) (S := S) hW).1.1))
      obtain ⟨k_52, hW, -⟩ := K6_write_R (sg := 36) (S := S) hW
      have hF : cFx a 6 (K6_write 36 S).2.2 := cFx_of (congrArg Prod.snd k_52.1) hF
      generalize hS_54 : (K6_write 36 S).2.2 = S_54 at *
      obtain ⟨hV, hP, hta, htb, hc1, hba, hbb, hc3, hda, hdb⟩ := id hW
      obtain ⟨-, -, -, -, -, -, -, pga, pgb, -, -⟩ := id hP
      refine z_iconst B.1 B.2.1 dX6_writePart_51 ?_
      exact g_reti (S := S_54) B hM (by subst hS_54; unfold K6_writePart; exact ((if_pos c_11).trans ((if_pos c_12).trans (if_pos c_53)))) dX6_writePart_52
  · --
    refine lv_aload_n B.1 B.2.1 dX6_writePart_32 rfl (lv_at hl 3 rfl) ?_
    refine lv_iload_n B.1 B.2.1 dX6_writePart_33 rfl (lv_at hl 2 rfl) ?_
    refine g_callv (E := "java/lang/UnsupportedOperationException") (As := [.int (zI ((K4_at 1 i S)))]) (rest := []) B hK hG hM 0 (by decide) (by decide) rfl (cX6_write_ok l hl0 D cy q V n0 x y a 6 S hF  ((K4_at 1 i S)) hW (by show 0 ≤ ((K4_at 1 i S)); omega) (by show ((K4_at 1 i S)) < 65536; omega)) (cwC 1 B wC_mRX6_157 wC_im_yX6_write wC_sl_yX6_write wC_in_RX6 wC_cd_yX6_write rfl rfl (by decide +kernel) ⟨Nat.le_of_ble_eq_true rfl, Nat.le_of_ble_eq_true rfl⟩) rfl hl.1 rfl (Nat.le_of_ble_eq_true rfl) dX6_writePart_34 hR (Nat.le_refl _) (cFx_gl hF) (gl_of (congrArg Prod.snd (K6_write_R (sg := (K4_at 1 i S)) (S := S) hW).1.1)) (fun c_56 => (by unfold K6_writePart; exact ((if_neg c_11).trans (if_neg c_56)))) (fun x y H locs c_56 hM => ?_)
    have hg : gl S ≤ gl (K6_write ((K4_at 1 i S)) S).2.2 := Nat.le_trans (Nat.le_refl _) (gl_of (congrArg Prod.snd (K6_write_R (sg := (K4_at 1 i S)) (S := S) hW).1.1))
    obtain ⟨k_55, hW, -⟩ := K6_write_R (sg := (K4_at 1 i S)) (S := S) hW
    have hF : cFx a 6 (K6_write ((K4_at 1 i S)) S).2.2 := cFx_of (congrArg Prod.snd k_55.1) hF
    generalize hS_57 : (K6_write ((K4_at 1 i S)) S).2.2 = S_57 at *
    obtain ⟨hV, hP, hta, htb, hc1, hba, hbb, hc3, hda, hdb⟩ := id hW
    obtain ⟨-, -, -, -, -, -, -, pga, pgb, -, -⟩ := id hP
    refine z_iconst B.1 B.2.1 dX6_writePart_37 ?_
    exact g_reti (S := S_57) B hM (by subst hS_57; unfold K6_writePart; exact ((if_neg c_11).trans (if_pos c_56))) dX6_writePart_38
theorem K6_writePart_R {i : Int} {S : CSt} (hW : fV S) : fR S (K6_writePart i S) := by
  unfold K6_writePart
  (repeat' split) <;> first | exact fR.bd (K6_write_R hW) (fun _ h => fR.ret h) | exact fR.bd (K6_writeText_R hW) (fun _ h => fR.ret h)
theorem K6_writePart_v {i : Int} {S : CSt} : (K6_writePart i S).1 = 0 → (K6_writePart i S).2.1 = 1 ∨ (K6_writePart i S).2.1 = 2 := by
  have key : ∀ (r : CR) (v : Int), (gBd r (fun _ T => (0, v, T))).1 = 0 → (gBd r (fun _ T => (0, v, T))).2.1 = v := by
    intro r v
    show (if r.1 = 0 then ((0, v, r.2.2) : CR) else (1, 0, r.2.2)).1 = 0 → (if r.1 = 0 then ((0, v, r.2.2) : CR) else (1, 0, r.2.2)).2.1 = v
    split
    · intro _; rfl
    · intro h; exact absurd h z1n0
  unfold K6_writePart
  (repeat' split) <;> intro h <;> first | exact Or.inl (key _ 1 h) | exact Or.inr (key _ 2 h)
def K6_tmL  : Nat → Int → Int → CSt → CR
  | 0, k, i, T => (0, 0, T)
  | n + 1, k, i, T => (if 40 ≤ i then (0, 0, T) else (if (T.1 1 1) ≤ k then (0, 0, T) else (gBd (K6_writePart k T) (fun v_9 S_10 => K6_tmL n (k + v_9) (i + 1) S_10))))
set_option maxHeartbeats 1000000 in
set_option maxRecDepth 100000 in
theorem lp6_tm (l : Launch) (hl0 : l.stackTraces = false) (D : va_G) (cy : Nat → ClassId) (q : Nat → Nat) (V : Nat × (Nat → Nat)) (n0 a : Nat)    (S0 : CSt) (rc : CR) {A : Nat → Prop} {p : Program} {e : Env} {s : State} {m : MethodId} {args : Array Value} {below : List Frame} {meth : Method} {c : Code} (B : zAt p s m args meth c RX6 cX6_writeTemplate 3 none (.code yX6_writeTemplate cX6_writeTemplate 3 none :: TBC)) (hK : va_K D vwCl (zTY cy) s) (hG : gEn V n0 A s c) (hR : (headSpec (.code yX6_writeTemplate cX6_writeTemplate 3 none :: TBC) (gRm 9 158 S0)).room.cells = (gK - gl S0) + 1 ∧ (headSpec (.code yX6_writeTemplate cX6_writeTemplate 3 none :: TBC) (gRm 9 158 S0)).room.slots = 2 * (gK - gl S0) + 6) :
    ∀ (n : Nat) (k : Int) (i : Int) (T : CSt) (x y : Nat) (H : Heap) (locs : List Loc) (ls : Array Slot), (cFx a 6 T) → (gl S0 ≤ gl T) → (fV T) → (0 ≤ k) → (k ≤ 2 * i) → (0 ≤ i) → (i ≤ 40) → (40 - i = n) → cH D cy (cq q x y) A s.heap T H locs → lv_has ls 3 [(0, .ref (q 0)), (1, .int (zI k)), (2, .int (zI i))] → (rc = K6_tmL n k i T) → W p l e (headSpec (.code yX6_writeTemplate cX6_writeTemplate 3 none :: TBC) (gRm 9 158 S0)).room s m args below meth c H locs (gl T - gl S0) (2 * (gl T - gl S0)) (vx_MQ below (gQv D cy q A rc) (gX D cy q A "java/lang/UnsupportedOperationException" rc) args s (gc S0 rc) (gs S0 rc) A) (F0 m 4 ls []) := by
  intro n
  induction n with
  | zero =>
    intro k i T x y H locs ls hF hg hW hk0 hk1 hi0 hi1 hn hM hl hpost
    obtain ⟨hV, hP, hta, htb, hc1, hba, hbb, hc3, hda, hdb⟩ := id hW
    obtain ⟨-, -, -, -, -, -, -, pga, pgb, -, -⟩ := id hP
    refine lv_iload_n B.1 B.2.1 dX6_writeTemplate_4 rfl (lv_at hl 2 rfl) ?_
    refine z_bipush B.1 B.2.1 (by decide) dX6_writeTemplate_5 ?_
    refine z_icmp_ge (tgt := 35) B.1 B.2.1 (zr_of (by omega) (by omega)) (zr_of (by decide) (by decide)) dX6_writeTemplate_7 (by decide) (fun c_1 => ?_) (fun c_1 => ?_)
    · --
      exact g_retv (S := T) B hM (hpost.trans (by rw [K6_tmL])) dX6_writeTemplate_35
    · exact absurd c_1 (by omega)
  | succ n ih =>
    intro k i T x y H locs ls hF hg hW hk0 hk1 hi0 hi1 hn hM hl hpost
    obtain ⟨hV, hP, hta, htb, hc1, hba, hbb, hc3, hda, hdb⟩ := id hW
    obtain ⟨-, -, -, -, -, -, -, pga, pgb, -, -⟩ := id hP
    refine lv_iload_n B.1 B.2.1 dX6_writeTemplate_4 rfl (lv_at hl 2 rfl) ?_
    refine z_bipush B.1 B.2.1 (by decide) dX6_writeTemplate_5 ?_
    refine z_icmp_ge (tgt := 35) B.1 B.2.1 (zr_of (by omega) (by omega)) (zr_of (by decide) (by decide)) dX6_writeTemplate_7 (by decide) (fun c_1 => ?_) (fun c_1 => ?_)
    · --
      exact g_retv (S := T) B hM (hpost.trans (by rw [K6_tmL]; exact (if_pos c_1))) dX6_writeTemplate_35
    · --
      refine lv_iload_n B.1 B.2.1 dX6_writeTemplate_10 rfl (lv_at hl 1 rfl) ?_
      refine lv_aload_n B.1 B.2.1 dX6_writeTemplate_11 rfl (lv_at hl 0 rfl) ?_
      refine c_getr (q := (cq q x y)) (r := 1) B (iC6 _) hK hM 0 0 6 (by decide) rfl rfl (by decide) (by decide) rfl rfl rfl (cFx_r hF 0 0) (List.mem_cons_of_mem _ wC_fRX6_14) dX6_writeTemplate_12 ?_
      refine c_calli (q := (cq q x y)) (As := []) (rest := [.int (zI k)]) B hK hM 1 (by decide) (by decide) rfl (cX4_length_ok l D cy (cq q x y) a 6 T hF 1 (by decide)  ) (cwC 0 B wC_mRX6_80 wC_im_yX4_length wC_sl_yX4_length wC_in_RX4 wC_cd_yX4_length rfl rfl (by decide +kernel) ⟨Nat.le_of_ble_eq_true rfl, Nat.le_of_ble_eq_true rfl⟩) rfl hl.1 rfl (Nat.le_of_ble_eq_true rfl) dX6_writeTemplate_15 ⟨g_rc hR hg (cFx_gl (S := T) hF), g_rs hR hg (cFx_gl (S := T) hF)⟩ (fun z_5 S_4 H locs hp_3 hM => ?_)
      obtain ⟨hp_3, he_hp_3⟩ := hp_3
      have he_hp_3 := he_hp_3.symm
      subst he_hp_3
      have hp_3 : T.1 1 1 = z_5 := hp_3.symm
      subst hp_3
      refine z_icmp_ge (tgt := 35) B.1 B.2.1 (zr_of (by omega) (by omega)) (zr_of (by omega) (by omega)) dX6_writeTemplate_18 (by decide) (fun c_6 => ?_) (fun c_6 => ?_)
      · --
        exact g_retv (S := T) B hM (hpost.trans (by rw [K6_tmL]; exact ((if_neg c_1).trans (if_pos c_6)))) dX6_writeTemplate_35
      · --
        refine lv_iload_n B.1 B.2.1 dX6_writeTemplate_21 rfl (lv_at hl 1 rfl) ?_
        refine lv_aload_n B.1 B.2.1 dX6_writeTemplate_22 rfl (lv_at hl 0 rfl) ?_
        refine lv_iload_n B.1 B.2.1 dX6_writeTemplate_23 rfl (lv_at hl 1 rfl) ?_
        refine g_calli (E := "java/lang/UnsupportedOperationException") (As := [.int (zI k)]) (rest := [.int (zI k)]) B hK hG hM 0 (by decide) (by decide) rfl (cX6_writePart_ok l hl0 D cy q V n0 x y a T hF  k hW (by show 0 ≤ k; omega) (by show k ≤ 100; omega)) (cwC 1 B wC_mRX6_154 wC_im_yX6_writePart wC_sl_yX6_writePart wC_in_RX6 wC_cd_yX6_writePart rfl rfl (by decide +kernel) ⟨Nat.le_of_ble_eq_true rfl, Nat.le_of_ble_eq_true rfl⟩) rfl hl.1 rfl (Nat.le_of_ble_eq_true rfl) dX6_writeTemplate_24 hR hg (cFx_gl hF) (gl_of (congrArg Prod.snd (K6_writePart_R (i := k) (S := T) hW).1.1)) (fun c_8 => (hpost.trans (by rw [K6_tmL]; exact ((if_neg c_1).trans ((if_neg c_6).trans (if_neg c_8)))))) (fun x y H locs c_8 hM => ?_)
        have hg : gl S0 ≤ gl (K6_writePart k T).2.2 := Nat.le_trans hg (gl_of (congrArg Prod.snd (K6_writePart_R (i := k) (S := T) hW).1.1))
        have k_7v := K6_writePart_v (i := k) (S := T) c_8
        obtain ⟨k_7, hW, -⟩ := K6_writePart_R (i := k) (S := T) hW
        have hF : cFx a 6 (K6_writePart k T).2.2 := cFx_of (congrArg Prod.snd k_7.1) hF
        generalize hS_10 : (K6_writePart k T).2.2 = S_10 at *
        generalize hv_9 : (K6_writePart k T).2.1 = v_9 at *
        obtain ⟨hV, hP, hta, htb, hc1, hba, hbb, hc3, hda, hdb⟩ := id hW
        obtain ⟨-, -, -, -, -, -, -, pga, pgb, -, -⟩ := id hP
        refine z_iadd (x := k + v_9) B.1 B.2.1 rfl dX6_writeTemplate_27 ?_
        refine lv_istore_n (lv' := [(1, .int (zI (k + v_9))), (0, .ref (q 0)), (2, .int (zI i))]) B.1 B.2.1 dX6_writeTemplate_28 rfl hl (by decide) rfl (fun ls hl => ?_)
        refine z_iinc (v := i + 1) (lv' := [(2, .int (zI (i + 1))), (1, .int (zI (k + v_9))), (0, .ref (q 0))]) B.1 B.2.1 dX6_writeTemplate_29 hl (k := 2) rfl rfl (by decide) rfl (fun ls hl => ?_)
        refine lv_goto (tgt := 4) B.1 B.2.1 dX6_writeTemplate_32 (by decide) ?_
        have hq : K6_tmL (n + 1) k i T = K6_tmL n (k + v_9) (i + 1) S_10 := by subst hS_10; subst hv_9; rw [K6_tmL]; exact ((if_neg c_1).trans ((if_neg c_6).trans (if_pos c_8)))
        rw [hq] at hpost
        exact ih (k + v_9) (i + 1) S_10 x y H locs ls hF hg hW (by omega) (by omega) (by omega) (by omega) (by omega) hM (lv_sub hl [2, 1, 0] rfl) hpost
def K6_writeTemplate (S : CSt) : CR := (K6_tmL 40 0 0 S)
set_option maxHeartbeats 1000000 in
set_option maxRecDepth 100000 in
theorem cX6_writeTemplate_ok (l : Launch) (hl0 : l.stackTraces = false) (D : va_G) (cy : Nat → ClassId) (q : Nat → Nat) (V : Nat × (Nat → Nat)) (n0 x y a : Nat) (S : CSt) (hF : cFx a 6 S) (hW : fV S) : gMv l D cy q V n0 x y "java/lang/UnsupportedOperationException" yX6_writeTemplate (.code yX6_writeTemplate cX6_writeTemplate 3 none :: TBC) 9 158 S [.ref (q 0)] (K6_writeTemplate S) := by
  refine g_of (cc := cX6_writeTemplate) (maxL := 3) (ret := none) (by decide) rfl rfl (Nat.le_of_ble_eq_true rfl) ?_
  intro p e s m args below meth c ls B hK hG hM hl
  generalize gA (cq q x y) n0 = A at hG hM ⊢
  have hR : (headSpec (.code yX6_writeTemplate cX6_writeTemplate 3 none :: TBC) (gRm 9 158 S)).room.cells = (gK - gl S) + 1 ∧ (headSpec (.code yX6_writeTemplate cX6_writeTemplate 3 none :: TBC) (gRm 9 158 S)).room.slots = 2 * (gK - gl S) + 6 := ⟨rfl, rfl⟩
  have hl : lv_has ls 3 [(0, .ref (q 0))] := hl
  obtain ⟨hV, hP, hta, htb, hc1, hba, hbb, hc3, hda, hdb⟩ := id hW
  obtain ⟨-, -, -, -, -, -, -, pga, pgb, -, -⟩ := id hP
  refine z_iconst B.1 B.2.1 dX6_writeTemplate_0 ?_
  refine lv_istore_n (lv' := [(1, .int (zI 0)), (0, .ref (q 0))]) B.1 B.2.1 dX6_writeTemplate_1 rfl hl (by decide) rfl (fun ls hl => ?_)
  refine z_iconst B.1 B.2.1 dX6_writeTemplate_2 ?_
  refine lv_istore_n (lv' := [(2, .int (zI 0)), (1, .int (zI 0)), (0, .ref (q 0))]) B.1 B.2.1 dX6_writeTemplate_3 rfl hl (by decide) rfl (fun ls hl => ?_)
  exact lp6_tm l hl0 D cy q V n0 a S _ B hK hG hR 40 0 0 S x y _ _ ls hF (Nat.le_refl _) hW (by omega) (by omega) (by omega) (by omega) (by omega) hM (lv_sub hl [2, 1, 0] rfl) (by unfold K6_writeTemplate; rfl)
theorem K6_tmL_R : ∀ (n : Nat) (k i : Int) (S : CSt), fV S → fR S (K6_tmL n k i S)
  | 0, k, i, S, hW => by rw [K6_tmL]; exact fR.ret hW
  | n + 1, k, i, S, hW => by
    rw [K6_tmL]
    (repeat' split) <;> first | exact fR.ret hW | exact fR.bd (K6_writePart_R hW) (fun _ h => K6_tmL_R n _ _ _ h)
theorem K6_writeTemplate_R {S : CSt} (hW : fV S) : fR S (K6_writeTemplate S) := K6_tmL_R _ _ _ _ hW
