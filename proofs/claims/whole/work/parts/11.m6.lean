def M_inSetL (fr : Int) (to : Int) (x : Int) (T : MSt) : Nat → Int → Int → Int → Int
  | 0, inn, alone, k => inn
  | n + 1, inn, alone, k => (if to ≤ k then inn else (if ((if ((if alone = 0 then 0 else (if (T.2 7 k.toNat) = 45 then 1 else 0 : Int) : Int)) = 0 then (if ((if ((if (T.2 7 k.toNat) = 92 then 1 else 0 : Int)) = 0 then 0 else (if (zb (M_isClass (T.2 7 (k + ((if ((if (T.2 7 k.toNat) = 92 then 1 else 0 : Int)) = 0 then 0 else 1 : Int))).toNat))) = 0 then 0 else 1 : Int) : Int)) = 0 then (if to ≤ ((k + ((if ((if (T.2 7 k.toNat) = 92 then 1 else 0 : Int)) = 0 then 0 else 1 : Int)) + 1) + 1) then 0 else (if (T.2 7 (k + ((if ((if (T.2 7 k.toNat) = 92 then 1 else 0 : Int)) = 0 then 0 else 1 : Int)) + 1).toNat) = 45 then 1 else 0 : Int) : Int) else 0 : Int) else 0 : Int)) = 0 then M_inSetL fr to x T n ((if inn = 0 then (if ((if ((if (T.2 7 k.toNat) = 92 then 1 else 0 : Int)) = 0 then 0 else (if (zb (M_isClass (T.2 7 (k + ((if ((if (T.2 7 k.toNat) = 92 then 1 else 0 : Int)) = 0 then 0 else 1 : Int))).toNat))) = 0 then 0 else 1 : Int) : Int)) = 0 then (if x < (T.2 7 (k + ((if ((if (T.2 7 k.toNat) = 92 then 1 else 0 : Int)) = 0 then 0 else 1 : Int))).toNat) then 0 else (if (T.2 7 (k + ((if ((if (T.2 7 k.toNat) = 92 then 1 else 0 : Int)) = 0 then 0 else 1 : Int))).toNat) < x then 0 else 1 : Int) : Int) else (if (M_inClass (T.2 7 (k + ((if ((if (T.2 7 k.toNat) = 92 then 1 else 0 : Int)) = 0 then 0 else 1 : Int))).toNat) x) = 0 then 0 else 1 : Int) : Int) else 1 : Int)) ((if ((if alone = 0 then 0 else (if (T.2 7 k.toNat) = 45 then 1 else 0 : Int) : Int)) = 0 then (if ((if ((if (T.2 7 k.toNat) = 92 then 1 else 0 : Int)) = 0 then 0 else (if (zb (M_isClass (T.2 7 (k + ((if ((if (T.2 7 k.toNat) = 92 then 1 else 0 : Int)) = 0 then 0 else 1 : Int))).toNat))) = 0 then 0 else 1 : Int) : Int)) = 0 then (if to ≤ ((k + ((if ((if (T.2 7 k.toNat) = 92 then 1 else 0 : Int)) = 0 then 0 else 1 : Int)) + 1) + 1) then 0 else (if (T.2 7 (k + ((if ((if (T.2 7 k.toNat) = 92 then 1 else 0 : Int)) = 0 then 0 else 1 : Int)) + 1).toNat) = 45 then 1 else 0 : Int) : Int) else 0 : Int) else 0 : Int)) (k + ((if ((if (T.2 7 k.toNat) = 92 then 1 else 0 : Int)) = 0 then 0 else 1 : Int)) + 1) else M_inSetL fr to x T n ((if inn = 0 then (if ((if ((if (T.2 7 k.toNat) = 92 then 1 else 0 : Int)) = 0 then 0 else (if (zb (M_isClass (T.2 7 (k + ((if ((if (T.2 7 k.toNat) = 92 then 1 else 0 : Int)) = 0 then 0 else 1 : Int))).toNat))) = 0 then 0 else 1 : Int) : Int)) = 0 then (if x < (T.2 7 (k + ((if ((if (T.2 7 k.toNat) = 92 then 1 else 0 : Int)) = 0 then 0 else 1 : Int))).toNat) then 0 else (if (T.2 7 ((k + ((if ((if (T.2 7 k.toNat) = 92 then 1 else 0 : Int)) = 0 then 0 else 1 : Int)) + 1) + ((if (T.2 7 ((k + ((if ((if (T.2 7 k.toNat) = 92 then 1 else 0 : Int)) = 0 then 0 else 1 : Int)) + 1) + 1).toNat) = 92 then 2 else 1 : Int))).toNat) < x then 0 else 1 : Int) : Int) else (if (M_inClass (T.2 7 (k + ((if ((if (T.2 7 k.toNat) = 92 then 1 else 0 : Int)) = 0 then 0 else 1 : Int))).toNat) x) = 0 then 0 else 1 : Int) : Int) else 1 : Int)) ((if ((if alone = 0 then 0 else (if (T.2 7 k.toNat) = 45 then 1 else 0 : Int) : Int)) = 0 then (if ((if ((if (T.2 7 k.toNat) = 92 then 1 else 0 : Int)) = 0 then 0 else (if (zb (M_isClass (T.2 7 (k + ((if ((if (T.2 7 k.toNat) = 92 then 1 else 0 : Int)) = 0 then 0 else 1 : Int))).toNat))) = 0 then 0 else 1 : Int) : Int)) = 0 then (if to ≤ ((k + ((if ((if (T.2 7 k.toNat) = 92 then 1 else 0 : Int)) = 0 then 0 else 1 : Int)) + 1) + 1) then 0 else (if (T.2 7 (k + ((if ((if (T.2 7 k.toNat) = 92 then 1 else 0 : Int)) = 0 then 0 else 1 : Int)) + 1).toNat) = 45 then 1 else 0 : Int) : Int) else 0 : Int) else 0 : Int)) ((k + ((if ((if (T.2 7 k.toNat) = 92 then 1 else 0 : Int)) = 0 then 0 else 1 : Int)) + 1) + ((if (T.2 7 ((k + ((if ((if (T.2 7 k.toNat) = 92 then 1 else 0 : Int)) = 0 then 0 else 1 : Int)) + 1) + 1).toNat) = 92 then 2 else 1 : Int)) + 1)))
set_option maxHeartbeats 4000000 in
set_option maxRecDepth 100000 in
theorem lp7_inSet (l : Launch) (D : va_G) (cy : Nat → ClassId) (o : Nat) (q : Nat → Nat) (fr : Int) (to : Int) (x : Int) (T : MSt) (hto0 : 0 ≤ to) (hto : to ≤ 39) (hsg : ∀ j, 0 ≤ T.2 7 j ∧ T.2 7 j ≤ 126) (hx0 : -1000 ≤ x) (hx1 : x ≤ 1000) {p : Program} {e : Env} {s : State} {m : MethodId} {args : Array Value} {below : List Frame} {meth : Method} {c : Code} (B : zAt p s m args meth c RX7 cX7_inSet 12 (some .boolean) (.code yX7_inSet cX7_inSet 12 (some .boolean) :: TB7)) (hK : va_K D vwCl (zTY cy) s) (post : Int → MSt → Prop) :
    ∀ (n : Nat) (inn : Int) (alone : Int) (k : Int) (H : Heap) (locs : List Loc) (ls : Array Slot), (to - k ≤ n) → (0 ≤ k) → (k ≤ 41) → (0 ≤ inn) → (inn ≤ 1) → (0 ≤ alone) → (alone ≤ 1) → mH D cy o q (mA o q) s.heap T H locs → lv_has ls 12 [(0, .ref o), (1, .int (zI fr)), (2, .int (zI to)), (3, .int (zI x)), (4, .int (zI inn)), (5, .int (zI alone)), (6, .int (zI k))] → post (M_inSetL fr to x T n inn alone k) T → W p l e (headSpec (.code yX7_inSet cX7_inSet 12 (some .boolean) :: TB7) ({ frames := 2, cells := 0, slots := 0, locals := 42 })).room s m args below meth c H locs 0 0 (MQ below (mQi D cy o q post) args s 0 0 (mA o q)) (F0 m 9 ls []) := by
  intro n
  induction n with
  | zero =>
    intro inn alone k H locs ls hn hk0 hk1 hi0 hi1 hal0 hal1 hM hl hpost
    refine lv_iload B.1 B.2.1 dX7_inSet_9 (lv_at hl 6 rfl) ?_
    refine lv_iload_n B.1 B.2.1 dX7_inSet_11 rfl (lv_at hl 2 rfl) ?_
    refine z_icmp_ge (tgt := 231) B.1 B.2.1 (zr_of (by omega) (by omega)) (zr_of (by omega) (by omega)) dX7_inSet_12 (by decide) (fun c_1 => ?_) (fun c_1 => ?_)
    · --
      refine lv_iload B.1 B.2.1 dX7_inSet_231 (lv_at hl 4 rfl) ?_
      have hq : M_inSetL fr to x T 0 inn alone k = inn := rfl
      rw [hq] at hpost
      exact m_retz B hM (by omega) (hpost) dX7_inSet_233
    · exact absurd c_1 (by omega)
  | succ n ih =>
    intro inn alone k H locs ls hn hk0 hk1 hi0 hi1 hal0 hal1 hM hl hpost
    refine lv_iload B.1 B.2.1 dX7_inSet_9 (lv_at hl 6 rfl) ?_
    refine lv_iload_n B.1 B.2.1 dX7_inSet_11 rfl (lv_at hl 2 rfl) ?_
    refine z_icmp_ge (tgt := 231) B.1 B.2.1 (zr_of (by omega) (by omega)) (zr_of (by omega) (by omega)) dX7_inSet_12 (by decide) (fun c_1 => ?_) (fun c_1 => ?_)
    · --
      refine lv_iload B.1 B.2.1 dX7_inSet_231 (lv_at hl 4 rfl) ?_
      have hq : M_inSetL fr to x T (n + 1) inn alone k = inn := by rw [M_inSetL]; exact (if_pos c_1)
      rw [hq] at hpost
      exact m_retz B hM (by omega) (hpost) dX7_inSet_233
    · --
      refine lv_iload B.1 B.2.1 dX7_inSet_15 (lv_at hl 5 rfl) ?_
      refine z_joinH (P := fun v H' locs' => v = (if alone = 0 then 0 else (if (T.2 7 k.toNat) = 45 then 1 else 0 : Int) : Int) ∧ mH D cy o q (mA o q) s.heap T H' locs') (pcJ := 37) (lsJ := ls) (stJ := []) (fun v_2 H locs hv_3 => ?_) (fun hJ_4 => ?_)
      · --
        obtain ⟨hv_3, hM⟩ := hv_3
        have hb_5 : (if alone = 0 then 0 else (if (T.2 7 k.toNat) = 45 then 1 else 0 : Int) : Int) = 0 ∨ (if alone = 0 then 0 else (if (T.2 7 k.toNat) = 45 then 1 else 0 : Int) : Int) = 1 := by (repeat' split) <;> simp
        have hv_3 := hv_3.symm
        subst hv_3
        refine lv_istore (lv' := [(7, .int (zI ((if alone = 0 then 0 else (if (T.2 7 k.toNat) = 45 then 1 else 0 : Int) : Int)))), (0, .ref o), (1, .int (zI fr)), (2, .int (zI to)), (3, .int (zI x)), (4, .int (zI inn)), (5, .int (zI alone)), (6, .int (zI k))]) B.1 B.2.1 dX7_inSet_37 hl (by decide) rfl (fun ls hl => ?_)
        refine lv_aload_n B.1 B.2.1 dX7_inSet_39 rfl (lv_at hl 1 rfl) ?_
        refine m_getr B (i7 _) hK hM 7 (by decide) rfl (List.mem_cons_of_mem _ w7_fRX7_16) dX7_inSet_40 ?_
        refine lv_iload B.1 B.2.1 dX7_inSet_43 (lv_at hl 7 rfl) ?_
        have f_6 := hsg k.toNat
        refine m_cald (x := T.2 7 k.toNat) B hK hM 2 7 rfl rfl (by omega) (by simp only [mN]; omega) rfl dX7_inSet_45 ?_
        refine z_bipush B.1 B.2.1 (by decide) dX7_inSet_46 ?_
        refine z_joinH (P := fun v H' locs' => v = (if (T.2 7 k.toNat) = 92 then 1 else 0 : Int) ∧ mH D cy o q (mA o q) s.heap T H' locs') (pcJ := 56) (lsJ := ls) (stJ := []) (fun v_7 H locs hv_8 => ?_) (fun hJ_9 => ?_)
        · --
          obtain ⟨hv_8, hM⟩ := hv_8
          have hb_10 : (if (T.2 7 k.toNat) = 92 then 1 else 0 : Int) = 0 ∨ (if (T.2 7 k.toNat) = 92 then 1 else 0 : Int) = 1 := by (repeat' split) <;> simp
          have hv_8 := hv_8.symm
          subst hv_8
          refine lv_istore (lv' := [(8, .int (zI ((if (T.2 7 k.toNat) = 92 then 1 else 0 : Int)))), (7, .int (zI ((if alone = 0 then 0 else (if (T.2 7 k.toNat) = 45 then 1 else 0 : Int) : Int)))), (0, .ref o), (1, .int (zI fr)), (2, .int (zI to)), (3, .int (zI x)), (4, .int (zI inn)), (5, .int (zI alone)), (6, .int (zI k))]) B.1 B.2.1 dX7_inSet_56 hl (by decide) rfl (fun ls hl => ?_)
          refine lv_iload B.1 B.2.1 dX7_inSet_58 (lv_at hl 8 rfl) ?_
          refine lv_iload B.1 B.2.1 dX7_inSet_60 (lv_at hl 0 rfl) ?_
          refine z_joinH (P := fun v H' locs' => v = (if ((if (T.2 7 k.toNat) = 92 then 1 else 0 : Int)) = 0 then 0 else 1 : Int) ∧ mH D cy o q (mA o q) s.heap T H' locs') (pcJ := 70) (lsJ := ls) (stJ := [.int (zI k)]) (fun v_11 H locs hv_12 => ?_) (fun hJ_13 => ?_)
          · --
            obtain ⟨hv_12, hM⟩ := hv_12
            have hb_14 : (if ((if (T.2 7 k.toNat) = 92 then 1 else 0 : Int)) = 0 then 0 else 1 : Int) = 0 ∨ (if ((if (T.2 7 k.toNat) = 92 then 1 else 0 : Int)) = 0 then 0 else 1 : Int) = 1 := by (repeat' split) <;> simp
            have hv_12 := hv_12.symm
            subst hv_12
            refine z_iadd (x := k + ((if ((if (T.2 7 k.toNat) = 92 then 1 else 0 : Int)) = 0 then 0 else 1 : Int))) B.1 B.2.1 rfl dX7_inSet_70 ?_
            refine lv_istore (lv' := [(6, .int (zI (k + ((if ((if (T.2 7 k.toNat) = 92 then 1 else 0 : Int)) = 0 then 0 else 1 : Int))))), (8, .int (zI ((if (T.2 7 k.toNat) = 92 then 1 else 0 : Int)))), (7, .int (zI ((if alone = 0 then 0 else (if (T.2 7 k.toNat) = 45 then 1 else 0 : Int) : Int)))), (0, .ref o), (1, .int (zI fr)), (2, .int (zI to)), (3, .int (zI x)), (4, .int (zI inn)), (5, .int (zI alone))]) B.1 B.2.1 dX7_inSet_71 hl (by decide) rfl (fun ls hl => ?_)
            refine lv_aload_n B.1 B.2.1 dX7_inSet_73 rfl (lv_at hl 3 rfl) ?_
            refine m_getr B (i7 _) hK hM 7 (by decide) rfl (List.mem_cons_of_mem _ w7_fRX7_16) dX7_inSet_74 ?_
            refine lv_iload B.1 B.2.1 dX7_inSet_77 (lv_at hl 0 rfl) ?_
            have f_15 := hsg (k + ((if ((if (T.2 7 k.toNat) = 92 then 1 else 0 : Int)) = 0 then 0 else 1 : Int))).toNat
            refine m_cald (x := T.2 7 (k + ((if ((if (T.2 7 k.toNat) = 92 then 1 else 0 : Int)) = 0 then 0 else 1 : Int))).toNat) B hK hM 2 7 rfl rfl (by omega) (by simp only [mN]; omega) rfl dX7_inSet_79 ?_
            refine lv_istore (lv' := [(9, .int (zI (T.2 7 (k + ((if ((if (T.2 7 k.toNat) = 92 then 1 else 0 : Int)) = 0 then 0 else 1 : Int))).toNat))), (6, .int (zI (k + ((if ((if (T.2 7 k.toNat) = 92 then 1 else 0 : Int)) = 0 then 0 else 1 : Int))))), (8, .int (zI ((if (T.2 7 k.toNat) = 92 then 1 else 0 : Int)))), (7, .int (zI ((if alone = 0 then 0 else (if (T.2 7 k.toNat) = 45 then 1 else 0 : Int) : Int)))), (0, .ref o), (1, .int (zI fr)), (2, .int (zI to)), (3, .int (zI x)), (4, .int (zI inn)), (5, .int (zI alone))]) B.1 B.2.1 dX7_inSet_80 hl (by decide) rfl (fun ls hl => ?_)
            refine z_iinc (v := k + ((if ((if (T.2 7 k.toNat) = 92 then 1 else 0 : Int)) = 0 then 0 else 1 : Int)) + 1) (lv' := [(6, .int (zI (k + ((if ((if (T.2 7 k.toNat) = 92 then 1 else 0 : Int)) = 0 then 0 else 1 : Int)) + 1))), (9, .int (zI (T.2 7 (k + ((if ((if (T.2 7 k.toNat) = 92 then 1 else 0 : Int)) = 0 then 0 else 1 : Int))).toNat))), (8, .int (zI ((if (T.2 7 k.toNat) = 92 then 1 else 0 : Int)))), (7, .int (zI ((if alone = 0 then 0 else (if (T.2 7 k.toNat) = 45 then 1 else 0 : Int) : Int)))), (0, .ref o), (1, .int (zI fr)), (2, .int (zI to)), (3, .int (zI x)), (4, .int (zI inn)), (5, .int (zI alone))]) B.1 B.2.1 dX7_inSet_82 hl (k := 1) rfl rfl (by decide) rfl (fun ls hl => ?_)
            refine lv_iload B.1 B.2.1 dX7_inSet_85 (lv_at hl 2 rfl) ?_
            refine z_joinH (P := fun v H' locs' => v = (if ((if (T.2 7 k.toNat) = 92 then 1 else 0 : Int)) = 0 then 0 else (if (zb (M_isClass (T.2 7 (k + ((if ((if (T.2 7 k.toNat) = 92 then 1 else 0 : Int)) = 0 then 0 else 1 : Int))).toNat))) = 0 then 0 else 1 : Int) : Int) ∧ mH D cy o q (mA o q) s.heap T H' locs') (pcJ := 103) (lsJ := ls) (stJ := []) (fun v_16 H locs hv_17 => ?_) (fun hJ_18 => ?_)
            · --
              obtain ⟨hv_17, hM⟩ := hv_17
              have hb_19 : (if ((if (T.2 7 k.toNat) = 92 then 1 else 0 : Int)) = 0 then 0 else (if (zb (M_isClass (T.2 7 (k + ((if ((if (T.2 7 k.toNat) = 92 then 1 else 0 : Int)) = 0 then 0 else 1 : Int))).toNat))) = 0 then 0 else 1 : Int) : Int) = 0 ∨ (if ((if (T.2 7 k.toNat) = 92 then 1 else 0 : Int)) = 0 then 0 else (if (zb (M_isClass (T.2 7 (k + ((if ((if (T.2 7 k.toNat) = 92 then 1 else 0 : Int)) = 0 then 0 else 1 : Int))).toNat))) = 0 then 0 else 1 : Int) : Int) = 1 := by (repeat' split) <;> simp
              have hv_17 := hv_17.symm
              subst hv_17
              refine lv_istore (lv' := [(10, .int (zI ((if ((if (T.2 7 k.toNat) = 92 then 1 else 0 : Int)) = 0 then 0 else (if (zb (M_isClass (T.2 7 (k + ((if ((if (T.2 7 k.toNat) = 92 then 1 else 0 : Int)) = 0 then 0 else 1 : Int))).toNat))) = 0 then 0 else 1 : Int) : Int)))), (6, .int (zI (k + ((if ((if (T.2 7 k.toNat) = 92 then 1 else 0 : Int)) = 0 then 0 else 1 : Int)) + 1))), (9, .int (zI (T.2 7 (k + ((if ((if (T.2 7 k.toNat) = 92 then 1 else 0 : Int)) = 0 then 0 else 1 : Int))).toNat))), (8, .int (zI ((if (T.2 7 k.toNat) = 92 then 1 else 0 : Int)))), (7, .int (zI ((if alone = 0 then 0 else (if (T.2 7 k.toNat) = 45 then 1 else 0 : Int) : Int)))), (0, .ref o), (1, .int (zI fr)), (2, .int (zI to)), (3, .int (zI x)), (4, .int (zI inn)), (5, .int (zI alone))]) B.1 B.2.1 dX7_inSet_103 hl (by decide) rfl (fun ls hl => ?_)
              refine lv_iload B.1 B.2.1 dX7_inSet_105 (lv_at hl 4 rfl) ?_
              refine z_joinH (P := fun v H' locs' => v = (if ((if alone = 0 then 0 else (if (T.2 7 k.toNat) = 45 then 1 else 0 : Int) : Int)) = 0 then (if ((if ((if (T.2 7 k.toNat) = 92 then 1 else 0 : Int)) = 0 then 0 else (if (zb (M_isClass (T.2 7 (k + ((if ((if (T.2 7 k.toNat) = 92 then 1 else 0 : Int)) = 0 then 0 else 1 : Int))).toNat))) = 0 then 0 else 1 : Int) : Int)) = 0 then (if to ≤ ((k + ((if ((if (T.2 7 k.toNat) = 92 then 1 else 0 : Int)) = 0 then 0 else 1 : Int)) + 1) + 1) then 0 else (if (T.2 7 (k + ((if ((if (T.2 7 k.toNat) = 92 then 1 else 0 : Int)) = 0 then 0 else 1 : Int)) + 1).toNat) = 45 then 1 else 0 : Int) : Int) else 0 : Int) else 0 : Int) ∧ mH D cy o q (mA o q) s.heap T H' locs') (pcJ := 140) (lsJ := ls) (stJ := []) (fun v_20 H locs hv_21 => ?_) (fun hJ_22 => ?_)
              · --
                obtain ⟨hv_21, hM⟩ := hv_21
                have hb_23 : (if ((if alone = 0 then 0 else (if (T.2 7 k.toNat) = 45 then 1 else 0 : Int) : Int)) = 0 then (if ((if ((if (T.2 7 k.toNat) = 92 then 1 else 0 : Int)) = 0 then 0 else (if (zb (M_isClass (T.2 7 (k + ((if ((if (T.2 7 k.toNat) = 92 then 1 else 0 : Int)) = 0 then 0 else 1 : Int))).toNat))) = 0 then 0 else 1 : Int) : Int)) = 0 then (if to ≤ ((k + ((if ((if (T.2 7 k.toNat) = 92 then 1 else 0 : Int)) = 0 then 0 else 1 : Int)) + 1) + 1) then 0 else (if (T.2 7 (k + ((if ((if (T.2 7 k.toNat) = 92 then 1 else 0 : Int)) = 0 then 0 else 1 : Int)) + 1).toNat) = 45 then 1 else 0 : Int) : Int) else 0 : Int) else 0 : Int) = 0 ∨ (if ((if alone = 0 then 0 else (if (T.2 7 k.toNat) = 45 then 1 else 0 : Int) : Int)) = 0 then (if ((if ((if (T.2 7 k.toNat) = 92 then 1 else 0 : Int)) = 0 then 0 else (if (zb (M_isClass (T.2 7 (k + ((if ((if (T.2 7 k.toNat) = 92 then 1 else 0 : Int)) = 0 then 0 else 1 : Int))).toNat))) = 0 then 0 else 1 : Int) : Int)) = 0 then (if to ≤ ((k + ((if ((if (T.2 7 k.toNat) = 92 then 1 else 0 : Int)) = 0 then 0 else 1 : Int)) + 1) + 1) then 0 else (if (T.2 7 (k + ((if ((if (T.2 7 k.toNat) = 92 then 1 else 0 : Int)) = 0 then 0 else 1 : Int)) + 1).toNat) = 45 then 1 else 0 : Int) : Int) else 0 : Int) else 0 : Int) = 1 := by (repeat' split) <;> simp
                have hv_21 := hv_21.symm
                subst hv_21
                refine lv_istore (lv' := [(5, .int (zI ((if ((if alone = 0 then 0 else (if (T.2 7 k.toNat) = 45 then 1 else 0 : Int) : Int)) = 0 then (if ((if ((if (T.2 7 k.toNat) = 92 then 1 else 0 : Int)) = 0 then 0 else (if (zb (M_isClass (T.2 7 (k + ((if ((if (T.2 7 k.toNat) = 92 then 1 else 0 : Int)) = 0 then 0 else 1 : Int))).toNat))) = 0 then 0 else 1 : Int) : Int)) = 0 then (if to ≤ ((k + ((if ((if (T.2 7 k.toNat) = 92 then 1 else 0 : Int)) = 0 then 0 else 1 : Int)) + 1) + 1) then 0 else (if (T.2 7 (k + ((if ((if (T.2 7 k.toNat) = 92 then 1 else 0 : Int)) = 0 then 0 else 1 : Int)) + 1).toNat) = 45 then 1 else 0 : Int) : Int) else 0 : Int) else 0 : Int)))), (10, .int (zI ((if ((if (T.2 7 k.toNat) = 92 then 1 else 0 : Int)) = 0 then 0 else (if (zb (M_isClass (T.2 7 (k + ((if ((if (T.2 7 k.toNat) = 92 then 1 else 0 : Int)) = 0 then 0 else 1 : Int))).toNat))) = 0 then 0 else 1 : Int) : Int)))), (6, .int (zI (k + ((if ((if (T.2 7 k.toNat) = 92 then 1 else 0 : Int)) = 0 then 0 else 1 : Int)) + 1))), (9, .int (zI (T.2 7 (k + ((if ((if (T.2 7 k.toNat) = 92 then 1 else 0 : Int)) = 0 then 0 else 1 : Int))).toNat))), (8, .int (zI ((if (T.2 7 k.toNat) = 92 then 1 else 0 : Int)))), (7, .int (zI ((if alone = 0 then 0 else (if (T.2 7 k.toNat) = 45 then 1 else 0 : Int) : Int)))), (0, .ref o), (1, .int (zI fr)), (2, .int (zI to)), (3, .int (zI x)), (4, .int (zI inn))]) B.1 B.2.1 dX7_inSet_140 hl (by decide) rfl (fun ls hl => ?_)
                refine lv_iload B.1 B.2.1 dX7_inSet_142 (lv_at hl 3 rfl) ?_
                refine lv_istore (lv' := [(11, .int (zI (T.2 7 (k + ((if ((if (T.2 7 k.toNat) = 92 then 1 else 0 : Int)) = 0 then 0 else 1 : Int))).toNat))), (5, .int (zI ((if ((if alone = 0 then 0 else (if (T.2 7 k.toNat) = 45 then 1 else 0 : Int) : Int)) = 0 then (if ((if ((if (T.2 7 k.toNat) = 92 then 1 else 0 : Int)) = 0 then 0 else (if (zb (M_isClass (T.2 7 (k + ((if ((if (T.2 7 k.toNat) = 92 then 1 else 0 : Int)) = 0 then 0 else 1 : Int))).toNat))) = 0 then 0 else 1 : Int) : Int)) = 0 then (if to ≤ ((k + ((if ((if (T.2 7 k.toNat) = 92 then 1 else 0 : Int)) = 0 then 0 else 1 : Int)) + 1) + 1) then 0 else (if (T.2 7 (k + ((if ((if (T.2 7 k.toNat) = 92 then 1 else 0 : Int)) = 0 then 0 else 1 : Int)) + 1).toNat) = 45 then 1 else 0 : Int) : Int) else 0 : Int) else 0 : Int)))), (10, .int (zI ((if ((if (T.2 7 k.toNat) = 92 then 1 else 0 : Int)) = 0 then 0 else (if (zb (M_isClass (T.2 7 (k + ((if ((if (T.2 7 k.toNat) = 92 then 1 else 0 : Int)) = 0 then 0 else 1 : Int))).toNat))) = 0 then 0 else 1 : Int) : Int)))), (6, .int (zI (k + ((if ((if (T.2 7 k.toNat) = 92 then 1 else 0 : Int)) = 0 then 0 else 1 : Int)) + 1))), (9, .int (zI (T.2 7 (k + ((if ((if (T.2 7 k.toNat) = 92 then 1 else 0 : Int)) = 0 then 0 else 1 : Int))).toNat))), (8, .int (zI ((if (T.2 7 k.toNat) = 92 then 1 else 0 : Int)))), (7, .int (zI ((if alone = 0 then 0 else (if (T.2 7 k.toNat) = 45 then 1 else 0 : Int) : Int)))), (0, .ref o), (1, .int (zI fr)), (2, .int (zI to)), (3, .int (zI x)), (4, .int (zI inn))]) B.1 B.2.1 dX7_inSet_144 hl (by decide) rfl (fun ls hl => ?_)
                refine lv_iload B.1 B.2.1 dX7_inSet_146 (lv_at hl 1 rfl) ?_
                refine z_if_eq (tgt := 187) B.1 B.2.1 (zr_of (by omega) (by omega)) dX7_inSet_148 (by decide) (fun c_24 => ?_) (fun c_24 => ?_)
                · --
                  refine lv_iload B.1 B.2.1 dX7_inSet_187 (lv_at hl 11 rfl) ?_
                  refine z_joinH (P := fun v H' locs' => v = (if inn = 0 then (if ((if ((if (T.2 7 k.toNat) = 92 then 1 else 0 : Int)) = 0 then 0 else (if (zb (M_isClass (T.2 7 (k + ((if ((if (T.2 7 k.toNat) = 92 then 1 else 0 : Int)) = 0 then 0 else 1 : Int))).toNat))) = 0 then 0 else 1 : Int) : Int)) = 0 then (if x < (T.2 7 (k + ((if ((if (T.2 7 k.toNat) = 92 then 1 else 0 : Int)) = 0 then 0 else 1 : Int))).toNat) then 0 else (if (T.2 7 (k + ((if ((if (T.2 7 k.toNat) = 92 then 1 else 0 : Int)) = 0 then 0 else 1 : Int))).toNat) < x then 0 else 1 : Int) : Int) else (if (M_inClass (T.2 7 (k + ((if ((if (T.2 7 k.toNat) = 92 then 1 else 0 : Int)) = 0 then 0 else 1 : Int))).toNat) x) = 0 then 0 else 1 : Int) : Int) else 1 : Int) ∧ mH D cy o q (mA o q) s.heap T H' locs') (pcJ := 226) (lsJ := ls) (stJ := []) (fun v_25 H locs hv_26 => ?_) (fun hJ_27 => ?_)
                  · --
                    obtain ⟨hv_26, hM⟩ := hv_26
                    have hb_28 : (if inn = 0 then (if ((if ((if (T.2 7 k.toNat) = 92 then 1 else 0 : Int)) = 0 then 0 else (if (zb (M_isClass (T.2 7 (k + ((if ((if (T.2 7 k.toNat) = 92 then 1 else 0 : Int)) = 0 then 0 else 1 : Int))).toNat))) = 0 then 0 else 1 : Int) : Int)) = 0 then (if x < (T.2 7 (k + ((if ((if (T.2 7 k.toNat) = 92 then 1 else 0 : Int)) = 0 then 0 else 1 : Int))).toNat) then 0 else (if (T.2 7 (k + ((if ((if (T.2 7 k.toNat) = 92 then 1 else 0 : Int)) = 0 then 0 else 1 : Int))).toNat) < x then 0 else 1 : Int) : Int) else (if (M_inClass (T.2 7 (k + ((if ((if (T.2 7 k.toNat) = 92 then 1 else 0 : Int)) = 0 then 0 else 1 : Int))).toNat) x) = 0 then 0 else 1 : Int) : Int) else 1 : Int) = 0 ∨ (if inn = 0 then (if ((if ((if (T.2 7 k.toNat) = 92 then 1 else 0 : Int)) = 0 then 0 else (if (zb (M_isClass (T.2 7 (k + ((if ((if (T.2 7 k.toNat) = 92 then 1 else 0 : Int)) = 0 then 0 else 1 : Int))).toNat))) = 0 then 0 else 1 : Int) : Int)) = 0 then (if x < (T.2 7 (k + ((if ((if (T.2 7 k.toNat) = 92 then 1 else 0 : Int)) = 0 then 0 else 1 : Int))).toNat) then 0 else (if (T.2 7 (k + ((if ((if (T.2 7 k.toNat) = 92 then 1 else 0 : Int)) = 0 then 0 else 1 : Int))).toNat) < x then 0 else 1 : Int) : Int) else (if (M_inClass (T.2 7 (k + ((if ((if (T.2 7 k.toNat) = 92 then 1 else 0 : Int)) = 0 then 0 else 1 : Int))).toNat) x) = 0 then 0 else 1 : Int) : Int) else 1 : Int) = 1 := by (repeat' split) <;> simp
                    have hv_26 := hv_26.symm
                    subst hv_26
                    refine lv_istore (lv' := [(4, .int (zI ((if inn = 0 then (if ((if ((if (T.2 7 k.toNat) = 92 then 1 else 0 : Int)) = 0 then 0 else (if (zb (M_isClass (T.2 7 (k + ((if ((if (T.2 7 k.toNat) = 92 then 1 else 0 : Int)) = 0 then 0 else 1 : Int))).toNat))) = 0 then 0 else 1 : Int) : Int)) = 0 then (if x < (T.2 7 (k + ((if ((if (T.2 7 k.toNat) = 92 then 1 else 0 : Int)) = 0 then 0 else 1 : Int))).toNat) then 0 else (if (T.2 7 (k + ((if ((if (T.2 7 k.toNat) = 92 then 1 else 0 : Int)) = 0 then 0 else 1 : Int))).toNat) < x then 0 else 1 : Int) : Int) else (if (M_inClass (T.2 7 (k + ((if ((if (T.2 7 k.toNat) = 92 then 1 else 0 : Int)) = 0 then 0 else 1 : Int))).toNat) x) = 0 then 0 else 1 : Int) : Int) else 1 : Int)))), (11, .int (zI (T.2 7 (k + ((if ((if (T.2 7 k.toNat) = 92 then 1 else 0 : Int)) = 0 then 0 else 1 : Int))).toNat))), (5, .int (zI ((if ((if alone = 0 then 0 else (if (T.2 7 k.toNat) = 45 then 1 else 0 : Int) : Int)) = 0 then (if ((if ((if (T.2 7 k.toNat) = 92 then 1 else 0 : Int)) = 0 then 0 else (if (zb (M_isClass (T.2 7 (k + ((if ((if (T.2 7 k.toNat) = 92 then 1 else 0 : Int)) = 0 then 0 else 1 : Int))).toNat))) = 0 then 0 else 1 : Int) : Int)) = 0 then (if to ≤ ((k + ((if ((if (T.2 7 k.toNat) = 92 then 1 else 0 : Int)) = 0 then 0 else 1 : Int)) + 1) + 1) then 0 else (if (T.2 7 (k + ((if ((if (T.2 7 k.toNat) = 92 then 1 else 0 : Int)) = 0 then 0 else 1 : Int)) + 1).toNat) = 45 then 1 else 0 : Int) : Int) else 0 : Int) else 0 : Int)))), (10, .int (zI ((if ((if (T.2 7 k.toNat) = 92 then 1 else 0 : Int)) = 0 then 0 else (if (zb (M_isClass (T.2 7 (k + ((if ((if (T.2 7 k.toNat) = 92 then 1 else 0 : Int)) = 0 then 0 else 1 : Int))).toNat))) = 0 then 0 else 1 : Int) : Int)))), (6, .int (zI (k + ((if ((if (T.2 7 k.toNat) = 92 then 1 else 0 : Int)) = 0 then 0 else 1 : Int)) + 1))), (9, .int (zI (T.2 7 (k + ((if ((if (T.2 7 k.toNat) = 92 then 1 else 0 : Int)) = 0 then 0 else 1 : Int))).toNat))), (8, .int (zI ((if (T.2 7 k.toNat) = 92 then 1 else 0 : Int)))), (7, .int (zI ((if alone = 0 then 0 else (if (T.2 7 k.toNat) = 45 then 1 else 0 : Int) : Int)))), (0, .ref o), (1, .int (zI fr)), (2, .int (zI to)), (3, .int (zI x))]) B.1 B.2.1 dX7_inSet_226 hl (by decide) rfl (fun ls hl => ?_)
                    refine lv_goto (tgt := 9) B.1 B.2.1 dX7_inSet_228 (by decide) ?_
                    have hq : M_inSetL fr to x T (n + 1) inn alone k = M_inSetL fr to x T n ((if inn = 0 then (if ((if ((if (T.2 7 k.toNat) = 92 then 1 else 0 : Int)) = 0 then 0 else (if (zb (M_isClass (T.2 7 (k + ((if ((if (T.2 7 k.toNat) = 92 then 1 else 0 : Int)) = 0 then 0 else 1 : Int))).toNat))) = 0 then 0 else 1 : Int) : Int)) = 0 then (if x < (T.2 7 (k + ((if ((if (T.2 7 k.toNat) = 92 then 1 else 0 : Int)) = 0 then 0 else 1 : Int))).toNat) then 0 else (if (T.2 7 (k + ((if ((if (T.2 7 k.toNat) = 92 then 1 else 0 : Int)) = 0 then 0 else 1 : Int))).toNat) < x then 0 else 1 : Int) : Int) else (if (M_inClass (T.2 7 (k + ((if ((if (T.2 7 k.toNat) = 92 then 1 else 0 : Int)) = 0 then 0 else 1 : Int))).toNat) x) = 0 then 0 else 1 : Int) : Int) else 1 : Int)) ((if ((if alone = 0 then 0 else (if (T.2 7 k.toNat) = 45 then 1 else 0 : Int) : Int)) = 0 then (if ((if ((if (T.2 7 k.toNat) = 92 then 1 else 0 : Int)) = 0 then 0 else (if (zb (M_isClass (T.2 7 (k + ((if ((if (T.2 7 k.toNat) = 92 then 1 else 0 : Int)) = 0 then 0 else 1 : Int))).toNat))) = 0 then 0 else 1 : Int) : Int)) = 0 then (if to ≤ ((k + ((if ((if (T.2 7 k.toNat) = 92 then 1 else 0 : Int)) = 0 then 0 else 1 : Int)) + 1) + 1) then 0 else (if (T.2 7 (k + ((if ((if (T.2 7 k.toNat) = 92 then 1 else 0 : Int)) = 0 then 0 else 1 : Int)) + 1).toNat) = 45 then 1 else 0 : Int) : Int) else 0 : Int) else 0 : Int)) (k + ((if ((if (T.2 7 k.toNat) = 92 then 1 else 0 : Int)) = 0 then 0 else 1 : Int)) + 1) := by rw [M_inSetL]; exact ((if_neg c_1).trans (if_pos c_24))
                    rw [hq] at hpost
                    exact ih ((if inn = 0 then (if ((if ((if (T.2 7 k.toNat) = 92 then 1 else 0 : Int)) = 0 then 0 else (if (zb (M_isClass (T.2 7 (k + ((if ((if (T.2 7 k.toNat) = 92 then 1 else 0 : Int)) = 0 then 0 else 1 : Int))).toNat))) = 0 then 0 else 1 : Int) : Int)) = 0 then (if x < (T.2 7 (k + ((if ((if (T.2 7 k.toNat) = 92 then 1 else 0 : Int)) = 0 then 0 else 1 : Int))).toNat) then 0 else (if (T.2 7 (k + ((if ((if (T.2 7 k.toNat) = 92 then 1 else 0 : Int)) = 0 then 0 else 1 : Int))).toNat) < x then 0 else 1 : Int) : Int) else (if (M_inClass (T.2 7 (k + ((if ((if (T.2 7 k.toNat) = 92 then 1 else 0 : Int)) = 0 then 0 else 1 : Int))).toNat) x) = 0 then 0 else 1 : Int) : Int) else 1 : Int)) ((if ((if alone = 0 then 0 else (if (T.2 7 k.toNat) = 45 then 1 else 0 : Int) : Int)) = 0 then (if ((if ((if (T.2 7 k.toNat) = 92 then 1 else 0 : Int)) = 0 then 0 else (if (zb (M_isClass (T.2 7 (k + ((if ((if (T.2 7 k.toNat) = 92 then 1 else 0 : Int)) = 0 then 0 else 1 : Int))).toNat))) = 0 then 0 else 1 : Int) : Int)) = 0 then (if to ≤ ((k + ((if ((if (T.2 7 k.toNat) = 92 then 1 else 0 : Int)) = 0 then 0 else 1 : Int)) + 1) + 1) then 0 else (if (T.2 7 (k + ((if ((if (T.2 7 k.toNat) = 92 then 1 else 0 : Int)) = 0 then 0 else 1 : Int)) + 1).toNat) = 45 then 1 else 0 : Int) : Int) else 0 : Int) else 0 : Int)) (k + ((if ((if (T.2 7 k.toNat) = 92 then 1 else 0 : Int)) = 0 then 0 else 1 : Int)) + 1) H locs ls (by omega) (by omega) (by omega) (by omega) (by omega) (by omega) (by omega) hM (lv_sub hl [8, 9, 10, 11, 0, 2, 4] rfl) hpost
                  · --
                    refine z_if_ne (tgt := 221) B.1 B.2.1 (zr_of (by omega) (by omega)) dX7_inSet_189 (by decide) (fun c_29 => ?_) (fun c_29 => ?_)
                    · --
                      refine z_iconst B.1 B.2.1 dX7_inSet_221 ?_
                      refine lv_goto (tgt := 226) B.1 B.2.1 dX7_inSet_222 (by decide) ?_
                      exact hJ_27 _ _ _ ⟨(if_neg c_29).symm, hM⟩
                    · --
                      refine lv_iload B.1 B.2.1 dX7_inSet_192 (lv_at hl 2 rfl) ?_
                      refine z_if_eq (tgt := 209) B.1 B.2.1 (zr_of (by omega) (by omega)) dX7_inSet_194 (by decide) (fun c_30 => ?_) (fun c_30 => ?_)
                      · --
                        refine lv_iload_n B.1 B.2.1 dX7_inSet_209 rfl (lv_at hl 10 rfl) ?_
                        refine lv_iload B.1 B.2.1 dX7_inSet_210 (lv_at hl 4 rfl) ?_
                        refine z_icmp_lt (tgt := 225) B.1 B.2.1 (zr_of (by omega) (by omega)) (zr_of (by omega) (by omega)) dX7_inSet_212 (by decide) (fun c_31 => ?_) (fun c_31 => ?_)
                        · --
                          refine z_iconst B.1 B.2.1 dX7_inSet_225 ?_
                          exact hJ_27 _ _ _ ⟨((if_pos c_29).trans ((if_pos c_30).trans (if_pos c_31))).symm, hM⟩
                        · --
                          refine lv_iload_n B.1 B.2.1 dX7_inSet_215 rfl (lv_at hl 10 rfl) ?_
                          refine lv_iload B.1 B.2.1 dX7_inSet_216 (lv_at hl 0 rfl) ?_
                          refine z_icmp_gt (tgt := 225) B.1 B.2.1 (zr_of (by omega) (by omega)) (zr_of (by omega) (by omega)) dX7_inSet_218 (by decide) (fun c_32 => ?_) (fun c_32 => ?_)
                          · --
                            refine z_iconst B.1 B.2.1 dX7_inSet_225 ?_
                            exact hJ_27 _ _ _ ⟨((if_pos c_29).trans ((if_pos c_30).trans ((if_neg c_31).trans (if_pos c_32)))).symm, hM⟩
                          · --
                            refine z_iconst B.1 B.2.1 dX7_inSet_221 ?_
                            refine lv_goto (tgt := 226) B.1 B.2.1 dX7_inSet_222 (by decide) ?_
                            exact hJ_27 _ _ _ ⟨((if_pos c_29).trans ((if_pos c_30).trans ((if_neg c_31).trans (if_neg c_32)))).symm, hM⟩
                      · --
                        refine lv_iload B.1 B.2.1 dX7_inSet_197 (lv_at hl 4 rfl) ?_
                        refine lv_iload_n B.1 B.2.1 dX7_inSet_199 rfl (lv_at hl 10 rfl) ?_
                        refine s_calli (As := [.int (zI (T.2 7 (k + ((if ((if (T.2 7 k.toNat) = 92 then 1 else 0 : Int)) = 0 then 0 else 1 : Int))).toNat)), .int (zI x)]) (rest := []) B (cX7_inClass_ok l (T.2 7 (k + ((if ((if (T.2 7 k.toNat) = 92 then 1 else 0 : Int)) = 0 then 0 else 1 : Int))).toNat) x (by show -100000 ≤ x; omega) (by show x ≤ 100000; omega) (by show -100000 ≤ (T.2 7 (k + ((if ((if (T.2 7 k.toNat) = 92 then 1 else 0 : Int)) = 0 then 0 else 1 : Int))).toNat); omega) (by show (T.2 7 (k + ((if ((if (T.2 7 k.toNat) = 92 then 1 else 0 : Int)) = 0 then 0 else 1 : Int))).toNat) ≤ 100000; omega)) (cs7 2 B rfl w7_mRX7_205 w7_st_yX7_inClass w7_cd_yX7_inClass rfl rfl (by decide +kernel) ⟨Nat.le_of_ble_eq_true rfl, Nat.le_of_ble_eq_true rfl⟩) rfl hl.1 rfl (Nat.le_of_ble_eq_true rfl) dX7_inSet_200 ⟨Nat.zero_le _, Nat.zero_le _⟩ (fun z_33 hz_34 => ?_)
                        have hz_34 := hz_34.symm
                        subst hz_34
                        have f_35 := M_inClass_01 (T.2 7 (k + ((if ((if (T.2 7 k.toNat) = 92 then 1 else 0 : Int)) = 0 then 0 else 1 : Int))).toNat) x
                        refine z_if_eq (tgt := 225) B.1 B.2.1 (zr_of (by omega) (by omega)) dX7_inSet_203 (by decide) (fun c_36 => ?_) (fun c_36 => ?_)
                        · --
                          refine z_iconst B.1 B.2.1 dX7_inSet_225 ?_
                          exact hJ_27 _ _ _ ⟨((if_pos c_29).trans ((if_neg c_30).trans (if_pos c_36))).symm, hM⟩
                        · --
                          refine lv_goto (tgt := 221) B.1 B.2.1 dX7_inSet_206 (by decide) ?_
                          refine z_iconst B.1 B.2.1 dX7_inSet_221 ?_
                          refine lv_goto (tgt := 226) B.1 B.2.1 dX7_inSet_222 (by decide) ?_
                          exact hJ_27 _ _ _ ⟨((if_pos c_29).trans ((if_neg c_30).trans (if_neg c_36))).symm, hM⟩
                · --
                  refine lv_iload B.1 B.2.1 dX7_inSet_151 (lv_at hl 3 rfl) ?_
                  refine lv_aload_n B.1 B.2.1 dX7_inSet_153 rfl (lv_at hl 7 rfl) ?_
                  refine m_getr B (i7 _) hK hM 7 (by decide) rfl (List.mem_cons_of_mem _ w7_fRX7_16) dX7_inSet_154 ?_
                  refine lv_iload B.1 B.2.1 dX7_inSet_157 (lv_at hl 3 rfl) ?_
                  refine z_iconst B.1 B.2.1 dX7_inSet_159 ?_
                  refine z_iadd (x := (k + ((if ((if (T.2 7 k.toNat) = 92 then 1 else 0 : Int)) = 0 then 0 else 1 : Int)) + 1) + 1) B.1 B.2.1 rfl dX7_inSet_160 ?_
                  have f_37 := hsg ((k + ((if ((if (T.2 7 k.toNat) = 92 then 1 else 0 : Int)) = 0 then 0 else 1 : Int)) + 1) + 1).toNat
                  refine m_cald (x := T.2 7 ((k + ((if ((if (T.2 7 k.toNat) = 92 then 1 else 0 : Int)) = 0 then 0 else 1 : Int)) + 1) + 1).toNat) B hK hM 2 7 rfl rfl (by omega) (by simp only [mN]; omega) rfl dX7_inSet_161 ?_
                  refine z_bipush B.1 B.2.1 (by decide) dX7_inSet_162 ?_
                  refine z_joinH (P := fun v H' locs' => v = (if (T.2 7 ((k + ((if ((if (T.2 7 k.toNat) = 92 then 1 else 0 : Int)) = 0 then 0 else 1 : Int)) + 1) + 1).toNat) = 92 then 2 else 1 : Int) ∧ mH D cy o q (mA o q) s.heap T H' locs') (pcJ := 172) (lsJ := ls) (stJ := [.int (zI (k + ((if ((if (T.2 7 k.toNat) = 92 then 1 else 0 : Int)) = 0 then 0 else 1 : Int)) + 1))]) (fun v_38 H locs hv_39 => ?_) (fun hJ_40 => ?_)
                  · --
                    obtain ⟨hv_39, hM⟩ := hv_39
                    have hb_41 : (if (T.2 7 ((k + ((if ((if (T.2 7 k.toNat) = 92 then 1 else 0 : Int)) = 0 then 0 else 1 : Int)) + 1) + 1).toNat) = 92 then 2 else 1 : Int) = 1 ∨ (if (T.2 7 ((k + ((if ((if (T.2 7 k.toNat) = 92 then 1 else 0 : Int)) = 0 then 0 else 1 : Int)) + 1) + 1).toNat) = 92 then 2 else 1 : Int) = 2 := by (repeat' split) <;> simp
                    have hv_39 := hv_39.symm
                    subst hv_39
                    refine z_iadd (x := (k + ((if ((if (T.2 7 k.toNat) = 92 then 1 else 0 : Int)) = 0 then 0 else 1 : Int)) + 1) + ((if (T.2 7 ((k + ((if ((if (T.2 7 k.toNat) = 92 then 1 else 0 : Int)) = 0 then 0 else 1 : Int)) + 1) + 1).toNat) = 92 then 2 else 1 : Int))) B.1 B.2.1 rfl dX7_inSet_172 ?_
                    refine lv_istore (lv' := [(6, .int (zI ((k + ((if ((if (T.2 7 k.toNat) = 92 then 1 else 0 : Int)) = 0 then 0 else 1 : Int)) + 1) + ((if (T.2 7 ((k + ((if ((if (T.2 7 k.toNat) = 92 then 1 else 0 : Int)) = 0 then 0 else 1 : Int)) + 1) + 1).toNat) = 92 then 2 else 1 : Int))))), (11, .int (zI (T.2 7 (k + ((if ((if (T.2 7 k.toNat) = 92 then 1 else 0 : Int)) = 0 then 0 else 1 : Int))).toNat))), (5, .int (zI ((if ((if alone = 0 then 0 else (if (T.2 7 k.toNat) = 45 then 1 else 0 : Int) : Int)) = 0 then (if ((if ((if (T.2 7 k.toNat) = 92 then 1 else 0 : Int)) = 0 then 0 else (if (zb (M_isClass (T.2 7 (k + ((if ((if (T.2 7 k.toNat) = 92 then 1 else 0 : Int)) = 0 then 0 else 1 : Int))).toNat))) = 0 then 0 else 1 : Int) : Int)) = 0 then (if to ≤ ((k + ((if ((if (T.2 7 k.toNat) = 92 then 1 else 0 : Int)) = 0 then 0 else 1 : Int)) + 1) + 1) then 0 else (if (T.2 7 (k + ((if ((if (T.2 7 k.toNat) = 92 then 1 else 0 : Int)) = 0 then 0 else 1 : Int)) + 1).toNat) = 45 then 1 else 0 : Int) : Int) else 0 : Int) else 0 : Int)))), (10, .int (zI ((if ((if (T.2 7 k.toNat) = 92 then 1 else 0 : Int)) = 0 then 0 else (if (zb (M_isClass (T.2 7 (k + ((if ((if (T.2 7 k.toNat) = 92 then 1 else 0 : Int)) = 0 then 0 else 1 : Int))).toNat))) = 0 then 0 else 1 : Int) : Int)))), (9, .int (zI (T.2 7 (k + ((if ((if (T.2 7 k.toNat) = 92 then 1 else 0 : Int)) = 0 then 0 else 1 : Int))).toNat))), (8, .int (zI ((if (T.2 7 k.toNat) = 92 then 1 else 0 : Int)))), (7, .int (zI ((if alone = 0 then 0 else (if (T.2 7 k.toNat) = 45 then 1 else 0 : Int) : Int)))), (0, .ref o), (1, .int (zI fr)), (2, .int (zI to)), (3, .int (zI x)), (4, .int (zI inn))]) B.1 B.2.1 dX7_inSet_173 hl (by decide) rfl (fun ls hl => ?_)
                    refine lv_aload_n B.1 B.2.1 dX7_inSet_175 rfl (lv_at hl 7 rfl) ?_
                    refine m_getr B (i7 _) hK hM 7 (by decide) rfl (List.mem_cons_of_mem _ w7_fRX7_16) dX7_inSet_176 ?_
                    refine lv_iload B.1 B.2.1 dX7_inSet_179 (lv_at hl 0 rfl) ?_
                    have f_42 := hsg ((k + ((if ((if (T.2 7 k.toNat) = 92 then 1 else 0 : Int)) = 0 then 0 else 1 : Int)) + 1) + ((if (T.2 7 ((k + ((if ((if (T.2 7 k.toNat) = 92 then 1 else 0 : Int)) = 0 then 0 else 1 : Int)) + 1) + 1).toNat) = 92 then 2 else 1 : Int))).toNat
                    refine m_cald (x := T.2 7 ((k + ((if ((if (T.2 7 k.toNat) = 92 then 1 else 0 : Int)) = 0 then 0 else 1 : Int)) + 1) + ((if (T.2 7 ((k + ((if ((if (T.2 7 k.toNat) = 92 then 1 else 0 : Int)) = 0 then 0 else 1 : Int)) + 1) + 1).toNat) = 92 then 2 else 1 : Int))).toNat) B hK hM 2 7 rfl rfl (by omega) (by simp only [mN]; omega) rfl dX7_inSet_181 ?_
                    refine lv_istore (lv' := [(11, .int (zI (T.2 7 ((k + ((if ((if (T.2 7 k.toNat) = 92 then 1 else 0 : Int)) = 0 then 0 else 1 : Int)) + 1) + ((if (T.2 7 ((k + ((if ((if (T.2 7 k.toNat) = 92 then 1 else 0 : Int)) = 0 then 0 else 1 : Int)) + 1) + 1).toNat) = 92 then 2 else 1 : Int))).toNat))), (6, .int (zI ((k + ((if ((if (T.2 7 k.toNat) = 92 then 1 else 0 : Int)) = 0 then 0 else 1 : Int)) + 1) + ((if (T.2 7 ((k + ((if ((if (T.2 7 k.toNat) = 92 then 1 else 0 : Int)) = 0 then 0 else 1 : Int)) + 1) + 1).toNat) = 92 then 2 else 1 : Int))))), (5, .int (zI ((if ((if alone = 0 then 0 else (if (T.2 7 k.toNat) = 45 then 1 else 0 : Int) : Int)) = 0 then (if ((if ((if (T.2 7 k.toNat) = 92 then 1 else 0 : Int)) = 0 then 0 else (if (zb (M_isClass (T.2 7 (k + ((if ((if (T.2 7 k.toNat) = 92 then 1 else 0 : Int)) = 0 then 0 else 1 : Int))).toNat))) = 0 then 0 else 1 : Int) : Int)) = 0 then (if to ≤ ((k + ((if ((if (T.2 7 k.toNat) = 92 then 1 else 0 : Int)) = 0 then 0 else 1 : Int)) + 1) + 1) then 0 else (if (T.2 7 (k + ((if ((if (T.2 7 k.toNat) = 92 then 1 else 0 : Int)) = 0 then 0 else 1 : Int)) + 1).toNat) = 45 then 1 else 0 : Int) : Int) else 0 : Int) else 0 : Int)))), (10, .int (zI ((if ((if (T.2 7 k.toNat) = 92 then 1 else 0 : Int)) = 0 then 0 else (if (zb (M_isClass (T.2 7 (k + ((if ((if (T.2 7 k.toNat) = 92 then 1 else 0 : Int)) = 0 then 0 else 1 : Int))).toNat))) = 0 then 0 else 1 : Int) : Int)))), (9, .int (zI (T.2 7 (k + ((if ((if (T.2 7 k.toNat) = 92 then 1 else 0 : Int)) = 0 then 0 else 1 : Int))).toNat))), (8, .int (zI ((if (T.2 7 k.toNat) = 92 then 1 else 0 : Int)))), (7, .int (zI ((if alone = 0 then 0 else (if (T.2 7 k.toNat) = 45 then 1 else 0 : Int) : Int)))), (0, .ref o), (1, .int (zI fr)), (2, .int (zI to)), (3, .int (zI x)), (4, .int (zI inn))]) B.1 B.2.1 dX7_inSet_182 hl (by decide) rfl (fun ls hl => ?_)
                    refine z_iinc (v := (k + ((if ((if (T.2 7 k.toNat) = 92 then 1 else 0 : Int)) = 0 then 0 else 1 : Int)) + 1) + ((if (T.2 7 ((k + ((if ((if (T.2 7 k.toNat) = 92 then 1 else 0 : Int)) = 0 then 0 else 1 : Int)) + 1) + 1).toNat) = 92 then 2 else 1 : Int)) + 1) (lv' := [(6, .int (zI ((k + ((if ((if (T.2 7 k.toNat) = 92 then 1 else 0 : Int)) = 0 then 0 else 1 : Int)) + 1) + ((if (T.2 7 ((k + ((if ((if (T.2 7 k.toNat) = 92 then 1 else 0 : Int)) = 0 then 0 else 1 : Int)) + 1) + 1).toNat) = 92 then 2 else 1 : Int)) + 1))), (11, .int (zI (T.2 7 ((k + ((if ((if (T.2 7 k.toNat) = 92 then 1 else 0 : Int)) = 0 then 0 else 1 : Int)) + 1) + ((if (T.2 7 ((k + ((if ((if (T.2 7 k.toNat) = 92 then 1 else 0 : Int)) = 0 then 0 else 1 : Int)) + 1) + 1).toNat) = 92 then 2 else 1 : Int))).toNat))), (5, .int (zI ((if ((if alone = 0 then 0 else (if (T.2 7 k.toNat) = 45 then 1 else 0 : Int) : Int)) = 0 then (if ((if ((if (T.2 7 k.toNat) = 92 then 1 else 0 : Int)) = 0 then 0 else (if (zb (M_isClass (T.2 7 (k + ((if ((if (T.2 7 k.toNat) = 92 then 1 else 0 : Int)) = 0 then 0 else 1 : Int))).toNat))) = 0 then 0 else 1 : Int) : Int)) = 0 then (if to ≤ ((k + ((if ((if (T.2 7 k.toNat) = 92 then 1 else 0 : Int)) = 0 then 0 else 1 : Int)) + 1) + 1) then 0 else (if (T.2 7 (k + ((if ((if (T.2 7 k.toNat) = 92 then 1 else 0 : Int)) = 0 then 0 else 1 : Int)) + 1).toNat) = 45 then 1 else 0 : Int) : Int) else 0 : Int) else 0 : Int)))), (10, .int (zI ((if ((if (T.2 7 k.toNat) = 92 then 1 else 0 : Int)) = 0 then 0 else (if (zb (M_isClass (T.2 7 (k + ((if ((if (T.2 7 k.toNat) = 92 then 1 else 0 : Int)) = 0 then 0 else 1 : Int))).toNat))) = 0 then 0 else 1 : Int) : Int)))), (9, .int (zI (T.2 7 (k + ((if ((if (T.2 7 k.toNat) = 92 then 1 else 0 : Int)) = 0 then 0 else 1 : Int))).toNat))), (8, .int (zI ((if (T.2 7 k.toNat) = 92 then 1 else 0 : Int)))), (7, .int (zI ((if alone = 0 then 0 else (if (T.2 7 k.toNat) = 45 then 1 else 0 : Int) : Int)))), (0, .ref o), (1, .int (zI fr)), (2, .int (zI to)), (3, .int (zI x)), (4, .int (zI inn))]) B.1 B.2.1 dX7_inSet_184 hl (k := 1) rfl rfl (by decide) rfl (fun ls hl => ?_)
                    refine lv_iload B.1 B.2.1 dX7_inSet_187 (lv_at hl 11 rfl) ?_
                    refine z_joinH (P := fun v H' locs' => v = (if inn = 0 then (if ((if ((if (T.2 7 k.toNat) = 92 then 1 else 0 : Int)) = 0 then 0 else (if (zb (M_isClass (T.2 7 (k + ((if ((if (T.2 7 k.toNat) = 92 then 1 else 0 : Int)) = 0 then 0 else 1 : Int))).toNat))) = 0 then 0 else 1 : Int) : Int)) = 0 then (if x < (T.2 7 (k + ((if ((if (T.2 7 k.toNat) = 92 then 1 else 0 : Int)) = 0 then 0 else 1 : Int))).toNat) then 0 else (if (T.2 7 ((k + ((if ((if (T.2 7 k.toNat) = 92 then 1 else 0 : Int)) = 0 then 0 else 1 : Int)) + 1) + ((if (T.2 7 ((k + ((if ((if (T.2 7 k.toNat) = 92 then 1 else 0 : Int)) = 0 then 0 else 1 : Int)) + 1) + 1).toNat) = 92 then 2 else 1 : Int))).toNat) < x then 0 else 1 : Int) : Int) else (if (M_inClass (T.2 7 (k + ((if ((if (T.2 7 k.toNat) = 92 then 1 else 0 : Int)) = 0 then 0 else 1 : Int))).toNat) x) = 0 then 0 else 1 : Int) : Int) else 1 : Int) ∧ mH D cy o q (mA o q) s.heap T H' locs') (pcJ := 226) (lsJ := ls) (stJ := []) (fun v_43 H locs hv_44 => ?_) (fun hJ_45 => ?_)
                    · --
                      obtain ⟨hv_44, hM⟩ := hv_44
                      have hb_46 : (if inn = 0 then (if ((if ((if (T.2 7 k.toNat) = 92 then 1 else 0 : Int)) = 0 then 0 else (if (zb (M_isClass (T.2 7 (k + ((if ((if (T.2 7 k.toNat) = 92 then 1 else 0 : Int)) = 0 then 0 else 1 : Int))).toNat))) = 0 then 0 else 1 : Int) : Int)) = 0 then (if x < (T.2 7 (k + ((if ((if (T.2 7 k.toNat) = 92 then 1 else 0 : Int)) = 0 then 0 else 1 : Int))).toNat) then 0 else (if (T.2 7 ((k + ((if ((if (T.2 7 k.toNat) = 92 then 1 else 0 : Int)) = 0 then 0 else 1 : Int)) + 1) + ((if (T.2 7 ((k + ((if ((if (T.2 7 k.toNat) = 92 then 1 else 0 : Int)) = 0 then 0 else 1 : Int)) + 1) + 1).toNat) = 92 then 2 else 1 : Int))).toNat) < x then 0 else 1 : Int) : Int) else (if (M_inClass (T.2 7 (k + ((if ((if (T.2 7 k.toNat) = 92 then 1 else 0 : Int)) = 0 then 0 else 1 : Int))).toNat) x) = 0 then 0 else 1 : Int) : Int) else 1 : Int) = 0 ∨ (if inn = 0 then (if ((if ((if (T.2 7 k.toNat) = 92 then 1 else 0 : Int)) = 0 then 0 else (if (zb (M_isClass (T.2 7 (k + ((if ((if (T.2 7 k.toNat) = 92 then 1 else 0 : Int)) = 0 then 0 else 1 : Int))).toNat))) = 0 then 0 else 1 : Int) : Int)) = 0 then (if x < (T.2 7 (k + ((if ((if (T.2 7 k.toNat) = 92 then 1 else 0 : Int)) = 0 then 0 else 1 : Int))).toNat) then 0 else (if (T.2 7 ((k + ((if ((if (T.2 7 k.toNat) = 92 then 1 else 0 : Int)) = 0 then 0 else 1 : Int)) + 1) + ((if (T.2 7 ((k + ((if ((if (T.2 7 k.toNat) = 92 then 1 else 0 : Int)) = 0 then 0 else 1 : Int)) + 1) + 1).toNat) = 92 then 2 else 1 : Int))).toNat) < x then 0 else 1 : Int) : Int) else (if (M_inClass (T.2 7 (k + ((if ((if (T.2 7 k.toNat) = 92 then 1 else 0 : Int)) = 0 then 0 else 1 : Int))).toNat) x) = 0 then 0 else 1 : Int) : Int) else 1 : Int) = 1 := by (repeat' split) <;> simp
                      have hv_44 := hv_44.symm
                      subst hv_44
                      refine lv_istore (lv' := [(4, .int (zI ((if inn = 0 then (if ((if ((if (T.2 7 k.toNat) = 92 then 1 else 0 : Int)) = 0 then 0 else (if (zb (M_isClass (T.2 7 (k + ((if ((if (T.2 7 k.toNat) = 92 then 1 else 0 : Int)) = 0 then 0 else 1 : Int))).toNat))) = 0 then 0 else 1 : Int) : Int)) = 0 then (if x < (T.2 7 (k + ((if ((if (T.2 7 k.toNat) = 92 then 1 else 0 : Int)) = 0 then 0 else 1 : Int))).toNat) then 0 else (if (T.2 7 ((k + ((if ((if (T.2 7 k.toNat) = 92 then 1 else 0 : Int)) = 0 then 0 else 1 : Int)) + 1) + ((if (T.2 7 ((k + ((if ((if (T.2 7 k.toNat) = 92 then 1 else 0 : Int)) = 0 then 0 else 1 : Int)) + 1) + 1).toNat) = 92 then 2 else 1 : Int))).toNat) < x then 0 else 1 : Int) : Int) else (if (M_inClass (T.2 7 (k + ((if ((if (T.2 7 k.toNat) = 92 then 1 else 0 : Int)) = 0 then 0 else 1 : Int))).toNat) x) = 0 then 0 else 1 : Int) : Int) else 1 : Int)))), (6, .int (zI ((k + ((if ((if (T.2 7 k.toNat) = 92 then 1 else 0 : Int)) = 0 then 0 else 1 : Int)) + 1) + ((if (T.2 7 ((k + ((if ((if (T.2 7 k.toNat) = 92 then 1 else 0 : Int)) = 0 then 0 else 1 : Int)) + 1) + 1).toNat) = 92 then 2 else 1 : Int)) + 1))), (11, .int (zI (T.2 7 ((k + ((if ((if (T.2 7 k.toNat) = 92 then 1 else 0 : Int)) = 0 then 0 else 1 : Int)) + 1) + ((if (T.2 7 ((k + ((if ((if (T.2 7 k.toNat) = 92 then 1 else 0 : Int)) = 0 then 0 else 1 : Int)) + 1) + 1).toNat) = 92 then 2 else 1 : Int))).toNat))), (5, .int (zI ((if ((if alone = 0 then 0 else (if (T.2 7 k.toNat) = 45 then 1 else 0 : Int) : Int)) = 0 then (if ((if ((if (T.2 7 k.toNat) = 92 then 1 else 0 : Int)) = 0 then 0 else (if (zb (M_isClass (T.2 7 (k + ((if ((if (T.2 7 k.toNat) = 92 then 1 else 0 : Int)) = 0 then 0 else 1 : Int))).toNat))) = 0 then 0 else 1 : Int) : Int)) = 0 then (if to ≤ ((k + ((if ((if (T.2 7 k.toNat) = 92 then 1 else 0 : Int)) = 0 then 0 else 1 : Int)) + 1) + 1) then 0 else (if (T.2 7 (k + ((if ((if (T.2 7 k.toNat) = 92 then 1 else 0 : Int)) = 0 then 0 else 1 : Int)) + 1).toNat) = 45 then 1 else 0 : Int) : Int) else 0 : Int) else 0 : Int)))), (10, .int (zI ((if ((if (T.2 7 k.toNat) = 92 then 1 else 0 : Int)) = 0 then 0 else (if (zb (M_isClass (T.2 7 (k + ((if ((if (T.2 7 k.toNat) = 92 then 1 else 0 : Int)) = 0 then 0 else 1 : Int))).toNat))) = 0 then 0 else 1 : Int) : Int)))), (9, .int (zI (T.2 7 (k + ((if ((if (T.2 7 k.toNat) = 92 then 1 else 0 : Int)) = 0 then 0 else 1 : Int))).toNat))), (8, .int (zI ((if (T.2 7 k.toNat) = 92 then 1 else 0 : Int)))), (7, .int (zI ((if alone = 0 then 0 else (if (T.2 7 k.toNat) = 45 then 1 else 0 : Int) : Int)))), (0, .ref o), (1, .int (zI fr)), (2, .int (zI to)), (3, .int (zI x))]) B.1 B.2.1 dX7_inSet_226 hl (by decide) rfl (fun ls hl => ?_)
                      refine lv_goto (tgt := 9) B.1 B.2.1 dX7_inSet_228 (by decide) ?_
                      have hq : M_inSetL fr to x T (n + 1) inn alone k = M_inSetL fr to x T n ((if inn = 0 then (if ((if ((if (T.2 7 k.toNat) = 92 then 1 else 0 : Int)) = 0 then 0 else (if (zb (M_isClass (T.2 7 (k + ((if ((if (T.2 7 k.toNat) = 92 then 1 else 0 : Int)) = 0 then 0 else 1 : Int))).toNat))) = 0 then 0 else 1 : Int) : Int)) = 0 then (if x < (T.2 7 (k + ((if ((if (T.2 7 k.toNat) = 92 then 1 else 0 : Int)) = 0 then 0 else 1 : Int))).toNat) then 0 else (if (T.2 7 ((k + ((if ((if (T.2 7 k.toNat) = 92 then 1 else 0 : Int)) = 0 then 0 else 1 : Int)) + 1) + ((if (T.2 7 ((k + ((if ((if (T.2 7 k.toNat) = 92 then 1 else 0 : Int)) = 0 then 0 else 1 : Int)) + 1) + 1).toNat) = 92 then 2 else 1 : Int))).toNat) < x then 0 else 1 : Int) : Int) else (if (M_inClass (T.2 7 (k + ((if ((if (T.2 7 k.toNat) = 92 then 1 else 0 : Int)) = 0 then 0 else 1 : Int))).toNat) x) = 0 then 0 else 1 : Int) : Int) else 1 : Int)) ((if ((if alone = 0 then 0 else (if (T.2 7 k.toNat) = 45 then 1 else 0 : Int) : Int)) = 0 then (if ((if ((if (T.2 7 k.toNat) = 92 then 1 else 0 : Int)) = 0 then 0 else (if (zb (M_isClass (T.2 7 (k + ((if ((if (T.2 7 k.toNat) = 92 then 1 else 0 : Int)) = 0 then 0 else 1 : Int))).toNat))) = 0 then 0 else 1 : Int) : Int)) = 0 then (if to ≤ ((k + ((if ((if (T.2 7 k.toNat) = 92 then 1 else 0 : Int)) = 0 then 0 else 1 : Int)) + 1) + 1) then 0 else (if (T.2 7 (k + ((if ((if (T.2 7 k.toNat) = 92 then 1 else 0 : Int)) = 0 then 0 else 1 : Int)) + 1).toNat) = 45 then 1 else 0 : Int) : Int) else 0 : Int) else 0 : Int)) ((k + ((if ((if (T.2 7 k.toNat) = 92 then 1 else 0 : Int)) = 0 then 0 else 1 : Int)) + 1) + ((if (T.2 7 ((k + ((if ((if (T.2 7 k.toNat) = 92 then 1 else 0 : Int)) = 0 then 0 else 1 : Int)) + 1) + 1).toNat) = 92 then 2 else 1 : Int)) + 1) := by rw [M_inSetL]; exact ((if_neg c_1).trans (if_neg c_24))
                      rw [hq] at hpost
                      exact ih ((if inn = 0 then (if ((if ((if (T.2 7 k.toNat) = 92 then 1 else 0 : Int)) = 0 then 0 else (if (zb (M_isClass (T.2 7 (k + ((if ((if (T.2 7 k.toNat) = 92 then 1 else 0 : Int)) = 0 then 0 else 1 : Int))).toNat))) = 0 then 0 else 1 : Int) : Int)) = 0 then (if x < (T.2 7 (k + ((if ((if (T.2 7 k.toNat) = 92 then 1 else 0 : Int)) = 0 then 0 else 1 : Int))).toNat) then 0 else (if (T.2 7 ((k + ((if ((if (T.2 7 k.toNat) = 92 then 1 else 0 : Int)) = 0 then 0 else 1 : Int)) + 1) + ((if (T.2 7 ((k + ((if ((if (T.2 7 k.toNat) = 92 then 1 else 0 : Int)) = 0 then 0 else 1 : Int)) + 1) + 1).toNat) = 92 then 2 else 1 : Int))).toNat) < x then 0 else 1 : Int) : Int) else (if (M_inClass (T.2 7 (k + ((if ((if (T.2 7 k.toNat) = 92 then 1 else 0 : Int)) = 0 then 0 else 1 : Int))).toNat) x) = 0 then 0 else 1 : Int) : Int) else 1 : Int)) ((if ((if alone = 0 then 0 else (if (T.2 7 k.toNat) = 45 then 1 else 0 : Int) : Int)) = 0 then (if ((if ((if (T.2 7 k.toNat) = 92 then 1 else 0 : Int)) = 0 then 0 else (if (zb (M_isClass (T.2 7 (k + ((if ((if (T.2 7 k.toNat) = 92 then 1 else 0 : Int)) = 0 then 0 else 1 : Int))).toNat))) = 0 then 0 else 1 : Int) : Int)) = 0 then (if to ≤ ((k + ((if ((if (T.2 7 k.toNat) = 92 then 1 else 0 : Int)) = 0 then 0 else 1 : Int)) + 1) + 1) then 0 else (if (T.2 7 (k + ((if ((if (T.2 7 k.toNat) = 92 then 1 else 0 : Int)) = 0 then 0 else 1 : Int)) + 1).toNat) = 45 then 1 else 0 : Int) : Int) else 0 : Int) else 0 : Int)) ((k + ((if ((if (T.2 7 k.toNat) = 92 then 1 else 0 : Int)) = 0 then 0 else 1 : Int)) + 1) + ((if (T.2 7 ((k + ((if ((if (T.2 7 k.toNat) = 92 then 1 else 0 : Int)) = 0 then 0 else 1 : Int)) + 1) + 1).toNat) = 92 then 2 else 1 : Int)) + 1) H locs ls (by omega) (by omega) (by omega) (by omega) (by omega) (by omega) (by omega) hM (lv_sub hl [8, 9, 10, 11, 0, 3, 1] rfl) hpost
                    · --
                      refine z_if_ne (tgt := 221) B.1 B.2.1 (zr_of (by omega) (by omega)) dX7_inSet_189 (by decide) (fun c_47 => ?_) (fun c_47 => ?_)
                      · --
                        refine z_iconst B.1 B.2.1 dX7_inSet_221 ?_
                        refine lv_goto (tgt := 226) B.1 B.2.1 dX7_inSet_222 (by decide) ?_
                        exact hJ_45 _ _ _ ⟨(if_neg c_47).symm, hM⟩
                      · --
                        refine lv_iload B.1 B.2.1 dX7_inSet_192 (lv_at hl 3 rfl) ?_
                        refine z_if_eq (tgt := 209) B.1 B.2.1 (zr_of (by omega) (by omega)) dX7_inSet_194 (by decide) (fun c_48 => ?_) (fun c_48 => ?_)
                        · --
                          refine lv_iload_n B.1 B.2.1 dX7_inSet_209 rfl (lv_at hl 10 rfl) ?_
                          refine lv_iload B.1 B.2.1 dX7_inSet_210 (lv_at hl 4 rfl) ?_
                          refine z_icmp_lt (tgt := 225) B.1 B.2.1 (zr_of (by omega) (by omega)) (zr_of (by omega) (by omega)) dX7_inSet_212 (by decide) (fun c_49 => ?_) (fun c_49 => ?_)
                          · --
                            refine z_iconst B.1 B.2.1 dX7_inSet_225 ?_
                            exact hJ_45 _ _ _ ⟨((if_pos c_47).trans ((if_pos c_48).trans (if_pos c_49))).symm, hM⟩
                          · --
                            refine lv_iload_n B.1 B.2.1 dX7_inSet_215 rfl (lv_at hl 10 rfl) ?_
                            refine lv_iload B.1 B.2.1 dX7_inSet_216 (lv_at hl 1 rfl) ?_
                            refine z_icmp_gt (tgt := 225) B.1 B.2.1 (zr_of (by omega) (by omega)) (zr_of (by omega) (by omega)) dX7_inSet_218 (by decide) (fun c_50 => ?_) (fun c_50 => ?_)
                            · --
                              refine z_iconst B.1 B.2.1 dX7_inSet_225 ?_
                              exact hJ_45 _ _ _ ⟨((if_pos c_47).trans ((if_pos c_48).trans ((if_neg c_49).trans (if_pos c_50)))).symm, hM⟩
                            · --
                              refine z_iconst B.1 B.2.1 dX7_inSet_221 ?_
                              refine lv_goto (tgt := 226) B.1 B.2.1 dX7_inSet_222 (by decide) ?_
                              exact hJ_45 _ _ _ ⟨((if_pos c_47).trans ((if_pos c_48).trans ((if_neg c_49).trans (if_neg c_50)))).symm, hM⟩
                        · --
                          refine lv_iload B.1 B.2.1 dX7_inSet_197 (lv_at hl 4 rfl) ?_
                          refine lv_iload_n B.1 B.2.1 dX7_inSet_199 rfl (lv_at hl 10 rfl) ?_
                          refine s_calli (As := [.int (zI (T.2 7 (k + ((if ((if (T.2 7 k.toNat) = 92 then 1 else 0 : Int)) = 0 then 0 else 1 : Int))).toNat)), .int (zI x)]) (rest := []) B (cX7_inClass_ok l (T.2 7 (k + ((if ((if (T.2 7 k.toNat) = 92 then 1 else 0 : Int)) = 0 then 0 else 1 : Int))).toNat) x (by show -100000 ≤ x; omega) (by show x ≤ 100000; omega) (by show -100000 ≤ (T.2 7 (k + ((if ((if (T.2 7 k.toNat) = 92 then 1 else 0 : Int)) = 0 then 0 else 1 : Int))).toNat); omega) (by show (T.2 7 (k + ((if ((if (T.2 7 k.toNat) = 92 then 1 else 0 : Int)) = 0 then 0 else 1 : Int))).toNat) ≤ 100000; omega)) (cs7 2 B rfl w7_mRX7_205 w7_st_yX7_inClass w7_cd_yX7_inClass rfl rfl (by decide +kernel) ⟨Nat.le_of_ble_eq_true rfl, Nat.le_of_ble_eq_true rfl⟩) rfl hl.1 rfl (Nat.le_of_ble_eq_true rfl) dX7_inSet_200 ⟨Nat.zero_le _, Nat.zero_le _⟩ (fun z_51 hz_52 => ?_)
                          have hz_52 := hz_52.symm
                          subst hz_52
                          have f_53 := M_inClass_01 (T.2 7 (k + ((if ((if (T.2 7 k.toNat) = 92 then 1 else 0 : Int)) = 0 then 0 else 1 : Int))).toNat) x
                          refine z_if_eq (tgt := 225) B.1 B.2.1 (zr_of (by omega) (by omega)) dX7_inSet_203 (by decide) (fun c_54 => ?_) (fun c_54 => ?_)
                          · --
                            refine z_iconst B.1 B.2.1 dX7_inSet_225 ?_
                            exact hJ_45 _ _ _ ⟨((if_pos c_47).trans ((if_neg c_48).trans (if_pos c_54))).symm, hM⟩
                          · --
                            refine lv_goto (tgt := 221) B.1 B.2.1 dX7_inSet_206 (by decide) ?_
                            refine z_iconst B.1 B.2.1 dX7_inSet_221 ?_
                            refine lv_goto (tgt := 226) B.1 B.2.1 dX7_inSet_222 (by decide) ?_
                            exact hJ_45 _ _ _ ⟨((if_pos c_47).trans ((if_neg c_48).trans (if_neg c_54))).symm, hM⟩
                  · --
                    refine z_icmp_ne (tgt := 171) B.1 B.2.1 (zr_of (by omega) (by omega)) (zr_of (by decide) (by decide)) dX7_inSet_164 (by decide) (fun c_55 => ?_) (fun c_55 => ?_)
                    · --
                      refine z_iconst B.1 B.2.1 dX7_inSet_171 ?_
                      exact hJ_40 _ _ _ ⟨(if_neg c_55).symm, hM⟩
                    · --
                      refine z_iconst B.1 B.2.1 dX7_inSet_167 ?_
                      refine lv_goto (tgt := 172) B.1 B.2.1 dX7_inSet_168 (by decide) ?_
                      exact hJ_40 _ _ _ ⟨(if_pos c_55).symm, hM⟩
              · --
                refine z_if_ne (tgt := 139) B.1 B.2.1 (zr_of (by omega) (by omega)) dX7_inSet_107 (by decide) (fun c_56 => ?_) (fun c_56 => ?_)
                · --
                  refine z_iconst B.1 B.2.1 dX7_inSet_139 ?_
                  exact hJ_22 _ _ _ ⟨(if_neg c_56).symm, hM⟩
                · --
                  refine lv_iload B.1 B.2.1 dX7_inSet_110 (lv_at hl 0 rfl) ?_
                  refine z_if_ne (tgt := 139) B.1 B.2.1 (zr_of (by omega) (by omega)) dX7_inSet_112 (by decide) (fun c_57 => ?_) (fun c_57 => ?_)
                  · --
                    refine z_iconst B.1 B.2.1 dX7_inSet_139 ?_
                    exact hJ_22 _ _ _ ⟨((if_pos c_56).trans (if_neg c_57)).symm, hM⟩
                  · --
                    refine lv_iload B.1 B.2.1 dX7_inSet_115 (lv_at hl 1 rfl) ?_
                    refine z_iconst B.1 B.2.1 dX7_inSet_117 ?_
                    refine z_iadd (x := (k + ((if ((if (T.2 7 k.toNat) = 92 then 1 else 0 : Int)) = 0 then 0 else 1 : Int)) + 1) + 1) B.1 B.2.1 rfl dX7_inSet_118 ?_
                    refine lv_iload_n B.1 B.2.1 dX7_inSet_119 rfl (lv_at hl 7 rfl) ?_
                    refine z_icmp_ge (tgt := 139) B.1 B.2.1 (zr_of (by omega) (by omega)) (zr_of (by omega) (by omega)) dX7_inSet_120 (by decide) (fun c_58 => ?_) (fun c_58 => ?_)
                    · --
                      refine z_iconst B.1 B.2.1 dX7_inSet_139 ?_
                      exact hJ_22 _ _ _ ⟨((if_pos c_56).trans ((if_pos c_57).trans (if_pos c_58))).symm, hM⟩
                    · --
                      refine lv_aload_n B.1 B.2.1 dX7_inSet_123 rfl (lv_at hl 5 rfl) ?_
                      refine m_getr B (i7 _) hK hM 7 (by decide) rfl (List.mem_cons_of_mem _ w7_fRX7_16) dX7_inSet_124 ?_
                      refine lv_iload B.1 B.2.1 dX7_inSet_127 (lv_at hl 1 rfl) ?_
                      have f_59 := hsg (k + ((if ((if (T.2 7 k.toNat) = 92 then 1 else 0 : Int)) = 0 then 0 else 1 : Int)) + 1).toNat
                      refine m_cald (x := T.2 7 (k + ((if ((if (T.2 7 k.toNat) = 92 then 1 else 0 : Int)) = 0 then 0 else 1 : Int)) + 1).toNat) B hK hM 2 7 rfl rfl (by omega) (by simp only [mN]; omega) rfl dX7_inSet_129 ?_
                      refine z_bipush B.1 B.2.1 (by decide) dX7_inSet_130 ?_
                      refine z_icmp_ne (tgt := 139) B.1 B.2.1 (zr_of (by omega) (by omega)) (zr_of (by decide) (by decide)) dX7_inSet_132 (by decide) (fun c_60 => ?_) (fun c_60 => ?_)
                      · --
                        refine z_iconst B.1 B.2.1 dX7_inSet_139 ?_
                        exact hJ_22 _ _ _ ⟨((if_pos c_56).trans ((if_pos c_57).trans ((if_neg c_58).trans (if_neg c_60)))).symm, hM⟩
                      · --
                        refine z_iconst B.1 B.2.1 dX7_inSet_135 ?_
                        refine lv_goto (tgt := 140) B.1 B.2.1 dX7_inSet_136 (by decide) ?_
                        exact hJ_22 _ _ _ ⟨((if_pos c_56).trans ((if_pos c_57).trans ((if_neg c_58).trans (if_pos c_60)))).symm, hM⟩
            · --
              refine z_if_eq (tgt := 102) B.1 B.2.1 (zr_of (by omega) (by omega)) dX7_inSet_87 (by decide) (fun c_61 => ?_) (fun c_61 => ?_)
              · --
                refine z_iconst B.1 B.2.1 dX7_inSet_102 ?_
                exact hJ_18 _ _ _ ⟨(if_pos c_61).symm, hM⟩
              · --
                refine lv_iload B.1 B.2.1 dX7_inSet_90 (lv_at hl 1 rfl) ?_
                refine s_calli (As := [.int (zI (T.2 7 (k + ((if ((if (T.2 7 k.toNat) = 92 then 1 else 0 : Int)) = 0 then 0 else 1 : Int))).toNat))]) (rest := []) B (cX7_isClass_ok l (T.2 7 (k + ((if ((if (T.2 7 k.toNat) = 92 then 1 else 0 : Int)) = 0 then 0 else 1 : Int))).toNat) (by show -100000 ≤ (T.2 7 (k + ((if ((if (T.2 7 k.toNat) = 92 then 1 else 0 : Int)) = 0 then 0 else 1 : Int))).toNat); omega) (by show (T.2 7 (k + ((if ((if (T.2 7 k.toNat) = 92 then 1 else 0 : Int)) = 0 then 0 else 1 : Int))).toNat) ≤ 100000; omega)) (cs7 1 B rfl w7_mRX7_165 w7_st_yX7_isClass w7_cd_yX7_isClass rfl rfl (by decide +kernel) ⟨Nat.le_of_ble_eq_true rfl, Nat.le_of_ble_eq_true rfl⟩) rfl hl.1 rfl (Nat.le_of_ble_eq_true rfl) dX7_inSet_92 ⟨Nat.zero_le _, Nat.zero_le _⟩ (fun z_62 hz_63 => ?_)
                have hz_63 := hz_63.symm
                subst hz_63
                have f_64 := zb_01 (M_isClass (T.2 7 (k + ((if ((if (T.2 7 k.toNat) = 92 then 1 else 0 : Int)) = 0 then 0 else 1 : Int))).toNat))
                refine z_if_eq (tgt := 102) B.1 B.2.1 (zr_of (by omega) (by omega)) dX7_inSet_95 (by decide) (fun c_65 => ?_) (fun c_65 => ?_)
                · --
                  refine z_iconst B.1 B.2.1 dX7_inSet_102 ?_
                  exact hJ_18 _ _ _ ⟨((if_neg c_61).trans (if_pos c_65)).symm, hM⟩
                · --
                  refine z_iconst B.1 B.2.1 dX7_inSet_98 ?_
                  refine lv_goto (tgt := 103) B.1 B.2.1 dX7_inSet_99 (by decide) ?_
                  exact hJ_18 _ _ _ ⟨((if_neg c_61).trans (if_neg c_65)).symm, hM⟩
          · --
            refine z_if_eq (tgt := 69) B.1 B.2.1 (zr_of (by omega) (by omega)) dX7_inSet_62 (by decide) (fun c_66 => ?_) (fun c_66 => ?_)
            · --
              refine z_iconst B.1 B.2.1 dX7_inSet_69 ?_
              exact hJ_13 _ _ _ ⟨(if_pos c_66).symm, hM⟩
            · --
              refine z_iconst B.1 B.2.1 dX7_inSet_65 ?_
              refine lv_goto (tgt := 70) B.1 B.2.1 dX7_inSet_66 (by decide) ?_
              exact hJ_13 _ _ _ ⟨(if_neg c_66).symm, hM⟩
        · --
          refine z_icmp_ne (tgt := 55) B.1 B.2.1 (zr_of (by omega) (by omega)) (zr_of (by decide) (by decide)) dX7_inSet_48 (by decide) (fun c_67 => ?_) (fun c_67 => ?_)
          · --
            refine z_iconst B.1 B.2.1 dX7_inSet_55 ?_
            exact hJ_9 _ _ _ ⟨(if_neg c_67).symm, hM⟩
          · --
            refine z_iconst B.1 B.2.1 dX7_inSet_51 ?_
            refine lv_goto (tgt := 56) B.1 B.2.1 dX7_inSet_52 (by decide) ?_
            exact hJ_9 _ _ _ ⟨(if_pos c_67).symm, hM⟩
      · --
        refine z_if_eq (tgt := 36) B.1 B.2.1 (zr_of (by omega) (by omega)) dX7_inSet_17 (by decide) (fun c_68 => ?_) (fun c_68 => ?_)
        · --
          refine z_iconst B.1 B.2.1 dX7_inSet_36 ?_
          exact hJ_4 _ _ _ ⟨(if_pos c_68).symm, hM⟩
        · --
          refine lv_aload_n B.1 B.2.1 dX7_inSet_20 rfl (lv_at hl 0 rfl) ?_
          refine m_getr B (i7 _) hK hM 7 (by decide) rfl (List.mem_cons_of_mem _ w7_fRX7_16) dX7_inSet_21 ?_
          refine lv_iload B.1 B.2.1 dX7_inSet_24 (lv_at hl 6 rfl) ?_
          have f_69 := hsg k.toNat
          refine m_cald (x := T.2 7 k.toNat) B hK hM 2 7 rfl rfl (by omega) (by simp only [mN]; omega) rfl dX7_inSet_26 ?_
          refine z_bipush B.1 B.2.1 (by decide) dX7_inSet_27 ?_
          refine z_icmp_ne (tgt := 36) B.1 B.2.1 (zr_of (by omega) (by omega)) (zr_of (by decide) (by decide)) dX7_inSet_29 (by decide) (fun c_70 => ?_) (fun c_70 => ?_)
          · --
            refine z_iconst B.1 B.2.1 dX7_inSet_36 ?_
            exact hJ_4 _ _ _ ⟨((if_neg c_68).trans (if_neg c_70)).symm, hM⟩
          · --
            refine z_iconst B.1 B.2.1 dX7_inSet_32 ?_
            refine lv_goto (tgt := 37) B.1 B.2.1 dX7_inSet_33 (by decide) ?_
            exact hJ_4 _ _ _ ⟨((if_neg c_68).trans (if_pos c_70)).symm, hM⟩
def M_inSet (fr to x : Int) (S : MSt) : Int := M_inSetL fr to x S (to - fr).toNat 0 1 fr
set_option maxHeartbeats 4000000 in
set_option maxRecDepth 100000 in
theorem cX7_inSet_ok (l : Launch) (D : va_G) (cy : Nat → ClassId) (o : Nat) (q : Nat → Nat) (S : MSt) (fr to x : Int) (hf0 : 0 ≤ fr) (hf1 : fr ≤ 41) (hto0 : 0 ≤ to) (hto : to ≤ 39) (hx0 : -1000 ≤ x) (hx1 : x ≤ 1000) (hsg : ∀ j, 0 ≤ S.2 7 j ∧ S.2 7 j ≤ 126) : mMi l D cy o q yX7_inSet (.code yX7_inSet cX7_inSet 12 (some .boolean) :: TB7) ({ frames := 2, cells := 0, slots := 0, locals := 42 }) S [.int (zI fr), .int (zI to), .int (zI x)] (fun r S' => r = M_inSet fr to x S ∧ S' = S) := by
  refine m_of (cc := cX7_inSet) (maxL := 12) (ret := (some .boolean)) (by decide) rfl rfl (Nat.le_of_ble_eq_true rfl) ?_
  intro p e s m args below meth c ls B hK hM hl
  have hl : lv_has ls 12 [(0, .ref o), (1, .int (zI fr)), (2, .int (zI to)), (3, .int (zI x))] := hl
  refine z_iconst B.1 B.2.1 dX7_inSet_0 ?_
  refine lv_istore (lv' := [(4, .int (zI 0)), (0, .ref o), (1, .int (zI fr)), (2, .int (zI to)), (3, .int (zI x))]) B.1 B.2.1 dX7_inSet_1 hl (by decide) rfl (fun ls hl => ?_)
  refine z_iconst B.1 B.2.1 dX7_inSet_3 ?_
  refine lv_istore (lv' := [(5, .int (zI 1)), (4, .int (zI 0)), (0, .ref o), (1, .int (zI fr)), (2, .int (zI to)), (3, .int (zI x))]) B.1 B.2.1 dX7_inSet_4 hl (by decide) rfl (fun ls hl => ?_)
  refine lv_iload_n B.1 B.2.1 dX7_inSet_6 rfl (lv_at hl 3 rfl) ?_
  refine lv_istore (lv' := [(6, .int (zI fr)), (5, .int (zI 1)), (4, .int (zI 0)), (0, .ref o), (1, .int (zI fr)), (2, .int (zI to)), (3, .int (zI x))]) B.1 B.2.1 dX7_inSet_7 hl (by decide) rfl (fun ls hl => ?_)
  exact lp7_inSet l D cy o q fr to x S hto0 hto hsg hx0 hx1 B hK _ (to - fr).toNat 0 1 fr _ _ ls (by omega) (by omega) (by omega) (by omega) (by omega) (by omega) (by omega) hM (lv_sub hl [3, 4, 5, 6, 2, 1, 0] rfl) ⟨rfl, rfl⟩
theorem ite01 {c : Prop} [Decidable c] {a b : Int} (ha : a = 0 ∨ a = 1) (hb : b = 0 ∨ b = 1) : (if c then a else b) = 0 ∨ (if c then a else b) = 1 := by
  split
  · exact ha
  · exact hb
theorem M_inSetL_01 (fr to x : Int) (T : MSt) : ∀ (n : Nat) (inn alone k : Int), (inn = 0 ∨ inn = 1) → M_inSetL fr to x T n inn alone k = 0 ∨ M_inSetL fr to x T n inn alone k = 1 := by
  intro n
  induction n with
  | zero => intro inn alone k h; exact h
  | succ n ih =>
    intro inn alone k h
    rw [M_inSetL]
    refine ite01 h (ite01 (ih _ _ _ ?_) (ih _ _ _ ?_))
    all_goals (repeat' (first | exact Or.inl rfl | exact Or.inr rfl | apply ite01))
theorem M_inSet_01 (fr to x : Int) (S : MSt) : M_inSet fr to x S = 0 ∨ M_inSet fr to x S = 1 := M_inSetL_01 fr to x S _ _ _ _ (Or.inl rfl)
def M_fits (k x : Int) (S : MSt) : Int := (if (S.2 8 k.toNat) = 3 then (if x = (S.2 9 k.toNat) then 1 else 0 : Int) else (if (S.2 8 k.toNat) = 4 then (if (M_has 2 S) = 0 then 1 else (if x = 47 then 0 else 1 : Int) : Int) else (if (S.2 8 k.toNat) = 5 then M_inClass (S.2 9 k.toNat) x else M_inSet (S.2 9 k.toNat) (S.2 10 k.toNat) x S)))
set_option maxHeartbeats 4000000 in
set_option maxRecDepth 100000 in
theorem cX7_fits_ok (l : Launch) (D : va_G) (cy : Nat → ClassId) (o : Nat) (q : Nat → Nat) (S : MSt) (k x : Int) (hk0 : 0 ≤ k) (hk1 : k < 220) (ho0 : 3 ≤ S.2 8 k.toNat) (ho1 : S.2 8 k.toNat ≤ 6) (ha0 : 0 ≤ S.2 9 k.toNat) (ha1 : S.2 9 k.toNat ≤ 1000) (hb0 : 0 ≤ S.2 10 k.toNat) (hse : S.2 8 k.toNat = 6 → S.2 9 k.toNat ≤ 41 ∧ S.2 10 k.toNat ≤ 39) (hb1 : S.2 10 k.toNat ≤ 100000000) (hg0 : 0 ≤ S.1 6) (hg1 : S.1 6 ≤ 7) (hsg : ∀ j, 0 ≤ S.2 7 j ∧ S.2 7 j ≤ 126) (hx0 : -1000 ≤ x) (hx1 : x ≤ 1000) : mMi l D cy o q yX7_fits (.code yX7_fits cX7_fits 3 (some .boolean) :: TB7) ({ frames := 3, cells := 0, slots := 0, locals := 73 }) S [.int (zI k), .int (zI x)] (fun r S' => r = M_fits k x S ∧ S' = S) := by
  refine m_of (cc := cX7_fits) (maxL := 3) (ret := (some .boolean)) (by decide) rfl rfl (Nat.le_of_ble_eq_true rfl) ?_
  intro p e s m args below meth c ls B hK hM hl
  have hl : lv_has ls 3 [(0, .ref o), (1, .int (zI k)), (2, .int (zI x))] := hl
  refine lv_aload_n B.1 B.2.1 dX7_fits_0 rfl (lv_at hl 0 rfl) ?_
  refine m_getr B (i7 _) hK hM 8 (by decide) rfl (List.mem_cons_of_mem _ w7_fRX7_19) dX7_fits_1 ?_
  refine lv_iload_n B.1 B.2.1 dX7_fits_4 rfl (lv_at hl 1 rfl) ?_
  refine m_iald (x := S.2 8 k.toNat) B hK hM 3 8 rfl rfl (by omega) (by simp only [mN]; omega) rfl dX7_fits_5 ?_
  rcases (show (S.2 8 k.toNat) = 3 ∨ (S.2 8 k.toNat) = 4 ∨ (S.2 8 k.toNat) = 5 ∨ ((S.2 8 k.toNat) < 3 ∨ 5 < (S.2 8 k.toNat)) by omega) with c_1 | c_1 | c_1 | c_1
  · --
    refine z_tableIn (tgt := 32) (off := 26) B.1 B.2.1 (zr_of (by omega) (by omega)) dX7_fits_6 (by omega) (by omega) (by rw [c_1]; rfl) (by decide) ?_
    refine lv_iload_n B.1 B.2.1 dX7_fits_32 rfl (lv_at hl 2 rfl) ?_
    refine lv_aload_n B.1 B.2.1 dX7_fits_33 rfl (lv_at hl 0 rfl) ?_
    refine m_getr B (i7 _) hK hM 9 (by decide) rfl (List.mem_cons_of_mem _ w7_fRX7_23) dX7_fits_34 ?_
    refine lv_iload_n B.1 B.2.1 dX7_fits_37 rfl (lv_at hl 1 rfl) ?_
    refine m_iald (x := S.2 9 k.toNat) B hK hM 4 9 rfl rfl (by omega) (by simp only [mN]; omega) rfl dX7_fits_38 ?_
    refine z_joinH (P := fun v H' locs' => v = (if x = (S.2 9 k.toNat) then 1 else 0 : Int) ∧ mH D cy o q (mA o q) s.heap S H' locs') (pcJ := 47) (lsJ := ls) (stJ := []) (fun v_2 H locs hv_3 => ?_) (fun hJ_4 => ?_)
    · --
      obtain ⟨hv_3, hM⟩ := hv_3
      have hb_5 : (if x = (S.2 9 k.toNat) then 1 else 0 : Int) = 0 ∨ (if x = (S.2 9 k.toNat) then 1 else 0 : Int) = 1 := by (repeat' split) <;> simp
      have hv_3 := hv_3.symm
      subst hv_3
      exact m_retz B hM (by omega) (⟨by unfold M_fits; exact (if_pos c_1).symm, rfl⟩) dX7_fits_47
    · --
      refine z_icmp_ne (tgt := 46) B.1 B.2.1 (zr_of (by omega) (by omega)) (zr_of (by omega) (by omega)) dX7_fits_39 (by decide) (fun c_6 => ?_) (fun c_6 => ?_)
      · --
        refine z_iconst B.1 B.2.1 dX7_fits_46 ?_
        exact hJ_4 _ _ _ ⟨(if_neg c_6).symm, hM⟩
      · --
        refine z_iconst B.1 B.2.1 dX7_fits_42 ?_
        refine lv_goto (tgt := 47) B.1 B.2.1 dX7_fits_43 (by decide) ?_
        exact hJ_4 _ _ _ ⟨(if_pos c_6).symm, hM⟩
  · --
    have n_7 : ¬ (S.2 8 k.toNat) = 3 := by omega
    refine z_tableIn (tgt := 48) (off := 42) B.1 B.2.1 (zr_of (by omega) (by omega)) dX7_fits_6 (by omega) (by omega) (by rw [c_1]; rfl) (by decide) ?_
    refine lv_aload_n B.1 B.2.1 dX7_fits_48 rfl (lv_at hl 0 rfl) ?_
    refine z_iconst B.1 B.2.1 dX7_fits_49 ?_
    refine m_calli (As := [.int (zI 2)]) (rest := []) B hK hM (cX7_has_ok l D cy o q S 2 (by show 0 ≤ 2; omega) (by show 2 ≤ 7; omega) (by show 0 ≤ (S.1 6); omega) (by show (S.1 6) ≤ 7; omega)) (cw7 1 B w7_mRX7_209 w7_im_yX7_has w7_sl_yX7_has w7_cd_yX7_has rfl rfl (by decide +kernel) ⟨Nat.le_of_ble_eq_true rfl, Nat.le_of_ble_eq_true rfl⟩) rfl hl.1 rfl (Nat.le_of_ble_eq_true rfl) dX7_fits_50 ⟨Nat.zero_le _, Nat.zero_le _⟩ (fun z_10 S_9 H locs hp_8 hM => ?_)
    obtain ⟨hp_8, he_hp_8⟩ := hp_8
    have he_hp_8 := he_hp_8.symm
    subst he_hp_8
    have hp_8 : M_has 2 S = z_10 := hp_8.symm
    subst hp_8
    have f_11 := M_has_01 2 S
    refine z_joinH (P := fun v H' locs' => v = (if (M_has 2 S) = 0 then 1 else (if x = 47 then 0 else 1 : Int) : Int) ∧ mH D cy o q (mA o q) s.heap S H' locs') (pcJ := 67) (lsJ := ls) (stJ := []) (fun v_12 H locs hv_13 => ?_) (fun hJ_14 => ?_)
    · --
      obtain ⟨hv_13, hM⟩ := hv_13
      have hb_15 : (if (M_has 2 S) = 0 then 1 else (if x = 47 then 0 else 1 : Int) : Int) = 0 ∨ (if (M_has 2 S) = 0 then 1 else (if x = 47 then 0 else 1 : Int) : Int) = 1 := by (repeat' split) <;> simp
      have hv_13 := hv_13.symm
      subst hv_13
      exact m_retz B hM (by omega) (⟨by unfold M_fits; exact ((if_neg n_7).trans (if_pos c_1)).symm, rfl⟩) dX7_fits_67
    · --
      refine z_if_eq (tgt := 62) B.1 B.2.1 (zr_of (by omega) (by omega)) dX7_fits_53 (by decide) (fun c_16 => ?_) (fun c_16 => ?_)
      · --
        refine z_iconst B.1 B.2.1 dX7_fits_62 ?_
        refine lv_goto (tgt := 67) B.1 B.2.1 dX7_fits_63 (by decide) ?_
        exact hJ_14 _ _ _ ⟨(if_pos c_16).symm, hM⟩
      · --
        refine lv_iload_n B.1 B.2.1 dX7_fits_56 rfl (lv_at hl 2 rfl) ?_
        refine z_bipush B.1 B.2.1 (by decide) dX7_fits_57 ?_
        refine z_icmp_eq (tgt := 66) B.1 B.2.1 (zr_of (by omega) (by omega)) (zr_of (by decide) (by decide)) dX7_fits_59 (by decide) (fun c_17 => ?_) (fun c_17 => ?_)
        · --
          refine z_iconst B.1 B.2.1 dX7_fits_66 ?_
          exact hJ_14 _ _ _ ⟨((if_neg c_16).trans (if_pos c_17)).symm, hM⟩
        · --
          refine z_iconst B.1 B.2.1 dX7_fits_62 ?_
          refine lv_goto (tgt := 67) B.1 B.2.1 dX7_fits_63 (by decide) ?_
          exact hJ_14 _ _ _ ⟨((if_neg c_16).trans (if_neg c_17)).symm, hM⟩
  · --
    have n_18 : ¬ (S.2 8 k.toNat) = 3 := by omega
    have n_19 : ¬ (S.2 8 k.toNat) = 4 := by omega
    refine z_tableIn (tgt := 68) (off := 62) B.1 B.2.1 (zr_of (by omega) (by omega)) dX7_fits_6 (by omega) (by omega) (by rw [c_1]; rfl) (by decide) ?_
    refine lv_aload_n B.1 B.2.1 dX7_fits_68 rfl (lv_at hl 0 rfl) ?_
    refine m_getr B (i7 _) hK hM 9 (by decide) rfl (List.mem_cons_of_mem _ w7_fRX7_23) dX7_fits_69 ?_
    refine lv_iload_n B.1 B.2.1 dX7_fits_72 rfl (lv_at hl 1 rfl) ?_
    refine m_iald (x := S.2 9 k.toNat) B hK hM 4 9 rfl rfl (by omega) (by simp only [mN]; omega) rfl dX7_fits_73 ?_
    refine lv_iload_n B.1 B.2.1 dX7_fits_74 rfl (lv_at hl 2 rfl) ?_
    refine s_calli (As := [.int (zI (S.2 9 k.toNat)), .int (zI x)]) (rest := []) B (cX7_inClass_ok l (S.2 9 k.toNat) x (by show -100000 ≤ x; omega) (by show x ≤ 100000; omega) (by show -100000 ≤ (S.2 9 k.toNat); omega) (by show (S.2 9 k.toNat) ≤ 100000; omega)) (cs7 2 B rfl w7_mRX7_205 w7_st_yX7_inClass w7_cd_yX7_inClass rfl rfl (by decide +kernel) ⟨Nat.le_of_ble_eq_true rfl, Nat.le_of_ble_eq_true rfl⟩) rfl hl.1 rfl (Nat.le_of_ble_eq_true rfl) dX7_fits_75 ⟨Nat.zero_le _, Nat.zero_le _⟩ (fun z_20 hz_21 => ?_)
    have hz_21 := hz_21.symm
    subst hz_21
    have f_22 := M_inClass_01 (S.2 9 k.toNat) x
    exact m_retz B hM (by omega) (⟨by unfold M_fits; exact ((if_neg n_18).trans ((if_neg n_19).trans (if_pos c_1))).symm, rfl⟩) dX7_fits_78
  · --
    have n_23 : ¬ (S.2 8 k.toNat) = 3 := by omega
    have n_24 : ¬ (S.2 8 k.toNat) = 4 := by omega
    have n_25 : ¬ (S.2 8 k.toNat) = 5 := by omega
    refine z_tableOut (tgt := 79) B.1 B.2.1 (zr_of (by omega) (by omega)) dX7_fits_6 (by omega) (by decide) ?_
    have hse2 := hse (by omega)
    refine lv_aload_n B.1 B.2.1 dX7_fits_79 rfl (lv_at hl 0 rfl) ?_
    refine lv_aload_n B.1 B.2.1 dX7_fits_80 rfl (lv_at hl 0 rfl) ?_
    refine m_getr B (i7 _) hK hM 9 (by decide) rfl (List.mem_cons_of_mem _ w7_fRX7_23) dX7_fits_81 ?_
    refine lv_iload_n B.1 B.2.1 dX7_fits_84 rfl (lv_at hl 1 rfl) ?_
    refine m_iald (x := S.2 9 k.toNat) B hK hM 4 9 rfl rfl (by omega) (by simp only [mN]; omega) rfl dX7_fits_85 ?_
    refine lv_aload_n B.1 B.2.1 dX7_fits_86 rfl (lv_at hl 0 rfl) ?_
    refine m_getr B (i7 _) hK hM 10 (by decide) rfl (List.mem_cons_of_mem _ w7_fRX7_26) dX7_fits_87 ?_
    refine lv_iload_n B.1 B.2.1 dX7_fits_90 rfl (lv_at hl 1 rfl) ?_
    refine m_iald (x := S.2 10 k.toNat) B hK hM 5 10 rfl rfl (by omega) (by simp only [mN]; omega) rfl dX7_fits_91 ?_
    refine lv_iload_n B.1 B.2.1 dX7_fits_92 rfl (lv_at hl 2 rfl) ?_
    refine m_calli (As := [.int (zI (S.2 9 k.toNat)), .int (zI (S.2 10 k.toNat)), .int (zI x)]) (rest := []) B hK hM (cX7_inSet_ok l D cy o q S (S.2 9 k.toNat) (S.2 10 k.toNat) x (by show 0 ≤ (S.2 9 k.toNat); omega) (by show (S.2 9 k.toNat) ≤ 41; omega) (by show 0 ≤ (S.2 10 k.toNat); omega) (by show (S.2 10 k.toNat) ≤ 39; omega) (by show -1000 ≤ x; omega) (by show x ≤ 1000; omega) hsg) (cw7 3 B w7_mRX7_212 w7_im_yX7_inSet w7_sl_yX7_inSet w7_cd_yX7_inSet rfl rfl (by decide +kernel) ⟨Nat.le_of_ble_eq_true rfl, Nat.le_of_ble_eq_true rfl⟩) rfl hl.1 rfl (Nat.le_of_ble_eq_true rfl) dX7_fits_93 ⟨Nat.zero_le _, Nat.zero_le _⟩ (fun z_28 S_27 H locs hp_26 hM => ?_)
    obtain ⟨hp_26, he_hp_26⟩ := hp_26
    have he_hp_26 := he_hp_26.symm
    subst he_hp_26
    have hp_26 : M_inSet (S.2 9 k.toNat) (S.2 10 k.toNat) x S = z_28 := hp_26.symm
    subst hp_26
    have f_29 := M_inSet_01 (S.2 9 k.toNat) (S.2 10 k.toNat) x S
    exact m_retz B hM (by omega) (⟨by unfold M_fits; exact ((if_neg n_23).trans ((if_neg n_24).trans (if_neg n_25))).symm, rfl⟩) dX7_fits_96
theorem M_fits_01 (k x : Int) (S : MSt) : M_fits k x S = 0 ∨ M_fits k x S = 1 := by
  have h1 := M_has_01 2 S
  have h2 := M_inClass_01 (S.2 9 k.toNat) x
  have h3 := M_inSet_01 (S.2 9 k.toNat) (S.2 10 k.toNat) x S
  unfold M_fits
  (repeat' split) <;> first | exact h2 | exact h3 | simp
def M_passes (k : Int) (S : MSt) : Int := (if (S.1 38) = (S.1 4) then 0 else (if (S.2 8 k.toNat) = 6 then (if (S.2 11 k.toNat) = 1 then (if ((if (M_fits k (S.2 3 (S.1 38).toNat) S) = 0 then (if (M_has 4 S) = 0 then 0 else (if (M_fits k (M_other (S.2 3 (S.1 38).toNat)) S) = 0 then 0 else 1 : Int) : Int) else 1 : Int)) = 0 then 1 else 0 : Int) else (if (M_fits k (S.2 3 (S.1 38).toNat) S) = 0 then (if (M_has 4 S) = 0 then 0 else (if (M_fits k (M_other (S.2 3 (S.1 38).toNat)) S) = 0 then 0 else 1 : Int) : Int) else 1 : Int) : Int) else (if (M_fits k (S.2 3 (S.1 38).toNat) S) = 0 then (if (M_has 4 S) = 0 then 0 else (if (M_fits k (M_other (S.2 3 (S.1 38).toNat)) S) = 0 then 0 else 1 : Int) : Int) else 1 : Int) : Int))
set_option maxHeartbeats 4000000 in
set_option maxRecDepth 100000 in
theorem cX7_passes_ok (l : Launch) (D : va_G) (cy : Nat → ClassId) (o : Nat) (q : Nat → Nat) (S : MSt) (k : Int) (hk0 : 0 ≤ k) (hk1 : k < 220) (ho0 : 3 ≤ S.2 8 k.toNat) (ho1 : S.2 8 k.toNat ≤ 6) (ha0 : 0 ≤ S.2 9 k.toNat) (ha1 : S.2 9 k.toNat ≤ 1000) (hb0 : 0 ≤ S.2 10 k.toNat) (hse : S.2 8 k.toNat = 6 → S.2 9 k.toNat ≤ 41 ∧ S.2 10 k.toNat ≤ 39) (hb1 : S.2 10 k.toNat ≤ 100000000) (hg0 : 0 ≤ S.1 6) (hg1 : S.1 6 ≤ 7) (hsg : ∀ j, 0 ≤ S.2 7 j ∧ S.2 7 j ≤ 126) (hp0 : 0 ≤ S.1 38) (hp1 : S.1 38 ≤ S.1 4) (hn1 : S.1 4 ≤ 24) (htx : ∀ j, 0 ≤ S.2 3 j ∧ S.2 3 j ≤ 126) (hc0 : -1000 ≤ S.2 11 k.toNat) (hc1 : S.2 11 k.toNat ≤ 100000) : mMi l D cy o q yX7_passes (.code yX7_passes cX7_passes 4 (some .boolean) :: TB7) ({ frames := 4, cells := 0, slots := 0, locals := 95 }) S [.int (zI k)] (fun r S' => r = M_passes k S ∧ S' = S) := by
  refine m_of (cc := cX7_passes) (maxL := 4) (ret := (some .boolean)) (by decide) rfl rfl (Nat.le_of_ble_eq_true rfl) ?_
  intro p e s m args below meth c ls B hK hM hl
  have hl : lv_has ls 4 [(0, .ref o), (1, .int (zI k))] := hl
  refine lv_aload_n B.1 B.2.1 dX7_passes_0 rfl (lv_at hl 0 rfl) ?_
  refine m_get (x := S.1 38) B (i7 _) hK hM 38 (by decide) rfl rfl (List.mem_cons_of_mem _ w7_fRX7_216) dX7_passes_1 ?_
  refine lv_aload_n B.1 B.2.1 dX7_passes_4 rfl (lv_at hl 0 rfl) ?_
  refine m_get (x := S.1 4) B (i7 _) hK hM 4 (by decide) rfl rfl (List.mem_cons_of_mem _ w7_fRX7_202) dX7_passes_5 ?_
  refine z_icmp_ne (tgt := 13) B.1 B.2.1 (zr_of (by omega) (by omega)) (zr_of (by omega) (by omega)) dX7_passes_8 (by decide) (fun c_1 => ?_) (fun c_1 => ?_)
  · --
    refine lv_aload_n B.1 B.2.1 dX7_passes_13 rfl (lv_at hl 0 rfl) ?_
    refine m_getr B (i7 _) hK hM 3 (by decide) rfl (List.mem_cons_of_mem _ w7_fRX7_13) dX7_passes_14 ?_
    refine lv_aload_n B.1 B.2.1 dX7_passes_17 rfl (lv_at hl 0 rfl) ?_
    refine m_get (x := S.1 38) B (i7 _) hK hM 38 (by decide) rfl rfl (List.mem_cons_of_mem _ w7_fRX7_216) dX7_passes_18 ?_
    have f_2 := htx (S.1 38).toNat
    refine m_cald (x := S.2 3 (S.1 38).toNat) B hK hM 1 3 rfl rfl (by omega) (by simp only [mN]; omega) rfl dX7_passes_21 ?_
    refine lv_istore_n (lv' := [(2, .int (zI (S.2 3 (S.1 38).toNat))), (0, .ref o), (1, .int (zI k))]) B.1 B.2.1 dX7_passes_22 rfl hl (by decide) rfl (fun ls hl => ?_)
    refine lv_aload_n B.1 B.2.1 dX7_passes_23 rfl (lv_at hl 1 rfl) ?_
    refine lv_iload_n B.1 B.2.1 dX7_passes_24 rfl (lv_at hl 2 rfl) ?_
    refine lv_iload_n B.1 B.2.1 dX7_passes_25 rfl (lv_at hl 0 rfl) ?_
    refine m_calli (As := [.int (zI k), .int (zI (S.2 3 (S.1 38).toNat))]) (rest := []) B hK hM (cX7_fits_ok l D cy o q S k (S.2 3 (S.1 38).toNat) hk0 hk1 ho0 ho1 ha0 ha1 hb0 hse hb1 hg0 hg1 hsg (by show -1000 ≤ (S.2 3 (S.1 38).toNat); omega) (by show (S.2 3 (S.1 38).toNat) ≤ 1000; omega)) (cw7 2 B w7_mRX7_219 w7_im_yX7_fits w7_sl_yX7_fits w7_cd_yX7_fits rfl rfl (by decide +kernel) ⟨Nat.le_of_ble_eq_true rfl, Nat.le_of_ble_eq_true rfl⟩) rfl hl.1 rfl (Nat.le_of_ble_eq_true rfl) dX7_passes_26 ⟨Nat.zero_le _, Nat.zero_le _⟩ (fun z_5 S_4 H locs hp_3 hM => ?_)
    obtain ⟨hp_3, he_hp_3⟩ := hp_3
    have he_hp_3 := he_hp_3.symm
    subst he_hp_3
    have hp_3 : M_fits k (S.2 3 (S.1 38).toNat) S = z_5 := hp_3.symm
    subst hp_3
    have f_6 := M_fits_01 k (S.2 3 (S.1 38).toNat) S
    refine z_joinH (P := fun v H' locs' => v = (if (M_fits k (S.2 3 (S.1 38).toNat) S) = 0 then (if (M_has 4 S) = 0 then 0 else (if (M_fits k (M_other (S.2 3 (S.1 38).toNat)) S) = 0 then 0 else 1 : Int) : Int) else 1 : Int) ∧ mH D cy o q (mA o q) s.heap S H' locs') (pcJ := 57) (lsJ := ls) (stJ := []) (fun v_7 H locs hv_8 => ?_) (fun hJ_9 => ?_)
    · --
      obtain ⟨hv_8, hM⟩ := hv_8
      have hb_10 : (if (M_fits k (S.2 3 (S.1 38).toNat) S) = 0 then (if (M_has 4 S) = 0 then 0 else (if (M_fits k (M_other (S.2 3 (S.1 38).toNat)) S) = 0 then 0 else 1 : Int) : Int) else 1 : Int) = 0 ∨ (if (M_fits k (S.2 3 (S.1 38).toNat) S) = 0 then (if (M_has 4 S) = 0 then 0 else (if (M_fits k (M_other (S.2 3 (S.1 38).toNat)) S) = 0 then 0 else 1 : Int) : Int) else 1 : Int) = 1 := by (repeat' split) <;> simp
      have hv_8 := hv_8.symm
      subst hv_8
      refine lv_istore_n (lv' := [(3, .int (zI ((if (M_fits k (S.2 3 (S.1 38).toNat) S) = 0 then (if (M_has 4 S) = 0 then 0 else (if (M_fits k (M_other (S.2 3 (S.1 38).toNat)) S) = 0 then 0 else 1 : Int) : Int) else 1 : Int)))), (2, .int (zI (S.2 3 (S.1 38).toNat))), (0, .ref o), (1, .int (zI k))]) B.1 B.2.1 dX7_passes_57 rfl hl (by decide) rfl (fun ls hl => ?_)
      refine lv_aload_n B.1 B.2.1 dX7_passes_58 rfl (lv_at hl 2 rfl) ?_
      refine m_getr B (i7 _) hK hM 8 (by decide) rfl (List.mem_cons_of_mem _ w7_fRX7_19) dX7_passes_59 ?_
      refine lv_iload_n B.1 B.2.1 dX7_passes_62 rfl (lv_at hl 3 rfl) ?_
      refine m_iald (x := S.2 8 k.toNat) B hK hM 3 8 rfl rfl (by omega) (by simp only [mN]; omega) rfl dX7_passes_63 ?_
      refine z_bipush B.1 B.2.1 (by decide) dX7_passes_64 ?_
      refine z_joinH (P := fun v H' locs' => v = (if (S.2 8 k.toNat) = 6 then (if (S.2 11 k.toNat) = 1 then (if ((if (M_fits k (S.2 3 (S.1 38).toNat) S) = 0 then (if (M_has 4 S) = 0 then 0 else (if (M_fits k (M_other (S.2 3 (S.1 38).toNat)) S) = 0 then 0 else 1 : Int) : Int) else 1 : Int)) = 0 then 1 else 0 : Int) else (if (M_fits k (S.2 3 (S.1 38).toNat) S) = 0 then (if (M_has 4 S) = 0 then 0 else (if (M_fits k (M_other (S.2 3 (S.1 38).toNat)) S) = 0 then 0 else 1 : Int) : Int) else 1 : Int) : Int) else (if (M_fits k (S.2 3 (S.1 38).toNat) S) = 0 then (if (M_has 4 S) = 0 then 0 else (if (M_fits k (M_other (S.2 3 (S.1 38).toNat)) S) = 0 then 0 else 1 : Int) : Int) else 1 : Int) : Int) ∧ mH D cy o q (mA o q) s.heap S H' locs') (pcJ := 92) (lsJ := ls) (stJ := []) (fun v_11 H locs hv_12 => ?_) (fun hJ_13 => ?_)
      · --
        obtain ⟨hv_12, hM⟩ := hv_12
        have hv_12 := hv_12.symm
        subst hv_12
        exact m_retz B hM (by omega) (⟨by unfold M_passes; exact (if_neg c_1).symm, rfl⟩) dX7_passes_92
      · --
        refine z_icmp_ne (tgt := 91) B.1 B.2.1 (zr_of (by omega) (by omega)) (zr_of (by decide) (by decide)) dX7_passes_66 (by decide) (fun c_14 => ?_) (fun c_14 => ?_)
        · --
          refine lv_iload_n B.1 B.2.1 dX7_passes_91 rfl (lv_at hl 0 rfl) ?_
          exact hJ_13 _ _ _ ⟨(if_neg c_14).symm, hM⟩
        · --
          refine lv_aload_n B.1 B.2.1 dX7_passes_69 rfl (lv_at hl 2 rfl) ?_
          refine m_getr B (i7 _) hK hM 11 (by decide) rfl (List.mem_cons_of_mem _ w7_fRX7_29) dX7_passes_70 ?_
          refine lv_iload_n B.1 B.2.1 dX7_passes_73 rfl (lv_at hl 3 rfl) ?_
          refine m_iald (x := S.2 11 k.toNat) B hK hM 6 11 rfl rfl (by omega) (by simp only [mN]; omega) rfl dX7_passes_74 ?_
          refine z_iconst B.1 B.2.1 dX7_passes_75 ?_
          refine z_icmp_ne (tgt := 91) B.1 B.2.1 (zr_of (by omega) (by omega)) (zr_of (by decide) (by decide)) dX7_passes_76 (by decide) (fun c_15 => ?_) (fun c_15 => ?_)
          · --
            refine lv_iload_n B.1 B.2.1 dX7_passes_91 rfl (lv_at hl 0 rfl) ?_
            exact hJ_13 _ _ _ ⟨((if_pos c_14).trans (if_neg c_15)).symm, hM⟩
          · --
            refine lv_iload_n B.1 B.2.1 dX7_passes_79 rfl (lv_at hl 0 rfl) ?_
            refine z_if_ne (tgt := 87) B.1 B.2.1 (zr_of (by omega) (by omega)) dX7_passes_80 (by decide) (fun c_16 => ?_) (fun c_16 => ?_)
            · --
              refine z_iconst B.1 B.2.1 dX7_passes_87 ?_
              refine lv_goto (tgt := 92) B.1 B.2.1 dX7_passes_88 (by decide) ?_
              exact hJ_13 _ _ _ ⟨((if_pos c_14).trans ((if_pos c_15).trans (if_neg c_16))).symm, hM⟩
            · --
              refine z_iconst B.1 B.2.1 dX7_passes_83 ?_
              refine lv_goto (tgt := 92) B.1 B.2.1 dX7_passes_84 (by decide) ?_
              exact hJ_13 _ _ _ ⟨((if_pos c_14).trans ((if_pos c_15).trans (if_pos c_16))).symm, hM⟩
    · --
      refine z_if_ne (tgt := 52) B.1 B.2.1 (zr_of (by omega) (by omega)) dX7_passes_29 (by decide) (fun c_17 => ?_) (fun c_17 => ?_)
      · --
        refine z_iconst B.1 B.2.1 dX7_passes_52 ?_
        refine lv_goto (tgt := 57) B.1 B.2.1 dX7_passes_53 (by decide) ?_
        exact hJ_9 _ _ _ ⟨(if_neg c_17).symm, hM⟩
      · --
        refine lv_aload_n B.1 B.2.1 dX7_passes_32 rfl (lv_at hl 1 rfl) ?_
        refine z_iconst B.1 B.2.1 dX7_passes_33 ?_
        refine m_calli (As := [.int (zI 4)]) (rest := []) B hK hM (cX7_has_ok l D cy o q S 4 (by show 0 ≤ 4; omega) (by show 4 ≤ 7; omega) (by show 0 ≤ (S.1 6); omega) (by show (S.1 6) ≤ 7; omega)) (cw7 1 B w7_mRX7_209 w7_im_yX7_has w7_sl_yX7_has w7_cd_yX7_has rfl rfl (by decide +kernel) ⟨Nat.le_of_ble_eq_true rfl, Nat.le_of_ble_eq_true rfl⟩) rfl hl.1 rfl (Nat.le_of_ble_eq_true rfl) dX7_passes_34 ⟨Nat.zero_le _, Nat.zero_le _⟩ (fun z_20 S_19 H locs hp_18 hM => ?_)
        obtain ⟨hp_18, he_hp_18⟩ := hp_18
        have he_hp_18 := he_hp_18.symm
        subst he_hp_18
        have hp_18 : M_has 4 S = z_20 := hp_18.symm
        subst hp_18
        have f_21 := M_has_01 4 S
        refine z_if_eq (tgt := 56) B.1 B.2.1 (zr_of (by omega) (by omega)) dX7_passes_37 (by decide) (fun c_22 => ?_) (fun c_22 => ?_)
        · --
          refine z_iconst B.1 B.2.1 dX7_passes_56 ?_
          exact hJ_9 _ _ _ ⟨((if_pos c_17).trans (if_pos c_22)).symm, hM⟩
        · --
          refine lv_aload_n B.1 B.2.1 dX7_passes_40 rfl (lv_at hl 1 rfl) ?_
          refine lv_iload_n B.1 B.2.1 dX7_passes_41 rfl (lv_at hl 2 rfl) ?_
          refine lv_iload_n B.1 B.2.1 dX7_passes_42 rfl (lv_at hl 0 rfl) ?_
          refine s_calli (As := [.int (zI (S.2 3 (S.1 38).toNat))]) (rest := [.int (zI k), .ref o]) B (cX7_other_ok l (S.2 3 (S.1 38).toNat) (by show -100000 ≤ (S.2 3 (S.1 38).toNat); omega) (by show (S.2 3 (S.1 38).toNat) ≤ 100000; omega)) (cs7 1 B rfl w7_mRX7_222 w7_st_yX7_other w7_cd_yX7_other rfl rfl (by decide +kernel) ⟨Nat.le_of_ble_eq_true rfl, Nat.le_of_ble_eq_true rfl⟩) rfl hl.1 rfl (Nat.le_of_ble_eq_true rfl) dX7_passes_43 ⟨Nat.zero_le _, Nat.zero_le _⟩ (fun z_23 hz_24 => ?_)
          have hz_24 := hz_24.symm
          subst hz_24
          have f_25 := M_other_bd (S.2 3 (S.1 38).toNat)
          refine m_calli (As := [.int (zI k), .int (zI (M_other (S.2 3 (S.1 38).toNat)))]) (rest := []) B hK hM (cX7_fits_ok l D cy o q S k (M_other (S.2 3 (S.1 38).toNat)) hk0 hk1 ho0 ho1 ha0 ha1 hb0 hse hb1 hg0 hg1 hsg (by show -1000 ≤ (M_other (S.2 3 (S.1 38).toNat)); omega) (by show (M_other (S.2 3 (S.1 38).toNat)) ≤ 1000; omega)) (cw7 2 B w7_mRX7_219 w7_im_yX7_fits w7_sl_yX7_fits w7_cd_yX7_fits rfl rfl (by decide +kernel) ⟨Nat.le_of_ble_eq_true rfl, Nat.le_of_ble_eq_true rfl⟩) rfl hl.1 rfl (Nat.le_of_ble_eq_true rfl) dX7_passes_46 ⟨Nat.zero_le _, Nat.zero_le _⟩ (fun z_28 S_27 H locs hp_26 hM => ?_)
          obtain ⟨hp_26, he_hp_26⟩ := hp_26
          have he_hp_26 := he_hp_26.symm
          subst he_hp_26
          have hp_26 : M_fits k (M_other (S.2 3 (S.1 38).toNat)) S = z_28 := hp_26.symm
          subst hp_26
          have f_29 := M_fits_01 k (M_other (S.2 3 (S.1 38).toNat)) S
          refine z_if_eq (tgt := 56) B.1 B.2.1 (zr_of (by omega) (by omega)) dX7_passes_49 (by decide) (fun c_30 => ?_) (fun c_30 => ?_)
          · --
            refine z_iconst B.1 B.2.1 dX7_passes_56 ?_
            exact hJ_9 _ _ _ ⟨((if_pos c_17).trans ((if_neg c_22).trans (if_pos c_30))).symm, hM⟩
          · --
            refine z_iconst B.1 B.2.1 dX7_passes_52 ?_
            refine lv_goto (tgt := 57) B.1 B.2.1 dX7_passes_53 (by decide) ?_
            exact hJ_9 _ _ _ ⟨((if_pos c_17).trans ((if_neg c_22).trans (if_neg c_30))).symm, hM⟩
  · --
    refine z_iconst B.1 B.2.1 dX7_passes_11 ?_
    exact m_retz B hM (by decide) (⟨by unfold M_passes; exact (if_pos c_1).symm, rfl⟩) dX7_passes_12
theorem M_passes_01 (k : Int) (S : MSt) : M_passes k S = 0 ∨ M_passes k S = 1 := by
  unfold M_passes
  (repeat' split) <;> simp
