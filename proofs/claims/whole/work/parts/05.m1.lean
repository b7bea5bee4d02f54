set_option maxHeartbeats 4000000 in
set_option maxRecDepth 100000 in
theorem cX7_isDigit_ok (l : Launch) (x : Int) (h1 : -100000 ≤ x) (h2 : x ≤ 100000) : sMi l yX7_isDigit (.code yX7_isDigit cX7_isDigit 1 (some .boolean) :: TB7) ({ frames := 0, cells := 0, slots := 0, locals := 0 }) [.int (zI (x))] (fun z => z = zb (M_isDigit x)) := by
  refine s_of (cc := cX7_isDigit) (maxL := 1) (ret := (some .boolean)) (C := RX7) (by decide) rfl rfl (Nat.le_of_ble_eq_true rfl) ?_
  intro p e s m args below meth c ls B hl
  have hl : lv_has ls 1 [(0, .int (zI (x)))] := hl
  refine lv_iload_n B.1 B.2.1 dX7_isDigit_0 rfl (lv_at hl 0 rfl) ?_
  refine z_bipush B.1 B.2.1 (by decide) dX7_isDigit_1 ?_
  refine z_icmp_lt (tgt := 16) B.1 B.2.1 (zr_of (by omega) (by omega)) (zr_of (by decide) (by decide)) dX7_isDigit_3 (by decide) (fun c_1 => ?_) (fun c_1 => ?_)
  · --
    refine z_iconst B.1 B.2.1 dX7_isDigit_16 ?_
    exact s_retz B (by decide) ((zb_f (by omega)).symm) dX7_isDigit_17
  · --
    refine lv_iload_n B.1 B.2.1 dX7_isDigit_6 rfl (lv_at hl 0 rfl) ?_
    refine z_bipush B.1 B.2.1 (by decide) dX7_isDigit_7 ?_
    refine z_icmp_gt (tgt := 16) B.1 B.2.1 (zr_of (by omega) (by omega)) (zr_of (by decide) (by decide)) dX7_isDigit_9 (by decide) (fun c_2 => ?_) (fun c_2 => ?_)
    · --
      refine z_iconst B.1 B.2.1 dX7_isDigit_16 ?_
      exact s_retz B (by decide) ((zb_f (by omega)).symm) dX7_isDigit_17
    · --
      refine z_iconst B.1 B.2.1 dX7_isDigit_12 ?_
      refine lv_goto (tgt := 17) B.1 B.2.1 dX7_isDigit_13 (by decide) ?_
      exact s_retz B (by decide) ((zb_t (by omega)).symm) dX7_isDigit_17
set_option maxHeartbeats 4000000 in
set_option maxRecDepth 100000 in
theorem cX7_isClass_ok (l : Launch) (x : Int) (h1 : -100000 ≤ x) (h2 : x ≤ 100000) : sMi l yX7_isClass (.code yX7_isClass cX7_isClass 1 (some .boolean) :: TB7) ({ frames := 0, cells := 0, slots := 0, locals := 0 }) [.int (zI (x))] (fun z => z = zb (M_isClass x)) := by
  refine s_of (cc := cX7_isClass) (maxL := 1) (ret := (some .boolean)) (C := RX7) (by decide) rfl rfl (Nat.le_of_ble_eq_true rfl) ?_
  intro p e s m args below meth c ls B hl
  have hl : lv_has ls 1 [(0, .int (zI (x)))] := hl
  refine lv_iload_n B.1 B.2.1 dX7_isClass_0 rfl (lv_at hl 0 rfl) ?_
  refine z_bipush B.1 B.2.1 (by decide) dX7_isClass_1 ?_
  refine z_icmp_eq (tgt := 36) B.1 B.2.1 (zr_of (by omega) (by omega)) (zr_of (by decide) (by decide)) dX7_isClass_3 (by decide) (fun c_1 => ?_) (fun c_1 => ?_)
  · --
    refine z_iconst B.1 B.2.1 dX7_isClass_36 ?_
    refine lv_goto (tgt := 41) B.1 B.2.1 dX7_isClass_37 (by decide) ?_
    exact s_retz B (by decide) ((zb_t (by omega)).symm) dX7_isClass_41
  · --
    refine lv_iload_n B.1 B.2.1 dX7_isClass_6 rfl (lv_at hl 0 rfl) ?_
    refine z_bipush B.1 B.2.1 (by decide) dX7_isClass_7 ?_
    refine z_icmp_eq (tgt := 36) B.1 B.2.1 (zr_of (by omega) (by omega)) (zr_of (by decide) (by decide)) dX7_isClass_9 (by decide) (fun c_2 => ?_) (fun c_2 => ?_)
    · --
      refine z_iconst B.1 B.2.1 dX7_isClass_36 ?_
      refine lv_goto (tgt := 41) B.1 B.2.1 dX7_isClass_37 (by decide) ?_
      exact s_retz B (by decide) ((zb_t (by omega)).symm) dX7_isClass_41
    · --
      refine lv_iload_n B.1 B.2.1 dX7_isClass_12 rfl (lv_at hl 0 rfl) ?_
      refine z_bipush B.1 B.2.1 (by decide) dX7_isClass_13 ?_
      refine z_icmp_eq (tgt := 36) B.1 B.2.1 (zr_of (by omega) (by omega)) (zr_of (by decide) (by decide)) dX7_isClass_15 (by decide) (fun c_3 => ?_) (fun c_3 => ?_)
      · --
        refine z_iconst B.1 B.2.1 dX7_isClass_36 ?_
        refine lv_goto (tgt := 41) B.1 B.2.1 dX7_isClass_37 (by decide) ?_
        exact s_retz B (by decide) ((zb_t (by omega)).symm) dX7_isClass_41
      · --
        refine lv_iload_n B.1 B.2.1 dX7_isClass_18 rfl (lv_at hl 0 rfl) ?_
        refine z_bipush B.1 B.2.1 (by decide) dX7_isClass_19 ?_
        refine z_icmp_eq (tgt := 36) B.1 B.2.1 (zr_of (by omega) (by omega)) (zr_of (by decide) (by decide)) dX7_isClass_21 (by decide) (fun c_4 => ?_) (fun c_4 => ?_)
        · --
          refine z_iconst B.1 B.2.1 dX7_isClass_36 ?_
          refine lv_goto (tgt := 41) B.1 B.2.1 dX7_isClass_37 (by decide) ?_
          exact s_retz B (by decide) ((zb_t (by omega)).symm) dX7_isClass_41
        · --
          refine lv_iload_n B.1 B.2.1 dX7_isClass_24 rfl (lv_at hl 0 rfl) ?_
          refine z_bipush B.1 B.2.1 (by decide) dX7_isClass_25 ?_
          refine z_icmp_eq (tgt := 36) B.1 B.2.1 (zr_of (by omega) (by omega)) (zr_of (by decide) (by decide)) dX7_isClass_27 (by decide) (fun c_5 => ?_) (fun c_5 => ?_)
          · --
            refine z_iconst B.1 B.2.1 dX7_isClass_36 ?_
            refine lv_goto (tgt := 41) B.1 B.2.1 dX7_isClass_37 (by decide) ?_
            exact s_retz B (by decide) ((zb_t (by omega)).symm) dX7_isClass_41
          · --
            refine lv_iload_n B.1 B.2.1 dX7_isClass_30 rfl (lv_at hl 0 rfl) ?_
            refine z_bipush B.1 B.2.1 (by decide) dX7_isClass_31 ?_
            refine z_icmp_ne (tgt := 40) B.1 B.2.1 (zr_of (by omega) (by omega)) (zr_of (by decide) (by decide)) dX7_isClass_33 (by decide) (fun c_6 => ?_) (fun c_6 => ?_)
            · --
              refine z_iconst B.1 B.2.1 dX7_isClass_40 ?_
              exact s_retz B (by decide) ((zb_f (by omega)).symm) dX7_isClass_41
            · --
              refine z_iconst B.1 B.2.1 dX7_isClass_36 ?_
              refine lv_goto (tgt := 41) B.1 B.2.1 dX7_isClass_37 (by decide) ?_
              exact s_retz B (by decide) ((zb_t (by omega)).symm) dX7_isClass_41
set_option maxHeartbeats 4000000 in
set_option maxRecDepth 100000 in
theorem cX7_isSpecial_ok (l : Launch) (x : Int) (h1 : -100000 ≤ x) (h2 : x ≤ 100000) : sMi l yX7_isSpecial (.code yX7_isSpecial cX7_isSpecial 1 (some .boolean) :: TB7) ({ frames := 0, cells := 0, slots := 0, locals := 0 }) [.int (zI (x))] (fun z => z = zb (M_isSpecial x)) := by
  refine s_of (cc := cX7_isSpecial) (maxL := 1) (ret := (some .boolean)) (C := RX7) (by decide) rfl rfl (Nat.le_of_ble_eq_true rfl) ?_
  intro p e s m args below meth c ls B hl
  have hl : lv_has ls 1 [(0, .int (zI (x)))] := hl
  refine lv_iload_n B.1 B.2.1 dX7_isSpecial_0 rfl (lv_at hl 0 rfl) ?_
  refine z_bipush B.1 B.2.1 (by decide) dX7_isSpecial_1 ?_
  refine z_icmp_eq (tgt := 84) B.1 B.2.1 (zr_of (by omega) (by omega)) (zr_of (by decide) (by decide)) dX7_isSpecial_3 (by decide) (fun c_1 => ?_) (fun c_1 => ?_)
  · --
    refine z_iconst B.1 B.2.1 dX7_isSpecial_84 ?_
    refine lv_goto (tgt := 89) B.1 B.2.1 dX7_isSpecial_85 (by decide) ?_
    exact s_retz B (by decide) ((zb_t (by omega)).symm) dX7_isSpecial_89
  · --
    refine lv_iload_n B.1 B.2.1 dX7_isSpecial_6 rfl (lv_at hl 0 rfl) ?_
    refine z_bipush B.1 B.2.1 (by decide) dX7_isSpecial_7 ?_
    refine z_icmp_eq (tgt := 84) B.1 B.2.1 (zr_of (by omega) (by omega)) (zr_of (by decide) (by decide)) dX7_isSpecial_9 (by decide) (fun c_2 => ?_) (fun c_2 => ?_)
    · --
      refine z_iconst B.1 B.2.1 dX7_isSpecial_84 ?_
      refine lv_goto (tgt := 89) B.1 B.2.1 dX7_isSpecial_85 (by decide) ?_
      exact s_retz B (by decide) ((zb_t (by omega)).symm) dX7_isSpecial_89
    · --
      refine lv_iload_n B.1 B.2.1 dX7_isSpecial_12 rfl (lv_at hl 0 rfl) ?_
      refine z_bipush B.1 B.2.1 (by decide) dX7_isSpecial_13 ?_
      refine z_icmp_eq (tgt := 84) B.1 B.2.1 (zr_of (by omega) (by omega)) (zr_of (by decide) (by decide)) dX7_isSpecial_15 (by decide) (fun c_3 => ?_) (fun c_3 => ?_)
      · --
        refine z_iconst B.1 B.2.1 dX7_isSpecial_84 ?_
        refine lv_goto (tgt := 89) B.1 B.2.1 dX7_isSpecial_85 (by decide) ?_
        exact s_retz B (by decide) ((zb_t (by omega)).symm) dX7_isSpecial_89
      · --
        refine lv_iload_n B.1 B.2.1 dX7_isSpecial_18 rfl (lv_at hl 0 rfl) ?_
        refine z_bipush B.1 B.2.1 (by decide) dX7_isSpecial_19 ?_
        refine z_icmp_eq (tgt := 84) B.1 B.2.1 (zr_of (by omega) (by omega)) (zr_of (by decide) (by decide)) dX7_isSpecial_21 (by decide) (fun c_4 => ?_) (fun c_4 => ?_)
        · --
          refine z_iconst B.1 B.2.1 dX7_isSpecial_84 ?_
          refine lv_goto (tgt := 89) B.1 B.2.1 dX7_isSpecial_85 (by decide) ?_
          exact s_retz B (by decide) ((zb_t (by omega)).symm) dX7_isSpecial_89
        · --
          refine lv_iload_n B.1 B.2.1 dX7_isSpecial_24 rfl (lv_at hl 0 rfl) ?_
          refine z_bipush B.1 B.2.1 (by decide) dX7_isSpecial_25 ?_
          refine z_icmp_eq (tgt := 84) B.1 B.2.1 (zr_of (by omega) (by omega)) (zr_of (by decide) (by decide)) dX7_isSpecial_27 (by decide) (fun c_5 => ?_) (fun c_5 => ?_)
          · --
            refine z_iconst B.1 B.2.1 dX7_isSpecial_84 ?_
            refine lv_goto (tgt := 89) B.1 B.2.1 dX7_isSpecial_85 (by decide) ?_
            exact s_retz B (by decide) ((zb_t (by omega)).symm) dX7_isSpecial_89
          · --
            refine lv_iload_n B.1 B.2.1 dX7_isSpecial_30 rfl (lv_at hl 0 rfl) ?_
            refine z_bipush B.1 B.2.1 (by decide) dX7_isSpecial_31 ?_
            refine z_icmp_eq (tgt := 84) B.1 B.2.1 (zr_of (by omega) (by omega)) (zr_of (by decide) (by decide)) dX7_isSpecial_33 (by decide) (fun c_6 => ?_) (fun c_6 => ?_)
            · --
              refine z_iconst B.1 B.2.1 dX7_isSpecial_84 ?_
              refine lv_goto (tgt := 89) B.1 B.2.1 dX7_isSpecial_85 (by decide) ?_
              exact s_retz B (by decide) ((zb_t (by omega)).symm) dX7_isSpecial_89
            · --
              refine lv_iload_n B.1 B.2.1 dX7_isSpecial_36 rfl (lv_at hl 0 rfl) ?_
              refine z_bipush B.1 B.2.1 (by decide) dX7_isSpecial_37 ?_
              refine z_icmp_eq (tgt := 84) B.1 B.2.1 (zr_of (by omega) (by omega)) (zr_of (by decide) (by decide)) dX7_isSpecial_39 (by decide) (fun c_7 => ?_) (fun c_7 => ?_)
              · --
                refine z_iconst B.1 B.2.1 dX7_isSpecial_84 ?_
                refine lv_goto (tgt := 89) B.1 B.2.1 dX7_isSpecial_85 (by decide) ?_
                exact s_retz B (by decide) ((zb_t (by omega)).symm) dX7_isSpecial_89
              · --
                refine lv_iload_n B.1 B.2.1 dX7_isSpecial_42 rfl (lv_at hl 0 rfl) ?_
                refine z_bipush B.1 B.2.1 (by decide) dX7_isSpecial_43 ?_
                refine z_icmp_eq (tgt := 84) B.1 B.2.1 (zr_of (by omega) (by omega)) (zr_of (by decide) (by decide)) dX7_isSpecial_45 (by decide) (fun c_8 => ?_) (fun c_8 => ?_)
                · --
                  refine z_iconst B.1 B.2.1 dX7_isSpecial_84 ?_
                  refine lv_goto (tgt := 89) B.1 B.2.1 dX7_isSpecial_85 (by decide) ?_
                  exact s_retz B (by decide) ((zb_t (by omega)).symm) dX7_isSpecial_89
                · --
                  refine lv_iload_n B.1 B.2.1 dX7_isSpecial_48 rfl (lv_at hl 0 rfl) ?_
                  refine z_bipush B.1 B.2.1 (by decide) dX7_isSpecial_49 ?_
                  refine z_icmp_eq (tgt := 84) B.1 B.2.1 (zr_of (by omega) (by omega)) (zr_of (by decide) (by decide)) dX7_isSpecial_51 (by decide) (fun c_9 => ?_) (fun c_9 => ?_)
                  · --
                    refine z_iconst B.1 B.2.1 dX7_isSpecial_84 ?_
                    refine lv_goto (tgt := 89) B.1 B.2.1 dX7_isSpecial_85 (by decide) ?_
                    exact s_retz B (by decide) ((zb_t (by omega)).symm) dX7_isSpecial_89
                  · --
                    refine lv_iload_n B.1 B.2.1 dX7_isSpecial_54 rfl (lv_at hl 0 rfl) ?_
                    refine z_bipush B.1 B.2.1 (by decide) dX7_isSpecial_55 ?_
                    refine z_icmp_eq (tgt := 84) B.1 B.2.1 (zr_of (by omega) (by omega)) (zr_of (by decide) (by decide)) dX7_isSpecial_57 (by decide) (fun c_10 => ?_) (fun c_10 => ?_)
                    · --
                      refine z_iconst B.1 B.2.1 dX7_isSpecial_84 ?_
                      refine lv_goto (tgt := 89) B.1 B.2.1 dX7_isSpecial_85 (by decide) ?_
                      exact s_retz B (by decide) ((zb_t (by omega)).symm) dX7_isSpecial_89
                    · --
                      refine lv_iload_n B.1 B.2.1 dX7_isSpecial_60 rfl (lv_at hl 0 rfl) ?_
                      refine z_bipush B.1 B.2.1 (by decide) dX7_isSpecial_61 ?_
                      refine z_icmp_eq (tgt := 84) B.1 B.2.1 (zr_of (by omega) (by omega)) (zr_of (by decide) (by decide)) dX7_isSpecial_63 (by decide) (fun c_11 => ?_) (fun c_11 => ?_)
                      · --
                        refine z_iconst B.1 B.2.1 dX7_isSpecial_84 ?_
                        refine lv_goto (tgt := 89) B.1 B.2.1 dX7_isSpecial_85 (by decide) ?_
                        exact s_retz B (by decide) ((zb_t (by omega)).symm) dX7_isSpecial_89
                      · --
                        refine lv_iload_n B.1 B.2.1 dX7_isSpecial_66 rfl (lv_at hl 0 rfl) ?_
                        refine z_bipush B.1 B.2.1 (by decide) dX7_isSpecial_67 ?_
                        refine z_icmp_eq (tgt := 84) B.1 B.2.1 (zr_of (by omega) (by omega)) (zr_of (by decide) (by decide)) dX7_isSpecial_69 (by decide) (fun c_12 => ?_) (fun c_12 => ?_)
                        · --
                          refine z_iconst B.1 B.2.1 dX7_isSpecial_84 ?_
                          refine lv_goto (tgt := 89) B.1 B.2.1 dX7_isSpecial_85 (by decide) ?_
                          exact s_retz B (by decide) ((zb_t (by omega)).symm) dX7_isSpecial_89
                        · --
                          refine lv_iload_n B.1 B.2.1 dX7_isSpecial_72 rfl (lv_at hl 0 rfl) ?_
                          refine z_bipush B.1 B.2.1 (by decide) dX7_isSpecial_73 ?_
                          refine z_icmp_eq (tgt := 84) B.1 B.2.1 (zr_of (by omega) (by omega)) (zr_of (by decide) (by decide)) dX7_isSpecial_75 (by decide) (fun c_13 => ?_) (fun c_13 => ?_)
                          · --
                            refine z_iconst B.1 B.2.1 dX7_isSpecial_84 ?_
                            refine lv_goto (tgt := 89) B.1 B.2.1 dX7_isSpecial_85 (by decide) ?_
                            exact s_retz B (by decide) ((zb_t (by omega)).symm) dX7_isSpecial_89
                          · --
                            refine lv_iload_n B.1 B.2.1 dX7_isSpecial_78 rfl (lv_at hl 0 rfl) ?_
                            refine z_bipush B.1 B.2.1 (by decide) dX7_isSpecial_79 ?_
                            refine z_icmp_ne (tgt := 88) B.1 B.2.1 (zr_of (by omega) (by omega)) (zr_of (by decide) (by decide)) dX7_isSpecial_81 (by decide) (fun c_14 => ?_) (fun c_14 => ?_)
                            · --
                              refine z_iconst B.1 B.2.1 dX7_isSpecial_88 ?_
                              exact s_retz B (by decide) ((zb_f (by omega)).symm) dX7_isSpecial_89
                            · --
                              refine z_iconst B.1 B.2.1 dX7_isSpecial_84 ?_
                              refine lv_goto (tgt := 89) B.1 B.2.1 dX7_isSpecial_85 (by decide) ?_
                              exact s_retz B (by decide) ((zb_t (by omega)).symm) dX7_isSpecial_89
set_option maxHeartbeats 4000000 in
set_option maxRecDepth 100000 in
theorem cX7_other_ok (l : Launch) (x : Int) (h1 : -100000 ≤ x) (h2 : x ≤ 100000) : sMi l yX7_other (.code yX7_other cX7_other 1 (some .int) :: TB7) ({ frames := 0, cells := 0, slots := 0, locals := 0 }) [.int (zI (x))] (fun z => z = M_other x) := by
  refine s_of (cc := cX7_other) (maxL := 1) (ret := (some .int)) (C := RX7) (by decide) rfl rfl (Nat.le_of_ble_eq_true rfl) ?_
  intro p e s m args below meth c ls B hl
  have hl : lv_has ls 1 [(0, .int (zI (x)))] := hl
  refine lv_iload_n B.1 B.2.1 dX7_other_0 rfl (lv_at hl 0 rfl) ?_
  refine z_bipush B.1 B.2.1 (by decide) dX7_other_1 ?_
  refine z_icmp_lt (tgt := 19) B.1 B.2.1 (zr_of (by omega) (by omega)) (zr_of (by decide) (by decide)) dX7_other_3 (by decide) (fun c_1 => ?_) (fun c_1 => ?_)
  · --
    refine lv_iload_n B.1 B.2.1 dX7_other_19 rfl (lv_at hl 0 rfl) ?_
    refine z_bipush B.1 B.2.1 (by decide) dX7_other_20 ?_
    refine z_icmp_lt (tgt := 38) B.1 B.2.1 (zr_of (by omega) (by omega)) (zr_of (by decide) (by decide)) dX7_other_22 (by decide) (fun c_2 => ?_) (fun c_2 => ?_)
    · --
      refine lv_iload_n B.1 B.2.1 dX7_other_38 rfl (lv_at hl 0 rfl) ?_
      exact s_reti B (by unfold M_other; (repeat' split) <;> omega) dX7_other_39
    · --
      refine lv_iload_n B.1 B.2.1 dX7_other_25 rfl (lv_at hl 0 rfl) ?_
      refine z_bipush B.1 B.2.1 (by decide) dX7_other_26 ?_
      refine z_icmp_gt (tgt := 38) B.1 B.2.1 (zr_of (by omega) (by omega)) (zr_of (by decide) (by decide)) dX7_other_28 (by decide) (fun c_3 => ?_) (fun c_3 => ?_)
      · --
        refine lv_iload_n B.1 B.2.1 dX7_other_38 rfl (lv_at hl 0 rfl) ?_
        exact s_reti B (by unfold M_other; (repeat' split) <;> omega) dX7_other_39
      · --
        refine lv_iload_n B.1 B.2.1 dX7_other_31 rfl (lv_at hl 0 rfl) ?_
        refine z_bipush B.1 B.2.1 (by decide) dX7_other_32 ?_
        refine z_iadd (x := x + 32) B.1 B.2.1 rfl dX7_other_34 ?_
        refine lv_goto (tgt := 39) B.1 B.2.1 dX7_other_35 (by decide) ?_
        exact s_reti B (by unfold M_other; (repeat' split) <;> omega) dX7_other_39
  · --
    refine lv_iload_n B.1 B.2.1 dX7_other_6 rfl (lv_at hl 0 rfl) ?_
    refine z_bipush B.1 B.2.1 (by decide) dX7_other_7 ?_
    refine z_icmp_gt (tgt := 19) B.1 B.2.1 (zr_of (by omega) (by omega)) (zr_of (by decide) (by decide)) dX7_other_9 (by decide) (fun c_4 => ?_) (fun c_4 => ?_)
    · --
      refine lv_iload_n B.1 B.2.1 dX7_other_19 rfl (lv_at hl 0 rfl) ?_
      refine z_bipush B.1 B.2.1 (by decide) dX7_other_20 ?_
      refine z_icmp_lt (tgt := 38) B.1 B.2.1 (zr_of (by omega) (by omega)) (zr_of (by decide) (by decide)) dX7_other_22 (by decide) (fun c_5 => ?_) (fun c_5 => ?_)
      · --
        refine lv_iload_n B.1 B.2.1 dX7_other_38 rfl (lv_at hl 0 rfl) ?_
        exact s_reti B (by unfold M_other; (repeat' split) <;> omega) dX7_other_39
      · --
        refine lv_iload_n B.1 B.2.1 dX7_other_25 rfl (lv_at hl 0 rfl) ?_
        refine z_bipush B.1 B.2.1 (by decide) dX7_other_26 ?_
        refine z_icmp_gt (tgt := 38) B.1 B.2.1 (zr_of (by omega) (by omega)) (zr_of (by decide) (by decide)) dX7_other_28 (by decide) (fun c_6 => ?_) (fun c_6 => ?_)
        · --
          refine lv_iload_n B.1 B.2.1 dX7_other_38 rfl (lv_at hl 0 rfl) ?_
          exact s_reti B (by unfold M_other; (repeat' split) <;> omega) dX7_other_39
        · --
          refine lv_iload_n B.1 B.2.1 dX7_other_31 rfl (lv_at hl 0 rfl) ?_
          refine z_bipush B.1 B.2.1 (by decide) dX7_other_32 ?_
          refine z_iadd (x := x + 32) B.1 B.2.1 rfl dX7_other_34 ?_
          refine lv_goto (tgt := 39) B.1 B.2.1 dX7_other_35 (by decide) ?_
          exact s_reti B (by unfold M_other; (repeat' split) <;> omega) dX7_other_39
    · --
      refine lv_iload_n B.1 B.2.1 dX7_other_12 rfl (lv_at hl 0 rfl) ?_
      refine z_bipush B.1 B.2.1 (by decide) dX7_other_13 ?_
      refine z_isub (x := x - 32) B.1 B.2.1 rfl dX7_other_15 ?_
      refine lv_goto (tgt := 39) B.1 B.2.1 dX7_other_16 (by decide) ?_
      exact s_reti B (by unfold M_other; (repeat' split) <;> omega) dX7_other_39
set_option maxHeartbeats 4000000 in
set_option maxRecDepth 100000 in
theorem cX7_refuse_ok (l : Launch) (D : va_G) (cy : Nat → ClassId) (o : Nat) (q : Nat → Nat) (S : MSt) (n : Int) : mMi l D cy o q yX7_refuse (.code yX7_refuse cX7_refuse 2 (some .int) :: TB7) ({ frames := 0, cells := 0, slots := 0, locals := 0 }) S [.int (zI (n))] (fun r S' => r = 0 ∧ S' = mi S 0 n) := by
  refine m_of (cc := cX7_refuse) (maxL := 2) (ret := (some .int)) (by decide) rfl rfl (Nat.le_of_ble_eq_true rfl) ?_
  intro p e s m args below meth c ls B hK hM hl
  have hl : lv_has ls 2 [(0, .ref o), (1, .int (zI (n)))] := hl
  refine lv_aload_n B.1 B.2.1 dX7_refuse_0 rfl (lv_at hl 0 rfl) ?_
  refine lv_iload_n B.1 B.2.1 dX7_refuse_1 rfl (lv_at hl 1 rfl) ?_
  refine m_put B (i7 _) hK hM 0 (by decide) rfl (by decide +kernel) (List.mem_cons_of_mem _ w7_fRX7_98) dX7_refuse_2 (fun H locs hM => ?_)
  refine z_iconst B.1 B.2.1 dX7_refuse_5 ?_
  exact m_reti B hM (⟨rfl, rfl⟩) dX7_refuse_6
set_option maxHeartbeats 4000000 in
set_option maxRecDepth 100000 in
theorem cX7_thrown_ok (l : Launch) (D : va_G) (cy : Nat → ClassId) (o : Nat) (q : Nat → Nat) (S : MSt)  : mMi l D cy o q yX7_thrown (.code yX7_thrown cX7_thrown 1 (some .int) :: TB7) ({ frames := 0, cells := 0, slots := 0, locals := 0 }) S [] (fun r S' => r = S.1 0 ∧ S' = S) := by
  refine m_of (cc := cX7_thrown) (maxL := 1) (ret := (some .int)) (by decide) rfl rfl (Nat.le_of_ble_eq_true rfl) ?_
  intro p e s m args below meth c ls B hK hM hl
  have hl : lv_has ls 1 [(0, .ref o)] := hl
  refine lv_aload_n B.1 B.2.1 dX7_thrown_0 rfl (lv_at hl 0 rfl) ?_
  refine m_get (x := S.1 0) B (i7 _) hK hM 0 (by decide) rfl rfl (List.mem_cons_of_mem _ w7_fRX7_98) dX7_thrown_1 ?_
  exact m_reti B hM (⟨rfl, rfl⟩) dX7_thrown_4
set_option maxHeartbeats 4000000 in
set_option maxRecDepth 100000 in
theorem cX7_emit_ok (l : Launch) (D : va_G) (cy : Nat → ClassId) (o : Nat) (q : Nat → Nat) (S : MSt) (w x y z : Int) (h0 : 0 ≤ S.1 19) (h1 : S.1 19 < 220) : mMi l D cy o q yX7_emit (.code yX7_emit cX7_emit 5 (some .int) :: TB7) ({ frames := 0, cells := 0, slots := 0, locals := 0 }) S [.int (zI (w)), .int (zI (x)), .int (zI (y)), .int (zI (z))] (fun r S' => r = S.1 19 ∧ S' = M_emit w x y z S) := by
  refine m_of (cc := cX7_emit) (maxL := 5) (ret := (some .int)) (by decide) rfl rfl (Nat.le_of_ble_eq_true rfl) ?_
  intro p e s m args below meth c ls B hK hM hl
  have hl : lv_has ls 5 [(0, .ref o), (1, .int (zI (w))), (2, .int (zI (x))), (3, .int (zI (y))), (4, .int (zI (z)))] := hl
  refine lv_aload_n B.1 B.2.1 dX7_emit_0 rfl (lv_at hl 0 rfl) ?_
  refine m_getr B (i7 _) hK hM 15 (by decide) rfl (List.mem_cons_of_mem _ w7_fRX7_35) dX7_emit_1 ?_
  refine lv_aload_n B.1 B.2.1 dX7_emit_4 rfl (lv_at hl 0 rfl) ?_
  refine m_get (x := S.1 19) B (i7 _) hK hM 19 (by decide) rfl rfl (List.mem_cons_of_mem _ w7_fRX7_114) dX7_emit_5 ?_
  refine lv_iload_n B.1 B.2.1 dX7_emit_8 rfl (lv_at hl 1 rfl) ?_
  refine m_iast B hK hM 8 15 rfl rfl (by omega) (by show _ < ((_ : Nat) : Int); simp only [mN]; omega) dX7_emit_9 (fun H locs hM => ?_)
  refine lv_aload_n B.1 B.2.1 dX7_emit_10 rfl (lv_at hl 0 rfl) ?_
  refine m_getr B (i7 _) hK hM 16 (by decide) rfl (List.mem_cons_of_mem _ w7_fRX7_38) dX7_emit_11 ?_
  refine lv_aload_n B.1 B.2.1 dX7_emit_14 rfl (lv_at hl 0 rfl) ?_
  refine m_get (x := S.1 19) B (i7 _) hK hM 19 (by decide) rfl rfl (List.mem_cons_of_mem _ w7_fRX7_114) dX7_emit_15 ?_
  refine lv_iload_n B.1 B.2.1 dX7_emit_18 rfl (lv_at hl 2 rfl) ?_
  refine m_iast B hK hM 9 16 rfl rfl (by omega) (by show _ < ((_ : Nat) : Int); simp only [mN]; omega) dX7_emit_19 (fun H locs hM => ?_)
  refine lv_aload_n B.1 B.2.1 dX7_emit_20 rfl (lv_at hl 0 rfl) ?_
  refine m_getr B (i7 _) hK hM 17 (by decide) rfl (List.mem_cons_of_mem _ w7_fRX7_41) dX7_emit_21 ?_
  refine lv_aload_n B.1 B.2.1 dX7_emit_24 rfl (lv_at hl 0 rfl) ?_
  refine m_get (x := S.1 19) B (i7 _) hK hM 19 (by decide) rfl rfl (List.mem_cons_of_mem _ w7_fRX7_114) dX7_emit_25 ?_
  refine lv_iload_n B.1 B.2.1 dX7_emit_28 rfl (lv_at hl 3 rfl) ?_
  refine m_iast B hK hM 10 17 rfl rfl (by omega) (by show _ < ((_ : Nat) : Int); simp only [mN]; omega) dX7_emit_29 (fun H locs hM => ?_)
  refine lv_aload_n B.1 B.2.1 dX7_emit_30 rfl (lv_at hl 0 rfl) ?_
  refine m_getr B (i7 _) hK hM 18 (by decide) rfl (List.mem_cons_of_mem _ w7_fRX7_44) dX7_emit_31 ?_
  refine lv_aload_n B.1 B.2.1 dX7_emit_34 rfl (lv_at hl 0 rfl) ?_
  refine m_get (x := S.1 19) B (i7 _) hK hM 19 (by decide) rfl rfl (List.mem_cons_of_mem _ w7_fRX7_114) dX7_emit_35 ?_
  refine lv_iload B.1 B.2.1 dX7_emit_38 (lv_at hl 4 rfl) ?_
  refine m_iast B hK hM 11 18 rfl rfl (by omega) (by show _ < ((_ : Nat) : Int); simp only [mN]; omega) dX7_emit_40 (fun H locs hM => ?_)
  refine lv_aload_n B.1 B.2.1 dX7_emit_41 rfl (lv_at hl 0 rfl) ?_
  refine lv_dup B.1 B.2.1 dX7_emit_42 rfl ?_
  refine m_get (x := S.1 19) B (i7 _) hK hM 19 (by decide) rfl rfl (List.mem_cons_of_mem _ w7_fRX7_114) dX7_emit_43 ?_
  refine z_iconst B.1 B.2.1 dX7_emit_46 ?_
  refine z_iadd (x := S.1 19 + 1) B.1 B.2.1 rfl dX7_emit_47 ?_
  refine m_put B (i7 _) hK hM 19 (by decide) rfl (by decide +kernel) (List.mem_cons_of_mem _ w7_fRX7_114) dX7_emit_48 (fun H locs hM => ?_)
  refine lv_aload_n B.1 B.2.1 dX7_emit_51 rfl (lv_at hl 0 rfl) ?_
  refine m_get (x := S.1 19 + 1) B (i7 _) hK hM 19 (by decide) rfl rfl (List.mem_cons_of_mem _ w7_fRX7_114) dX7_emit_52 ?_
  refine z_iconst B.1 B.2.1 dX7_emit_55 ?_
  refine z_isub (x := S.1 19 + 1 - 1) B.1 B.2.1 rfl dX7_emit_56 ?_
  exact m_reti B hM (⟨by omega, rfl⟩) dX7_emit_57
set_option maxHeartbeats 4000000 in
set_option maxRecDepth 100000 in
theorem cX7_sign_ok (l : Launch) (D : va_G) (cy : Nat → ClassId) (o : Nat) (q : Nat → Nat) (S : MSt) (k : Int) (h0 : 0 ≤ k) (h1 : k ≤ 100000) (h2 : 0 ≤ S.1 14) (h3 : S.1 14 ≤ 40) : mMi l D cy o q yX7_sign (.code yX7_sign cX7_sign 2 (some .int) :: TB7) ({ frames := 0, cells := 0, slots := 0, locals := 0 }) S [.int (zI (k))] (fun r S' => r = M_sign S k ∧ S' = S) := by
  refine m_of (cc := cX7_sign) (maxL := 2) (ret := (some .int)) (by decide) rfl rfl (Nat.le_of_ble_eq_true rfl) ?_
  intro p e s m args below meth c ls B hK hM hl
  have hl : lv_has ls 2 [(0, .ref o), (1, .int (zI (k)))] := hl
  refine lv_iload_n B.1 B.2.1 dX7_sign_0 rfl (lv_at hl 1 rfl) ?_
  refine lv_aload_n B.1 B.2.1 dX7_sign_1 rfl (lv_at hl 0 rfl) ?_
  refine m_get (x := S.1 14) B (i7 _) hK hM 14 (by decide) rfl rfl (List.mem_cons_of_mem _ w7_fRX7_86) dX7_sign_2 ?_
  refine z_icmp_ge (tgt := 17) B.1 B.2.1 (zr_of (by omega) (by omega)) (zr_of (by omega) (by omega)) dX7_sign_5 (by decide) (fun c_1 => ?_) (fun c_1 => ?_)
  · --
    refine z_iconst B.1 B.2.1 dX7_sign_17 ?_
    exact m_reti B hM (⟨by unfold M_sign; first | rw [if_pos (by omega)] | rw [if_neg (by omega)], rfl⟩) dX7_sign_18
  · --
    refine lv_aload_n B.1 B.2.1 dX7_sign_8 rfl (lv_at hl 0 rfl) ?_
    refine m_getr B (i7 _) hK hM 13 (by decide) rfl (List.mem_cons_of_mem _ w7_fRX7_32) dX7_sign_9 ?_
    refine lv_iload_n B.1 B.2.1 dX7_sign_12 rfl (lv_at hl 1 rfl) ?_
    refine m_cald (x := S.2 13 (k).toNat) B hK hM 7 13 rfl rfl (by omega) (by show _ < ((_ : Nat) : Int); simp only [mN]; omega) rfl dX7_sign_13 ?_
    refine lv_goto (tgt := 18) B.1 B.2.1 dX7_sign_14 (by decide) ?_
    exact m_reti B hM (⟨by unfold M_sign; first | rw [if_pos (by omega)] | rw [if_neg (by omega)], rfl⟩) dX7_sign_18
set_option maxHeartbeats 4000000 in
set_option maxRecDepth 100000 in
theorem cX7_weigh_ok (l : Launch) (D : va_G) (cy : Nat → ClassId) (o : Nat) (q : Nat → Nat) (S : MSt) (w : Int) (h0 : 1 ≤ S.1 32) (h1 : S.1 32 ≤ 44) : mMv l D cy o q yX7_weigh (.code yX7_weigh cX7_weigh 2 none :: TB7) ({ frames := 0, cells := 0, slots := 0, locals := 0 }) S [.int (zI (w))] (fun S' => S' = M_weigh w S) := by
  refine m_of (cc := cX7_weigh) (maxL := 2) (ret := none) (by decide) rfl rfl (Nat.le_of_ble_eq_true rfl) ?_
  intro p e s m args below meth c ls B hK hM hl
  have hl : lv_has ls 2 [(0, .ref o), (1, .int (zI (w)))] := hl
  refine lv_aload_n B.1 B.2.1 dX7_weigh_0 rfl (lv_at hl 0 rfl) ?_
  refine m_getr B (i7 _) hK hM 30 (by decide) rfl (List.mem_cons_of_mem _ w7_fRX7_59) dX7_weigh_1 ?_
  refine lv_aload_n B.1 B.2.1 dX7_weigh_4 rfl (lv_at hl 0 rfl) ?_
  refine m_get (x := S.1 32) B (i7 _) hK hM 32 (by decide) rfl rfl (List.mem_cons_of_mem _ w7_fRX7_121) dX7_weigh_5 ?_
  refine z_iconst B.1 B.2.1 dX7_weigh_8 ?_
  refine z_isub (x := S.1 32 - 1) B.1 B.2.1 rfl dX7_weigh_9 ?_
  refine lv_dup2_11 B.1 B.2.1 dX7_weigh_10 rfl rfl ?_
  refine m_iald (x := S.2 30 (S.1 32 - 1).toNat) B hK hM 16 30 rfl rfl (by omega) (by show _ < ((_ : Nat) : Int); simp only [mN]; omega) rfl dX7_weigh_11 ?_
  refine lv_iload_n B.1 B.2.1 dX7_weigh_12 rfl (lv_at hl 1 rfl) ?_
  refine z_iadd (x := S.2 30 (S.1 32 - 1).toNat + w) B.1 B.2.1 rfl dX7_weigh_13 ?_
  refine m_iast B hK hM 16 30 rfl rfl (by omega) (by show _ < ((_ : Nat) : Int); simp only [mN]; omega) dX7_weigh_14 (fun H locs hM => ?_)
  exact m_retv B hM (rfl) dX7_weigh_15
set_option maxHeartbeats 4000000 in
set_option maxRecDepth 100000 in
theorem cX7_step_ok (l : Launch) (D : va_G) (cy : Nat → ClassId) (o : Nat) (q : Nat → Nat) (S : MSt) (h0 : 0 ≤ S.1 41) (h1 : S.1 41 ≤ 1) (h2 : 0 ≤ S.1 40) (h3 : S.1 40 ≤ 1000) : mMv l D cy o q yX7_step (.code yX7_step cX7_step 1 none :: TB7) ({ frames := 0, cells := 0, slots := 0, locals := 0 }) S [] (fun S' => S' = M_step S) := by
  refine m_of (cc := cX7_step) (maxL := 1) (ret := none) (by decide) rfl rfl (Nat.le_of_ble_eq_true rfl) ?_
  intro p e s m args below meth c ls B hK hM hl
  have hl : lv_has ls 1 [(0, .ref o)] := hl
  refine lv_aload_n B.1 B.2.1 dX7_step_0 rfl (lv_at hl 0 rfl) ?_
  refine z_join (P := fun v : Int => v = zb (¬ S.1 41 = 0 ∨ S.1 40 = 500)) (pcJ := 23) (lsJ := ls) (stJ := [.ref o]) (fun v_1 hv_2 => ?_) (fun hJ_3 => ?_)
  · --
    have hb := zb_01 (¬ S.1 41 = 0 ∨ S.1 40 = 500)
    rw [← hv_2] at hb
    refine m_putz B (i7 _) hK hM 41 (by decide) rfl (by omega) (by decide +kernel) (List.mem_cons_of_mem _ w7_fRX7_247) dX7_step_23 (fun H locs hM => ?_)
    refine lv_aload_n B.1 B.2.1 dX7_step_26 rfl (lv_at hl 0 rfl) ?_
    refine lv_dup B.1 B.2.1 dX7_step_27 rfl ?_
    refine m_get (x := S.1 40) B (i7 _) hK hM 40 (by decide) rfl rfl (List.mem_cons_of_mem _ w7_fRX7_250) dX7_step_28 ?_
    refine z_iconst B.1 B.2.1 dX7_step_31 ?_
    refine z_iadd (x := S.1 40 + 1) B.1 B.2.1 rfl dX7_step_32 ?_
    refine m_put B (i7 _) hK hM 40 (by decide) rfl (by decide +kernel) (List.mem_cons_of_mem _ w7_fRX7_250) dX7_step_33 (fun H locs hM => ?_)
    exact m_retv B hM (by rw [M_step, ← hv_2]) dX7_step_36
  · --
    refine lv_aload_n B.1 B.2.1 dX7_step_1 rfl (lv_at hl 0 rfl) ?_
    refine m_get (x := S.1 41) B (i7 _) hK hM 41 (by decide) rfl rfl (List.mem_cons_of_mem _ w7_fRX7_247) dX7_step_2 ?_
    refine z_if_ne (tgt := 18) B.1 B.2.1 (zr_of (by omega) (by omega)) dX7_step_5 (by decide) (fun c_4 => ?_) (fun c_4 => ?_)
    · --
      refine z_iconst B.1 B.2.1 dX7_step_18 ?_
      refine lv_goto (tgt := 23) B.1 B.2.1 dX7_step_19 (by decide) ?_
      exact hJ_3 (1) ((zb_t (by omega)).symm)
    · --
      refine lv_aload_n B.1 B.2.1 dX7_step_8 rfl (lv_at hl 0 rfl) ?_
      refine m_get (x := S.1 40) B (i7 _) hK hM 40 (by decide) rfl rfl (List.mem_cons_of_mem _ w7_fRX7_250) dX7_step_9 ?_
      refine z_sipush B.1 B.2.1 (by decide) dX7_step_12 ?_
      refine z_icmp_ne (tgt := 22) B.1 B.2.1 (zr_of (by omega) (by omega)) (zr_of (by decide) (by decide)) dX7_step_15 (by decide) (fun c_5 => ?_) (fun c_5 => ?_)
      · --
        refine z_iconst B.1 B.2.1 dX7_step_22 ?_
        exact hJ_3 (0) ((zb_f (by omega)).symm)
      · --
        refine z_iconst B.1 B.2.1 dX7_step_18 ?_
        refine lv_goto (tgt := 23) B.1 B.2.1 dX7_step_19 (by decide) ?_
        exact hJ_3 (1) ((zb_t (by omega)).symm)
set_option maxHeartbeats 4000000 in
set_option maxRecDepth 100000 in
theorem cX7_put_ok (l : Launch) (D : va_G) (cy : Nat → ClassId) (o : Nat) (q : Nat → Nat) (S : MSt) (r v : Int) (h0 : 0 ≤ r) (h1 : r < 180) (h2 : -100000 ≤ v) (h3 : v ≤ 100000) (h4 : 0 ≤ S.1 35) (h5 : S.1 35 < 6000) (h6 : -100000 ≤ S.2 33 r.toNat) (h7 : S.2 33 r.toNat ≤ 100000) : mMv l D cy o q yX7_put (.code yX7_put cX7_put 3 none :: TB7) ({ frames := 0, cells := 0, slots := 0, locals := 0 }) S [.int (zI (r)), .int (zI (v))] (fun S' => S' = M_put r v S) := by
  refine m_of (cc := cX7_put) (maxL := 3) (ret := none) (by decide) rfl rfl (Nat.le_of_ble_eq_true rfl) ?_
  intro p e s m args below meth c ls B hK hM hl
  have hl : lv_has ls 3 [(0, .ref o), (1, .int (zI (r))), (2, .int (zI (v)))] := hl
  refine lv_aload_n B.1 B.2.1 dX7_put_0 rfl (lv_at hl 0 rfl) ?_
  refine m_getr B (i7 _) hK hM 33 (by decide) rfl (List.mem_cons_of_mem _ w7_fRX7_65) dX7_put_1 ?_
  refine lv_iload_n B.1 B.2.1 dX7_put_4 rfl (lv_at hl 1 rfl) ?_
  refine m_iald (x := S.2 33 (r).toNat) B hK hM 18 33 rfl rfl (by omega) (by show _ < ((_ : Nat) : Int); simp only [mN]; omega) rfl dX7_put_5 ?_
  refine lv_iload_n B.1 B.2.1 dX7_put_6 rfl (lv_at hl 2 rfl) ?_
  refine z_icmp_ne (tgt := 11) B.1 B.2.1 (zr_of (by omega) (by omega)) (zr_of (by omega) (by omega)) dX7_put_7 (by decide) (fun c_1 => ?_) (fun c_1 => ?_)
  · --
    refine lv_aload_n B.1 B.2.1 dX7_put_11 rfl (lv_at hl 0 rfl) ?_
    refine m_getr B (i7 _) hK hM 34 (by decide) rfl (List.mem_cons_of_mem _ w7_fRX7_68) dX7_put_12 ?_
    refine lv_aload_n B.1 B.2.1 dX7_put_15 rfl (lv_at hl 0 rfl) ?_
    refine m_get (x := S.1 35) B (i7 _) hK hM 35 (by decide) rfl rfl (List.mem_cons_of_mem _ w7_fRX7_225) dX7_put_16 ?_
    refine z_bipush B.1 B.2.1 (by decide) dX7_put_19 ?_
    refine lv_iload_n B.1 B.2.1 dX7_put_21 rfl (lv_at hl 1 rfl) ?_
    refine z_imul (x := 64 * r) B.1 B.2.1 rfl dX7_put_22 ?_
    refine lv_aload_n B.1 B.2.1 dX7_put_23 rfl (lv_at hl 0 rfl) ?_
    refine m_getr B (i7 _) hK hM 33 (by decide) rfl (List.mem_cons_of_mem _ w7_fRX7_65) dX7_put_24 ?_
    refine lv_iload_n B.1 B.2.1 dX7_put_27 rfl (lv_at hl 1 rfl) ?_
    refine m_iald (x := S.2 33 (r).toNat) B hK hM 18 33 rfl rfl (by omega) (by show _ < ((_ : Nat) : Int); simp only [mN]; omega) rfl dX7_put_28 ?_
    refine z_iadd (x := 64 * r + (S.2 33 (r).toNat)) B.1 B.2.1 rfl dX7_put_29 ?_
    refine z_iconst B.1 B.2.1 dX7_put_30 ?_
    refine z_iadd (x := 64 * r + (S.2 33 (r).toNat) + 2) B.1 B.2.1 rfl dX7_put_31 ?_
    refine m_iast B hK hM 19 34 rfl rfl (by omega) (by show _ < ((_ : Nat) : Int); simp only [mN]; omega) dX7_put_32 (fun H locs hM => ?_)
    refine lv_aload_n B.1 B.2.1 dX7_put_33 rfl (lv_at hl 0 rfl) ?_
    refine lv_dup B.1 B.2.1 dX7_put_34 rfl ?_
    refine m_get (x := S.1 35) B (i7 _) hK hM 35 (by decide) rfl rfl (List.mem_cons_of_mem _ w7_fRX7_225) dX7_put_35 ?_
    refine z_iconst B.1 B.2.1 dX7_put_38 ?_
    refine z_iadd (x := S.1 35 + 1) B.1 B.2.1 rfl dX7_put_39 ?_
    refine m_put B (i7 _) hK hM 35 (by decide) rfl (by decide +kernel) (List.mem_cons_of_mem _ w7_fRX7_225) dX7_put_40 (fun H locs hM => ?_)
    refine lv_aload_n B.1 B.2.1 dX7_put_43 rfl (lv_at hl 0 rfl) ?_
    refine m_getr B (i7 _) hK hM 33 (by decide) rfl (List.mem_cons_of_mem _ w7_fRX7_65) dX7_put_44 ?_
    refine lv_iload_n B.1 B.2.1 dX7_put_47 rfl (lv_at hl 1 rfl) ?_
    refine lv_iload_n B.1 B.2.1 dX7_put_48 rfl (lv_at hl 2 rfl) ?_
    refine m_iast B hK hM 18 33 rfl rfl (by omega) (by show _ < ((_ : Nat) : Int); simp only [mN]; omega) dX7_put_49 (fun H locs hM => ?_)
    exact m_retv B hM (by rw [M_put, if_neg c_1]) dX7_put_50
  · --
    exact m_retv B hM (by rw [M_put, if_pos c_1]) dX7_put_10
set_option maxHeartbeats 4000000 in
set_option maxRecDepth 100000 in
theorem cX7_choose_ok (l : Launch) (D : va_G) (cy : Nat → ClassId) (o : Nat) (q : Nat → Nat) (S : MSt) (kind what : Int) (h0 : 0 ≤ S.1 37) (h1 : S.1 37 < 3000) : mMv l D cy o q yX7_choose (.code yX7_choose cX7_choose 3 none :: TB7) ({ frames := 0, cells := 0, slots := 0, locals := 0 }) S [.int (zI (kind)), .int (zI (what))] (fun S' => S' = M_choose kind what S) := by
  refine m_of (cc := cX7_choose) (maxL := 3) (ret := none) (by decide) rfl rfl (Nat.le_of_ble_eq_true rfl) ?_
  intro p e s m args below meth c ls B hK hM hl
  have hl : lv_has ls 3 [(0, .ref o), (1, .int (zI (kind))), (2, .int (zI (what)))] := hl
  refine lv_aload_n B.1 B.2.1 dX7_choose_0 rfl (lv_at hl 0 rfl) ?_
  refine m_getr B (i7 _) hK hM 36 (by decide) rfl (List.mem_cons_of_mem _ w7_fRX7_71) dX7_choose_1 ?_
  refine lv_aload_n B.1 B.2.1 dX7_choose_4 rfl (lv_at hl 0 rfl) ?_
  refine m_get (x := S.1 37) B (i7 _) hK hM 37 (by decide) rfl rfl (List.mem_cons_of_mem _ w7_fRX7_228) dX7_choose_5 ?_
  refine lv_iload_n B.1 B.2.1 dX7_choose_8 rfl (lv_at hl 1 rfl) ?_
  refine z_iconst B.1 B.2.1 dX7_choose_9 ?_
  refine lv_iload_n B.1 B.2.1 dX7_choose_10 rfl (lv_at hl 2 rfl) ?_
  refine z_sipush B.1 B.2.1 (by decide) dX7_choose_11 ?_
  refine lv_aload_n B.1 B.2.1 dX7_choose_14 rfl (lv_at hl 0 rfl) ?_
  refine m_get (x := S.1 38) B (i7 _) hK hM 38 (by decide) rfl rfl (List.mem_cons_of_mem _ w7_fRX7_216) dX7_choose_15 ?_
  refine z_bipush B.1 B.2.1 (by decide) dX7_choose_18 ?_
  refine lv_aload_n B.1 B.2.1 dX7_choose_20 rfl (lv_at hl 0 rfl) ?_
  refine m_get (x := S.1 35) B (i7 _) hK hM 35 (by decide) rfl rfl (List.mem_cons_of_mem _ w7_fRX7_225) dX7_choose_21 ?_
  refine z_imul (x := 32 * (S.1 35)) B.1 B.2.1 rfl dX7_choose_24 ?_
  refine z_iadd (x := S.1 38 + (32 * (S.1 35))) B.1 B.2.1 rfl dX7_choose_25 ?_
  refine z_imul (x := 256 * (S.1 38 + (32 * (S.1 35)))) B.1 B.2.1 rfl dX7_choose_26 ?_
  refine z_iadd (x := what + (256 * (S.1 38 + (32 * (S.1 35))))) B.1 B.2.1 rfl dX7_choose_27 ?_
  refine z_imul (x := 4 * (what + (256 * (S.1 38 + (32 * (S.1 35)))))) B.1 B.2.1 rfl dX7_choose_28 ?_
  refine z_iadd (x := kind + (4 * (what + (256 * (S.1 38 + (32 * (S.1 35))))))) B.1 B.2.1 rfl dX7_choose_29 ?_
  refine m_iast B hK hM 20 36 rfl rfl (by omega) (by show _ < ((_ : Nat) : Int); simp only [mN]; omega) dX7_choose_30 (fun H locs hM => ?_)
  refine lv_aload_n B.1 B.2.1 dX7_choose_31 rfl (lv_at hl 0 rfl) ?_
  refine lv_dup B.1 B.2.1 dX7_choose_32 rfl ?_
  refine m_get (x := S.1 37) B (i7 _) hK hM 37 (by decide) rfl rfl (List.mem_cons_of_mem _ w7_fRX7_228) dX7_choose_33 ?_
  refine z_iconst B.1 B.2.1 dX7_choose_36 ?_
  refine z_iadd (x := S.1 37 + 1) B.1 B.2.1 rfl dX7_choose_37 ?_
  refine m_put B (i7 _) hK hM 37 (by decide) rfl (by decide +kernel) (List.mem_cons_of_mem _ w7_fRX7_228) dX7_choose_38 (fun H locs hM => ?_)
  exact m_retv B hM (rfl) dX7_choose_41
set_option maxHeartbeats 4000000 in
set_option maxRecDepth 100000 in
theorem cX7_looked_ok (l : Launch) (D : va_G) (cy : Nat → ClassId) (o : Nat) (q : Nat → Nat) (S : MSt) (k : Int) (h0 : 0 ≤ k) (h1 : k < 220) (h2 : 0 ≤ S.2 11 k.toNat) (h3 : S.2 11 k.toNat < 50) (h4 : 0 ≤ S.2 33 (130 + S.2 11 k.toNat).toNat) (h5 : S.2 33 (130 + S.2 11 k.toNat).toNat < 3000) (h6 : 0 ≤ S.2 36 (S.2 33 (130 + S.2 11 k.toNat).toNat).toNat) (h7 : S.2 36 (S.2 33 (130 + S.2 11 k.toNat).toNat).toNat ≤ 2000000000) : mMv l D cy o q yX7_looked (.code yX7_looked cX7_looked 3 none :: TB7) ({ frames := 0, cells := 0, slots := 0, locals := 0 }) S [.int (zI (k))] (fun S' => S' = M_looked k S) := by
  refine m_of (cc := cX7_looked) (maxL := 3) (ret := none) (by decide) rfl rfl (Nat.le_of_ble_eq_true rfl) ?_
  intro p e s m args below meth c ls B hK hM hl
  have hl : lv_has ls 3 [(0, .ref o), (1, .int (zI (k)))] := hl
  refine lv_aload_n B.1 B.2.1 dX7_looked_0 rfl (lv_at hl 0 rfl) ?_
  refine m_getr B (i7 _) hK hM 33 (by decide) rfl (List.mem_cons_of_mem _ w7_fRX7_65) dX7_looked_1 ?_
  refine z_sipush B.1 B.2.1 (by decide) dX7_looked_4 ?_
  refine lv_aload_n B.1 B.2.1 dX7_looked_7 rfl (lv_at hl 0 rfl) ?_
  refine m_getr B (i7 _) hK hM 11 (by decide) rfl (List.mem_cons_of_mem _ w7_fRX7_29) dX7_looked_8 ?_
  refine lv_iload_n B.1 B.2.1 dX7_looked_11 rfl (lv_at hl 1 rfl) ?_
  refine m_iald (x := S.2 11 (k).toNat) B hK hM 6 11 rfl rfl (by omega) (by show _ < ((_ : Nat) : Int); simp only [mN]; omega) rfl dX7_looked_12 ?_
  refine z_iadd (x := 130 + (S.2 11 (k).toNat)) B.1 B.2.1 rfl dX7_looked_13 ?_
  refine m_iald (x := S.2 33 (130 + (S.2 11 (k).toNat)).toNat) B hK hM 18 33 rfl rfl (by omega) (by show _ < ((_ : Nat) : Int); simp only [mN]; omega) rfl dX7_looked_14 ?_
  refine lv_istore_n (lv' := [(2, .int (zI (S.2 33 (130 + (S.2 11 (k).toNat)).toNat))), (0, .ref o), (1, .int (zI (k)))]) B.1 B.2.1 dX7_looked_15 rfl hl (by decide) rfl (fun ls hl => ?_)
  refine lv_aload_n B.1 B.2.1 dX7_looked_16 rfl (lv_at hl 1 rfl) ?_
  refine lv_aload_n B.1 B.2.1 dX7_looked_17 rfl (lv_at hl 1 rfl) ?_
  refine m_getr B (i7 _) hK hM 36 (by decide) rfl (List.mem_cons_of_mem _ w7_fRX7_71) dX7_looked_18 ?_
  refine lv_iload_n B.1 B.2.1 dX7_looked_21 rfl (lv_at hl 0 rfl) ?_
  refine m_iald (x := S.2 36 (S.2 33 (130 + (S.2 11 (k).toNat)).toNat).toNat) B hK hM 20 36 rfl rfl (by omega) (by show _ < ((_ : Nat) : Int); simp only [mN]; omega) rfl dX7_looked_22 ?_
  refine z_sipush B.1 B.2.1 (by decide) dX7_looked_23 ?_
  refine z_idiv (x := (S.2 36 (S.2 33 (130 + (S.2 11 (k).toNat)).toNat).toNat) / 1024) B.1 B.2.1 rfl (zr_of (by omega) (by omega)) (by omega) (zr_of (by decide) (by decide)) (by decide) dX7_looked_26 ?_
  refine z_bipush B.1 B.2.1 (by decide) dX7_looked_27 ?_
  refine z_irem (x := ((S.2 36 (S.2 33 (130 + (S.2 11 (k).toNat)).toNat).toNat) / 1024) % 32) B.1 B.2.1 rfl (zr_of (by omega) (by omega)) (by omega) (zr_of (by decide) (by decide)) (by decide) dX7_looked_29 ?_
  refine m_put B (i7 _) hK hM 38 (by decide) rfl (by decide +kernel) (List.mem_cons_of_mem _ w7_fRX7_216) dX7_looked_30 (fun H locs hM => ?_)
  refine lv_aload_n B.1 B.2.1 dX7_looked_33 rfl (lv_at hl 1 rfl) ?_
  refine lv_iload_n B.1 B.2.1 dX7_looked_34 rfl (lv_at hl 0 rfl) ?_
  refine m_put B (i7 _) hK hM 37 (by decide) rfl (by decide +kernel) (List.mem_cons_of_mem _ w7_fRX7_228) dX7_looked_35 (fun H locs hM => ?_)
  exact m_retv B hM (rfl) dX7_looked_38
set_option maxHeartbeats 4000000 in
set_option maxRecDepth 100000 in
theorem cX7_isIdle_ok (l : Launch) (D : va_G) (cy : Nat → ClassId) (o : Nat) (q : Nat → Nat) (S : MSt) (k : Int) (h0 : 0 ≤ k) (h1 : k < 220) (h2 : 0 ≤ S.2 11 k.toNat) (h3 : S.2 11 k.toNat < 50) (h4 : 0 ≤ S.2 9 k.toNat) (h5 : S.2 9 k.toNat < 1000000) (h6 : -100000 ≤ S.2 33 (30 + S.2 11 k.toNat).toNat) (h7 : S.2 33 (30 + S.2 11 k.toNat).toNat ≤ 100000) (h8 : -100000 ≤ S.2 33 (80 + S.2 11 k.toNat).toNat) (h9 : S.2 33 (80 + S.2 11 k.toNat).toNat ≤ 100000) (h10 : 0 ≤ S.1 38) (h11 : S.1 38 ≤ 1000) : mMi l D cy o q yX7_isIdle (.code yX7_isIdle cX7_isIdle 2 (some .boolean) :: TB7) ({ frames := 0, cells := 0, slots := 0, locals := 0 }) S [.int (zI (k))] (fun r S' => r = zb (M_isIdle k S) ∧ S' = S) := by
  refine m_of (cc := cX7_isIdle) (maxL := 2) (ret := (some .boolean)) (by decide) rfl rfl (Nat.le_of_ble_eq_true rfl) ?_
  intro p e s m args below meth c ls B hK hM hl
  have hl : lv_has ls 2 [(0, .ref o), (1, .int (zI (k)))] := hl
  refine lv_aload_n B.1 B.2.1 dX7_isIdle_0 rfl (lv_at hl 0 rfl) ?_
  refine m_getr B (i7 _) hK hM 33 (by decide) rfl (List.mem_cons_of_mem _ w7_fRX7_65) dX7_isIdle_1 ?_
  refine z_bipush B.1 B.2.1 (by decide) dX7_isIdle_4 ?_
  refine lv_aload_n B.1 B.2.1 dX7_isIdle_6 rfl (lv_at hl 0 rfl) ?_
  refine m_getr B (i7 _) hK hM 11 (by decide) rfl (List.mem_cons_of_mem _ w7_fRX7_29) dX7_isIdle_7 ?_
  refine lv_iload_n B.1 B.2.1 dX7_isIdle_10 rfl (lv_at hl 1 rfl) ?_
  refine m_iald (x := S.2 11 (k).toNat) B hK hM 6 11 rfl rfl (by omega) (by show _ < ((_ : Nat) : Int); simp only [mN]; omega) rfl dX7_isIdle_11 ?_
  refine z_iadd (x := 30 + (S.2 11 (k).toNat)) B.1 B.2.1 rfl dX7_isIdle_12 ?_
  refine m_iald (x := S.2 33 (30 + (S.2 11 (k).toNat)).toNat) B hK hM 18 33 rfl rfl (by omega) (by show _ < ((_ : Nat) : Int); simp only [mN]; omega) rfl dX7_isIdle_13 ?_
  refine lv_aload_n B.1 B.2.1 dX7_isIdle_14 rfl (lv_at hl 0 rfl) ?_
  refine m_getr B (i7 _) hK hM 9 (by decide) rfl (List.mem_cons_of_mem _ w7_fRX7_23) dX7_isIdle_15 ?_
  refine lv_iload_n B.1 B.2.1 dX7_isIdle_18 rfl (lv_at hl 1 rfl) ?_
  refine m_iald (x := S.2 9 (k).toNat) B hK hM 4 9 rfl rfl (by omega) (by show _ < ((_ : Nat) : Int); simp only [mN]; omega) rfl dX7_isIdle_19 ?_
  refine z_sipush B.1 B.2.1 (by decide) dX7_isIdle_20 ?_
  refine z_irem (x := (S.2 9 (k).toNat) % 128) B.1 B.2.1 rfl (zr_of (by omega) (by omega)) (by omega) (zr_of (by decide) (by decide)) (by decide) dX7_isIdle_23 ?_
  refine z_icmp_le (tgt := 52) B.1 B.2.1 (zr_of (by omega) (by omega)) (zr_of (by omega) (by omega)) dX7_isIdle_24 (by decide) (fun c_1 => ?_) (fun c_1 => ?_)
  · --
    refine z_iconst B.1 B.2.1 dX7_isIdle_52 ?_
    exact m_retz B hM (by decide) (⟨(zb_f (by omega)).symm, rfl⟩) dX7_isIdle_53
  · --
    refine lv_aload_n B.1 B.2.1 dX7_isIdle_27 rfl (lv_at hl 0 rfl) ?_
    refine m_getr B (i7 _) hK hM 33 (by decide) rfl (List.mem_cons_of_mem _ w7_fRX7_65) dX7_isIdle_28 ?_
    refine z_bipush B.1 B.2.1 (by decide) dX7_isIdle_31 ?_
    refine lv_aload_n B.1 B.2.1 dX7_isIdle_33 rfl (lv_at hl 0 rfl) ?_
    refine m_getr B (i7 _) hK hM 11 (by decide) rfl (List.mem_cons_of_mem _ w7_fRX7_29) dX7_isIdle_34 ?_
    refine lv_iload_n B.1 B.2.1 dX7_isIdle_37 rfl (lv_at hl 1 rfl) ?_
    refine m_iald (x := S.2 11 (k).toNat) B hK hM 6 11 rfl rfl (by omega) (by show _ < ((_ : Nat) : Int); simp only [mN]; omega) rfl dX7_isIdle_38 ?_
    refine z_iadd (x := 80 + (S.2 11 (k).toNat)) B.1 B.2.1 rfl dX7_isIdle_39 ?_
    refine m_iald (x := S.2 33 (80 + (S.2 11 (k).toNat)).toNat) B hK hM 18 33 rfl rfl (by omega) (by show _ < ((_ : Nat) : Int); simp only [mN]; omega) rfl dX7_isIdle_40 ?_
    refine lv_aload_n B.1 B.2.1 dX7_isIdle_41 rfl (lv_at hl 0 rfl) ?_
    refine m_get (x := S.1 38) B (i7 _) hK hM 38 (by decide) rfl rfl (List.mem_cons_of_mem _ w7_fRX7_216) dX7_isIdle_42 ?_
    refine z_icmp_ne (tgt := 52) B.1 B.2.1 (zr_of (by omega) (by omega)) (zr_of (by omega) (by omega)) dX7_isIdle_45 (by decide) (fun c_2 => ?_) (fun c_2 => ?_)
    · --
      refine z_iconst B.1 B.2.1 dX7_isIdle_52 ?_
      exact m_retz B hM (by decide) (⟨(zb_f (by omega)).symm, rfl⟩) dX7_isIdle_53
    · --
      refine z_iconst B.1 B.2.1 dX7_isIdle_48 ?_
      refine lv_goto (tgt := 53) B.1 B.2.1 dX7_isIdle_49 (by decide) ?_
      exact m_retz B hM (by decide) (⟨(zb_t (by omega)).symm, rfl⟩) dX7_isIdle_53
