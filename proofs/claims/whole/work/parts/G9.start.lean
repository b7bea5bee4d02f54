/-! THE LAW FROM ITS ENTRY -/
set_option maxRecDepth 100000 in
theorem tL_d7 : Cond.code yX7_init cX7_init 2 none ∈ lw_tbl := List.mem_of_getElem? (i := 1042) (by decide +kernel)
theorem TW7i_good : TW7i.all goodWord = true := by decide +kernel
theorem TB7i_ok {w : Cond} (h : w ∈ TB7i) : goodWord w = true := by
  rcases List.mem_append.mp h with h | h
  · exact List.all_eq_true.mp TW7i_good w h
  · exact TB7_ok h
theorem tL_k0 : Cond.instantiable RX0 5 ∈ lw_tbl := List.mem_of_getElem? (i := 231) (by decide +kernel)
theorem tL_k1 : Cond.instantiable RX1 6 ∈ lw_tbl := List.mem_of_getElem? (i := 237) (by decide +kernel)
theorem tL_k2 : Cond.instantiable RX2 14 ∈ lw_tbl := List.mem_of_getElem? (i := 136) (by decide +kernel)
theorem tL_k3 : Cond.instantiable RX3 8 ∈ lw_tbl := List.mem_of_getElem? (i := 187) (by decide +kernel)
theorem tL_k4 : Cond.instantiable RX4 2 ∈ lw_tbl := List.mem_of_getElem? (i := 119) (by decide +kernel)
theorem tL_k5 : Cond.instantiable RX5 2 ∈ lw_tbl := List.mem_of_getElem? (i := 193) (by decide +kernel)
theorem tL_k6 : Cond.instantiable RX6 13 ∈ lw_tbl := List.mem_of_getElem? (i := 111) (by decide +kernel)
theorem tL_k7 : Cond.instantiable RX7 50 ∈ lw_tbl := List.mem_of_getElem? (i := 1039) (by decide +kernel)
theorem tL_ac : Cond.arrayClass .char ∈ lw_tbl := List.mem_of_getElem? (i := 134) (by decide +kernel)
theorem tL_ai : Cond.arrayClass .int ∈ lw_tbl := List.mem_of_getElem? (i := 184) (by decide +kernel)
theorem arr_of {s : State} {args : Array Value} {ty : FieldType} (h : (Cond.arrayClass ty).before args s = true) : ∃ cA : ClassId, ArrOfT s cA ty ∧ s.vm.findClass ("[" ++ ty.toString) = some cA := by
  obtain ⟨cA, kA, comp, h1, h2, h3⟩ := Cond.arrayClass_spec (args := args) (first := s) (o := none) (s := s) (idx := []) h
  exact ⟨cA, fun n z => ⟨fun k h => (by cases h), kA, h2, comp, h3⟩, h1⟩
theorem pL {D : va_G} {cl : List vw_C} {a b : va_W} {H : Heap} (h : va_P D cl (a ++ b) H) : va_P D cl a H := fun k z hz => h k z (by
  rw [List.getElem?_append_left (List.getElem?_eq_some_iff.mp hz).1]; exact hz)
theorem pR {D : va_G} {cl : List vw_C} {a b : va_W} {H : Heap} (h : va_P D cl (a ++ b) H) : va_P D cl b H := fun k z hz => h (a.length + k) z (by
  rw [List.getElem?_append_right (by omega), Nat.add_sub_cancel_left]; exact hz)
theorem dL {A : Nat → Prop} {a b : va_W} (h : va_D A (a ++ b)) : va_D A a := ⟨fun i j p q hp hq e => h.1 i j p q (by rw [List.getElem?_append_left (List.getElem?_eq_some_iff.mp hp).1]; exact hp) (by rw [List.getElem?_append_left (List.getElem?_eq_some_iff.mp hq).1]; exact hq) e, fun k z hz => h.2 k z (by rw [List.getElem?_append_left (List.getElem?_eq_some_iff.mp hz).1]; exact hz)⟩
theorem dR {A : Nat → Prop} {a b : va_W} (h : va_D A (a ++ b)) : va_D A b := ⟨fun i j p q hp hq e => by
  have := h.1 (a.length + i) (a.length + j) p q (by rw [List.getElem?_append_right (by omega), Nat.add_sub_cancel_left]; exact hp) (by rw [List.getElem?_append_right (by omega), Nat.add_sub_cancel_left]; exact hq) e
  omega, fun k z hz => h.2 (a.length + k) z (by rw [List.getElem?_append_right (by omega), Nat.add_sub_cancel_left]; exact hz)⟩
theorem dX {A : Nat → Prop} {a b : va_W} (h : va_D A (a ++ b)) {i j : Nat} {p q : Nat × va_E} (hp : a[i]? = some p) (hq : b[j]? = some q) : p.1 ≠ q.1 := fun e => by
  have hi := (List.getElem?_eq_some_iff.mp hp).1
  have := h.1 i (a.length + j) p q (by rw [List.getElem?_append_left hi]; exact hp) (by rw [List.getElem?_append_right (by omega), Nat.add_sub_cancel_left]; exact hq) e
  omega
theorem cq_self {q : Nat → Nat} : cq q (q 36) (q 37) = q := by
  funext n
  unfold cq
  by_cases h : n = 36
  · rw [if_pos h, h]
  · rw [if_neg h]
    by_cases h2 : n = 37
    · rw [if_pos h2, h2]
    · rw [if_neg h2]
/-- where the law's loop begins -/
theorem jF_new {D : va_G} {cy : Nat → ClassId} {q : Nat → Nat} {o : Nat} {q2 : Nat → Nat} {ao Z : Nat} {S : CSt} {M : MSt} {f : Nat → Int64} {H0 H : Heap} {locs : List Loc} (hP : va_P D vwCl ((cW cy q S ++ mW cy o q2 M) ++ oW cy ao f) H) (hD : va_D (fun a => Z ≤ a) ((cW cy q S ++ mW cy o q2 M) ++ oW cy ao f)) (hS : va_S (fun a => Z ≤ a) H0 H locs) : jF D cy q (q 36) (q 37) o q2 ao Z S M f H0 H locs := by
  have e : cq q (q 36) (q 37) = q := cq_self
  unfold jF
  rw [e]
  refine ⟨⟨pL (pL hP), dL (dL hD)⟩, ⟨pR (pL hP), dR (dL hD)⟩, ⟨pR hP, (dR hD).2 0 _ rfl⟩, ⟨?_, ?_, ?_⟩, hS⟩
  · rintro a ⟨n, hn, rfl⟩ (h | ⟨k, hk, h⟩)
    · exact dX (dL hD) (cW_get hn) mW_0 h
    · obtain ⟨j, hj, e9⟩ := List.getElem_of_mem hk
      have : mR[j]? = some k := by rw [List.getElem?_eq_getElem hj, e9]
      exact dX (dL hD) (cW_get hn) (mW_arr this) h
  · rintro ⟨n, hn, h⟩
    exact dX hD (by rw [List.getElem?_append_left (by rw [cW_len]; exact hn)]; exact cW_get hn) (q := (ao, .inl (cy 2, 1, .inr (.inl f)))) (j := 0) rfl h.symm
  · rintro (h | ⟨k, hk, h⟩)
    · exact dX hD (i := 40 + 0) (by rw [List.getElem?_append_right (by rw [cW_len]; omega), cW_len, Nat.add_sub_cancel_left]; exact mW_0) (q := (ao, .inl (cy 2, 1, .inr (.inl f)))) (j := 0) rfl h.symm
    · obtain ⟨j, hj, e9⟩ := List.getElem_of_mem hk
      have hm : mR[j]? = some k := by rw [List.getElem?_eq_getElem hj, e9]
      exact dX hD (i := 40 + (j + 1)) (by rw [List.getElem?_append_right (by rw [cW_len]; omega), cW_len, Nat.add_sub_cancel_left]; exact mW_arr hm) (q := (ao, .inl (cy 2, 1, .inr (.inl f)))) (j := 0) rfl h.symm
set_option maxHeartbeats 4000000 in
set_option maxRecDepth 100000 in
theorem whole_start {p : Program} {e : Env} {s : State} {m : MethodId} {below : List Frame} {meth : Method} {c : Code} (l : Launch) (hl0 : l.stackTraces = false) {b L : Nat} {xs : Nat → Int32} (hL : L ≤ 2048) (C0 : lw_At p s m meth c b L xs) : W p l e room_1 s m #[Value.ref b] below meth c s.heap [] 0 0 (lw_Z below #[Value.ref b] s) (entryFrame m ([Value.ref b] : List Value).toArray 7) := by
  obtain ⟨hx, hb, hr, hml, hown, hts, hX, hbl, hlocks, hgv⟩ := id C0
  have hA : ∀ q : Nat, s.heap.size ≤ q → (fun q : Nat => s.heap.size ≤ q) q := fun _ h => h
  obtain ⟨V, hV, hE⟩ := l_env hts hgv
  obtain ⟨c0, iS0, hKn0⟩ := u_known (C := RX0) (T := TX0) (N := 5) (n := 5) hts wsX00_L (hts _ tL_k0)
  obtain ⟨c1, iS1, hKn1⟩ := u_known (C := RX1) (T := TX1) (N := 6) (n := 6) hts wsX10_L (hts _ tL_k1)
  obtain ⟨c2, iS2, hKn2⟩ := u_known (C := RX2) (T := TX2) (N := 14) (n := 14) hts wsX20_L (hts _ tL_k2)
  obtain ⟨c3, iS3, hKn3⟩ := u_known (C := RX3) (T := TX3) (N := 8) (n := 8) hts wsX30_L (hts _ tL_k3)
  obtain ⟨c4, iS4, hKn4⟩ := u_known (C := RX4) (T := TX4) (N := 2) (n := 2) hts wsX40_L (hts _ tL_k4)
  obtain ⟨c5, iS5, hKn5⟩ := u_known (C := RX5) (T := TX5) (N := 2) (n := 2) hts wsX50_L (hts _ tL_k5)
  obtain ⟨c6, iS6, hKn6⟩ := u_known (C := RX6) (T := TX6) (N := 13) (n := 13) hts wsX60_L (hts _ tL_k6)
  obtain ⟨c7, iS7, hKn7⟩ := u_known (C := RX7) (T := TX7) (N := 50) (n := 50) hts wsX70_L (hts _ tL_k7)
  obtain ⟨ac, hac, hac'⟩ := arr_of (hts _ tL_ac)
  obtain ⟨ai, hai, hai'⟩ := arr_of (hts _ tL_ai)
  obtain ⟨al, hal, hal'⟩ := arr_of (hts _ tL_al)
  obtain ⟨D, cy, hK⟩ : ∃ (D : va_G) (cy : Nat → ClassId), va_K D vwCl (zTY cy) s := by
    refine ⟨(fun k => if k = 0 then c0 else if k = 1 then c1 else if k = 2 then c2 else if k = 3 then c3 else if k = 4 then c4 else if k = 5 then c5 else if k = 6 then c6 else c7, fun k => if k = 0 then iS0 else if k = 1 then iS1 else if k = 2 then iS2 else if k = 3 then iS3 else if k = 4 then iS4 else if k = 5 then iS5 else if k = 6 then iS6 else iS7), fun k => if k = 0 then ac else if k = 1 then ai else al, ?_, ?_⟩
    · intro k q hq
      match k, hq with
      | 0, hq => cases hq; exact hKn0
      | 1, hq => cases hq; exact hKn1
      | 2, hq => cases hq; exact hKn2
      | 3, hq => cases hq; exact hKn3
      | 4, hq => cases hq; exact hKn4
      | 5, hq => cases hq; exact hKn5
      | 6, hq => cases hq; exact hKn6
      | 7, hq => cases hq; exact hKn7
      | k + 8, hq => simp [vwCl] at hq
    · intro k q hq
      match k, hq with
      | 0, hq => cases hq; exact ⟨hac, hac'⟩
      | 1, hq => cases hq; exact ⟨hai, hai'⟩
      | 2, hq => cases hq; exact ⟨hal, hal'⟩
      | k + 3, hq => simp [zTY] at hq
  have B : zAt p s m #[Value.ref b] meth c RL cL_law 7 ret lw_tbl := ⟨hx, hb, hml, hown, hts, hr, hlocks⟩
  have hnsW : nsW s := ⟨va_Nw.of rfl (hts _ tL_n3), va_Nw.of rfl (hts _ tL_n0)⟩
  have hS : va_S (fun q : Nat => s.heap.size ≤ q) s.heap s.heap [] := va_S.rf
  have hP : va_P D vwCl [] s.heap := fun k q h => by simp at h
  have hD : va_D (fun q : Nat => s.heap.size ≤ q) [] := ⟨fun i j p q h => by simp at h, fun k q h => by simp at h⟩
  have hl := lv_entry ([.ref b]) (n := 7) (Nat.le_of_ble_eq_true rfl)
  rw [lg_entry_eq]
  generalize (lg_sl ([.ref b]) ++ List.replicate (7 - (lg_sl ([.ref b])).length) Slot.unset).toArray = ls at hl ⊢
  have hl : lv_has ls 7 [(0, .ref b)] := hl
  refine va_new (ci := 6) (fs := [.null, .null, .null, .null, .null, .null, .null, .null, .null, .null, .null, .int 0, .int 0]) (C := RX6) (T := TX6) (N := 13) hx hb hts wsX60_L tyX6 tyX6_ok hown (hts _ tL_cX6) (hts _ tL_nX6) (hts _ (TBC_L _ wC_in_RX6)) hK hP hD hS hA rfl (fun j hj => by rcases (show j = 0 ∨ j = 1 ∨ j = 2 ∨ j = 3 ∨ j = 4 ∨ j = 5 ∨ j = 6 ∨ j = 7 ∨ j = 8 ∨ j = 9 ∨ j = 10 ∨ j = 11 ∨ j = 12 by omega) with rfl | rfl | rfl | rfl | rfl | rfl | rfl | rfl | rfl | rfl | rfl | rfl | rfl <;> rfl) (Nat.le_of_ble_eq_true rfl) (Nat.le_of_ble_eq_true rfl) dL_law_0 (fun o6 H hP hD hS => ?_)
  have hP : va_P D vwCl [(o6, .inr (6, [.null, .null, .null, .null, .null, .null, .null, .null, .null, .null, .null, .int 0, .int 0]))] H := hP
  have hD : va_D (fun q : Nat => s.heap.size ≤ q) [(o6, .inr (6, [.null, .null, .null, .null, .null, .null, .null, .null, .null, .null, .null, .int 0, .int 0]))] := hD
  refine lv_dup hx hb dL_law_3 rfl ?_
  have hFc : ∀ a, va_A [(o6, .inr (6, [.null, .null, .null, .null, .null, .null, .null, .null, .null, .null, .null, .int 0, .int 0]))] H.size a → s.heap.size ≤ a := va_free hD hS hA [0] rfl
  refine va_callv (va_runI (As := []) (rest := [.ref o6]) (b := o6) (g := F0 m 4 ls _) ⟨hx, hb, hml, hown, hts⟩ (cX6_init_ok l D cy o6 H.size) (cwI 0 hts (fun w hw => by
    rcases List.mem_cons.mp hw with rfl | h
    · exact ⟨TBC_L _ wC_cd_yX6_init, good_of_word rfl⟩
    · exact ⟨TBC_L w h, good_of_word (TBC_ok h)⟩) rfl rfl rfl (hts _ (TBC_L _ wC_in_RX6)) (hts _ tL_pX6) (hts _ tL_qX6) rfl (by decide +kernel) ⟨Nat.le_of_ble_eq_true rfl, Nat.le_of_ble_eq_true rfl⟩) ⟨fun a U g mk q => by
    obtain ⟨q0, q1, qP, qK, qD, qN⟩ := q
    exact ⟨q0, q1, qP, va_K.moved (u := U) (U := U.calling g mk a) (Vm.Alike.refl U.vm) qK, qD, nsW.same (u := U) (U := U.calling g mk a) rfl qN⟩, fun U hU hW => ⟨rfl, by rw [hU], by rw [hU]; exact hP, va_K.moved hW.alike hK, hD.weaken (fun _ _ _ _ => trivial), nsW.warm hW hnsW⟩⟩ rfl rfl hl.1 rfl (lv_room (Nat.le_of_ble_eq_true rfl)) dL_law_4 ⟨Nat.le_of_ble_eq_true rfl, Nat.le_of_ble_eq_true rfl⟩) hS (fun a _ h => hFc a h) hFc (fun q t H1 locs ht hvm hw hB hz1 hk1 hS => ?_)
  obtain ⟨hP1, hD1, hq0⟩ := hB
  rw [ht] at hP1
  have hD6 : va_D (fun a : Nat => s.heap.size ≤ a) (cW cy q K6_new) := hD1.weaken (fun _ _ _ h => hFc _ h)
  clear hD1 hP hD hFc hk1
  subst hq0
  refine lv_astore_n (lv' := [(1, .ref (q 0)), (0, .ref b)]) hx hb dL_law_7 rfl hl (by decide) rfl (fun ls hl => ?_)
  refine va_new (ci := 7) (fs := M_F0) (C := RX7) (T := TX7) (N := 50) hx hb hts wsX70_L tyX7 tyX7_ok hown (hts _ tL_cX7) (hts _ tL_nX7) (hts _ (TB7_L _ w7_in_RX7)) hK hP1 hD6 hS hA rfl (fun j hj => by rcases (show j = 0 ∨ j = 1 ∨ j = 2 ∨ j = 3 ∨ j = 4 ∨ j = 5 ∨ j = 6 ∨ j = 7 ∨ j = 8 ∨ j = 9 ∨ j = 10 ∨ j = 11 ∨ j = 12 ∨ j = 13 ∨ j = 14 ∨ j = 15 ∨ j = 16 ∨ j = 17 ∨ j = 18 ∨ j = 19 ∨ j = 20 ∨ j = 21 ∨ j = 22 ∨ j = 23 ∨ j = 24 ∨ j = 25 ∨ j = 26 ∨ j = 27 ∨ j = 28 ∨ j = 29 ∨ j = 30 ∨ j = 31 ∨ j = 32 ∨ j = 33 ∨ j = 34 ∨ j = 35 ∨ j = 36 ∨ j = 37 ∨ j = 38 ∨ j = 39 ∨ j = 40 ∨ j = 41 ∨ j = 42 ∨ j = 43 ∨ j = 44 ∨ j = 45 ∨ j = 46 ∨ j = 47 ∨ j = 48 ∨ j = 49 by omega) with rfl | rfl | rfl | rfl | rfl | rfl | rfl | rfl | rfl | rfl | rfl | rfl | rfl | rfl | rfl | rfl | rfl | rfl | rfl | rfl | rfl | rfl | rfl | rfl | rfl | rfl | rfl | rfl | rfl | rfl | rfl | rfl | rfl | rfl | rfl | rfl | rfl | rfl | rfl | rfl | rfl | rfl | rfl | rfl | rfl | rfl | rfl | rfl | rfl | rfl <;> rfl) (Nat.le_of_ble_eq_true rfl) (Nat.le_of_ble_eq_true rfl) dL_law_8 (fun o H hP hD hS => ?_)
  refine lv_dup hx hb dL_law_11 rfl ?_
  have hP7 : va_P D vwCl [(o, .inr (7, M_F0))] H := pR hP
  have hD7 : va_D (fun a : Nat => s.heap.size ≤ a) [(o, .inr (7, M_F0))] := dR hD
  have hFc : ∀ a, va_A [(o, .inr (7, M_F0))] H.size a → s.heap.size ≤ a := va_free hD7 hS hA [0] rfl
  refine va_callv (va_runI (As := []) (rest := [.ref o]) (b := o) (g := F0 m 12 ls _) ⟨hx, hb, hml, hown, hts⟩ (cX7_init_ok l D cy o H.size new_V.1 new_V.2.1 new_T) (cwI 0 hts (fun w hw => by
    rcases List.mem_cons.mp hw with rfl | h
    · exact ⟨tL_d7, good_of_word rfl⟩
    · exact ⟨TB7i_L w h, good_of_word (TB7i_ok h)⟩) rfl rfl rfl (hts _ (TB7_L _ w7_in_RX7)) (hts _ tL_pX7) (hts _ tL_qX7) rfl (by decide +kernel) ⟨Nat.le_of_ble_eq_true rfl, Nat.le_of_ble_eq_true rfl⟩) ⟨fun a U g mk q => by
    obtain ⟨q0, q1, qP, qK, qD⟩ := q
    exact ⟨q0, q1, qP, va_K.moved (u := U) (U := U.calling g mk a) (Vm.Alike.refl U.vm) qK, qD⟩, fun U hU hW => ⟨rfl, by rw [hU], by rw [hU]; exact hP7, va_K.moved hW.alike hK, hD7.weaken (fun _ _ _ _ => trivial)⟩⟩ rfl rfl hl.1 rfl (lv_room (Nat.le_of_ble_eq_true rfl)) dL_law_12 ⟨Nat.le_of_ble_eq_true rfl, Nat.le_of_ble_eq_true rfl⟩) hS (fun a _ h => hFc a h) hFc (fun q2 t H2 locs ht hvm hw hB hz1 hk1 hS => ?_)
  obtain ⟨hP2, hD2⟩ := hB
  rw [ht] at hP2
  have hPc : va_P D vwCl (cW cy q K6_new) H2 := va_P.kept (pL hP) (fun k z hz => hk1 z.1 (vx_lt (pL hP) hz) (fun h => by
    rcases h with ⟨k9, e9, h9⟩ | h9
    · exact dX hD hz h9 rfl
    · exact absurd (vx_lt (pL hP) hz) (Nat.not_lt.mpr h9)))
  have hPJ : va_P D vwCl (cW cy q K6_new ++ mW cy o q2 M_new) H2 := va_P.app hPc hP2
  have hDJ : va_D (fun a : Nat => s.heap.size ≤ a) (cW cy q K6_new ++ mW cy o q2 M_new) := va_D.app (dL hD) (hD2.weaken (fun _ _ _ h => hFc _ h)) (fun i j x9 y9 h1 h2 e9 => by
    rcases hD2.2 j y9 h2 with ⟨k9, e8, h9⟩ | h9
    · exact dX hD h1 h9 e9
    · rw [← e9] at h9
      exact absurd (vx_lt (pL hP) h1) (Nat.not_lt.mpr h9))
  refine lv_astore_n (lv' := [(2, .ref o), (1, .ref (q 0)), (0, .ref b)]) hx hb dL_law_15 rfl hl (by decide) rfl (fun ls hl => ?_)
  refine z_iconst hx hb dL_law_16 ?_
  refine z_newl (ws := cW cy q K6_new ++ mW cy o q2 M_new) B tL_al hK hPJ hDJ hS hA 1 (by decide) (Nat.le_of_ble_eq_true rfl) (Nat.le_of_ble_eq_true rfl) dL_law_17 (fun ao H hP hD hS => ?_)
  have hJ := jF_new hP hD hS
  refine lv_astore_n (lv' := [(3, .ref ao), (2, .ref o), (1, .ref (q 0)), (0, .ref b)]) hx hb dL_law_19 rfl hl (by decide) rfl (fun ls hl => ?_)
  refine z_iconst hx hb dL_law_20 ?_
  refine lv_istore (lv' := [(4, .int (zI 0)), (3, .ref ao), (2, .ref o), (1, .ref (q 0)), (0, .ref b)]) hx hb dL_law_21 hl (by decide) rfl (fun ls hl => ?_)
  refine W.widen (k := 100 + gl K6_new + 0) (n := 20000 + 2 * gl K6_new + 6 * 0) (Nat.le_trans (by decide : 67 ≤ 100) (Nat.le_trans (Nat.le_add_right _ _) (Nat.le_add_right _ _))) (Nat.le_trans (by decide : 14389 ≤ 20000) (Nat.le_trans (Nat.le_add_right _ _) (Nat.le_add_right _ _))) ?_
  exact l_loop hl0 hL C0 hK hE hV (L + 1) 0 (by omega) (Nat.zero_le L) 6 6 K6_new M_new (fun _ => 0) q (q 36) (q 37) H _ _ _ ls INV_new hJ ⟨Nat.le_refl _, Nat.le_refl _⟩ (lv_sub hl [4, 3, 2, 1, 0] rfl)
set_option maxHeartbeats 4000000 in
theorem lw_walk (l : Launch) (hl0 : l.stackTraces = false) (b : Addr) (xs : List Int32) : MetFree l x (headSpec (Jvm.Cond.code x code maxLocals ret :: tables_1) room_1) (lw_P b xs) (fun _ _ _ _ _ => True) lw_Q := by
  refine MetFree.of_bodyS (code := code) (maxLocals := maxLocals) (ret := ret) (by decide) ?_ ?_
  · intro args s m h hn
    obtain ⟨meth, c, h1, h2, h3, h4, h5, h6, -, -⟩ := Cond.code_spec hn (atoms_spec (ws := Jvm.Cond.code x code maxLocals ret :: tables_1) h _ List.mem_cons_self)
    exact ⟨meth, c, h1, h2, h3, h4, h5, h6⟩
  · intro p e s m args below meth c s₁ B hml0 hP _
    obtain ⟨rfl, hx, hbd, hgv⟩ := hP
    obtain ⟨scr, harrAt, hlist, hof, hsmall⟩ := hx
    obtain ⟨hcb, hkn, -, -⟩ := State.arrayAt?_spec harrAt
    have hown : s.vm.findClass R_law = some m.cls := findClass_of_methodNamed B.named
    have hts0 : ∀ c ∈ (Jvm.Cond.code x code maxLocals ret :: tables_1), c.before #[Value.ref b] s = true := atoms_spec (ws := Jvm.Cond.code x code maxLocals ret :: tables_1) B.pre
    have hts : ∀ w ∈ lw_tbl, w.before #[Value.ref b] s = true := k2_hts_sels lw_privs (fun w hw => hts0 w (List.mem_cons_of_mem _ hw)) lw_privs_ok
    have hml : c.maxLocals = 7 := B.maxLocals_eq (hts0 _ List.mem_cons_self)
    have X₀ : Stand p l e room_1 s m #[Value.ref b] below meth c s₁ [] 0 0 := Stand.of_body B
    have hh0 : s₁.heap = s.heap := by rw [B.state]; rfl
    have hsz : scr.slots.size = xs.length := by rw [← Array.length_toList, hlist, List.length_map]
    have hval : ∀ j : Nat, j < xs.length → scr.slots[j]? = some (.int (xs.getD j 0)) := fun j hj => by
      rw [← Array.getElem?_toList, hlist]
      simp [hj]
    have hbl : b < s.heap.size := (Array.getElem?_eq_some_iff.mp hcb).1
    have hX : va_X b xs.length (fun j => xs.getD j 0) s s.heap := ⟨scr, hcb, hof, hkn, hsz, hval⟩
    have K : W p l e room_1 s m #[Value.ref b] below meth c s₁.heap [] 0 0 (lw_Z below #[Value.ref b] s) (entryFrame m ([Value.ref b] : List Value).toArray 7) := by
      rw [hh0]
      exact whole_start l hl0 hbd ⟨B.exec, B.bytes, B.returns, hml, hown, hts, hX, hbl, B.notSynchronized, hgv⟩
    obtain ⟨t, a1, o, b1, b2, b3⟩ := K s₁ rfl X₀
    exact ⟨t, o, a1, b1, b2, b3⟩
theorem lw_pre_spec {args : Array Value} {s : State} (h : (Jvm.Cond.and given_1 narrow_1).before args s = true) (hr : rest_1_c.before args s = true) : ∃ (b : Addr) (xs : List Int32), lw_P b xs args s := by
  have hs := flat_of_before _ h
  have hq := flat_of_before _ hr
  have hc : (Cond.count 1).before args s = true := hs _ (by decide +kernel)
  have harr : (Cond.arrayOf (.arg 0) .int).before args s = true := hs _ (by decide +kernel)
  have hle : (Cond.le (.length (.arg 0)) (.int 2048)).before args s = true := hs _ (by decide +kernel)
  have hlen : (Cond.isInt (.length (.arg 0))).before args s = true := hq _ (by decide +kernel)
  have hall : (Cond.all (.arg 0) (.isInt (.elem (.arg 0) (.index 0)))).before args s = true := hq _ (by decide +kernel)
  obtain ⟨b, xs, hb, hx⟩ := State.ints_of_pre rfl harr hlen hall
  have hsm : xs.length < 2 ^ 31 := hx.choose_spec.2.2.2
  have hev : (Term.length (.arg 0)).eval args s none [] s = some (.int xs.length.toInt32) := hx.length_eval hb
  have hv := Cond.le_ints hev (show (Term.int 2048).eval args s none [] s = some (.int 2048) from rfl)
  have hd : xs.length.toInt32 ≤ 2048 := by
    simpa [Cond.before, Cond.holds, hv] using hle
  have hN : xs.length ≤ 2048 := (Int32.ofNat_le_ofNat hsm (by decide)).mp (show Int32.ofNat xs.length ≤ Int32.ofNat 2048 from hd)
  exact ⟨b, xs, Cond.one_arg hc (show args[0]? = some (.ref b) from hb), hx, hN, h⟩
theorem lw_comes (l : Launch) (hl0 : l.stackTraces = false) : Comes l x (Jvm.Cond.code x code maxLocals ret :: tables_1) room_1 (fun tb e args s => Calls_1 tb e args s ∧ rest_1 tb e args s ∧ Pre_1 tb e args s)
    (fun _ _ args s o t => lw_Q args s o t) := by
  intro p e ha hc hk s m args below hf hfit hheap happ hpre
  obtain ⟨b, xs, hP⟩ := lw_pre_spec hpre.2.2 hpre.2.1
  obtain ⟨k, o, h1, h2, h3, hQ⟩ := lw_walk l hl0 b xs p e ha hc hk s m args below hf ((Spec.applies_iff_loose hf).mp happ).1 hP trivial
  exact ⟨k, o, h1, h2, h3, hQ⟩
theorem lw_frame {s t : State} {o : Outcome} {args : Array Value} (h : Framed s o t [] 601024 7293034) :
    Framed s o t (fieldLocs frame_1_writes args s ++ arrayLocs frame_1_arrays args s ++ staticLocs frame_1_statics s) 601024 7293034 := h
theorem lw_limb (L : Cond) (hL : ∀ (args : Array Value) (s t : State), L.after args s (.returned (some (.int 1))) t = true) :
    ArmFor flags0 classFile x code maxLocals ret World_1 tables_1 room_1 Calls_1 rest_1 Pre_1
      (fun tb e a s o t => postC L tb e a s o t ∧ Framed s o t (fieldLocs frame_1_writes a s ++ arrayLocs frame_1_arrays a s ++ staticLocs frame_1_statics s) 601024 7293034) := by
  intro l hfl _ _ p e ha hc hk s m args below hf hfit hheap happ hpre
  have hl0 : l.stackTraces = false := by
    unfold Launch.stackTraces
    rw [hfl]
    decide +kernel
  obtain ⟨k, o, h1, h2, h3, rfl, hF⟩ := lw_comes l hl0 p e ha hc hk s m args below hf hfit hheap happ hpre
  exact ⟨k, _, h1, h2, h3, hL args s _, lw_frame hF⟩
theorem i_vc : Claimed_1_1 ∧ Claimed_1_2 := ⟨lw_limb limb_1_1 (fun args s t => by simp [limb_1_1, Cond.after, Cond.holds, Cond.value]), lw_limb limb_1_2 (fun args s t => Cond.after_iff.mpr (by
  first | (rw [show limb_1_2 = Cond.eq .result (.int 1) from rfl, Cond.eq_ints (x := 1) (y := 1) rfl rfl]; simp; done) | (simp [limb_1_2, Cond.value, Term.eval]; done)))⟩
