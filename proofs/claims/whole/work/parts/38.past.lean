theorem cG_21 {n : Nat} {S : CSt} : (cG n S).2.1 = S.2.1 := rfl
def K7_fillL35 (v : Int) : Nat → Int → CSt → CSt
  | 0, i, T => T
  | n + 1, i, T => (if 90 ≤ i then T else K7_fillL35 v n (i + 1) ((ci T 35 i.toNat v)))
set_option maxHeartbeats 1000000 in
set_option maxRecDepth 100000 in
theorem lp7_fill35 (l : Launch) (D : va_G) (cy : Nat → ClassId) (q : Nat → Nat) (a b : Nat)  (v : Int)  {p : Program} {e : Env} {s : State} {m : MethodId} {args : Array Value} {below : List Frame} {meth : Method} {c : Code} (B : zAt p s m args meth c RJ7 cJ7_fill_53178 4 none (.code yJ7_fill_53178 cJ7_fill_53178 4 none :: TBC)) (hK : va_K D vwCl (zTY cy) s) (post : CSt → Prop) :
    ∀ (n : Nat) (i : Int) (T : CSt) (H : Heap) (locs : List Loc) (ls : Array Slot), (cFx a b T) → (0 ≤ i) → (i ≤ 90) → (90 - i = n) → cH D cy q (cA q) s.heap T H locs → lv_has ls 4 [(0, .ref (q 35)), (1, .int (zI v)), (2, .int (zI i)), (3, .int (zI 90))] → post (K7_fillL35 v n i T) → W p l e (headSpec (.code yJ7_fill_53178 cJ7_fill_53178 4 none :: TBC) ({ frames := 0, cells := 0, slots := 0, locals := 0 })).room s m args below meth c H locs 0 0 (MQ below (cQv D cy q post) args s 0 0 (cA q)) (F0 m 5 ls []) := by
  intro n
  induction n with
  | zero =>
    intro i T H locs ls hF hi0 hi1 hn hM hl hpost
    refine lv_iload_n B.1 B.2.1 dJ7_fill_53178_5 rfl (lv_at hl 2 rfl) ?_
    refine lv_iload_n B.1 B.2.1 dJ7_fill_53178_6 rfl (lv_at hl 3 rfl) ?_
    refine z_icmp_ge (tgt := 20) B.1 B.2.1 (zr_of (by omega) (by omega)) (zr_of (by decide) (by decide)) dJ7_fill_53178_7 (by decide) (fun c_1 => ?_) (fun c_1 => ?_)
    · --
      have hq : K7_fillL35 v 0 i T = T := rfl
      rw [hq] at hpost
      exact c_retv B hM (hpost) dJ7_fill_53178_20
    · exact absurd c_1 (by omega)
  | succ n ih =>
    intro i T H locs ls hF hi0 hi1 hn hM hl hpost
    refine lv_iload_n B.1 B.2.1 dJ7_fill_53178_5 rfl (lv_at hl 2 rfl) ?_
    refine lv_iload_n B.1 B.2.1 dJ7_fill_53178_6 rfl (lv_at hl 3 rfl) ?_
    refine z_icmp_ge (tgt := 20) B.1 B.2.1 (zr_of (by omega) (by omega)) (zr_of (by decide) (by decide)) dJ7_fill_53178_7 (by decide) (fun c_1 => ?_) (fun c_1 => ?_)
    · --
      have hq : K7_fillL35 v (n + 1) i T = T := by rw [K7_fillL35]; exact (if_pos c_1)
      rw [hq] at hpost
      exact c_retv B hM (hpost) dJ7_fill_53178_20
    · --
      refine lv_aload_n B.1 B.2.1 dJ7_fill_53178_10 rfl (lv_at hl 0 rfl) ?_
      refine lv_iload_n B.1 B.2.1 dJ7_fill_53178_11 rfl (lv_at hl 2 rfl) ?_
      refine lv_iload_n B.1 B.2.1 dJ7_fill_53178_12 rfl (lv_at hl 1 rfl) ?_
      refine c_iast (q := q) B hK hM 35 (by decide) rfl (zr_of (by omega) (by omega)) (by omega) (by rw [show T.2.2.2 35 = 90 from hF.2.1 35 (by decide) (by decide)]; omega) dJ7_fill_53178_13 (fun H locs hM => ?_)
      refine z_iinc (v := i + 1) (lv' := [(2, .int (zI (i + 1))), (0, .ref (q 35)), (1, .int (zI v)), (3, .int (zI 90))]) B.1 B.2.1 dJ7_fill_53178_14 hl (k := 2) rfl rfl (by decide) rfl (fun ls hl => ?_)
      refine lv_goto (tgt := 5) B.1 B.2.1 dJ7_fill_53178_17 (by decide) ?_
      have hq : K7_fillL35 v (n + 1) i T = K7_fillL35 v n (i + 1) ((ci T 35 i.toNat v)) := by rw [K7_fillL35]; exact (if_neg c_1)
      rw [hq] at hpost
      exact ih (i + 1) ((ci T 35 i.toNat v)) H locs ls hF  (by omega) (by omega) (by omega) hM (lv_sub hl [1, 2, 0, 3] rfl) hpost
def K7_fill35 (v : Int) (S : CSt) : CSt := K7_fillL35 v 90 0 S
set_option maxHeartbeats 1000000 in
set_option maxRecDepth 100000 in
theorem cJ7_fill35_ok (l : Launch) (D : va_G) (cy : Nat → ClassId) (q : Nat → Nat) (a b : Nat) (S : CSt) (hF : cFx a b S) (v : Int)  : cMv l D cy q yJ7_fill_53178 (.code yJ7_fill_53178 cJ7_fill_53178 4 none :: TBC) ({ frames := 0, cells := 0, slots := 0, locals := 0 }) S 35 [.int (zI v)] (fun S' => S' = K7_fill35 v S) := by
  refine c_of (cc := cJ7_fill_53178) (maxL := 4) (ret := none) (C := RJ7) (by decide) rfl rfl (Nat.le_of_ble_eq_true rfl) ?_
  intro p e s m args below meth c ls B hK hM hl
  have hl : lv_has ls 4 [(0, .ref (q 35)), (1, .int (zI v))] := hl
  refine z_iconst B.1 B.2.1 dJ7_fill_53178_0 ?_
  refine lv_istore_n (lv' := [(2, .int (zI 0)), (0, .ref (q 35)), (1, .int (zI v))]) B.1 B.2.1 dJ7_fill_53178_1 rfl hl (by decide) rfl (fun ls hl => ?_)
  refine lv_aload_n B.1 B.2.1 dJ7_fill_53178_2 rfl (lv_at hl 1 rfl) ?_
  refine c_alen (q := q) B hK hM 35 (by decide) (by decide) dJ7_fill_53178_3 ?_
  rw [show S.2.2.2 35 = 90 from hF.2.1 35 (by decide) (by decide)]
  refine lv_istore_n (lv' := [(3, .int (zI 90)), (2, .int (zI 0)), (0, .ref (q 35)), (1, .int (zI v))]) B.1 B.2.1 dJ7_fill_53178_4 rfl hl (by decide) rfl (fun ls hl => ?_)
  exact lp7_fill35 l D cy q a b v B hK _ 90 0 S _ _ ls hF (by omega) (by omega) (by omega) hM (lv_sub hl [2, 3, 1, 0] rfl) rfl
theorem K7_fillL35_1 {v : Int} : ∀ (k : Nat) (i : Int) (S : CSt), (∀ m, m ≠ 35 → (K7_fillL35 v k i S).1 m = S.1 m) ∧ (K7_fillL35 v k i S).2 = S.2
  | 0, _, _ => by rw [K7_fillL35]; exact ⟨fun _ _ => rfl, rfl⟩
  | k + 1, i, S => by
    rw [K7_fillL35]
    split
    · exact ⟨fun _ _ => rfl, rfl⟩
    · obtain ⟨h1, h2⟩ := K7_fillL35_1 (v := v) k (i + 1) (ci S 35 i.toNat v)
      exact ⟨fun m hm => (h1 m hm).trans (ci_ne hm), h2⟩
theorem K7_fill35_1 {v : Int} {S : CSt} {m : Nat} (h : m ≠ 35) : (K7_fill35 v S).1 m = S.1 m := (K7_fillL35_1 _ _ _).1 m h
theorem K7_fill35_2 {v : Int} {S : CSt} : (K7_fill35 v S).2 = S.2 := (K7_fillL35_1 _ _ _).2
theorem K7_fillL35_v {v : Int} : ∀ (k : Nat) (i : Int) (S : CSt), 0 ≤ i → i + k = 90 → ∀ j : Nat, (K7_fillL35 v k i S).1 35 j = if i ≤ j ∧ (j : Int) < 90 then v else S.1 35 j
  | 0, i, S, h0, h1, j => by
    rw [K7_fillL35, if_neg (by omega)]
  | k + 1, i, S, h0, h1, j => by
    rw [K7_fillL35, if_neg (by omega), K7_fillL35_v (v := v) k (i + 1) _ (by omega) (by omega) j, ci_eq]
    by_cases e : j = i.toNat
    · subst e
      rw [if_neg (by omega), zu_eq, if_pos (by omega)]
    · rw [zu_ne e]
      by_cases e2 : i + 1 ≤ (j : Int) ∧ (j : Int) < 90
      · rw [if_pos e2, if_pos (by omega)]
      · rw [if_neg e2, if_neg (by omega)]
theorem K7_fill35_v {v : Int} {S : CSt} {j : Nat} (h : j < 90) : (K7_fill35 v S).1 35 j = v := by
  unfold K7_fill35
  rw [K7_fillL35_v _ _ _ (by omega) (by omega), if_pos (by omega)]
theorem K7_fill35_o {v : Int} {S : CSt} {j : Nat} (h : ¬ j < 90) : (K7_fill35 v S).1 35 j = S.1 35 j := by
  unfold K7_fill35
  rw [K7_fillL35_v _ _ _ (by omega) (by omega), if_neg (by omega)]
def K7_fillL38 (v : Int) : Nat → Int → CSt → CSt
  | 0, i, T => T
  | n + 1, i, T => (if 10 ≤ i then T else K7_fillL38 v n (i + 1) ((ci T 38 i.toNat v)))
set_option maxHeartbeats 1000000 in
set_option maxRecDepth 100000 in
theorem lp7_fill38 (l : Launch) (D : va_G) (cy : Nat → ClassId) (q : Nat → Nat) (a b : Nat)  (v : Int)  {p : Program} {e : Env} {s : State} {m : MethodId} {args : Array Value} {below : List Frame} {meth : Method} {c : Code} (B : zAt p s m args meth c RJ7 cJ7_fill_53178 4 none (.code yJ7_fill_53178 cJ7_fill_53178 4 none :: TBC)) (hK : va_K D vwCl (zTY cy) s) (post : CSt → Prop) :
    ∀ (n : Nat) (i : Int) (T : CSt) (H : Heap) (locs : List Loc) (ls : Array Slot), (cFx a b T) → (0 ≤ i) → (i ≤ 10) → (10 - i = n) → cH D cy q (cA q) s.heap T H locs → lv_has ls 4 [(0, .ref (q 38)), (1, .int (zI v)), (2, .int (zI i)), (3, .int (zI 10))] → post (K7_fillL38 v n i T) → W p l e (headSpec (.code yJ7_fill_53178 cJ7_fill_53178 4 none :: TBC) ({ frames := 0, cells := 0, slots := 0, locals := 0 })).room s m args below meth c H locs 0 0 (MQ below (cQv D cy q post) args s 0 0 (cA q)) (F0 m 5 ls []) := by
  intro n
  induction n with
  | zero =>
    intro i T H locs ls hF hi0 hi1 hn hM hl hpost
    refine lv_iload_n B.1 B.2.1 dJ7_fill_53178_5 rfl (lv_at hl 2 rfl) ?_
    refine lv_iload_n B.1 B.2.1 dJ7_fill_53178_6 rfl (lv_at hl 3 rfl) ?_
    refine z_icmp_ge (tgt := 20) B.1 B.2.1 (zr_of (by omega) (by omega)) (zr_of (by decide) (by decide)) dJ7_fill_53178_7 (by decide) (fun c_1 => ?_) (fun c_1 => ?_)
    · --
      have hq : K7_fillL38 v 0 i T = T := rfl
      rw [hq] at hpost
      exact c_retv B hM (hpost) dJ7_fill_53178_20
    · exact absurd c_1 (by omega)
  | succ n ih =>
    intro i T H locs ls hF hi0 hi1 hn hM hl hpost
    refine lv_iload_n B.1 B.2.1 dJ7_fill_53178_5 rfl (lv_at hl 2 rfl) ?_
    refine lv_iload_n B.1 B.2.1 dJ7_fill_53178_6 rfl (lv_at hl 3 rfl) ?_
    refine z_icmp_ge (tgt := 20) B.1 B.2.1 (zr_of (by omega) (by omega)) (zr_of (by decide) (by decide)) dJ7_fill_53178_7 (by decide) (fun c_1 => ?_) (fun c_1 => ?_)
    · --
      have hq : K7_fillL38 v (n + 1) i T = T := by rw [K7_fillL38]; exact (if_pos c_1)
      rw [hq] at hpost
      exact c_retv B hM (hpost) dJ7_fill_53178_20
    · --
      refine lv_aload_n B.1 B.2.1 dJ7_fill_53178_10 rfl (lv_at hl 0 rfl) ?_
      refine lv_iload_n B.1 B.2.1 dJ7_fill_53178_11 rfl (lv_at hl 2 rfl) ?_
      refine lv_iload_n B.1 B.2.1 dJ7_fill_53178_12 rfl (lv_at hl 1 rfl) ?_
      refine c_iast (q := q) B hK hM 38 (by decide) rfl (zr_of (by omega) (by omega)) (by omega) (by rw [show T.2.2.2 38 = 10 from hF.2.1 38 (by decide) (by decide)]; omega) dJ7_fill_53178_13 (fun H locs hM => ?_)
      refine z_iinc (v := i + 1) (lv' := [(2, .int (zI (i + 1))), (0, .ref (q 38)), (1, .int (zI v)), (3, .int (zI 10))]) B.1 B.2.1 dJ7_fill_53178_14 hl (k := 2) rfl rfl (by decide) rfl (fun ls hl => ?_)
      refine lv_goto (tgt := 5) B.1 B.2.1 dJ7_fill_53178_17 (by decide) ?_
      have hq : K7_fillL38 v (n + 1) i T = K7_fillL38 v n (i + 1) ((ci T 38 i.toNat v)) := by rw [K7_fillL38]; exact (if_neg c_1)
      rw [hq] at hpost
      exact ih (i + 1) ((ci T 38 i.toNat v)) H locs ls hF  (by omega) (by omega) (by omega) hM (lv_sub hl [1, 2, 0, 3] rfl) hpost
def K7_fill38 (v : Int) (S : CSt) : CSt := K7_fillL38 v 10 0 S
set_option maxHeartbeats 1000000 in
set_option maxRecDepth 100000 in
theorem cJ7_fill38_ok (l : Launch) (D : va_G) (cy : Nat → ClassId) (q : Nat → Nat) (a b : Nat) (S : CSt) (hF : cFx a b S) (v : Int)  : cMv l D cy q yJ7_fill_53178 (.code yJ7_fill_53178 cJ7_fill_53178 4 none :: TBC) ({ frames := 0, cells := 0, slots := 0, locals := 0 }) S 38 [.int (zI v)] (fun S' => S' = K7_fill38 v S) := by
  refine c_of (cc := cJ7_fill_53178) (maxL := 4) (ret := none) (C := RJ7) (by decide) rfl rfl (Nat.le_of_ble_eq_true rfl) ?_
  intro p e s m args below meth c ls B hK hM hl
  have hl : lv_has ls 4 [(0, .ref (q 38)), (1, .int (zI v))] := hl
  refine z_iconst B.1 B.2.1 dJ7_fill_53178_0 ?_
  refine lv_istore_n (lv' := [(2, .int (zI 0)), (0, .ref (q 38)), (1, .int (zI v))]) B.1 B.2.1 dJ7_fill_53178_1 rfl hl (by decide) rfl (fun ls hl => ?_)
  refine lv_aload_n B.1 B.2.1 dJ7_fill_53178_2 rfl (lv_at hl 1 rfl) ?_
  refine c_alen (q := q) B hK hM 38 (by decide) (by decide) dJ7_fill_53178_3 ?_
  rw [show S.2.2.2 38 = 10 from hF.2.1 38 (by decide) (by decide)]
  refine lv_istore_n (lv' := [(3, .int (zI 10)), (2, .int (zI 0)), (0, .ref (q 38)), (1, .int (zI v))]) B.1 B.2.1 dJ7_fill_53178_4 rfl hl (by decide) rfl (fun ls hl => ?_)
  exact lp7_fill38 l D cy q a b v B hK _ 10 0 S _ _ ls hF (by omega) (by omega) (by omega) hM (lv_sub hl [2, 3, 1, 0] rfl) rfl
theorem K7_fillL38_1 {v : Int} : ∀ (k : Nat) (i : Int) (S : CSt), (∀ m, m ≠ 38 → (K7_fillL38 v k i S).1 m = S.1 m) ∧ (K7_fillL38 v k i S).2 = S.2
  | 0, _, _ => by rw [K7_fillL38]; exact ⟨fun _ _ => rfl, rfl⟩
  | k + 1, i, S => by
    rw [K7_fillL38]
    split
    · exact ⟨fun _ _ => rfl, rfl⟩
    · obtain ⟨h1, h2⟩ := K7_fillL38_1 (v := v) k (i + 1) (ci S 38 i.toNat v)
      exact ⟨fun m hm => (h1 m hm).trans (ci_ne hm), h2⟩
theorem K7_fill38_1 {v : Int} {S : CSt} {m : Nat} (h : m ≠ 38) : (K7_fill38 v S).1 m = S.1 m := (K7_fillL38_1 _ _ _).1 m h
theorem K7_fill38_2 {v : Int} {S : CSt} : (K7_fill38 v S).2 = S.2 := (K7_fillL38_1 _ _ _).2
theorem K7_fillL38_v {v : Int} : ∀ (k : Nat) (i : Int) (S : CSt), 0 ≤ i → i + k = 10 → ∀ j : Nat, (K7_fillL38 v k i S).1 38 j = if i ≤ j ∧ (j : Int) < 10 then v else S.1 38 j
  | 0, i, S, h0, h1, j => by
    rw [K7_fillL38, if_neg (by omega)]
  | k + 1, i, S, h0, h1, j => by
    rw [K7_fillL38, if_neg (by omega), K7_fillL38_v (v := v) k (i + 1) _ (by omega) (by omega) j, ci_eq]
    by_cases e : j = i.toNat
    · subst e
      rw [if_neg (by omega), zu_eq, if_pos (by omega)]
    · rw [zu_ne e]
      by_cases e2 : i + 1 ≤ (j : Int) ∧ (j : Int) < 10
      · rw [if_pos e2, if_pos (by omega)]
      · rw [if_neg e2, if_neg (by omega)]
theorem K7_fill38_v {v : Int} {S : CSt} {j : Nat} (h : j < 10) : (K7_fill38 v S).1 38 j = v := by
  unfold K7_fill38
  rw [K7_fillL38_v _ _ _ (by omega) (by omega), if_pos (by omega)]
theorem K7_fill38_o {v : Int} {S : CSt} {j : Nat} (h : ¬ j < 10) : (K7_fill38 v S).1 38 j = S.1 38 j := by
  unfold K7_fill38
  rw [K7_fillL38_v _ _ _ (by omega) (by omega), if_neg (by omega)]
def K7_fillL39 (v : Int) : Nat → Int → CSt → CSt
  | 0, i, T => T
  | n + 1, i, T => (if 10 ≤ i then T else K7_fillL39 v n (i + 1) ((ci T 39 i.toNat v)))
set_option maxHeartbeats 1000000 in
set_option maxRecDepth 100000 in
theorem lp7_fill39 (l : Launch) (D : va_G) (cy : Nat → ClassId) (q : Nat → Nat) (a b : Nat)  (v : Int)  {p : Program} {e : Env} {s : State} {m : MethodId} {args : Array Value} {below : List Frame} {meth : Method} {c : Code} (B : zAt p s m args meth c RJ7 cJ7_fill_53178 4 none (.code yJ7_fill_53178 cJ7_fill_53178 4 none :: TBC)) (hK : va_K D vwCl (zTY cy) s) (post : CSt → Prop) :
    ∀ (n : Nat) (i : Int) (T : CSt) (H : Heap) (locs : List Loc) (ls : Array Slot), (cFx a b T) → (0 ≤ i) → (i ≤ 10) → (10 - i = n) → cH D cy q (cA q) s.heap T H locs → lv_has ls 4 [(0, .ref (q 39)), (1, .int (zI v)), (2, .int (zI i)), (3, .int (zI 10))] → post (K7_fillL39 v n i T) → W p l e (headSpec (.code yJ7_fill_53178 cJ7_fill_53178 4 none :: TBC) ({ frames := 0, cells := 0, slots := 0, locals := 0 })).room s m args below meth c H locs 0 0 (MQ below (cQv D cy q post) args s 0 0 (cA q)) (F0 m 5 ls []) := by
  intro n
  induction n with
  | zero =>
    intro i T H locs ls hF hi0 hi1 hn hM hl hpost
    refine lv_iload_n B.1 B.2.1 dJ7_fill_53178_5 rfl (lv_at hl 2 rfl) ?_
    refine lv_iload_n B.1 B.2.1 dJ7_fill_53178_6 rfl (lv_at hl 3 rfl) ?_
    refine z_icmp_ge (tgt := 20) B.1 B.2.1 (zr_of (by omega) (by omega)) (zr_of (by decide) (by decide)) dJ7_fill_53178_7 (by decide) (fun c_1 => ?_) (fun c_1 => ?_)
    · --
      have hq : K7_fillL39 v 0 i T = T := rfl
      rw [hq] at hpost
      exact c_retv B hM (hpost) dJ7_fill_53178_20
    · exact absurd c_1 (by omega)
  | succ n ih =>
    intro i T H locs ls hF hi0 hi1 hn hM hl hpost
    refine lv_iload_n B.1 B.2.1 dJ7_fill_53178_5 rfl (lv_at hl 2 rfl) ?_
    refine lv_iload_n B.1 B.2.1 dJ7_fill_53178_6 rfl (lv_at hl 3 rfl) ?_
    refine z_icmp_ge (tgt := 20) B.1 B.2.1 (zr_of (by omega) (by omega)) (zr_of (by decide) (by decide)) dJ7_fill_53178_7 (by decide) (fun c_1 => ?_) (fun c_1 => ?_)
    · --
      have hq : K7_fillL39 v (n + 1) i T = T := by rw [K7_fillL39]; exact (if_pos c_1)
      rw [hq] at hpost
      exact c_retv B hM (hpost) dJ7_fill_53178_20
    · --
      refine lv_aload_n B.1 B.2.1 dJ7_fill_53178_10 rfl (lv_at hl 0 rfl) ?_
      refine lv_iload_n B.1 B.2.1 dJ7_fill_53178_11 rfl (lv_at hl 2 rfl) ?_
      refine lv_iload_n B.1 B.2.1 dJ7_fill_53178_12 rfl (lv_at hl 1 rfl) ?_
      refine c_iast (q := q) B hK hM 39 (by decide) rfl (zr_of (by omega) (by omega)) (by omega) (by rw [show T.2.2.2 39 = 10 from hF.2.1 39 (by decide) (by decide)]; omega) dJ7_fill_53178_13 (fun H locs hM => ?_)
      refine z_iinc (v := i + 1) (lv' := [(2, .int (zI (i + 1))), (0, .ref (q 39)), (1, .int (zI v)), (3, .int (zI 10))]) B.1 B.2.1 dJ7_fill_53178_14 hl (k := 2) rfl rfl (by decide) rfl (fun ls hl => ?_)
      refine lv_goto (tgt := 5) B.1 B.2.1 dJ7_fill_53178_17 (by decide) ?_
      have hq : K7_fillL39 v (n + 1) i T = K7_fillL39 v n (i + 1) ((ci T 39 i.toNat v)) := by rw [K7_fillL39]; exact (if_neg c_1)
      rw [hq] at hpost
      exact ih (i + 1) ((ci T 39 i.toNat v)) H locs ls hF  (by omega) (by omega) (by omega) hM (lv_sub hl [1, 2, 0, 3] rfl) hpost
def K7_fill39 (v : Int) (S : CSt) : CSt := K7_fillL39 v 10 0 S
set_option maxHeartbeats 1000000 in
set_option maxRecDepth 100000 in
theorem cJ7_fill39_ok (l : Launch) (D : va_G) (cy : Nat → ClassId) (q : Nat → Nat) (a b : Nat) (S : CSt) (hF : cFx a b S) (v : Int)  : cMv l D cy q yJ7_fill_53178 (.code yJ7_fill_53178 cJ7_fill_53178 4 none :: TBC) ({ frames := 0, cells := 0, slots := 0, locals := 0 }) S 39 [.int (zI v)] (fun S' => S' = K7_fill39 v S) := by
  refine c_of (cc := cJ7_fill_53178) (maxL := 4) (ret := none) (C := RJ7) (by decide) rfl rfl (Nat.le_of_ble_eq_true rfl) ?_
  intro p e s m args below meth c ls B hK hM hl
  have hl : lv_has ls 4 [(0, .ref (q 39)), (1, .int (zI v))] := hl
  refine z_iconst B.1 B.2.1 dJ7_fill_53178_0 ?_
  refine lv_istore_n (lv' := [(2, .int (zI 0)), (0, .ref (q 39)), (1, .int (zI v))]) B.1 B.2.1 dJ7_fill_53178_1 rfl hl (by decide) rfl (fun ls hl => ?_)
  refine lv_aload_n B.1 B.2.1 dJ7_fill_53178_2 rfl (lv_at hl 1 rfl) ?_
  refine c_alen (q := q) B hK hM 39 (by decide) (by decide) dJ7_fill_53178_3 ?_
  rw [show S.2.2.2 39 = 10 from hF.2.1 39 (by decide) (by decide)]
  refine lv_istore_n (lv' := [(3, .int (zI 10)), (2, .int (zI 0)), (0, .ref (q 39)), (1, .int (zI v))]) B.1 B.2.1 dJ7_fill_53178_4 rfl hl (by decide) rfl (fun ls hl => ?_)
  exact lp7_fill39 l D cy q a b v B hK _ 10 0 S _ _ ls hF (by omega) (by omega) (by omega) hM (lv_sub hl [2, 3, 1, 0] rfl) rfl
theorem K7_fillL39_1 {v : Int} : ∀ (k : Nat) (i : Int) (S : CSt), (∀ m, m ≠ 39 → (K7_fillL39 v k i S).1 m = S.1 m) ∧ (K7_fillL39 v k i S).2 = S.2
  | 0, _, _ => by rw [K7_fillL39]; exact ⟨fun _ _ => rfl, rfl⟩
  | k + 1, i, S => by
    rw [K7_fillL39]
    split
    · exact ⟨fun _ _ => rfl, rfl⟩
    · obtain ⟨h1, h2⟩ := K7_fillL39_1 (v := v) k (i + 1) (ci S 39 i.toNat v)
      exact ⟨fun m hm => (h1 m hm).trans (ci_ne hm), h2⟩
theorem K7_fill39_1 {v : Int} {S : CSt} {m : Nat} (h : m ≠ 39) : (K7_fill39 v S).1 m = S.1 m := (K7_fillL39_1 _ _ _).1 m h
theorem K7_fill39_2 {v : Int} {S : CSt} : (K7_fill39 v S).2 = S.2 := (K7_fillL39_1 _ _ _).2
theorem K7_fillL39_v {v : Int} : ∀ (k : Nat) (i : Int) (S : CSt), 0 ≤ i → i + k = 10 → ∀ j : Nat, (K7_fillL39 v k i S).1 39 j = if i ≤ j ∧ (j : Int) < 10 then v else S.1 39 j
  | 0, i, S, h0, h1, j => by
    rw [K7_fillL39, if_neg (by omega)]
  | k + 1, i, S, h0, h1, j => by
    rw [K7_fillL39, if_neg (by omega), K7_fillL39_v (v := v) k (i + 1) _ (by omega) (by omega) j, ci_eq]
    by_cases e : j = i.toNat
    · subst e
      rw [if_neg (by omega), zu_eq, if_pos (by omega)]
    · rw [zu_ne e]
      by_cases e2 : i + 1 ≤ (j : Int) ∧ (j : Int) < 10
      · rw [if_pos e2, if_pos (by omega)]
      · rw [if_neg e2, if_neg (by omega)]
theorem K7_fill39_v {v : Int} {S : CSt} {j : Nat} (h : j < 10) : (K7_fill39 v S).1 39 j = v := by
  unfold K7_fill39
  rw [K7_fillL39_v _ _ _ (by omega) (by omega), if_pos (by omega)]
theorem K7_fill39_o {v : Int} {S : CSt} {j : Nat} (h : ¬ j < 10) : (K7_fill39 v S).1 39 j = S.1 39 j := by
  unfold K7_fill39
  rw [K7_fillL39_v _ _ _ (by omega) (by omega), if_neg (by omega)]
def K1_clear (S : CSt) : CSt := (ci (ci (K7_fill35 (-1) S) 11 3 0) 11 4 0)
set_option maxHeartbeats 1000000 in
set_option maxRecDepth 100000 in
theorem cX1_clear_ok (l : Launch) (D : va_G) (cy : Nat → ClassId) (q : Nat → Nat) (a b : Nat) (S : CSt) (hF : cFx a b S)  : cMv l D cy q yX1_clear (.code yX1_clear cX1_clear 1 none :: TBC) ({ frames := 1, cells := 0, slots := 0, locals := 23 }) S 11 [] (fun S' => S' = K1_clear S) := by
  refine c_of (cc := cX1_clear) (maxL := 1) (ret := none) (C := RX1) (by decide) rfl rfl (Nat.le_of_ble_eq_true rfl) ?_
  intro p e s m args below meth c ls B hK hM hl
  have hl : lv_has ls 1 [(0, .ref (q 11))] := hl
  refine lv_aload_n B.1 B.2.1 dX1_clear_0 rfl (lv_at hl 0 rfl) ?_
  refine c_getr (q := q) (r := 35) B (iC1 _) hK hM 11 0 1 (by decide) rfl rfl (by decide) (by decide) rfl rfl rfl (cFx_r hF 11 0) (List.mem_cons_of_mem _ wC_fRX1_9) dX1_clear_1 ?_
  refine z_iconst B.1 B.2.1 dX1_clear_4 ?_
  refine c_scallv (q := q) (As := [.ref (q 35), .int (zI (-1))]) (rest := []) B hK hM (cJ7_fill35_ok l D cy q a b S hF (-1)) (csC 2 B wC_mRX1_21 wC_st_yJ7_fill_53178 wC_in_RJ7 wC_cd_yJ7_fill_53178 rfl rfl (by decide +kernel) ⟨Nat.le_of_ble_eq_true rfl, Nat.le_of_ble_eq_true rfl⟩) rfl hl.1 rfl (Nat.le_of_ble_eq_true rfl) dX1_clear_5 ⟨Nat.zero_le _, Nat.zero_le _⟩ (fun S_2 H locs hp_1 hM => ?_)
  have hp_1 := hp_1.symm
  subst hp_1
  have hF : cFx a b (K7_fill35 (-1) S) := cFx_of (congrArg Prod.snd K7_fill35_2) hF
  refine lv_aload_n B.1 B.2.1 dX1_clear_8 rfl (lv_at hl 0 rfl) ?_
  refine z_iconst B.1 B.2.1 dX1_clear_9 ?_
  refine c_puti (q := q) B (iC1 _) tyX1 tyX1_ok nmX1 hK hM 11 3 1 (by decide) rfl rfl (by decide) (by decide) rfl rfl rfl (by decide +kernel) (by decide) (List.mem_cons_of_mem _ wC_fRX1_27) dX1_clear_10 (fun H locs hM => ?_)
  refine lv_aload_n B.1 B.2.1 dX1_clear_13 rfl (lv_at hl 0 rfl) ?_
  refine z_iconst B.1 B.2.1 dX1_clear_14 ?_
  refine c_puti (q := q) B (iC1 _) tyX1 tyX1_ok nmX1 hK hM 11 4 1 (by decide) rfl rfl (by decide) (by decide) rfl rfl rfl (by decide +kernel) (by decide) (List.mem_cons_of_mem _ wC_fRX1_31) dX1_clear_15 (fun H locs hM => ?_)
  exact c_retv B hM (rfl) dX1_clear_18
theorem K1_clear_2 {S : CSt} : (K1_clear S).2 = S.2 := by
  unfold K1_clear
  rw [ci_2, ci_2]
  exact K7_fill35_2
theorem K1_clear_1 {S : CSt} {n : Nat} (h : n ≠ 35) (h' : n ≠ 11) : (K1_clear S).1 n = S.1 n := by
  unfold K1_clear
  rw [ci_ne h', ci_ne h', K7_fill35_1 h]
def K1_mark (i : Int) (S : CSt) : Int := (if i < 0 then (-1) else (if 90 ≤ i then (-1) else S.1 35 i.toNat : Int) : Int)
set_option maxHeartbeats 1000000 in
set_option maxRecDepth 100000 in
theorem cX1_mark_ok (l : Launch) (D : va_G) (cy : Nat → ClassId) (q : Nat → Nat) (a b : Nat) (S : CSt) (hF : cFx a b S) (i : Int) (h0 : -2000000 ≤ i) (h1 : i ≤ 2000000) : cMi l D cy q yX1_mark (.code yX1_mark cX1_mark 2 (some .int) :: TBC) ({ frames := 0, cells := 0, slots := 0, locals := 0 }) S 11 [.int (zI i)] (fun r S' => r = K1_mark i S ∧ S' = S) := by
  refine c_of (cc := cX1_mark) (maxL := 2) (ret := (some .int)) (C := RX1) (by decide) rfl rfl (Nat.le_of_ble_eq_true rfl) ?_
  intro p e s m args below meth c ls B hK hM hl
  have hl : lv_has ls 2 [(0, .ref (q 11)), (1, .int (zI i))] := hl
  refine lv_iload_n B.1 B.2.1 dX1_mark_0 rfl (lv_at hl 1 rfl) ?_
  refine z_joinH (P := fun v H' locs' => v = (if i < 0 then (-1) else (if 90 ≤ i then (-1) else S.1 35 i.toNat : Int) : Int) ∧ cH D cy q (cA q) s.heap S H' locs') (pcJ := 23) (lsJ := ls) (stJ := []) (fun v_1 H locs hv_2 => ?_) (fun hJ_3 => ?_)
  · --
    obtain ⟨hv_2, hM⟩ := hv_2
    have hv_2 := hv_2.symm
    subst hv_2
    exact c_reti B hM (⟨rfl, rfl⟩) dX1_mark_23
  · --
    refine z_if_lt (tgt := 22) B.1 B.2.1 (zr_of (by omega) (by omega)) dX1_mark_1 (by decide) (fun c_4 => ?_) (fun c_4 => ?_)
    · --
      refine z_iconst B.1 B.2.1 dX1_mark_22 ?_
      exact hJ_3 _ _ _ ⟨(if_pos c_4).symm, hM⟩
    · --
      refine lv_iload_n B.1 B.2.1 dX1_mark_4 rfl (lv_at hl 1 rfl) ?_
      refine lv_aload_n B.1 B.2.1 dX1_mark_5 rfl (lv_at hl 0 rfl) ?_
      refine c_getr (q := q) (r := 35) B (iC1 _) hK hM 11 0 1 (by decide) rfl rfl (by decide) (by decide) rfl rfl rfl (cFx_r hF 11 0) (List.mem_cons_of_mem _ wC_fRX1_9) dX1_mark_6 ?_
      refine c_alen (q := q) B hK hM 35 (by decide) (by decide) dX1_mark_9 ?_
      rw [show S.2.2.2 35 = 90 from hF.2.1 35 (by decide) (by decide)]
      refine z_icmp_ge (tgt := 22) B.1 B.2.1 (zr_of (by omega) (by omega)) (zr_of (by decide) (by decide)) dX1_mark_10 (by decide) (fun c_6 => ?_) (fun c_6 => ?_)
      · --
        refine z_iconst B.1 B.2.1 dX1_mark_22 ?_
        exact hJ_3 _ _ _ ⟨((if_neg c_4).trans (if_pos c_6)).symm, hM⟩
      · --
        refine lv_aload_n B.1 B.2.1 dX1_mark_13 rfl (lv_at hl 0 rfl) ?_
        refine c_getr (q := q) (r := 35) B (iC1 _) hK hM 11 0 1 (by decide) rfl rfl (by decide) (by decide) rfl rfl rfl (cFx_r hF 11 0) (List.mem_cons_of_mem _ wC_fRX1_9) dX1_mark_14 ?_
        refine lv_iload_n B.1 B.2.1 dX1_mark_17 rfl (lv_at hl 1 rfl) ?_
        refine c_iald (q := q) (x := S.1 35 i.toNat) B hK hM 35 (by decide) rfl (zr_of (by omega) (by omega)) (by omega) (by rw [show S.2.2.2 35 = 90 from hF.2.1 35 (by decide) (by decide)]; omega) rfl dX1_mark_18 ?_
        refine lv_goto (tgt := 23) B.1 B.2.1 dX1_mark_19 (by decide) ?_
        exact hJ_3 _ _ _ ⟨((if_neg c_4).trans (if_neg c_6)).symm, hM⟩
/-- what holds of Past: its numbers are small -/
def sV (S : CSt) : Prop := (∀ j, -1 ≤ S.1 35 j ∧ S.1 35 j ≤ 100000) ∧ 0 ≤ S.1 11 3 ∧ S.1 11 3 ≤ (S.2.2.2 36 : Nat) ∧ 0 ≤ S.1 11 4 ∧ S.1 11 4 ≤ (S.2.2.2 37 : Nat) ∧ (∀ j, -1 ≤ S.1 36 j ∧ S.1 36 j ≤ 100000) ∧ (∀ j, -1 ≤ S.1 37 j ∧ S.1 37 j ≤ 100000)
theorem sV_of {S S' : CSt} (h : sV S) (h1 : S'.1 35 = S.1 35) (h2 : S'.1 11 = S.1 11) (h3 : S'.1 36 = S.1 36) (h4 : S'.1 37 = S.1 37) (h5 : S'.2.2.2 = S.2.2.2) : sV S' := by
  unfold sV
  rw [h1, h2, h3, h4, h5]
  exact h
theorem sV_ci {S : CSt} {n k : Nat} {v : Int} (h : sV S) (hn : n < 11 ∨ (11 < n ∧ n < 35) ∨ 37 < n) : sV (ci S n k v) := sV_of h (ci_ne (by omega)) (ci_ne (by omega)) (ci_ne (by omega)) (ci_ne (by omega)) rfl
theorem zuB {f : Nat → Int} {k : Nat} {v : Int} (hf : ∀ j, -1 ≤ f j ∧ f j ≤ 100000) (hv : -1 ≤ v ∧ v ≤ 100000) : ∀ j, -1 ≤ zu f k v j ∧ zu f k v j ≤ 100000 := fun j => zu_in (P := fun x => -1 ≤ x ∧ x ≤ 100000) hf hv j
theorem cGB {n : Nat} {S : CSt} (hf : ∀ j, -1 ≤ S.1 n j ∧ S.1 n j ≤ 100000) : ∀ j, -1 ≤ (cG n S).1 n j ∧ (cG n S).1 n j ≤ 100000 := by
  intro j
  by_cases h : j < S.2.2.2 n
  · rw [cG_in h]; exact hf j
  · rw [cG_out h]; omega
theorem K1_mark_bd {S : CSt} (i : Int) (h : sV S) : -1 ≤ K1_mark i S ∧ K1_mark i S ≤ 100000 := by
  unfold K1_mark
  (repeat' split) <;> first | omega | exact h.1 _
def K1_set (i : Int) (v : Int) (S : CSt) : CR := (if i < 0 then (0, 0, S) else (if 90 ≤ i then (0, 0, S) else (if (S.1 35 i.toNat) = v then (0, 0, S) else (if ((S.1 11 4) + 2) ≤ ((((S.2.2.2 37) : Nat) : Int)) then (0, 0, (ci (ci (ci (ci S 37 (S.1 11 4).toNat i) 37 ((S.1 11 4) + 1).toNat (S.1 35 i.toNat)) 11 4 ((S.1 11 4) + 2)) 35 i.toNat v)) else (0, 0, (ci (ci (ci (ci (cG 37 S) 37 (S.1 11 4).toNat i) 37 ((S.1 11 4) + 1).toNat (S.1 35 i.toNat)) 11 4 ((S.1 11 4) + 2)) 35 i.toNat v))))))
set_option maxHeartbeats 1000000 in
set_option maxRecDepth 100000 in
theorem cX1_set_ok (l : Launch) (hl0 : l.stackTraces = false) (D : va_G) (cy : Nat → ClassId) (q : Nat → Nat) (V : Nat × (Nat → Nat)) (n0 x y a b : Nat) (S : CSt) (hF : cFx a b S) (i : Int) (v : Int) (ha36 : a < 36) (hb36 : b < 36) (E0 : String) (h0 : -2000000 ≤ i) (h1 : i ≤ 2000000) (hv0 : -1 ≤ v) (hv1 : v ≤ 100000) (hV : sV S) (hu1 : S.1 11 4 ≤ 12000) : gMv l D cy q V n0 x y E0 yX1_set (.code yX1_set cX1_set 3 none :: TBC) 2 82 S [.ref (q 11), .int (zI i), .int (zI v)] (K1_set i v S) := by
  refine g_of (cc := cX1_set) (maxL := 3) (ret := none) (by decide) rfl rfl (Nat.le_of_ble_eq_true rfl) ?_
  intro p e s m args below meth c ls B hK hG hM hl
  generalize gA (cq q x y) n0 = A at hG hM ⊢
  have hR : (headSpec (.code yX1_set cX1_set 3 none :: TBC) (gRm 2 82 S)).room.cells = (gK - gl S) + 1 ∧ (headSpec (.code yX1_set cX1_set 3 none :: TBC) (gRm 2 82 S)).room.slots = 2 * (gK - gl S) + 6 := ⟨rfl, rfl⟩
  have hl : lv_has ls 3 [(0, .ref (q 11)), (1, .int (zI i)), (2, .int (zI v))] := hl
  obtain ⟨-, -, hL1, hL2, hL3, hL4⟩ := id hF
  obtain ⟨hMk, hu30, hu31, hu40, hu41, hM6, hM7⟩ := id hV
  refine lv_iload_n B.1 B.2.1 dX1_set_0 rfl (lv_at hl 1 rfl) ?_
  refine z_if_lt (tgt := 23) B.1 B.2.1 (zr_of (by omega) (by omega)) dX1_set_1 (by decide) (fun c_1 => ?_) (fun c_1 => ?_)
  · --
    exact g_retv (S := S) B hM (by unfold K1_set; exact (if_pos c_1)) dX1_set_23
  · --
    refine lv_iload_n B.1 B.2.1 dX1_set_4 rfl (lv_at hl 1 rfl) ?_
    refine lv_aload_n B.1 B.2.1 dX1_set_5 rfl (lv_at hl 0 rfl) ?_
    refine c_getr (q := (cq q x y)) (r := 35) B (iC1 _) hK hM 11 0 1 (by decide) rfl rfl (by decide) (by decide) rfl rfl rfl (cFx_r hF 11 0) (List.mem_cons_of_mem _ wC_fRX1_9) dX1_set_6 ?_
    refine c_alen (q := (cq q x y)) B hK hM 35 (by decide) (by decide) dX1_set_9 ?_
    rw [show S.2.2.2 35 = 90 from hF.2.1 35 (by decide) (by decide)]
    refine z_icmp_ge (tgt := 23) B.1 B.2.1 (zr_of (by omega) (by omega)) (zr_of (by decide) (by decide)) dX1_set_10 (by decide) (fun c_3 => ?_) (fun c_3 => ?_)
    · --
      exact g_retv (S := S) B hM (by unfold K1_set; exact ((if_neg c_1).trans (if_pos c_3))) dX1_set_23
    · --
      refine lv_aload_n B.1 B.2.1 dX1_set_13 rfl (lv_at hl 0 rfl) ?_
      refine c_getr (q := (cq q x y)) (r := 35) B (iC1 _) hK hM 11 0 1 (by decide) rfl rfl (by decide) (by decide) rfl rfl rfl (cFx_r hF 11 0) (List.mem_cons_of_mem _ wC_fRX1_9) dX1_set_14 ?_
      refine lv_iload_n B.1 B.2.1 dX1_set_17 rfl (lv_at hl 1 rfl) ?_
      refine c_iald (q := (cq q x y)) (x := S.1 35 i.toNat) B hK hM 35 (by decide) rfl (zr_of (by omega) (by omega)) (by omega) (by rw [show S.2.2.2 35 = 90 from hF.2.1 35 (by decide) (by decide)]; omega) rfl dX1_set_18 ?_
      have hmi := hMk i.toNat
      refine lv_iload_n B.1 B.2.1 dX1_set_19 rfl (lv_at hl 2 rfl) ?_
      refine z_icmp_ne (tgt := 24) B.1 B.2.1 (zr_of (by omega) (by omega)) (zr_of (by omega) (by omega)) dX1_set_20 (by decide) (fun c_4 => ?_) (fun c_4 => ?_)
      · --
        refine lv_aload_n B.1 B.2.1 dX1_set_24 rfl (lv_at hl 0 rfl) ?_
        refine c_geti (q := (cq q x y)) (x := S.1 11 4) B (iC1 _) hK hM 11 4 1 (by decide) rfl rfl (by decide) (by decide) rfl rfl (by decide) rfl (List.mem_cons_of_mem _ wC_fRX1_31) dX1_set_25 ?_
        refine z_iconst B.1 B.2.1 dX1_set_28 ?_
        refine z_iadd (x := (S.1 11 4) + 2) B.1 B.2.1 rfl dX1_set_29 ?_
        refine lv_aload_n B.1 B.2.1 dX1_set_30 rfl (lv_at hl 0 rfl) ?_
        refine c_getr (q := (cq q x y)) (r := 37) B (iC1 _) hK hM 11 2 1 (by decide) rfl rfl (by decide) (by decide) rfl rfl rfl (cFx_r hF 11 2) (List.mem_cons_of_mem _ wC_fRX1_18) dX1_set_31 ?_
        refine c_alen (q := (cq q x y)) B hK hM 37 (by decide) (by decide) dX1_set_34 ?_
        refine z_icmp_le (tgt := 56) B.1 B.2.1 (zr_of (by omega) (by omega)) (zr_of (by omega) (by omega)) dX1_set_35 (by decide) (fun c_5 => ?_) (fun c_5 => ?_)
        · --
          refine lv_aload_n B.1 B.2.1 dX1_set_56 rfl (lv_at hl 0 rfl) ?_
          refine c_getr (q := (cq q x y)) (r := 37) B (iC1 _) hK hM 11 2 1 (by decide) rfl rfl (by decide) (by decide) rfl rfl rfl (cFx_r hF 11 2) (List.mem_cons_of_mem _ wC_fRX1_18) dX1_set_57 ?_
          refine lv_aload_n B.1 B.2.1 dX1_set_60 rfl (lv_at hl 0 rfl) ?_
          refine c_geti (q := (cq q x y)) (x := S.1 11 4) B (iC1 _) hK hM 11 4 1 (by decide) rfl rfl (by decide) (by decide) rfl rfl (by decide) rfl (List.mem_cons_of_mem _ wC_fRX1_31) dX1_set_61 ?_
          refine lv_iload_n B.1 B.2.1 dX1_set_64 rfl (lv_at hl 1 rfl) ?_
          refine c_iast (q := (cq q x y)) B hK hM 37 (by decide) rfl (zr_of (by omega) (by omega)) (by omega) (by show _ < (((S.2.2.2 37) : Nat) : Int); omega) dX1_set_65 (fun H locs hM => ?_)
          refine lv_aload_n B.1 B.2.1 dX1_set_66 rfl (lv_at hl 0 rfl) ?_
          refine c_getr (q := (cq q x y)) (r := 37) B (iC1 _) hK hM 11 2 1 (by decide) rfl rfl (by decide) (by decide) rfl rfl rfl (cFx_r hF 11 2) (List.mem_cons_of_mem _ wC_fRX1_18) dX1_set_67 ?_
          refine lv_aload_n B.1 B.2.1 dX1_set_70 rfl (lv_at hl 0 rfl) ?_
          refine c_geti (q := (cq q x y)) (x := S.1 11 4) B (iC1 _) hK hM 11 4 1 (by decide) rfl rfl (by decide) (by decide) rfl rfl (by decide) rfl (List.mem_cons_of_mem _ wC_fRX1_31) dX1_set_71 ?_
          refine z_iconst B.1 B.2.1 dX1_set_74 ?_
          refine z_iadd (x := (S.1 11 4) + 1) B.1 B.2.1 rfl dX1_set_75 ?_
          refine lv_aload_n B.1 B.2.1 dX1_set_76 rfl (lv_at hl 0 rfl) ?_
          refine c_getr (q := (cq q x y)) (r := 35) B (iC1 _) hK hM 11 0 1 (by decide) rfl rfl (by decide) (by decide) rfl rfl rfl (cFx_r hF 11 0) (List.mem_cons_of_mem _ wC_fRX1_9) dX1_set_77 ?_
          refine lv_iload_n B.1 B.2.1 dX1_set_80 rfl (lv_at hl 1 rfl) ?_
          refine c_iald (q := (cq q x y)) (x := S.1 35 i.toNat) B hK hM 35 (by decide) rfl (zr_of (by omega) (by omega)) (by omega) (by rw [show (ci S 37 (S.1 11 4).toNat i).2.2.2 35 = 90 from hF.2.1 35 (by decide) (by decide)]; omega) rfl dX1_set_81 ?_
          refine c_iast (q := (cq q x y)) B hK hM 37 (by decide) rfl (zr_of (by omega) (by omega)) (by omega) (by show _ < (((S.2.2.2 37) : Nat) : Int); omega) dX1_set_82 (fun H locs hM => ?_)
          refine lv_aload_n B.1 B.2.1 dX1_set_83 rfl (lv_at hl 0 rfl) ?_
          refine lv_dup B.1 B.2.1 dX1_set_84 rfl ?_
          refine c_geti (q := (cq q x y)) (x := S.1 11 4) B (iC1 _) hK hM 11 4 1 (by decide) rfl rfl (by decide) (by decide) rfl rfl (by decide) rfl (List.mem_cons_of_mem _ wC_fRX1_31) dX1_set_85 ?_
          refine z_iconst B.1 B.2.1 dX1_set_88 ?_
          refine z_iadd (x := (S.1 11 4) + 2) B.1 B.2.1 rfl dX1_set_89 ?_
          refine c_puti (q := (cq q x y)) B (iC1 _) tyX1 tyX1_ok nmX1 hK hM 11 4 1 (by decide) rfl rfl (by decide) (by decide) rfl rfl rfl (by decide +kernel) (by decide) (List.mem_cons_of_mem _ wC_fRX1_31) dX1_set_90 (fun H locs hM => ?_)
          refine lv_aload_n B.1 B.2.1 dX1_set_93 rfl (lv_at hl 0 rfl) ?_
          refine c_getr (q := (cq q x y)) (r := 35) B (iC1 _) hK hM 11 0 1 (by decide) rfl rfl (by decide) (by decide) rfl rfl rfl (cFx_r hF 11 0) (List.mem_cons_of_mem _ wC_fRX1_9) dX1_set_94 ?_
          refine lv_iload_n B.1 B.2.1 dX1_set_97 rfl (lv_at hl 1 rfl) ?_
          refine lv_iload_n B.1 B.2.1 dX1_set_98 rfl (lv_at hl 2 rfl) ?_
          refine c_iast (q := (cq q x y)) B hK hM 35 (by decide) rfl (zr_of (by omega) (by omega)) (by omega) (by rw [show (ci (ci (ci S 37 (S.1 11 4).toNat i) 37 ((S.1 11 4) + 1).toNat (S.1 35 i.toNat)) 11 4 ((S.1 11 4) + 2)).2.2.2 35 = 90 from hF.2.1 35 (by decide) (by decide)]; omega) dX1_set_99 (fun H locs hM => ?_)
          exact g_retv (S := (ci (ci (ci (ci S 37 (S.1 11 4).toNat i) 37 ((S.1 11 4) + 1).toNat (S.1 35 i.toNat)) 11 4 ((S.1 11 4) + 2)) 35 i.toNat v)) B hM (by unfold K1_set; exact ((if_neg c_1).trans ((if_neg c_3).trans ((if_neg c_4).trans (if_pos c_5))))) dX1_set_100
        · --
          refine lv_aload_n B.1 B.2.1 dX1_set_38 rfl (lv_at hl 0 rfl) ?_
          refine lv_aload_n B.1 B.2.1 dX1_set_39 rfl (lv_at hl 0 rfl) ?_
          refine c_getr (q := (cq q x y)) (r := 37) B (iC1 _) hK hM 11 2 1 (by decide) rfl rfl (by decide) (by decide) rfl rfl rfl (cFx_r hF 11 2) (List.mem_cons_of_mem _ wC_fRX1_18) dX1_set_40 ?_
          refine lv_aload_n B.1 B.2.1 dX1_set_43 rfl (lv_at hl 0 rfl) ?_
          refine c_getr (q := (cq q x y)) (r := 37) B (iC1 _) hK hM 11 2 1 (by decide) rfl rfl (by decide) (by decide) rfl rfl rfl (cFx_r hF 11 2) (List.mem_cons_of_mem _ wC_fRX1_18) dX1_set_44 ?_
          refine c_alen (q := (cq q x y)) B hK hM 37 (by decide) (by decide) dX1_set_47 ?_
          refine z_iconst B.1 B.2.1 dX1_set_48 ?_
          refine z_imul (x := ((((S.2.2.2 37) : Nat) : Int)) * 2) B.1 B.2.1 rfl dX1_set_49 ?_
          rw [show ((((S.2.2.2 37) : Nat) : Int)) * 2 = 2 * (((S.2.2.2 37) : Nat) : Int) from Int.mul_comm _ _]
          refine g_grow37 (S := S) (rest := []) B hK hG hM hF ha36 hb36 (by omega) hR (Nat.le_of_ble_eq_true rfl) (Nat.le_of_ble_eq_true rfl) (Nat.le_refl _) hl.1 (Nat.le_of_ble_eq_true rfl) dX1_set_50 dX1_set_53 (fun y H locs hM => ?_)
          have hg : gl S ≤ gl (cG 37 S) := by have h8 := cG_gl (n := 37) (S := S) (by decide); have h9 := (Nat.le_refl (gl S)); omega
          have hF : cFx a b (cG 37 S) := (cG_F hF).2 (by omega)
          have hcl : (cG 37 S).2.2.2 37 = 2 * S.2.2.2 37 := cG_l
          refine lv_aload_n B.1 B.2.1 dX1_set_56 rfl (lv_at hl 0 rfl) ?_
          refine c_getr (q := (cq q x y)) (r := 37) B (iC1 _) hK hM 11 2 1 (by decide) rfl rfl (by decide) (by decide) rfl rfl rfl (cFx_r hF 11 2) (List.mem_cons_of_mem _ wC_fRX1_18) dX1_set_57 ?_
          refine lv_aload_n B.1 B.2.1 dX1_set_60 rfl (lv_at hl 0 rfl) ?_
          refine c_geti (q := (cq q x y)) (x := S.1 11 4) B (iC1 _) hK hM 11 4 1 (by decide) rfl rfl (by decide) (by decide) rfl rfl (by decide) (by simp only [cG_1 (show (11 : Nat) ≠ 37 by decide)]) (List.mem_cons_of_mem _ wC_fRX1_31) dX1_set_61 ?_
          refine lv_iload_n B.1 B.2.1 dX1_set_64 rfl (lv_at hl 1 rfl) ?_
          refine c_iast (q := (cq q x y)) B hK hM 37 (by decide) rfl (zr_of (by omega) (by omega)) (by omega) (by show _ < ((((cG 37 S).2.2.2 37) : Nat) : Int); omega) dX1_set_65 (fun H locs hM => ?_)
          refine lv_aload_n B.1 B.2.1 dX1_set_66 rfl (lv_at hl 0 rfl) ?_
          refine c_getr (q := (cq q x y)) (r := 37) B (iC1 _) hK hM 11 2 1 (by decide) rfl rfl (by decide) (by decide) rfl rfl rfl (cFx_r hF 11 2) (List.mem_cons_of_mem _ wC_fRX1_18) dX1_set_67 ?_
          refine lv_aload_n B.1 B.2.1 dX1_set_70 rfl (lv_at hl 0 rfl) ?_
          refine c_geti (q := (cq q x y)) (x := S.1 11 4) B (iC1 _) hK hM 11 4 1 (by decide) rfl rfl (by decide) (by decide) rfl rfl (by decide) (by simp only [ci_ne (show (11 : Nat) ≠ 37 by decide), cG_1 (show (11 : Nat) ≠ 37 by decide)]) (List.mem_cons_of_mem _ wC_fRX1_31) dX1_set_71 ?_
          refine z_iconst B.1 B.2.1 dX1_set_74 ?_
          refine z_iadd (x := (S.1 11 4) + 1) B.1 B.2.1 rfl dX1_set_75 ?_
          refine lv_aload_n B.1 B.2.1 dX1_set_76 rfl (lv_at hl 0 rfl) ?_
          refine c_getr (q := (cq q x y)) (r := 35) B (iC1 _) hK hM 11 0 1 (by decide) rfl rfl (by decide) (by decide) rfl rfl rfl (cFx_r hF 11 0) (List.mem_cons_of_mem _ wC_fRX1_9) dX1_set_77 ?_
          refine lv_iload_n B.1 B.2.1 dX1_set_80 rfl (lv_at hl 1 rfl) ?_
          refine c_iald (q := (cq q x y)) (x := S.1 35 i.toNat) B hK hM 35 (by decide) rfl (zr_of (by omega) (by omega)) (by omega) (by rw [show (ci (cG 37 S) 37 (S.1 11 4).toNat i).2.2.2 35 = 90 from hF.2.1 35 (by decide) (by decide)]; omega) (by simp only [ci_ne (show (35 : Nat) ≠ 37 by decide), cG_1 (show (35 : Nat) ≠ 37 by decide)]) dX1_set_81 ?_
          refine c_iast (q := (cq q x y)) B hK hM 37 (by decide) rfl (zr_of (by omega) (by omega)) (by omega) (by show _ < ((((cG 37 S).2.2.2 37) : Nat) : Int); omega) dX1_set_82 (fun H locs hM => ?_)
          refine lv_aload_n B.1 B.2.1 dX1_set_83 rfl (lv_at hl 0 rfl) ?_
          refine lv_dup B.1 B.2.1 dX1_set_84 rfl ?_
          refine c_geti (q := (cq q x y)) (x := S.1 11 4) B (iC1 _) hK hM 11 4 1 (by decide) rfl rfl (by decide) (by decide) rfl rfl (by decide) (by simp only [ci_ne (show (11 : Nat) ≠ 37 by decide), cG_1 (show (11 : Nat) ≠ 37 by decide)]) (List.mem_cons_of_mem _ wC_fRX1_31) dX1_set_85 ?_
          refine z_iconst B.1 B.2.1 dX1_set_88 ?_
          refine z_iadd (x := (S.1 11 4) + 2) B.1 B.2.1 rfl dX1_set_89 ?_
          refine c_puti (q := (cq q x y)) B (iC1 _) tyX1 tyX1_ok nmX1 hK hM 11 4 1 (by decide) rfl rfl (by decide) (by decide) rfl rfl rfl (by decide +kernel) (by decide) (List.mem_cons_of_mem _ wC_fRX1_31) dX1_set_90 (fun H locs hM => ?_)
          refine lv_aload_n B.1 B.2.1 dX1_set_93 rfl (lv_at hl 0 rfl) ?_
          refine c_getr (q := (cq q x y)) (r := 35) B (iC1 _) hK hM 11 0 1 (by decide) rfl rfl (by decide) (by decide) rfl rfl rfl (cFx_r hF 11 0) (List.mem_cons_of_mem _ wC_fRX1_9) dX1_set_94 ?_
          refine lv_iload_n B.1 B.2.1 dX1_set_97 rfl (lv_at hl 1 rfl) ?_
          refine lv_iload_n B.1 B.2.1 dX1_set_98 rfl (lv_at hl 2 rfl) ?_
          refine c_iast (q := (cq q x y)) B hK hM 35 (by decide) rfl (zr_of (by omega) (by omega)) (by omega) (by rw [show (ci (ci (ci (cG 37 S) 37 (S.1 11 4).toNat i) 37 ((S.1 11 4) + 1).toNat (S.1 35 i.toNat)) 11 4 ((S.1 11 4) + 2)).2.2.2 35 = 90 from hF.2.1 35 (by decide) (by decide)]; omega) dX1_set_99 (fun H locs hM => ?_)
          exact g_retv (S := (ci (ci (ci (ci (cG 37 S) 37 (S.1 11 4).toNat i) 37 ((S.1 11 4) + 1).toNat (S.1 35 i.toNat)) 11 4 ((S.1 11 4) + 2)) 35 i.toNat v)) B hM (by unfold K1_set; exact ((if_neg c_1).trans ((if_neg c_3).trans ((if_neg c_4).trans (if_neg c_5))))) dX1_set_100
      · --
        exact g_retv (S := S) B hM (by unfold K1_set; exact ((if_neg c_1).trans ((if_neg c_3).trans (if_pos c_4)))) dX1_set_23
def K1_choose (ow : Int) (pl : Int) (S : CSt) : CR := (if ((S.1 11 3) + 3) ≤ ((((S.2.2.2 36) : Nat) : Int)) then (0, 0, (ci (ci (ci (ci S 36 (S.1 11 3).toNat ow) 36 ((S.1 11 3) + 1).toNat pl) 36 ((S.1 11 3) + 2).toNat (S.1 11 4)) 11 3 ((S.1 11 3) + 3))) else (0, 0, (ci (ci (ci (ci (cG 36 S) 36 (S.1 11 3).toNat ow) 36 ((S.1 11 3) + 1).toNat pl) 36 ((S.1 11 3) + 2).toNat (S.1 11 4)) 11 3 ((S.1 11 3) + 3))))
set_option maxHeartbeats 1000000 in
set_option maxRecDepth 100000 in
theorem cX1_choose_ok (l : Launch) (hl0 : l.stackTraces = false) (D : va_G) (cy : Nat → ClassId) (q : Nat → Nat) (V : Nat × (Nat → Nat)) (n0 x y a b : Nat) (S : CSt) (hF : cFx a b S) (ow : Int) (pl : Int) (ha36 : a < 36) (hb36 : b < 36) (E0 : String) (hV : sV S) (hu1 : S.1 11 3 ≤ 9000) : gMv l D cy q V n0 x y E0 yX1_choose (.code yX1_choose cX1_choose 3 none :: TBC) 2 82 S [.ref (q 11), .int (zI ow), .int (zI pl)] (K1_choose ow pl S) := by
  refine g_of (cc := cX1_choose) (maxL := 3) (ret := none) (by decide) rfl rfl (Nat.le_of_ble_eq_true rfl) ?_
  intro p e s m args below meth c ls B hK hG hM hl
  generalize gA (cq q x y) n0 = A at hG hM ⊢
  have hR : (headSpec (.code yX1_choose cX1_choose 3 none :: TBC) (gRm 2 82 S)).room.cells = (gK - gl S) + 1 ∧ (headSpec (.code yX1_choose cX1_choose 3 none :: TBC) (gRm 2 82 S)).room.slots = 2 * (gK - gl S) + 6 := ⟨rfl, rfl⟩
  have hl : lv_has ls 3 [(0, .ref (q 11)), (1, .int (zI ow)), (2, .int (zI pl))] := hl
  obtain ⟨-, -, hL1, hL2, hL3, hL4⟩ := id hF
  obtain ⟨hMk, hu30, hu31, hu40, hu41, hM6, hM7⟩ := id hV
  refine lv_aload_n B.1 B.2.1 dX1_choose_0 rfl (lv_at hl 0 rfl) ?_
  refine c_geti (q := (cq q x y)) (x := S.1 11 3) B (iC1 _) hK hM 11 3 1 (by decide) rfl rfl (by decide) (by decide) rfl rfl (by decide) rfl (List.mem_cons_of_mem _ wC_fRX1_27) dX1_choose_1 ?_
  refine z_iconst B.1 B.2.1 dX1_choose_4 ?_
  refine z_iadd (x := (S.1 11 3) + 3) B.1 B.2.1 rfl dX1_choose_5 ?_
  refine lv_aload_n B.1 B.2.1 dX1_choose_6 rfl (lv_at hl 0 rfl) ?_
  refine c_getr (q := (cq q x y)) (r := 36) B (iC1 _) hK hM 11 1 1 (by decide) rfl rfl (by decide) (by decide) rfl rfl rfl (cFx_r hF 11 1) (List.mem_cons_of_mem _ wC_fRX1_15) dX1_choose_7 ?_
  refine c_alen (q := (cq q x y)) B hK hM 36 (by decide) (by decide) dX1_choose_10 ?_
  refine z_icmp_le (tgt := 32) B.1 B.2.1 (zr_of (by omega) (by omega)) (zr_of (by omega) (by omega)) dX1_choose_11 (by decide) (fun c_1 => ?_) (fun c_1 => ?_)
  · --
    refine lv_aload_n B.1 B.2.1 dX1_choose_32 rfl (lv_at hl 0 rfl) ?_
    refine c_getr (q := (cq q x y)) (r := 36) B (iC1 _) hK hM 11 1 1 (by decide) rfl rfl (by decide) (by decide) rfl rfl rfl (cFx_r hF 11 1) (List.mem_cons_of_mem _ wC_fRX1_15) dX1_choose_33 ?_
    refine lv_aload_n B.1 B.2.1 dX1_choose_36 rfl (lv_at hl 0 rfl) ?_
    refine c_geti (q := (cq q x y)) (x := S.1 11 3) B (iC1 _) hK hM 11 3 1 (by decide) rfl rfl (by decide) (by decide) rfl rfl (by decide) rfl (List.mem_cons_of_mem _ wC_fRX1_27) dX1_choose_37 ?_
    refine lv_iload_n B.1 B.2.1 dX1_choose_40 rfl (lv_at hl 1 rfl) ?_
    refine c_iast (q := (cq q x y)) B hK hM 36 (by decide) rfl (zr_of (by omega) (by omega)) (by omega) (by show _ < (((S.2.2.2 36) : Nat) : Int); omega) dX1_choose_41 (fun H locs hM => ?_)
    refine lv_aload_n B.1 B.2.1 dX1_choose_42 rfl (lv_at hl 0 rfl) ?_
    refine c_getr (q := (cq q x y)) (r := 36) B (iC1 _) hK hM 11 1 1 (by decide) rfl rfl (by decide) (by decide) rfl rfl rfl (cFx_r hF 11 1) (List.mem_cons_of_mem _ wC_fRX1_15) dX1_choose_43 ?_
    refine lv_aload_n B.1 B.2.1 dX1_choose_46 rfl (lv_at hl 0 rfl) ?_
    refine c_geti (q := (cq q x y)) (x := S.1 11 3) B (iC1 _) hK hM 11 3 1 (by decide) rfl rfl (by decide) (by decide) rfl rfl (by decide) rfl (List.mem_cons_of_mem _ wC_fRX1_27) dX1_choose_47 ?_
    refine z_iconst B.1 B.2.1 dX1_choose_50 ?_
    refine z_iadd (x := (S.1 11 3) + 1) B.1 B.2.1 rfl dX1_choose_51 ?_
    refine lv_iload_n B.1 B.2.1 dX1_choose_52 rfl (lv_at hl 2 rfl) ?_
    refine c_iast (q := (cq q x y)) B hK hM 36 (by decide) rfl (zr_of (by omega) (by omega)) (by omega) (by show _ < (((S.2.2.2 36) : Nat) : Int); omega) dX1_choose_53 (fun H locs hM => ?_)
    refine lv_aload_n B.1 B.2.1 dX1_choose_54 rfl (lv_at hl 0 rfl) ?_
    refine c_getr (q := (cq q x y)) (r := 36) B (iC1 _) hK hM 11 1 1 (by decide) rfl rfl (by decide) (by decide) rfl rfl rfl (cFx_r hF 11 1) (List.mem_cons_of_mem _ wC_fRX1_15) dX1_choose_55 ?_
    refine lv_aload_n B.1 B.2.1 dX1_choose_58 rfl (lv_at hl 0 rfl) ?_
    refine c_geti (q := (cq q x y)) (x := S.1 11 3) B (iC1 _) hK hM 11 3 1 (by decide) rfl rfl (by decide) (by decide) rfl rfl (by decide) rfl (List.mem_cons_of_mem _ wC_fRX1_27) dX1_choose_59 ?_
    refine z_iconst B.1 B.2.1 dX1_choose_62 ?_
    refine z_iadd (x := (S.1 11 3) + 2) B.1 B.2.1 rfl dX1_choose_63 ?_
    refine lv_aload_n B.1 B.2.1 dX1_choose_64 rfl (lv_at hl 0 rfl) ?_
    refine c_geti (q := (cq q x y)) (x := S.1 11 4) B (iC1 _) hK hM 11 4 1 (by decide) rfl rfl (by decide) (by decide) rfl rfl (by decide) rfl (List.mem_cons_of_mem _ wC_fRX1_31) dX1_choose_65 ?_
    refine c_iast (q := (cq q x y)) B hK hM 36 (by decide) rfl (zr_of (by omega) (by omega)) (by omega) (by show _ < (((S.2.2.2 36) : Nat) : Int); omega) dX1_choose_68 (fun H locs hM => ?_)
    refine lv_aload_n B.1 B.2.1 dX1_choose_69 rfl (lv_at hl 0 rfl) ?_
    refine lv_dup B.1 B.2.1 dX1_choose_70 rfl ?_
    refine c_geti (q := (cq q x y)) (x := S.1 11 3) B (iC1 _) hK hM 11 3 1 (by decide) rfl rfl (by decide) (by decide) rfl rfl (by decide) rfl (List.mem_cons_of_mem _ wC_fRX1_27) dX1_choose_71 ?_
    refine z_iconst B.1 B.2.1 dX1_choose_74 ?_
    refine z_iadd (x := (S.1 11 3) + 3) B.1 B.2.1 rfl dX1_choose_75 ?_
    refine c_puti (q := (cq q x y)) B (iC1 _) tyX1 tyX1_ok nmX1 hK hM 11 3 1 (by decide) rfl rfl (by decide) (by decide) rfl rfl rfl (by decide +kernel) (by decide) (List.mem_cons_of_mem _ wC_fRX1_27) dX1_choose_76 (fun H locs hM => ?_)
    exact g_retv (S := (ci (ci (ci (ci S 36 (S.1 11 3).toNat ow) 36 ((S.1 11 3) + 1).toNat pl) 36 ((S.1 11 3) + 2).toNat (S.1 11 4)) 11 3 ((S.1 11 3) + 3))) B hM (by unfold K1_choose; exact (if_pos c_1)) dX1_choose_79
  · --
    refine lv_aload_n B.1 B.2.1 dX1_choose_14 rfl (lv_at hl 0 rfl) ?_
    refine lv_aload_n B.1 B.2.1 dX1_choose_15 rfl (lv_at hl 0 rfl) ?_
    refine c_getr (q := (cq q x y)) (r := 36) B (iC1 _) hK hM 11 1 1 (by decide) rfl rfl (by decide) (by decide) rfl rfl rfl (cFx_r hF 11 1) (List.mem_cons_of_mem _ wC_fRX1_15) dX1_choose_16 ?_
    refine lv_aload_n B.1 B.2.1 dX1_choose_19 rfl (lv_at hl 0 rfl) ?_
    refine c_getr (q := (cq q x y)) (r := 36) B (iC1 _) hK hM 11 1 1 (by decide) rfl rfl (by decide) (by decide) rfl rfl rfl (cFx_r hF 11 1) (List.mem_cons_of_mem _ wC_fRX1_15) dX1_choose_20 ?_
    refine c_alen (q := (cq q x y)) B hK hM 36 (by decide) (by decide) dX1_choose_23 ?_
    refine z_iconst B.1 B.2.1 dX1_choose_24 ?_
    refine z_imul (x := ((((S.2.2.2 36) : Nat) : Int)) * 2) B.1 B.2.1 rfl dX1_choose_25 ?_
    rw [show ((((S.2.2.2 36) : Nat) : Int)) * 2 = 2 * (((S.2.2.2 36) : Nat) : Int) from Int.mul_comm _ _]
    refine g_grow36 (S := S) (rest := []) B hK hG hM hF ha36 hb36 (by omega) hR (Nat.le_of_ble_eq_true rfl) (Nat.le_of_ble_eq_true rfl) (Nat.le_refl _) hl.1 (Nat.le_of_ble_eq_true rfl) dX1_choose_26 dX1_choose_29 (fun x H locs hM => ?_)
    have hg : gl S ≤ gl (cG 36 S) := by have h8 := cG_gl (n := 36) (S := S) (by decide); have h9 := (Nat.le_refl (gl S)); omega
    have hF : cFx a b (cG 36 S) := (cG_F hF).1 (by omega)
    have hcl : (cG 36 S).2.2.2 36 = 2 * S.2.2.2 36 := cG_l
    refine lv_aload_n B.1 B.2.1 dX1_choose_32 rfl (lv_at hl 0 rfl) ?_
    refine c_getr (q := (cq q x y)) (r := 36) B (iC1 _) hK hM 11 1 1 (by decide) rfl rfl (by decide) (by decide) rfl rfl rfl (cFx_r hF 11 1) (List.mem_cons_of_mem _ wC_fRX1_15) dX1_choose_33 ?_
    refine lv_aload_n B.1 B.2.1 dX1_choose_36 rfl (lv_at hl 0 rfl) ?_
    refine c_geti (q := (cq q x y)) (x := S.1 11 3) B (iC1 _) hK hM 11 3 1 (by decide) rfl rfl (by decide) (by decide) rfl rfl (by decide) (by simp only [cG_1 (show (11 : Nat) ≠ 36 by decide)]) (List.mem_cons_of_mem _ wC_fRX1_27) dX1_choose_37 ?_
    refine lv_iload_n B.1 B.2.1 dX1_choose_40 rfl (lv_at hl 1 rfl) ?_
    refine c_iast (q := (cq q x y)) B hK hM 36 (by decide) rfl (zr_of (by omega) (by omega)) (by omega) (by show _ < ((((cG 36 S).2.2.2 36) : Nat) : Int); omega) dX1_choose_41 (fun H locs hM => ?_)
    refine lv_aload_n B.1 B.2.1 dX1_choose_42 rfl (lv_at hl 0 rfl) ?_
    refine c_getr (q := (cq q x y)) (r := 36) B (iC1 _) hK hM 11 1 1 (by decide) rfl rfl (by decide) (by decide) rfl rfl rfl (cFx_r hF 11 1) (List.mem_cons_of_mem _ wC_fRX1_15) dX1_choose_43 ?_
    refine lv_aload_n B.1 B.2.1 dX1_choose_46 rfl (lv_at hl 0 rfl) ?_
    refine c_geti (q := (cq q x y)) (x := S.1 11 3) B (iC1 _) hK hM 11 3 1 (by decide) rfl rfl (by decide) (by decide) rfl rfl (by decide) (by simp only [ci_ne (show (11 : Nat) ≠ 36 by decide), cG_1 (show (11 : Nat) ≠ 36 by decide)]) (List.mem_cons_of_mem _ wC_fRX1_27) dX1_choose_47 ?_
    refine z_iconst B.1 B.2.1 dX1_choose_50 ?_
    refine z_iadd (x := (S.1 11 3) + 1) B.1 B.2.1 rfl dX1_choose_51 ?_
    refine lv_iload_n B.1 B.2.1 dX1_choose_52 rfl (lv_at hl 2 rfl) ?_
    refine c_iast (q := (cq q x y)) B hK hM 36 (by decide) rfl (zr_of (by omega) (by omega)) (by omega) (by show _ < ((((cG 36 S).2.2.2 36) : Nat) : Int); omega) dX1_choose_53 (fun H locs hM => ?_)
    refine lv_aload_n B.1 B.2.1 dX1_choose_54 rfl (lv_at hl 0 rfl) ?_
    refine c_getr (q := (cq q x y)) (r := 36) B (iC1 _) hK hM 11 1 1 (by decide) rfl rfl (by decide) (by decide) rfl rfl rfl (cFx_r hF 11 1) (List.mem_cons_of_mem _ wC_fRX1_15) dX1_choose_55 ?_
    refine lv_aload_n B.1 B.2.1 dX1_choose_58 rfl (lv_at hl 0 rfl) ?_
    refine c_geti (q := (cq q x y)) (x := S.1 11 3) B (iC1 _) hK hM 11 3 1 (by decide) rfl rfl (by decide) (by decide) rfl rfl (by decide) (by simp only [ci_ne (show (11 : Nat) ≠ 36 by decide), cG_1 (show (11 : Nat) ≠ 36 by decide)]) (List.mem_cons_of_mem _ wC_fRX1_27) dX1_choose_59 ?_
    refine z_iconst B.1 B.2.1 dX1_choose_62 ?_
    refine z_iadd (x := (S.1 11 3) + 2) B.1 B.2.1 rfl dX1_choose_63 ?_
    refine lv_aload_n B.1 B.2.1 dX1_choose_64 rfl (lv_at hl 0 rfl) ?_
    refine c_geti (q := (cq q x y)) (x := S.1 11 4) B (iC1 _) hK hM 11 4 1 (by decide) rfl rfl (by decide) (by decide) rfl rfl (by decide) (by simp only [ci_ne (show (11 : Nat) ≠ 36 by decide), cG_1 (show (11 : Nat) ≠ 36 by decide)]) (List.mem_cons_of_mem _ wC_fRX1_31) dX1_choose_65 ?_
    refine c_iast (q := (cq q x y)) B hK hM 36 (by decide) rfl (zr_of (by omega) (by omega)) (by omega) (by show _ < ((((cG 36 S).2.2.2 36) : Nat) : Int); omega) dX1_choose_68 (fun H locs hM => ?_)
    refine lv_aload_n B.1 B.2.1 dX1_choose_69 rfl (lv_at hl 0 rfl) ?_
    refine lv_dup B.1 B.2.1 dX1_choose_70 rfl ?_
    refine c_geti (q := (cq q x y)) (x := S.1 11 3) B (iC1 _) hK hM 11 3 1 (by decide) rfl rfl (by decide) (by decide) rfl rfl (by decide) (by simp only [ci_ne (show (11 : Nat) ≠ 36 by decide), cG_1 (show (11 : Nat) ≠ 36 by decide)]) (List.mem_cons_of_mem _ wC_fRX1_27) dX1_choose_71 ?_
    refine z_iconst B.1 B.2.1 dX1_choose_74 ?_
    refine z_iadd (x := (S.1 11 3) + 3) B.1 B.2.1 rfl dX1_choose_75 ?_
    refine c_puti (q := (cq q x y)) B (iC1 _) tyX1 tyX1_ok nmX1 hK hM 11 3 1 (by decide) rfl rfl (by decide) (by decide) rfl rfl rfl (by decide +kernel) (by decide) (List.mem_cons_of_mem _ wC_fRX1_27) dX1_choose_76 (fun H locs hM => ?_)
    exact g_retv (S := (ci (ci (ci (ci (cG 36 S) 36 (S.1 11 3).toNat ow) 36 ((S.1 11 3) + 1).toNat pl) 36 ((S.1 11 3) + 2).toNat (S.1 11 4)) 11 3 ((S.1 11 3) + 3))) B hM (by unfold K1_choose; exact (if_neg c_1)) dX1_choose_79
theorem K1_set_0 {i v : Int} {S : CSt} : (K1_set i v S).1 = 0 := by
  unfold K1_set
  (repeat' split) <;> rfl
theorem K1_set_1 {i v : Int} {S : CSt} {m : Nat} (h37 : m ≠ 37) (h11 : m ≠ 11) (h35 : m ≠ 35) : (K1_set i v S).2.2.1 m = S.1 m := by
  unfold K1_set
  (repeat' split) <;> first | rfl | (simp only [ci_ne h37, ci_ne h11, ci_ne h35, cG_1 h37])
theorem K1_set_21 {i v : Int} {S : CSt} : (K1_set i v S).2.2.2.1 = S.2.1 := by
  unfold K1_set
  (repeat' split) <;> rfl
theorem K1_set_F {i v : Int} {S : CSt} {a b : Nat} (hF : cFx a b S) (h0 : 0 ≤ S.1 11 4) (h1 : S.1 11 4 ≤ 12000) : cFx a b (K1_set i v S).2.2 ∧ gl S ≤ gl (K1_set i v S).2.2 := by
  unfold K1_set
  (repeat' split)
  all_goals first
    | exact ⟨hF, Nat.le_refl _⟩
    | (refine ⟨cFx_of (S := cG 37 S) rfl ((cG_F hF).2 (by omega)), ?_⟩
       show gl S ≤ gl (cG 37 S)
       have := cG_gl (n := 37) (S := S) (by decide)
       omega)
theorem K1_set_u {i v : Int} {S : CSt} {a b : Nat} (hF : cFx a b S) (h0 : 0 ≤ S.1 11 4) (h2 : S.1 11 4 ≤ S.2.2.2 37) : S.1 11 4 ≤ (K1_set i v S).2.2.1 11 4 ∧ (K1_set i v S).2.2.1 11 4 ≤ S.1 11 4 + 2 ∧ (K1_set i v S).2.2.1 11 4 ≤ ((K1_set i v S).2.2.2.2.2 37 : Nat) ∧ S.2.2.2 37 ≤ (K1_set i v S).2.2.2.2.2 37 := by
  obtain ⟨-, -, hL1, hL2, hL3, hL4⟩ := hF
  unfold K1_set
  (repeat' split)
  all_goals first
    | exact ⟨by omega, by omega, h2, Nat.le_refl _⟩
    | (simp only [ci_eq, ci_ne (show (11 : Nat) ≠ 35 by decide), ci_2, zu_eq]; exact ⟨by omega, by omega, by omega, Nat.le_refl _⟩)
    | (simp only [ci_eq, ci_ne (show (11 : Nat) ≠ 35 by decide), ci_2, zu_eq, cG_l]; exact ⟨by omega, by omega, by omega, by omega⟩)
theorem K1_choose_0 {ow pl : Int} {S : CSt} : (K1_choose ow pl S).1 = 0 := by
  unfold K1_choose
  (repeat' split) <;> rfl
theorem K1_choose_1 {ow pl : Int} {S : CSt} {m : Nat} (h36 : m ≠ 36) (h11 : m ≠ 11) : (K1_choose ow pl S).2.2.1 m = S.1 m := by
  unfold K1_choose
  (repeat' split) <;> first | rfl | (simp only [ci_ne h36, ci_ne h11, cG_1 h36])
theorem K1_choose_21 {ow pl : Int} {S : CSt} : (K1_choose ow pl S).2.2.2.1 = S.2.1 := by
  unfold K1_choose
  (repeat' split) <;> rfl
theorem K1_choose_F {ow pl : Int} {S : CSt} {a b : Nat} (hF : cFx a b S) (h0 : 0 ≤ S.1 11 3) (h1 : S.1 11 3 ≤ 9000) : cFx a b (K1_choose ow pl S).2.2 ∧ gl S ≤ gl (K1_choose ow pl S).2.2 := by
  unfold K1_choose
  (repeat' split)
  all_goals first
    | exact ⟨hF, Nat.le_refl _⟩
    | (refine ⟨cFx_of (S := cG 36 S) rfl ((cG_F hF).1 (by omega)), ?_⟩
       show gl S ≤ gl (cG 36 S)
       have := cG_gl (n := 36) (S := S) (by decide)
       omega)
theorem K1_choose_u {ow pl : Int} {S : CSt} {a b : Nat} (hF : cFx a b S) (h0 : 0 ≤ S.1 11 3) (h2 : S.1 11 3 ≤ S.2.2.2 36) : S.1 11 3 ≤ (K1_choose ow pl S).2.2.1 11 3 ∧ (K1_choose ow pl S).2.2.1 11 3 ≤ S.1 11 3 + 3 ∧ (K1_choose ow pl S).2.2.1 11 3 ≤ ((K1_choose ow pl S).2.2.2.2.2 36 : Nat) ∧ S.2.2.2 36 ≤ (K1_choose ow pl S).2.2.2.2.2 36 := by
  obtain ⟨-, -, hL1, hL2, hL3, hL4⟩ := hF
  unfold K1_choose
  (repeat' split)
  all_goals first
    | exact ⟨by omega, by omega, h2, Nat.le_refl _⟩
    | (simp only [ci_eq, ci_ne (show (11 : Nat) ≠ 35 by decide), ci_2, zu_eq]; exact ⟨by omega, by omega, by omega, Nat.le_refl _⟩)
    | (simp only [ci_eq, ci_ne (show (11 : Nat) ≠ 35 by decide), ci_2, zu_eq, cG_l]; exact ⟨by omega, by omega, by omega, by omega⟩)
theorem sV_set {i v : Int} {S : CSt} {a b : Nat} (hF : cFx a b S) (hV : sV S) (hv0 : -1 ≤ v) (hv1 : v ≤ 100000) : sV (K1_set i v S).2.2 := by
  have hu := K1_set_u (i := i) (v := v) hF hV.2.2.2.1 hV.2.2.2.2.1
  have e1 : (K1_set i v S).2.2.1 36 = S.1 36 := K1_set_1 (by decide) (by decide) (by decide)
  have e2 : (K1_set i v S).2.2.1 11 3 = S.1 11 3 := by
    unfold K1_set
    (repeat' split) <;> rfl
  have e3 : (K1_set i v S).2.2.2.2.2 36 = S.2.2.2 36 := by
    unfold K1_set
    (repeat' split) <;> rfl
  obtain ⟨hMk, hu30, hu31, hu40, hu41, hM6, hM7⟩ := hV
  refine ⟨?_, by omega, by omega, by omega, by omega, by rw [e1]; exact hM6, ?_⟩
  · unfold K1_set
    (repeat' split)
    all_goals first
      | exact hMk
      | (simp only [ci_eq, ci_ne (show (35 : Nat) ≠ 11 by decide), ci_ne (show (35 : Nat) ≠ 37 by decide), cG_1 (show (35 : Nat) ≠ 37 by decide)]; exact zuB hMk ⟨hv0, hv1⟩)
  · unfold K1_set
    (repeat' split)
    all_goals first
      | exact hM7
      | (simp only [ci_eq, ci_ne (show (37 : Nat) ≠ 11 by decide), ci_ne (show (37 : Nat) ≠ 35 by decide)]; exact zuB (zuB hM7 ⟨by omega, by omega⟩) (hMk _))
      | (simp only [ci_eq, ci_ne (show (37 : Nat) ≠ 11 by decide), ci_ne (show (37 : Nat) ≠ 35 by decide)]; exact zuB (zuB (cGB hM7) ⟨by omega, by omega⟩) (hMk _))
theorem K1_set_3 {i v : Int} {S : CSt} : (K1_set i v S).2.2.1 11 3 = S.1 11 3 ∧ (K1_set i v S).2.2.2.2.2 36 = S.2.2.2 36 := by
  unfold K1_set
  (repeat' split) <;> exact ⟨rfl, rfl⟩
theorem sV_choose {ow pl : Int} {S : CSt} {a b : Nat} (hF : cFx a b S) (hV : sV S) (h0 : -1 ≤ ow) (h1 : ow ≤ 100000) (h2 : -1 ≤ pl) (h3 : pl ≤ 100000) (h4 : S.1 11 4 ≤ 100000) : sV (K1_choose ow pl S).2.2 := by
  have hu := K1_choose_u (ow := ow) (pl := pl) hF hV.2.1 hV.2.2.1
  have e1 : (K1_choose ow pl S).2.2.1 35 = S.1 35 := K1_choose_1 (by decide) (by decide)
  have e4 : (K1_choose ow pl S).2.2.1 37 = S.1 37 := K1_choose_1 (by decide) (by decide)
  have e2 : (K1_choose ow pl S).2.2.1 11 4 = S.1 11 4 := by
    unfold K1_choose
    (repeat' split) <;> rfl
  have e3 : (K1_choose ow pl S).2.2.2.2.2 37 = S.2.2.2 37 := by
    unfold K1_choose
    (repeat' split) <;> rfl
  obtain ⟨hMk, hu30, hu31, hu40, hu41, hM6, hM7⟩ := hV
  refine ⟨by rw [e1]; exact hMk, by omega, by omega, by omega, by omega, ?_, by rw [e4]; exact hM7⟩
  unfold K1_choose
  (repeat' split)
  all_goals first
    | (simp only [ci_eq, ci_ne (show (36 : Nat) ≠ 11 by decide)]; exact zuB (zuB (zuB hM6 ⟨h0, h1⟩) ⟨h2, h3⟩) ⟨by omega, by omega⟩)
    | (simp only [ci_eq, ci_ne (show (36 : Nat) ≠ 11 by decide)]; exact zuB (zuB (zuB (cGB hM6) ⟨h0, h1⟩) ⟨h2, h3⟩) ⟨by omega, by omega⟩)
theorem K1_choose_4 {ow pl : Int} {S : CSt} : (K1_choose ow pl S).2.2.1 11 4 = S.1 11 4 ∧ (K1_choose ow pl S).2.2.2.2.2 37 = S.2.2.2 37 := by
  unfold K1_choose
  (repeat' split) <;> exact ⟨rfl, rfl⟩
theorem pB_set {i v : Int} {S : CSt} (hP : pB 6 S) : pB 6 (K1_set i v S).2.2 := pB_of (K1_set_1 (by decide) (by decide) (by decide)) (fun j hj => K1_set_1 (by unfold pA; omega) (by unfold pA; omega) (by unfold pA; omega)) hP
theorem pB_choose {ow pl : Int} {S : CSt} (hP : pB 6 S) : pB 6 (K1_choose ow pl S).2.2 := pB_of (K1_choose_1 (by decide) (by decide)) (fun j hj => K1_choose_1 (by unfold pA; omega) (by unfold pA; omega)) hP
def K1_height (S : CSt) : Int := S.1 11 3
set_option maxHeartbeats 1000000 in
set_option maxRecDepth 100000 in
theorem cX1_height_ok (l : Launch) (D : va_G) (cy : Nat → ClassId) (q : Nat → Nat) (a b : Nat) (S : CSt) (hF : cFx a b S)  : cMi l D cy q yX1_height (.code yX1_height cX1_height 1 (some .int) :: TBC) ({ frames := 0, cells := 0, slots := 0, locals := 0 }) S 11 [] (fun r S' => r = K1_height S ∧ S' = S) := by
  refine c_of (cc := cX1_height) (maxL := 1) (ret := (some .int)) (C := RX1) (by decide) rfl rfl (Nat.le_of_ble_eq_true rfl) ?_
  intro p e s m args below meth c ls B hK hM hl
  have hl : lv_has ls 1 [(0, .ref (q 11))] := hl
  refine lv_aload_n B.1 B.2.1 dX1_height_0 rfl (lv_at hl 0 rfl) ?_
  refine c_geti (q := q) (x := S.1 11 3) B (iC1 _) hK hM 11 3 1 (by decide) rfl rfl (by decide) (by decide) rfl rfl (by decide) rfl (List.mem_cons_of_mem _ wC_fRX1_27) dX1_height_1 ?_
  exact c_reti B hM (⟨rfl, rfl⟩) dX1_height_4
def K1_placeBack (S : CSt) : Int := S.1 11 5
set_option maxHeartbeats 1000000 in
set_option maxRecDepth 100000 in
theorem cX1_placeBack_ok (l : Launch) (D : va_G) (cy : Nat → ClassId) (q : Nat → Nat) (a b : Nat) (S : CSt) (hF : cFx a b S)  : cMi l D cy q yX1_placeBack (.code yX1_placeBack cX1_placeBack 1 (some .int) :: TBC) ({ frames := 0, cells := 0, slots := 0, locals := 0 }) S 11 [] (fun r S' => r = K1_placeBack S ∧ S' = S) := by
  refine c_of (cc := cX1_placeBack) (maxL := 1) (ret := (some .int)) (C := RX1) (by decide) rfl rfl (Nat.le_of_ble_eq_true rfl) ?_
  intro p e s m args below meth c ls B hK hM hl
  have hl : lv_has ls 1 [(0, .ref (q 11))] := hl
  refine lv_aload_n B.1 B.2.1 dX1_placeBack_0 rfl (lv_at hl 0 rfl) ?_
  refine c_geti (q := q) (x := S.1 11 5) B (iC1 _) hK hM 11 5 1 (by decide) rfl rfl (by decide) (by decide) rfl rfl (by decide) rfl (List.mem_cons_of_mem _ wC_fRX1_42) dX1_placeBack_1 ?_
  exact c_reti B hM (⟨rfl, rfl⟩) dX1_placeBack_4
def K1_cut (h : Int) (S : CSt) : CSt := (if h < 0 then S else (if (S.1 11 3) ≤ h then S else (ci S 11 3 h)))
set_option maxHeartbeats 1000000 in
set_option maxRecDepth 100000 in
theorem cX1_cut_ok (l : Launch) (D : va_G) (cy : Nat → ClassId) (q : Nat → Nat) (a b : Nat) (S : CSt) (hF : cFx a b S) (h : Int) (h0 : -1000000 ≤ h) (h1 : h ≤ 1000000) (hV : sV S) : cMv l D cy q yX1_cut (.code yX1_cut cX1_cut 2 none :: TBC) ({ frames := 0, cells := 0, slots := 0, locals := 0 }) S 11 [.int (zI h)] (fun S' => S' = K1_cut h S) := by
  refine c_of (cc := cX1_cut) (maxL := 2) (ret := none) (C := RX1) (by decide) rfl rfl (Nat.le_of_ble_eq_true rfl) ?_
  intro p e s m args below meth c ls B hK hM hl
  have hl : lv_has ls 2 [(0, .ref (q 11)), (1, .int (zI h))] := hl
  obtain ⟨-, -, hL1, hL2, hL3, hL4⟩ := id hF
  obtain ⟨hMk, hu30, hu31, hu40, hu41, hM6, hM7⟩ := id hV
  refine lv_iload_n B.1 B.2.1 dX1_cut_0 rfl (lv_at hl 1 rfl) ?_
  refine z_if_lt (tgt := 17) B.1 B.2.1 (zr_of (by omega) (by omega)) dX1_cut_1 (by decide) (fun c_1 => ?_) (fun c_1 => ?_)
  · --
    exact c_retv B hM (by unfold K1_cut; exact (if_pos c_1).symm) dX1_cut_17
  · --
    refine lv_iload_n B.1 B.2.1 dX1_cut_4 rfl (lv_at hl 1 rfl) ?_
    refine lv_aload_n B.1 B.2.1 dX1_cut_5 rfl (lv_at hl 0 rfl) ?_
    refine c_geti (q := q) (x := S.1 11 3) B (iC1 _) hK hM 11 3 1 (by decide) rfl rfl (by decide) (by decide) rfl rfl (by decide) rfl (List.mem_cons_of_mem _ wC_fRX1_27) dX1_cut_6 ?_
    refine z_icmp_ge (tgt := 17) B.1 B.2.1 (zr_of (by omega) (by omega)) (zr_of (by omega) (by omega)) dX1_cut_9 (by decide) (fun c_2 => ?_) (fun c_2 => ?_)
    · --
      exact c_retv B hM (by unfold K1_cut; exact ((if_neg c_1).trans (if_pos c_2)).symm) dX1_cut_17
    · --
      refine lv_aload_n B.1 B.2.1 dX1_cut_12 rfl (lv_at hl 0 rfl) ?_
      refine lv_iload_n B.1 B.2.1 dX1_cut_13 rfl (lv_at hl 1 rfl) ?_
      refine c_puti (q := q) B (iC1 _) tyX1 tyX1_ok nmX1 hK hM 11 3 1 (by decide) rfl rfl (by decide) (by decide) rfl rfl rfl (by decide +kernel) (by decide) (List.mem_cons_of_mem _ wC_fRX1_27) dX1_cut_14 (fun H locs hM => ?_)
      exact c_retv B hM (by unfold K1_cut; exact ((if_neg c_1).trans (if_neg c_2)).symm) dX1_cut_17
theorem K1_cut_2 {h : Int} {S : CSt} : (K1_cut h S).2 = S.2 := by
  unfold K1_cut
  (repeat' split) <;> rfl
theorem K1_cut_1 {h : Int} {S : CSt} {n : Nat} (hn : n ≠ 11) : (K1_cut h S).1 n = S.1 n := by
  unfold K1_cut
  (repeat' split) <;> first | rfl | exact ci_ne hn
theorem K1_cut_v {h : Int} {S : CSt} : (K1_cut h S).1 11 3 = (if 0 ≤ h ∧ h < S.1 11 3 then h else S.1 11 3) ∧ (K1_cut h S).1 11 4 = S.1 11 4 ∧ (K1_cut h S).1 11 5 = S.1 11 5 := by
  unfold K1_cut
  (repeat' split) <;> refine ⟨?_, rfl, rfl⟩ <;> first | rfl | omega | (simp only [ci_eq, zu_eq]; omega)
theorem sV_cut {h : Int} {S : CSt} (hV : sV S) : sV (K1_cut h S) := by
  obtain ⟨e1, e2, -⟩ := K1_cut_v (h := h) (S := S)
  obtain ⟨hMk, hu30, hu31, hu40, hu41, hM6, hM7⟩ := hV
  refine ⟨by rw [K1_cut_1 (by decide)]; exact hMk, ?_, ?_, by rw [e2]; exact hu40, by rw [e2, K1_cut_2]; exact hu41, by rw [K1_cut_1 (by decide)]; exact hM6, by rw [K1_cut_1 (by decide)]; exact hM7⟩
  · rw [e1]
    split <;> omega
  · rw [e1, K1_cut_2]
    split <;> omega
theorem sV_u {S : CSt} {u : Int} (hV : sV S) (h : 0 ≤ u) (h2 : u ≤ S.1 11 4) : sV (ci S 11 4 u) := by
  obtain ⟨hMk, hu30, hu31, hu40, hu41, hM6, hM7⟩ := hV
  refine ⟨hMk, hu30, hu31, ?_, ?_, hM6, hM7⟩
  · rw [ci_eq, zu_eq]; exact h
  · rw [ci_eq, zu_eq, ci_2]; omega
theorem sV_c {S : CSt} {u : Int} (hV : sV S) (h : 0 ≤ u) (h2 : u ≤ S.1 11 3) : sV (ci S 11 3 u) := by
  obtain ⟨hMk, hu30, hu31, hu40, hu41, hM6, hM7⟩ := hV
  refine ⟨hMk, ?_, ?_, hu40, hu41, hM6, hM7⟩
  · rw [ci_eq, zu_eq]; exact h
  · rw [ci_eq, zu_eq, ci_2]; omega
theorem sV_5 {S : CSt} {u : Int} (hV : sV S) : sV (ci S 11 5 u) := by
  obtain ⟨hMk, hu30, hu31, hu40, hu41, hM6, hM7⟩ := hV
  exact ⟨hMk, hu30, hu31, hu40, hu41, hM6, hM7⟩
theorem sV_35 {S : CSt} {k : Nat} {u : Int} (hV : sV S) (h : -1 ≤ u) (h2 : u ≤ 100000) : sV (ci S 35 k u) := by
  obtain ⟨hMk, hu30, hu31, hu40, hu41, hM6, hM7⟩ := hV
  refine ⟨?_, hu30, hu31, hu40, hu41, hM6, hM7⟩
  rw [ci_eq]
  exact zuB hMk ⟨h, h2⟩
def K1_undoL (used : Int) : Nat → CSt → CSt
  | 0, T => (if (T.1 11 4) ≤ used then T else T)
  | n + 1, T => (if (T.1 11 4) ≤ used then T else (if (T.1 11 4) < 2 then T else (if ((((T.2.2.2 37) : Nat) : Int)) < (T.1 11 4) then T else (if (T.1 37 ((T.1 11 4) - 2).toNat) < 0 then K1_undoL used n ((ci T 11 4 ((T.1 11 4) - 2))) else (if 90 ≤ (T.1 37 ((T.1 11 4) - 2).toNat) then K1_undoL used n ((ci T 11 4 ((T.1 11 4) - 2))) else K1_undoL used n ((ci (ci T 11 4 ((T.1 11 4) - 2)) 35 (T.1 37 ((T.1 11 4) - 2).toNat).toNat (T.1 37 (((T.1 11 4) - 2) + 1).toNat))))))))
set_option maxHeartbeats 1000000 in
set_option maxRecDepth 100000 in
theorem lp1_undo (l : Launch) (D : va_G) (cy : Nat → ClassId) (q : Nat → Nat) (a b : Nat)  (used : Int) (hd0 : -1000000 ≤ used) (hd1 : used ≤ 1000000) {p : Program} {e : Env} {s : State} {m : MethodId} {args : Array Value} {below : List Frame} {meth : Method} {c : Code} (B : zAt p s m args meth c RX1 cX1_undoDownTo 3 none (.code yX1_undoDownTo cX1_undoDownTo 3 none :: TBC)) (hK : va_K D vwCl (zTY cy) s) (post : CSt → Prop) :
    ∀ (n : Nat)  (T : CSt) (H : Heap) (locs : List Loc) (ls : Array Slot), (cFx a b T) → (sV T) → (T.1 11 4 ≤ 2 * n + 1) → cH D cy q (cA q) s.heap T H locs → lv_has ls 3 [(0, .ref (q 11)), (1, .int (zI used))] → post (K1_undoL used n T) → W p l e (headSpec (.code yX1_undoDownTo cX1_undoDownTo 3 none :: TBC) ({ frames := 0, cells := 0, slots := 0, locals := 0 })).room s m args below meth c H locs 0 0 (MQ below (cQv D cy q post) args s 0 0 (cA q)) (F0 m 0 ls []) := by
  intro n
  induction n with
  | zero =>
    intro T H locs ls hF hV hn hM hl hpost
    obtain ⟨-, -, hL1, hL2, hL3, hL4⟩ := id hF
    obtain ⟨hMk, hu30, hu31, hu40, hu41, hM6, hM7⟩ := id hV
    refine lv_aload_n B.1 B.2.1 dX1_undoDownTo_0 rfl (lv_at hl 0 rfl) ?_
    refine c_geti (q := q) (x := T.1 11 4) B (iC1 _) hK hM 11 4 1 (by decide) rfl rfl (by decide) (by decide) rfl rfl (by decide) rfl (List.mem_cons_of_mem _ wC_fRX1_31) dX1_undoDownTo_1 ?_
    refine lv_iload_n B.1 B.2.1 dX1_undoDownTo_4 rfl (lv_at hl 1 rfl) ?_
    refine z_icmp_le (tgt := 81) B.1 B.2.1 (zr_of (by omega) (by omega)) (zr_of (by omega) (by omega)) dX1_undoDownTo_5 (by decide) (fun c_1 => ?_) (fun c_1 => ?_)
    · --
      have hq : K1_undoL used 0 T = T := by rw [K1_undoL]; exact (if_pos c_1)
      rw [hq] at hpost
      exact c_retv B hM (hpost) dX1_undoDownTo_81
    · --
      refine lv_aload_n B.1 B.2.1 dX1_undoDownTo_8 rfl (lv_at hl 0 rfl) ?_
      refine c_geti (q := q) (x := T.1 11 4) B (iC1 _) hK hM 11 4 1 (by decide) rfl rfl (by decide) (by decide) rfl rfl (by decide) rfl (List.mem_cons_of_mem _ wC_fRX1_31) dX1_undoDownTo_9 ?_
      refine z_iconst B.1 B.2.1 dX1_undoDownTo_12 ?_
      refine z_icmp_lt (tgt := 81) B.1 B.2.1 (zr_of (by omega) (by omega)) (zr_of (by decide) (by decide)) dX1_undoDownTo_13 (by decide) (fun c_2 => ?_) (fun c_2 => ?_)
      · --
        have hq : K1_undoL used 0 T = T := by rw [K1_undoL]; exact (if_neg c_1)
        rw [hq] at hpost
        exact c_retv B hM (hpost) dX1_undoDownTo_81
      · exact absurd c_2 (by omega)
  | succ n ih =>
    intro T H locs ls hF hV hn hM hl hpost
    obtain ⟨-, -, hL1, hL2, hL3, hL4⟩ := id hF
    obtain ⟨hMk, hu30, hu31, hu40, hu41, hM6, hM7⟩ := id hV
    refine lv_aload_n B.1 B.2.1 dX1_undoDownTo_0 rfl (lv_at hl 0 rfl) ?_
    refine c_geti (q := q) (x := T.1 11 4) B (iC1 _) hK hM 11 4 1 (by decide) rfl rfl (by decide) (by decide) rfl rfl (by decide) rfl (List.mem_cons_of_mem _ wC_fRX1_31) dX1_undoDownTo_1 ?_
    refine lv_iload_n B.1 B.2.1 dX1_undoDownTo_4 rfl (lv_at hl 1 rfl) ?_
    refine z_icmp_le (tgt := 81) B.1 B.2.1 (zr_of (by omega) (by omega)) (zr_of (by omega) (by omega)) dX1_undoDownTo_5 (by decide) (fun c_1 => ?_) (fun c_1 => ?_)
    · --
      have hq : K1_undoL used (n + 1) T = T := by rw [K1_undoL]; exact (if_pos c_1)
      rw [hq] at hpost
      exact c_retv B hM (hpost) dX1_undoDownTo_81
    · --
      refine lv_aload_n B.1 B.2.1 dX1_undoDownTo_8 rfl (lv_at hl 0 rfl) ?_
      refine c_geti (q := q) (x := T.1 11 4) B (iC1 _) hK hM 11 4 1 (by decide) rfl rfl (by decide) (by decide) rfl rfl (by decide) rfl (List.mem_cons_of_mem _ wC_fRX1_31) dX1_undoDownTo_9 ?_
      refine z_iconst B.1 B.2.1 dX1_undoDownTo_12 ?_
      refine z_icmp_lt (tgt := 81) B.1 B.2.1 (zr_of (by omega) (by omega)) (zr_of (by decide) (by decide)) dX1_undoDownTo_13 (by decide) (fun c_2 => ?_) (fun c_2 => ?_)
      · --
        have hq : K1_undoL used (n + 1) T = T := by rw [K1_undoL]; exact ((if_neg c_1).trans (if_pos c_2))
        rw [hq] at hpost
        exact c_retv B hM (hpost) dX1_undoDownTo_81
      · --
        refine lv_aload_n B.1 B.2.1 dX1_undoDownTo_16 rfl (lv_at hl 0 rfl) ?_
        refine c_geti (q := q) (x := T.1 11 4) B (iC1 _) hK hM 11 4 1 (by decide) rfl rfl (by decide) (by decide) rfl rfl (by decide) rfl (List.mem_cons_of_mem _ wC_fRX1_31) dX1_undoDownTo_17 ?_
        refine lv_aload_n B.1 B.2.1 dX1_undoDownTo_20 rfl (lv_at hl 0 rfl) ?_
        refine c_getr (q := q) (r := 37) B (iC1 _) hK hM 11 2 1 (by decide) rfl rfl (by decide) (by decide) rfl rfl rfl (cFx_r hF 11 2) (List.mem_cons_of_mem _ wC_fRX1_18) dX1_undoDownTo_21 ?_
        refine c_alen (q := q) B hK hM 37 (by decide) (by decide) dX1_undoDownTo_24 ?_
        refine z_icmp_gt (tgt := 81) B.1 B.2.1 (zr_of (by omega) (by omega)) (zr_of (by omega) (by omega)) dX1_undoDownTo_25 (by decide) (fun c_3 => ?_) (fun c_3 => ?_)
        · --
          have hq : K1_undoL used (n + 1) T = T := by rw [K1_undoL]; exact ((if_neg c_1).trans ((if_neg c_2).trans (if_pos c_3)))
          rw [hq] at hpost
          exact c_retv B hM (hpost) dX1_undoDownTo_81
        · --
          refine lv_aload_n B.1 B.2.1 dX1_undoDownTo_28 rfl (lv_at hl 0 rfl) ?_
          refine lv_dup B.1 B.2.1 dX1_undoDownTo_29 rfl ?_
          refine c_geti (q := q) (x := T.1 11 4) B (iC1 _) hK hM 11 4 1 (by decide) rfl rfl (by decide) (by decide) rfl rfl (by decide) rfl (List.mem_cons_of_mem _ wC_fRX1_31) dX1_undoDownTo_30 ?_
          refine z_iconst B.1 B.2.1 dX1_undoDownTo_33 ?_
          refine z_isub (x := (T.1 11 4) - 2) B.1 B.2.1 rfl dX1_undoDownTo_34 ?_
          refine c_puti (q := q) B (iC1 _) tyX1 tyX1_ok nmX1 hK hM 11 4 1 (by decide) rfl rfl (by decide) (by decide) rfl rfl rfl (by decide +kernel) (by decide) (List.mem_cons_of_mem _ wC_fRX1_31) dX1_undoDownTo_35 (fun H locs hM => ?_)
          refine lv_aload_n B.1 B.2.1 dX1_undoDownTo_38 rfl (lv_at hl 0 rfl) ?_
          refine c_getr (q := q) (r := 37) B (iC1 _) hK hM 11 2 1 (by decide) rfl rfl (by decide) (by decide) rfl rfl rfl (cFx_r hF 11 2) (List.mem_cons_of_mem _ wC_fRX1_18) dX1_undoDownTo_39 ?_
          refine lv_aload_n B.1 B.2.1 dX1_undoDownTo_42 rfl (lv_at hl 0 rfl) ?_
          refine c_geti (q := q) (x := (T.1 11 4) - 2) B (iC1 _) hK hM 11 4 1 (by decide) rfl rfl (by decide) (by decide) rfl rfl (by decide) rfl (List.mem_cons_of_mem _ wC_fRX1_31) dX1_undoDownTo_43 ?_
          refine c_iald (q := q) (x := T.1 37 ((T.1 11 4) - 2).toNat) B hK hM 37 (by decide) rfl (zr_of (by omega) (by omega)) (by omega) (by show _ < (((T.2.2.2 37) : Nat) : Int); omega) rfl dX1_undoDownTo_46 ?_
          have hx1 := hM7 (T.1 11 4 - 2).toNat
          refine lv_istore_n (lv' := [(2, .int (zI (T.1 37 ((T.1 11 4) - 2).toNat))), (0, .ref (q 11)), (1, .int (zI used))]) B.1 B.2.1 dX1_undoDownTo_47 rfl hl (by decide) rfl (fun ls hl => ?_)
          refine lv_iload_n B.1 B.2.1 dX1_undoDownTo_48 rfl (lv_at hl 0 rfl) ?_
          refine z_if_lt (tgt := 78) B.1 B.2.1 (zr_of (by omega) (by omega)) dX1_undoDownTo_49 (by decide) (fun c_4 => ?_) (fun c_4 => ?_)
          · --
            refine lv_goto (tgt := 0) B.1 B.2.1 dX1_undoDownTo_78 (by decide) ?_
            have hq : K1_undoL used (n + 1) T = K1_undoL used n ((ci T 11 4 ((T.1 11 4) - 2))) := by rw [K1_undoL]; exact ((if_neg c_1).trans ((if_neg c_2).trans ((if_neg c_3).trans (if_pos c_4))))
            rw [hq] at hpost
            exact ih ((ci T 11 4 ((T.1 11 4) - 2))) H locs ls hF  (sV_u hV (by omega) (by omega)) (by simp only [ci_eq, zu_eq]; omega) hM (lv_sub hl [1, 2] rfl) hpost
          · --
            refine lv_iload_n B.1 B.2.1 dX1_undoDownTo_52 rfl (lv_at hl 0 rfl) ?_
            refine lv_aload_n B.1 B.2.1 dX1_undoDownTo_53 rfl (lv_at hl 1 rfl) ?_
            refine c_getr (q := q) (r := 35) B (iC1 _) hK hM 11 0 1 (by decide) rfl rfl (by decide) (by decide) rfl rfl rfl (cFx_r hF 11 0) (List.mem_cons_of_mem _ wC_fRX1_9) dX1_undoDownTo_54 ?_
            refine c_alen (q := q) B hK hM 35 (by decide) (by decide) dX1_undoDownTo_57 ?_
            rw [show (ci T 11 4 ((T.1 11 4) - 2)).2.2.2 35 = 90 from hF.2.1 35 (by decide) (by decide)]
            refine z_icmp_ge (tgt := 78) B.1 B.2.1 (zr_of (by omega) (by omega)) (zr_of (by decide) (by decide)) dX1_undoDownTo_58 (by decide) (fun c_6 => ?_) (fun c_6 => ?_)
            · --
              refine lv_goto (tgt := 0) B.1 B.2.1 dX1_undoDownTo_78 (by decide) ?_
              have hq : K1_undoL used (n + 1) T = K1_undoL used n ((ci T 11 4 ((T.1 11 4) - 2))) := by rw [K1_undoL]; exact ((if_neg c_1).trans ((if_neg c_2).trans ((if_neg c_3).trans ((if_neg c_4).trans (if_pos c_6)))))
              rw [hq] at hpost
              exact ih ((ci T 11 4 ((T.1 11 4) - 2))) H locs ls hF  (sV_u hV (by omega) (by omega)) (by simp only [ci_eq, zu_eq]; omega) hM (lv_sub hl [1, 2] rfl) hpost
            · --
              refine lv_aload_n B.1 B.2.1 dX1_undoDownTo_61 rfl (lv_at hl 1 rfl) ?_
              refine c_getr (q := q) (r := 35) B (iC1 _) hK hM 11 0 1 (by decide) rfl rfl (by decide) (by decide) rfl rfl rfl (cFx_r hF 11 0) (List.mem_cons_of_mem _ wC_fRX1_9) dX1_undoDownTo_62 ?_
              refine lv_iload_n B.1 B.2.1 dX1_undoDownTo_65 rfl (lv_at hl 0 rfl) ?_
              refine lv_aload_n B.1 B.2.1 dX1_undoDownTo_66 rfl (lv_at hl 1 rfl) ?_
              refine c_getr (q := q) (r := 37) B (iC1 _) hK hM 11 2 1 (by decide) rfl rfl (by decide) (by decide) rfl rfl rfl (cFx_r hF 11 2) (List.mem_cons_of_mem _ wC_fRX1_18) dX1_undoDownTo_67 ?_
              refine lv_aload_n B.1 B.2.1 dX1_undoDownTo_70 rfl (lv_at hl 1 rfl) ?_
              refine c_geti (q := q) (x := (T.1 11 4) - 2) B (iC1 _) hK hM 11 4 1 (by decide) rfl rfl (by decide) (by decide) rfl rfl (by decide) rfl (List.mem_cons_of_mem _ wC_fRX1_31) dX1_undoDownTo_71 ?_
              refine z_iconst B.1 B.2.1 dX1_undoDownTo_74 ?_
              refine z_iadd (x := ((T.1 11 4) - 2) + 1) B.1 B.2.1 rfl dX1_undoDownTo_75 ?_
              refine c_iald (q := q) (x := T.1 37 (((T.1 11 4) - 2) + 1).toNat) B hK hM 37 (by decide) rfl (zr_of (by omega) (by omega)) (by omega) (by show _ < (((T.2.2.2 37) : Nat) : Int); omega) rfl dX1_undoDownTo_76 ?_
              have hx2 := hM7 (T.1 11 4 - 2 + 1).toNat
              refine c_iast (q := q) B hK hM 35 (by decide) rfl (zr_of (by omega) (by omega)) (by omega) (by rw [show (ci T 11 4 ((T.1 11 4) - 2)).2.2.2 35 = 90 from hF.2.1 35 (by decide) (by decide)]; omega) dX1_undoDownTo_77 (fun H locs hM => ?_)
              refine lv_goto (tgt := 0) B.1 B.2.1 dX1_undoDownTo_78 (by decide) ?_
              have hq : K1_undoL used (n + 1) T = K1_undoL used n ((ci (ci T 11 4 ((T.1 11 4) - 2)) 35 (T.1 37 ((T.1 11 4) - 2).toNat).toNat (T.1 37 (((T.1 11 4) - 2) + 1).toNat))) := by rw [K1_undoL]; exact ((if_neg c_1).trans ((if_neg c_2).trans ((if_neg c_3).trans ((if_neg c_4).trans (if_neg c_6)))))
              rw [hq] at hpost
              exact ih ((ci (ci T 11 4 ((T.1 11 4) - 2)) 35 (T.1 37 ((T.1 11 4) - 2).toNat).toNat (T.1 37 (((T.1 11 4) - 2) + 1).toNat))) H locs ls hF  (sV_35 (sV_u hV (by omega) (by omega)) hx2.1 hx2.2) (by simp only [ci_eq, zu_eq, ci_ne (show (11 : Nat) ≠ 35 by decide)]; omega) hM (lv_sub hl [1, 2] rfl) hpost
def K1_undoDownTo (used : Int) (S : CSt) : CSt := K1_undoL used (S.1 11 4).toNat S
set_option maxHeartbeats 1000000 in
set_option maxRecDepth 100000 in
theorem cX1_undoDownTo_ok (l : Launch) (D : va_G) (cy : Nat → ClassId) (q : Nat → Nat) (a b : Nat) (S : CSt) (hF : cFx a b S) (used : Int) (h0 : -1000000 ≤ used) (h1 : used ≤ 1000000) (hV : sV S) : cMv l D cy q yX1_undoDownTo (.code yX1_undoDownTo cX1_undoDownTo 3 none :: TBC) ({ frames := 0, cells := 0, slots := 0, locals := 0 }) S 11 [.int (zI used)] (fun S' => S' = K1_undoDownTo used S) := by
  refine c_of (cc := cX1_undoDownTo) (maxL := 3) (ret := none) (C := RX1) (by decide) rfl rfl (Nat.le_of_ble_eq_true rfl) ?_
  intro p e s m args below meth c ls B hK hM hl
  have hl : lv_has ls 3 [(0, .ref (q 11)), (1, .int (zI used))] := hl
  exact lp1_undo l D cy q a b used h0 h1 B hK _ (S.1 11 4).toNat S _ _ ls hF hV (by have := hV.2.2.2.1; omega) hM (lv_sub hl [0, 1] rfl) rfl
theorem K1_undoL_1 {used : Int} : ∀ (n : Nat) (S : CSt), (∀ m, m ≠ 11 → m ≠ 35 → (K1_undoL used n S).1 m = S.1 m) ∧ (K1_undoL used n S).2 = S.2 ∧ (∀ k, k ≠ 4 → (K1_undoL used n S).1 11 k = S.1 11 k) ∧ (sV S → sV (K1_undoL used n S))
  | 0, S => by
    rw [K1_undoL]
    (repeat' split) <;> exact ⟨fun _ _ _ => rfl, rfl, fun _ _ => rfl, fun h => h⟩
  | n + 1, S => by
    rw [K1_undoL]
    (repeat' split)
    all_goals first
      | exact ⟨fun _ _ _ => rfl, rfl, fun _ _ => rfl, fun h => h⟩
      | (obtain ⟨h1, h2, h3, h4⟩ := K1_undoL_1 (used := used) n (ci S 11 4 (S.1 11 4 - 2))
         refine ⟨fun m a1 a2 => (h1 m a1 a2).trans (ci_ne a1), h2, fun k hk => (h3 k hk).trans ?_, fun h => h4 (sV_u h (by omega) (by omega))⟩
         rw [ci_eq, zu_ne hk])
      | (obtain ⟨h1, h2, h3, h4⟩ := K1_undoL_1 (used := used) n (ci (ci S 11 4 (S.1 11 4 - 2)) 35 (S.1 37 (S.1 11 4 - 2).toNat).toNat (S.1 37 (S.1 11 4 - 2 + 1).toNat))
         refine ⟨fun m a1 a2 => (h1 m a1 a2).trans ((ci_ne a2).trans (ci_ne a1)), h2, fun k hk => (h3 k hk).trans ?_, fun h => h4 (sV_35 (sV_u h (by omega) (by omega)) (h.2.2.2.2.2.2 _).1 (h.2.2.2.2.2.2 _).2)⟩
         rw [ci_ne (by decide), ci_eq, zu_ne hk])
theorem K1_undoDownTo_1 {used : Int} {S : CSt} {m : Nat} (h : m ≠ 11) (h' : m ≠ 35) : (K1_undoDownTo used S).1 m = S.1 m := (K1_undoL_1 _ _).1 m h h'
theorem K1_undoDownTo_2 {used : Int} {S : CSt} : (K1_undoDownTo used S).2 = S.2 := (K1_undoL_1 _ _).2.1
theorem K1_undoDownTo_3 {used : Int} {S : CSt} {k : Nat} (hk : k ≠ 4) : (K1_undoDownTo used S).1 11 k = S.1 11 k := (K1_undoL_1 _ _).2.2.1 k hk
theorem sV_undo {used : Int} {S : CSt} (hV : sV S) : sV (K1_undoDownTo used S) := (K1_undoL_1 _ _).2.2.2 hV
def K1_goBack (S : CSt) : Int × CSt := (if (S.1 11 3) < 3 then ((-1), S) else (if (S.1 11 3) ≤ ((((S.2.2.2 36) : Nat) : Int)) then (S.1 36 ((K1_undoDownTo (S.1 36 (((S.1 11 3) - 3) + 2).toNat) (ci S 11 3 ((S.1 11 3) - 3))).1 11 3).toNat, (ci (K1_undoDownTo (S.1 36 (((S.1 11 3) - 3) + 2).toNat) (ci S 11 3 ((S.1 11 3) - 3))) 11 5 (S.1 36 (((K1_undoDownTo (S.1 36 (((S.1 11 3) - 3) + 2).toNat) (ci S 11 3 ((S.1 11 3) - 3))).1 11 3) + 1).toNat))) else ((-1), S)))
set_option maxHeartbeats 1000000 in
set_option maxRecDepth 100000 in
theorem cX1_goBack_ok (l : Launch) (D : va_G) (cy : Nat → ClassId) (q : Nat → Nat) (a b : Nat) (S : CSt) (hF : cFx a b S) (hV : sV S) : cMi l D cy q yX1_goBack (.code yX1_goBack cX1_goBack 1 (some .int) :: TBC) ({ frames := 1, cells := 0, slots := 0, locals := 22 }) S 11 [] (fun r S' => r = (K1_goBack S).1 ∧ S' = (K1_goBack S).2) := by
  refine c_of (cc := cX1_goBack) (maxL := 1) (ret := (some .int)) (C := RX1) (by decide) rfl rfl (Nat.le_of_ble_eq_true rfl) ?_
  intro p e s m args below meth c ls B hK hM hl
  have hl : lv_has ls 1 [(0, .ref (q 11))] := hl
  obtain ⟨-, -, hL1, hL2, hL3, hL4⟩ := id hF
  obtain ⟨hMk, hu30, hu31, hu40, hu41, hM6, hM7⟩ := id hV
  refine lv_aload_n B.1 B.2.1 dX1_goBack_0 rfl (lv_at hl 0 rfl) ?_
  refine c_geti (q := q) (x := S.1 11 3) B (iC1 _) hK hM 11 3 1 (by decide) rfl rfl (by decide) (by decide) rfl rfl (by decide) rfl (List.mem_cons_of_mem _ wC_fRX1_27) dX1_goBack_1 ?_
  refine z_iconst B.1 B.2.1 dX1_goBack_4 ?_
  refine z_icmp_lt (tgt := 20) B.1 B.2.1 (zr_of (by omega) (by omega)) (zr_of (by decide) (by decide)) dX1_goBack_5 (by decide) (fun c_1 => ?_) (fun c_1 => ?_)
  · --
    refine z_iconst B.1 B.2.1 dX1_goBack_20 ?_
    have hq : K1_goBack S = ((-1), S) := by unfold K1_goBack; exact (if_pos c_1)
    exact c_reti B hM (⟨(congrArg Prod.fst hq).symm, (congrArg Prod.snd hq).symm⟩) dX1_goBack_21
  · --
    refine lv_aload_n B.1 B.2.1 dX1_goBack_8 rfl (lv_at hl 0 rfl) ?_
    refine c_geti (q := q) (x := S.1 11 3) B (iC1 _) hK hM 11 3 1 (by decide) rfl rfl (by decide) (by decide) rfl rfl (by decide) rfl (List.mem_cons_of_mem _ wC_fRX1_27) dX1_goBack_9 ?_
    refine lv_aload_n B.1 B.2.1 dX1_goBack_12 rfl (lv_at hl 0 rfl) ?_
    refine c_getr (q := q) (r := 36) B (iC1 _) hK hM 11 1 1 (by decide) rfl rfl (by decide) (by decide) rfl rfl rfl (cFx_r hF 11 1) (List.mem_cons_of_mem _ wC_fRX1_15) dX1_goBack_13 ?_
    refine c_alen (q := q) B hK hM 36 (by decide) (by decide) dX1_goBack_16 ?_
    refine z_icmp_le (tgt := 22) B.1 B.2.1 (zr_of (by omega) (by omega)) (zr_of (by omega) (by omega)) dX1_goBack_17 (by decide) (fun c_2 => ?_) (fun c_2 => ?_)
    · --
      refine lv_aload_n B.1 B.2.1 dX1_goBack_22 rfl (lv_at hl 0 rfl) ?_
      refine lv_dup B.1 B.2.1 dX1_goBack_23 rfl ?_
      refine c_geti (q := q) (x := S.1 11 3) B (iC1 _) hK hM 11 3 1 (by decide) rfl rfl (by decide) (by decide) rfl rfl (by decide) rfl (List.mem_cons_of_mem _ wC_fRX1_27) dX1_goBack_24 ?_
      refine z_iconst B.1 B.2.1 dX1_goBack_27 ?_
      refine z_isub (x := (S.1 11 3) - 3) B.1 B.2.1 rfl dX1_goBack_28 ?_
      refine c_puti (q := q) B (iC1 _) tyX1 tyX1_ok nmX1 hK hM 11 3 1 (by decide) rfl rfl (by decide) (by decide) rfl rfl rfl (by decide +kernel) (by decide) (List.mem_cons_of_mem _ wC_fRX1_27) dX1_goBack_29 (fun H locs hM => ?_)
      refine lv_aload_n B.1 B.2.1 dX1_goBack_32 rfl (lv_at hl 0 rfl) ?_
      refine lv_aload_n B.1 B.2.1 dX1_goBack_33 rfl (lv_at hl 0 rfl) ?_
      refine c_getr (q := q) (r := 36) B (iC1 _) hK hM 11 1 1 (by decide) rfl rfl (by decide) (by decide) rfl rfl rfl (cFx_r hF 11 1) (List.mem_cons_of_mem _ wC_fRX1_15) dX1_goBack_34 ?_
      refine lv_aload_n B.1 B.2.1 dX1_goBack_37 rfl (lv_at hl 0 rfl) ?_
      refine c_geti (q := q) (x := (S.1 11 3) - 3) B (iC1 _) hK hM 11 3 1 (by decide) rfl rfl (by decide) (by decide) rfl rfl (by decide) rfl (List.mem_cons_of_mem _ wC_fRX1_27) dX1_goBack_38 ?_
      refine z_iconst B.1 B.2.1 dX1_goBack_41 ?_
      refine z_iadd (x := ((S.1 11 3) - 3) + 2) B.1 B.2.1 rfl dX1_goBack_42 ?_
      refine c_iald (q := q) (x := S.1 36 (((S.1 11 3) - 3) + 2).toNat) B hK hM 36 (by decide) rfl (zr_of (by omega) (by omega)) (by omega) (by show _ < (((S.2.2.2 36) : Nat) : Int); omega) rfl dX1_goBack_43 ?_
      have hx1 := hM6 (S.1 11 3 - 3 + 2).toNat
      have hV := sV_c (u := S.1 11 3 - 3) hV (by omega) (by omega)
      refine c_callv (q := q) (As := [.int (zI (S.1 36 (((S.1 11 3) - 3) + 2).toNat))]) (rest := []) B hK hM 11 (by decide) (by decide) rfl (cX1_undoDownTo_ok l D cy q a b (ci S 11 3 ((S.1 11 3) - 3)) hF  (S.1 36 (((S.1 11 3) - 3) + 2).toNat) (by show -1000000 ≤ (S.1 36 (((S.1 11 3) - 3) + 2).toNat); omega) (by show (S.1 36 (((S.1 11 3) - 3) + 2).toNat) ≤ 1000000; omega) hV) (cwC 1 B wC_mRX1_38 wC_im_yX1_undoDownTo wC_sl_yX1_undoDownTo wC_in_RX1 wC_cd_yX1_undoDownTo rfl rfl (by decide +kernel) ⟨Nat.le_of_ble_eq_true rfl, Nat.le_of_ble_eq_true rfl⟩) rfl hl.1 rfl (Nat.le_of_ble_eq_true rfl) dX1_goBack_44 ⟨Nat.zero_le _, Nat.zero_le _⟩ (fun S_4 H locs hp_3 hM => ?_)
      have hp_3 := hp_3.symm
      subst hp_3
      have hV : sV (K1_undoDownTo (S.1 36 (((S.1 11 3) - 3) + 2).toNat) (ci S 11 3 ((S.1 11 3) - 3))) := sV_undo hV
      have hF : cFx a b (K1_undoDownTo (S.1 36 (((S.1 11 3) - 3) + 2).toNat) (ci S 11 3 ((S.1 11 3) - 3))) := cFx_of (congrArg Prod.snd K1_undoDownTo_2) hF
      have hu3' : (K1_undoDownTo (S.1 36 (((S.1 11 3) - 3) + 2).toNat) (ci S 11 3 ((S.1 11 3) - 3))).1 11 3 = _ := K1_undoDownTo_3 (by decide)
      have hul' : (K1_undoDownTo (S.1 36 (((S.1 11 3) - 3) + 2).toNat) (ci S 11 3 ((S.1 11 3) - 3))).2.2.2 36 = _ := congrArg (fun z => z.2.2 36) K1_undoDownTo_2
      simp only [ci_eq, zu_eq] at hu3'
      simp only [ci_2] at hul'
      refine lv_aload_n B.1 B.2.1 dX1_goBack_47 rfl (lv_at hl 0 rfl) ?_
      refine lv_aload_n B.1 B.2.1 dX1_goBack_48 rfl (lv_at hl 0 rfl) ?_
      refine c_getr (q := q) (r := 36) B (iC1 _) hK hM 11 1 1 (by decide) rfl rfl (by decide) (by decide) rfl rfl rfl (cFx_r hF 11 1) (List.mem_cons_of_mem _ wC_fRX1_15) dX1_goBack_49 ?_
      refine lv_aload_n B.1 B.2.1 dX1_goBack_52 rfl (lv_at hl 0 rfl) ?_
      refine c_geti (q := q) (x := (K1_undoDownTo (S.1 36 (((S.1 11 3) - 3) + 2).toNat) (ci S 11 3 ((S.1 11 3) - 3))).1 11 3) B (iC1 _) hK hM 11 3 1 (by decide) rfl rfl (by decide) (by decide) rfl rfl (by decide) rfl (List.mem_cons_of_mem _ wC_fRX1_27) dX1_goBack_53 ?_
      refine z_iconst B.1 B.2.1 dX1_goBack_56 ?_
      refine z_iadd (x := ((K1_undoDownTo (S.1 36 (((S.1 11 3) - 3) + 2).toNat) (ci S 11 3 ((S.1 11 3) - 3))).1 11 3) + 1) B.1 B.2.1 rfl dX1_goBack_57 ?_
      refine c_iald (q := q) (x := S.1 36 (((K1_undoDownTo (S.1 36 (((S.1 11 3) - 3) + 2).toNat) (ci S 11 3 ((S.1 11 3) - 3))).1 11 3) + 1).toNat) B hK hM 36 (by decide) rfl (zr_of (by omega) (by omega)) (by omega) (by show _ < ((((K1_undoDownTo (S.1 36 (((S.1 11 3) - 3) + 2).toNat) (ci S 11 3 ((S.1 11 3) - 3))).2.2.2 36) : Nat) : Int); omega) (by simp only [K1_undoDownTo_1 (show (36 : Nat) ≠ 11 by decide) (show (36 : Nat) ≠ 35 by decide), ci_ne (show (36 : Nat) ≠ 11 by decide)]) dX1_goBack_58 ?_
      refine c_puti (q := q) B (iC1 _) tyX1 tyX1_ok nmX1 hK hM 11 5 1 (by decide) rfl rfl (by decide) (by decide) rfl rfl rfl (by decide +kernel) (by decide) (List.mem_cons_of_mem _ wC_fRX1_42) dX1_goBack_59 (fun H locs hM => ?_)
      refine lv_aload_n B.1 B.2.1 dX1_goBack_62 rfl (lv_at hl 0 rfl) ?_
      refine c_getr (q := q) (r := 36) B (iC1 _) hK hM 11 1 1 (by decide) rfl rfl (by decide) (by decide) rfl rfl rfl (cFx_r hF 11 1) (List.mem_cons_of_mem _ wC_fRX1_15) dX1_goBack_63 ?_
      refine lv_aload_n B.1 B.2.1 dX1_goBack_66 rfl (lv_at hl 0 rfl) ?_
      refine c_geti (q := q) (x := (K1_undoDownTo (S.1 36 (((S.1 11 3) - 3) + 2).toNat) (ci S 11 3 ((S.1 11 3) - 3))).1 11 3) B (iC1 _) hK hM 11 3 1 (by decide) rfl rfl (by decide) (by decide) rfl rfl (by decide) rfl (List.mem_cons_of_mem _ wC_fRX1_27) dX1_goBack_67 ?_
      refine c_iald (q := q) (x := S.1 36 ((K1_undoDownTo (S.1 36 (((S.1 11 3) - 3) + 2).toNat) (ci S 11 3 ((S.1 11 3) - 3))).1 11 3).toNat) B hK hM 36 (by decide) rfl (zr_of (by omega) (by omega)) (by omega) (by show _ < ((((K1_undoDownTo (S.1 36 (((S.1 11 3) - 3) + 2).toNat) (ci S 11 3 ((S.1 11 3) - 3))).2.2.2 36) : Nat) : Int); omega) (by simp only [ci_ne (show (36 : Nat) ≠ 11 by decide), K1_undoDownTo_1 (show (36 : Nat) ≠ 11 by decide) (show (36 : Nat) ≠ 35 by decide)]) dX1_goBack_70 ?_
      have hq : K1_goBack S = (S.1 36 ((K1_undoDownTo (S.1 36 (((S.1 11 3) - 3) + 2).toNat) (ci S 11 3 ((S.1 11 3) - 3))).1 11 3).toNat, (ci (K1_undoDownTo (S.1 36 (((S.1 11 3) - 3) + 2).toNat) (ci S 11 3 ((S.1 11 3) - 3))) 11 5 (S.1 36 (((K1_undoDownTo (S.1 36 (((S.1 11 3) - 3) + 2).toNat) (ci S 11 3 ((S.1 11 3) - 3))).1 11 3) + 1).toNat))) := by unfold K1_goBack; exact ((if_neg c_1).trans (if_pos c_2))
      exact c_reti B hM (⟨(congrArg Prod.fst hq).symm, (congrArg Prod.snd hq).symm⟩) dX1_goBack_71
    · --
      refine z_iconst B.1 B.2.1 dX1_goBack_20 ?_
      have hq : K1_goBack S = ((-1), S) := by unfold K1_goBack; exact ((if_neg c_1).trans (if_neg c_2))
      exact c_reti B hM (⟨(congrArg Prod.fst hq).symm, (congrArg Prod.snd hq).symm⟩) dX1_goBack_21
theorem K1_goBack_v {S : CSt} : K1_goBack S = (if S.1 11 3 < 3 ∨ ((S.2.2.2 36 : Nat) : Int) < S.1 11 3 then (-1, S) else (S.1 36 (S.1 11 3 - 3).toNat, ci (K1_undoDownTo (S.1 36 (S.1 11 3 - 1).toNat) (ci S 11 3 (S.1 11 3 - 3))) 11 5 (S.1 36 (S.1 11 3 - 2).toNat))) := by
  unfold K1_goBack
  have e1 : S.1 11 3 - 3 + 2 = S.1 11 3 - 1 := by omega
  have e2 : ∀ u, (K1_undoDownTo u (ci S 11 3 (S.1 11 3 - 3))).1 11 3 = S.1 11 3 - 3 := fun u => by rw [K1_undoDownTo_3 (by decide), ci_eq, zu_eq]
  have e3 : S.1 11 3 - 3 + 1 = S.1 11 3 - 2 := by omega
  rw [e1, e2, e3]
  by_cases h1 : S.1 11 3 < 3
  · rw [if_pos h1, if_pos (Or.inl h1)]
  · by_cases h2 : S.1 11 3 ≤ ((S.2.2.2 36 : Nat) : Int)
    · rw [if_neg h1, if_pos h2, if_neg (by omega)]
    · rw [if_neg h1, if_neg h2, if_pos (Or.inr (by omega))]
theorem K1_goBack_2 {S : CSt} : (K1_goBack S).2.2 = S.2 := by
  rw [K1_goBack_v]
  split
  · rfl
  · exact K1_undoDownTo_2
theorem K1_goBack_1 {S : CSt} {n : Nat} (h : n ≠ 11) (h' : n ≠ 35) : (K1_goBack S).2.1 n = S.1 n := by
  rw [K1_goBack_v]
  split
  · rfl
  · simp only [ci_ne h, K1_undoDownTo_1 h h']
theorem sV_goBack {S : CSt} (hV : sV S) : sV (K1_goBack S).2 := by
  rw [K1_goBack_v]
  split
  · exact hV
  · exact sV_5 (sV_undo (sV_c hV (by omega) (by omega)))
theorem K1_goBack_bd {S : CSt} (hV : sV S) : -1 ≤ (K1_goBack S).1 ∧ (K1_goBack S).1 ≤ 100000 := by
  rw [K1_goBack_v]
  split
  · exact ⟨by show (-1 : Int) ≤ -1; decide, by show (-1 : Int) ≤ 100000; decide⟩
  · exact hV.2.2.2.2.2.1 _
theorem sV_clear {S : CSt} (hV : sV S) : sV (K1_clear S) := by
  obtain ⟨hMk, hu30, hu31, hu40, hu41, hM6, hM7⟩ := hV
  have e3 : (K1_clear S).1 11 3 = 0 := by
    unfold K1_clear
    rw [ci_eq, zu_ne (by decide), ci_eq, zu_eq]
  have e4 : (K1_clear S).1 11 4 = 0 := by
    unfold K1_clear
    rw [ci_eq, zu_eq]
  have e35 : (K1_clear S).1 35 = (K7_fill35 (-1) S).1 35 := by
    unfold K1_clear
    rw [ci_ne (by decide), ci_ne (by decide)]
  refine ⟨fun j => ?_, by rw [e3]; decide, by rw [e3]; omega, by rw [e4]; decide, by rw [e4]; omega, by rw [K1_clear_1 (by decide) (by decide)]; exact hM6, by rw [K1_clear_1 (by decide) (by decide)]; exact hM7⟩
  rw [e35]
  by_cases h : j < 90
  · rw [K7_fill35_v h]; exact ⟨by decide, by decide⟩
  · rw [K7_fill35_o h]; exact hMk j
