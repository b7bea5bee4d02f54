theorem K0_beginLook_eq {i : Int} {S : CSt} : K0_beginLook i S = (0, i + 1, (K1_set (80 + K2_number 6 i S) (S.1 10 3) (K1_set (70 + K2_number 6 i S) (S.1 11 3) S).2.2).2.2) := by
  unfold K0_beginLook
  rw [if_pos K1_set_0, if_pos K1_set_0]
theorem K0_beginLookNot_eq {i : Int} {S : CSt} : K0_beginLookNot i S = (0, i + 1, (K1_choose (K2_aim 6 i (K1_set (70 + K2_number 6 i S) (S.1 11 3) S).2.2) (S.1 10 3) (K1_set (70 + K2_number 6 i S) (S.1 11 3) S).2.2).2.2) := by
  unfold K0_beginLookNot
  rw [if_pos K1_set_0, if_pos K1_choose_0]
theorem K0_beginPass_eq {i : Int} {S : CSt} : K0_beginPass i S = K0_bpL i (K2_number 6 i S) (10 - K2_firstGroup 6 (K2_number 6 i S) (K1_set (50 + K2_number 6 i S) (S.1 10 3) S).2.2).toNat (K2_firstGroup 6 (K2_number 6 i S) (K1_set (50 + K2_number 6 i S) (S.1 10 3) S).2.2) (K1_set (50 + K2_number 6 i S) (S.1 10 3) S).2.2 := by
  unfold K0_beginPass
  rw [if_pos K1_set_0]
theorem K0_bpL_eq {i l9 g : Int} {n : Nat} {T : CSt} : K0_bpL i l9 (n + 1) g T = (if K2_lastGroup 6 l9 T < g then (0, K2_aim 6 i T, T) else K0_bpL i l9 n (g + 1) (K1_set (20 + g) (-1) (K1_set (10 + g) (-1) T).2.2).2.2) := by
  rw [K0_bpL]
  by_cases c : K2_lastGroup 6 l9 T < g
  · rw [if_pos c, if_pos c]
  · rw [if_neg c, if_neg c, if_pos K1_set_0, if_pos K1_set_0]
theorem K0_bpL_ok {i l9 : Int} {a : Nat} : ∀ (n : Nat) (g : Int) (T : CSt) (N M : Int), oK a N M T → N + 4 * n ≤ 12000 → (oK a (N + 4 * n) M (K0_bpL i l9 n g T).2.2) ∧ gl T ≤ gl (K0_bpL i l9 n g T).2.2 ∧ (pB 6 T → (∀ j, T.1 18 j ≤ 1000) → -1 ≤ (K0_bpL i l9 n g T).2.1 ∧ (K0_bpL i l9 n g T).2.1 ≤ 1000) ∧ (K0_bpL i l9 n g T).1 = 0
  | 0, g, T, N, M, h, hN => by
    rw [K0_bpL]
    exact ⟨oK_mono h (by omega) (Int.le_refl _), Nat.le_refl _, fun hP h18 => ⟨(K2_aim_bd i hP).1, K2_aim_b2 i h18⟩, rfl⟩
  | n + 1, g, T, N, M, h, hN => by
    rw [K0_bpL_eq]
    split
    · exact ⟨oK_mono h (by omega) (Int.le_refl _), Nat.le_refl _, fun hP h18 => ⟨(K2_aim_bd i hP).1, K2_aim_b2 i h18⟩, rfl⟩
    · obtain ⟨h1, h2, h3, h4⟩ := K0_bpL_ok (i := i) (l9 := l9) (a := a) n (g + 1) (K1_set (20 + g) (-1) (K1_set (10 + g) (-1) T).2.2).2.2 (N + 2 + 2) M (oK_set (oK_set h (by omega) (by omega) (by omega)) (by omega) (by omega) (by omega)) (by omega)
      refine ⟨oK_mono h1 (by omega) (Int.le_refl _), Nat.le_trans (Nat.le_trans K1_set_gl K1_set_gl) h2, fun hP h18 => h3 (pB_set (pB_set hP)) (fun j => ?_), h4⟩
      rw [K1_set_1 (by decide) (by decide) (by decide), K1_set_1 (by decide) (by decide) (by decide)]
      exact h18 j
theorem K0_prL_ok {i bg en : Int} {a : Nat} {N M : Int} : ∀ (n : Nat) (k : Int) (T : CSt), oK a N M T → 0 ≤ i → oK a N M (K0_prL i bg en n k T).2.2 ∧ gl T ≤ gl (K0_prL i bg en n k T).2.2 ∧ -1 ≤ (K0_prL i bg en n k T).2.1 ∧ (K0_prL i bg en n k T).2.1 ≤ i + 1 ∧ (K0_prL i bg en n k T).1 = 0
  | 0, k, T, h, hi => by
    rw [K0_prL]
    exact ⟨oK_10 h, Nat.le_refl _, by show -1 ≤ i + 1; omega, Int.le_refl _, rfl⟩
  | n + 1, k, T, h, hi => by
    rw [K0_prL]
    split
    · exact ⟨oK_10 h, Nat.le_refl _, by show -1 ≤ i + 1; omega, Int.le_refl _, rfl⟩
    · split
      · exact ⟨h, Nat.le_refl _, Int.le_refl _, by show -1 ≤ i + 1; omega, rfl⟩
      · exact K0_prL_ok n (k + 1) T h hi
/-- what every turn leaves -/
def tK (a : Nat) (S : CSt) (r : CR) : Prop := oK a 11990 8999 r.2.2 ∧ gl S ≤ gl r.2.2 ∧ -2 ≤ r.2.1 ∧ r.2.1 ≤ 1002 ∧ (r.1 = 0 ∨ (r.1 = 1 ∧ r.2.1 = 0))
theorem tK_cs {a : Nat} {S : CSt} (h : oK a 11900 8990 S) : tK a S (1, 0, (K0_countStep S).2.2) := by
  refine ⟨?_, gl_of (congrArg Prod.snd K0_cs_2), by show (-2 : Int) ≤ 0; decide, by show (0 : Int) ≤ 1002; decide, Or.inr ⟨rfl, rfl⟩⟩
  unfold K0_countStep
  split
  · exact oK_mono (oK_10 h) (by omega) (by omega)
  · exact oK_mono h (by omega) (by omega)
theorem K0_passSign_ok {i : Int} {a : Nat} {S : CSt} (h : oK a 11900 8990 S) (h0 : 0 ≤ i) (h1 : i ≤ 1000) : tK a S (K0_passSign i S) := by
  unfold K0_passSign
  (repeat' split)
  · exact ⟨oK_mono (oK_10 h) (by omega) (by omega), Nat.le_refl _, by show (-2 : Int) ≤ -1; omega, by show (-1 : Int) ≤ 1002; omega, Or.inl rfl⟩
  · exact ⟨oK_mono (oK_10 h) (by omega) (by omega), Nat.le_refl _, by show (-2 : Int) ≤ -1; omega, by show (-1 : Int) ≤ 1002; omega, Or.inl rfl⟩
  · exact ⟨oK_mono (oK_10 (oK_10 h)) (by omega) (by omega), Nat.le_refl _, by show (-2 : Int) ≤ i + 1; omega, by show i + 1 ≤ 1002; omega, Or.inl rfl⟩
  · exact tK_cs h
theorem K0_passReference_ok {i : Int} {a : Nat} {S : CSt} (h : oK a 11900 8990 S) (h0 : 0 ≤ i) (h1 : i ≤ 1000) : tK a S (K0_passReference i S) := by
  unfold K0_passReference
  (repeat' split)
  · exact ⟨oK_mono (oK_10 h) (by omega) (by omega), Nat.le_refl _, by show (-2 : Int) ≤ i + 1; omega, by show i + 1 ≤ 1002; omega, Or.inl rfl⟩
  · obtain ⟨a1, a2, a3, a4, a5⟩ := K0_prL_ok (i := i) (bg := K0_tookFrom (K2_number 6 i (ci S 10 4 (S.1 10 4 + 1))) (ci S 10 4 (S.1 10 4 + 1))) (en := K0_tookTo (K2_number 6 i (ci S 10 4 (S.1 10 4 + 1))) (ci S 10 4 (S.1 10 4 + 1))) (K0_tookTo (K2_number 6 i (ci S 10 4 (S.1 10 4 + 1))) (ci S 10 4 (S.1 10 4 + 1)) - K0_tookFrom (K2_number 6 i (ci S 10 4 (S.1 10 4 + 1))) (ci S 10 4 (S.1 10 4 + 1))).toNat (K0_tookFrom (K2_number 6 i (ci S 10 4 (S.1 10 4 + 1))) (ci S 10 4 (S.1 10 4 + 1))) (ci S 10 4 (S.1 10 4 + 1)) (oK_10 (k := 4) (v := S.1 10 4 + 1) h) h0
    exact ⟨oK_mono a1 (by omega) (by omega), a2, by omega, by omega, Or.inl a5⟩
  · exact tK_cs h
theorem K0_choosePass_ok {i : Int} {a : Nat} {S : CSt} (h : oK a 11902 8990 S) (hp0 : 0 ≤ S.1 10 3) (hp1 : S.1 10 3 ≤ 1000) (h0 : 0 ≤ i) (h1 : i ≤ 1000) : tK a S (K0_choosePass i S) := by
  rw [K0_choosePass_eq]
  (repeat' split)
  · exact ⟨oK_mono h (by omega) (by omega), Nat.le_refl _, by show (-2 : Int) ≤ i + 1; omega, by show i + 1 ≤ 1002; omega, Or.inl rfl⟩
  · exact ⟨oK_mono h (by omega) (by omega), Nat.le_refl _, by show (-2 : Int) ≤ i + 2; omega, by show i + 2 ≤ 1002; omega, Or.inl rfl⟩
  · exact ⟨oK_mono (oK_choose h (by omega) (by omega) (by omega) (by omega) (by omega) (by omega)) (by omega) (by omega), K1_choose_gl, by show (-2 : Int) ≤ i + 1; omega, by show i + 1 ≤ 1002; omega, Or.inl rfl⟩
  · exact ⟨oK_mono (oK_choose h (by omega) (by omega) (by omega) (by omega) (by omega) (by omega)) (by omega) (by omega), K1_choose_gl, by show (-2 : Int) ≤ i + 2; omega, by show i + 2 ≤ 1002; omega, Or.inl rfl⟩
theorem tK_gl {a : Nat} {S T : CSt} {r : CR} (h : tK a T r) (hg : gl S ≤ gl T) : tK a S r := ⟨h.1, Nat.le_trans hg h.2.1, h.2.2⟩
theorem K0_beginAlternative_ok {i : Int} {a : Nat} {S : CSt} (h : oK a 11900 8990 S) (hX : xV S) (h0 : 0 ≤ i) (h1 : i ≤ 1000) : tK a S (K0_beginAlternative i S) := by
  obtain ⟨hV, hP, ht0, ht1, hcs, hp0, hp1, hs0, hs1, h18, h24, h25, h35⟩ := hX
  have b1 := K2_aim_bd (t := 6) (S := ci S 10 4 (S.1 10 4 + 1)) i (pB_ci (by decide) (by decide) hP)
  have b2 := K2_aim_b2 (S := ci S 10 4 (S.1 10 4 + 1)) i h18
  unfold K0_beginAlternative
  (repeat' split)
  · exact ⟨oK_mono (oK_10 h) (by omega) (by omega), Nat.le_refl _, by show (-2 : Int) ≤ i + 1; omega, by show i + 1 ≤ 1002; omega, Or.inl rfl⟩
  · exact ⟨oK_mono (oK_choose (oK_10 h) (by omega) (by omega) (by omega) (by omega) (by omega) (by omega)) (by omega) (by omega), K1_choose_gl (S := ci S 10 4 (S.1 10 4 + 1)), by show (-2 : Int) ≤ i + 1; omega, by show i + 1 ≤ 1002; omega, Or.inl rfl⟩
  · rename_i c; exact absurd K1_choose_0 c
  · exact tK_cs h
theorem K0_beginGroup_ok {i : Int} {a : Nat} {S : CSt} (h : oK a 11900 8990 S) (hX : xV S) (h0 : 0 ≤ i) (h1 : i ≤ 1000) : tK a S (K0_beginGroup i S) := by
  obtain ⟨hV, hP, ht0, ht1, hcs, hp0, hp1, hs0, hs1, h18, h24, h25, h35⟩ := hX
  rw [K0_beginGroup_eq]
  exact ⟨oK_mono (oK_set h (by omega) (by omega) (by omega)) (by omega) (by omega), K1_set_gl, by show (-2 : Int) ≤ i + 1; omega, by show i + 1 ≤ 1002; omega, Or.inl rfl⟩
theorem K0_endGroup_ok {i : Int} {a : Nat} {S : CSt} (h : oK a 11900 8990 S) (hX : xV S) (h0 : 0 ≤ i) (h1 : i ≤ 1000) : tK a S (K0_endGroup i S) := by
  obtain ⟨hV, hP, ht0, ht1, hcs, hp0, hp1, hs0, hs1, h18, h24, h25, h35⟩ := hX
  have b := K1_mark_bd (S := S) (0 + K2_number 6 i S) hV
  rw [K0_endGroup_eq]
  exact ⟨oK_mono (oK_set (oK_set h (by omega) (by omega) (by omega)) (by omega) (by omega) (by omega)) (by omega) (by omega), Nat.le_trans K1_set_gl K1_set_gl, by show (-2 : Int) ≤ i + 1; omega, by show i + 1 ≤ 1002; omega, Or.inl rfl⟩
theorem K0_enterLoop_ok {i : Int} {a : Nat} {S : CSt} (h : oK a 11900 8990 S) (hX : xV S) (h0 : 0 ≤ i) (h1 : i ≤ 1000) : tK a S (K0_enterLoop i S) := by
  obtain ⟨hV, hP, ht0, ht1, hcs, hp0, hp1, hs0, hs1, h18, h24, h25, h35⟩ := hX
  have b1 := K2_aim_bd i hP
  have b2 := K2_aim_b2 i h18
  rw [K0_enterLoop_eq]
  split
  · exact ⟨oK_mono h (by omega) (by omega), Nat.le_refl _, by show (-2 : Int) ≤ i + 1; omega, by show i + 1 ≤ 1002; omega, Or.inl rfl⟩
  · have e : ∀ u, (K1_set u 0 S).2.2.1 10 = S.1 10 := fun u => K1_set_1 (by decide) (by decide) (by decide)
    exact tK_gl (K0_choosePass_ok (oK_mono (oK_set h (by omega) (by omega) (by omega)) (by omega) (by omega)) (by rw [e]; exact hp0) (by rw [e]; exact hp1) (by omega) (by omega)) K1_set_gl
theorem K0_endPass_ok {i : Int} {a : Nat} {S : CSt} (h : oK a 11900 8990 S) (hX : xV S) (h0 : 0 ≤ i) (h1 : i ≤ 1000) : tK a S (K0_endPass i S) := by
  obtain ⟨hV, hP, ht0, ht1, hcs, hp0, hp1, hs0, hs1, h18, h24, h25, h35⟩ := hX
  have b := K1_mark_bd (S := S) (30 + K2_number 6 i S) hV
  have b2 := K1_mark_b2 (S := S) (30 + K2_number 6 i S) h35
  rw [K0_endPass_eq]
  split
  · exact ⟨oK_mono h (by omega) (by omega), Nat.le_refl _, by show (-2 : Int) ≤ -1; omega, by show (-1 : Int) ≤ 1002; omega, Or.inl rfl⟩
  · have e : ∀ u v, (K1_set u v S).2.2.1 10 = S.1 10 := fun u v => K1_set_1 (by decide) (by decide) (by decide)
    exact tK_gl (K0_choosePass_ok (oK_mono (oK_set h (by omega) (by omega) (by omega)) (by omega) (by omega)) (by rw [e]; exact hp0) (by rw [e]; exact hp1) (by omega) (by omega)) K1_set_gl
theorem K0_beginPass_ok {i : Int} {a : Nat} {S : CSt} (h : oK a 11900 8990 S) (hX : xV S) (h0 : 0 ≤ i) (h1 : i ≤ 1000) : tK a S (K0_beginPass i S) := by
  obtain ⟨hV, hP, ht0, ht1, hcs, hp0, hp1, hs0, hs1, h18, h24, h25, h35⟩ := hX
  rw [K0_beginPass_eq]
  have e : ∀ u v m, m ≠ 37 → m ≠ 11 → m ≠ 35 → (K1_set u v S).2.2.1 m = S.1 m := fun u v m a1 a2 a3 => K1_set_1 a1 a2 a3
  have b := K2_fg_b2 (S := (K1_set (50 + K2_number 6 i S) (S.1 10 3) S).2.2) (K2_number 6 i S) (fun j => by rw [e _ _ 24 (by decide) (by decide) (by decide)]; exact h24 j)
  obtain ⟨a1, a2, a3, a4⟩ := K0_bpL_ok (i := i) (l9 := K2_number 6 i S) (a := a) (10 - K2_firstGroup 6 (K2_number 6 i S) (K1_set (50 + K2_number 6 i S) (S.1 10 3) S).2.2).toNat (K2_firstGroup 6 (K2_number 6 i S) (K1_set (50 + K2_number 6 i S) (S.1 10 3) S).2.2) (K1_set (50 + K2_number 6 i S) (S.1 10 3) S).2.2 (11900 + 2) 8990 (oK_set h (by omega) (by omega) (by omega)) (by omega)
  have a3 := a3 (pB_set hP) (fun j => by rw [e _ _ 18 (by decide) (by decide) (by decide)]; exact h18 j)
  exact ⟨oK_mono a1 (by omega) (by omega), Nat.le_trans K1_set_gl a2, by omega, by omega, Or.inl a4⟩
theorem K0_beginLook_ok {i : Int} {a : Nat} {S : CSt} (h : oK a 11900 8990 S) (hX : xV S) (h0 : 0 ≤ i) (h1 : i ≤ 1000) : tK a S (K0_beginLook i S) := by
  obtain ⟨hV, hP, ht0, ht1, hcs, hp0, hp1, hs0, hs1, h18, h24, h25, h35⟩ := hX
  have b := hV.2.1
  have b2 := h.2.2.2.2
  rw [K0_beginLook_eq]
  exact ⟨oK_mono (oK_set (oK_set h (by omega) (by omega) (by omega)) (by omega) (by omega) (by omega)) (by omega) (by omega), Nat.le_trans K1_set_gl K1_set_gl, by show (-2 : Int) ≤ i + 1; omega, by show i + 1 ≤ 1002; omega, Or.inl rfl⟩
theorem K0_endLook_ok {i : Int} {a : Nat} {S : CSt} (h : oK a 11900 8990 S) (h0 : 0 ≤ i) (h1 : i ≤ 1000) : tK a S (K0_endLook i S) := by
  unfold K0_endLook
  exact ⟨oK_mono (oK_10 (oK_cut h)) (by omega) (by omega), gl_of (congrArg Prod.snd K1_cut_2), by show (-2 : Int) ≤ i + 1; omega, by show i + 1 ≤ 1002; omega, Or.inl rfl⟩
theorem K0_beginLookNot_ok {i : Int} {a : Nat} {S : CSt} (h : oK a 11900 8990 S) (hX : xV S) (h0 : 0 ≤ i) (h1 : i ≤ 1000) : tK a S (K0_beginLookNot i S) := by
  obtain ⟨hV, hP, ht0, ht1, hcs, hp0, hp1, hs0, hs1, h18, h24, h25, h35⟩ := hX
  have b := hV.2.1
  have b2 := h.2.2.2.2
  have b3 := K2_aim_bd (t := 6) (S := (K1_set (70 + K2_number 6 i S) (S.1 11 3) S).2.2) i (pB_set hP)
  have b4 := K2_aim_b2 (S := (K1_set (70 + K2_number 6 i S) (S.1 11 3) S).2.2) i (fun j => by rw [K1_set_1 (by decide) (by decide) (by decide)]; exact h18 j)
  rw [K0_beginLookNot_eq]
  exact ⟨oK_mono (oK_choose (oK_set h (by omega) (by omega) (by omega)) (by omega) (by omega) (by omega) (by omega) (by omega) (by omega)) (by omega) (by omega), Nat.le_trans K1_set_gl K1_choose_gl, by show (-2 : Int) ≤ i + 1; omega, by show i + 1 ≤ 1002; omega, Or.inl rfl⟩
theorem K0_endLookNot_ok {i : Int} {a : Nat} {S : CSt} (h : oK a 11900 8990 S) (h0 : 0 ≤ i) (h1 : i ≤ 1000) : tK a S (K0_endLookNot i S) := by
  unfold K0_endLookNot
  exact ⟨oK_mono (oK_cut h) (by omega) (by omega), gl_of (congrArg Prod.snd K1_cut_2), by show (-2 : Int) ≤ -1; omega, by show (-1 : Int) ≤ 1002; omega, Or.inl rfl⟩
def K0_carryOut (i : Int) (S : CSt) : CR := (if ((K2_kind 6 i S)) = 0 then (0, (-2), S) else (if ((K2_kind 6 i S)) = 1 then (if (K0_passSign i S).1 = 0 then (0, (K0_passSign i S).2.1, (K0_passSign i S).2.2) else (1, 0, (K0_passSign i S).2.2)) else (if ((K2_kind 6 i S)) = 2 then (0, (if ((K0_isLineBegin S)) = 0 then (-1) else i + 1 : Int), S) else (if ((K2_kind 6 i S)) = 3 then (0, (if ((K0_isLineEnd S)) = 0 then (-1) else i + 1 : Int), S) else (if ((K2_kind 6 i S)) = 4 then (if (K0_passReference i S).1 = 0 then (0, (K0_passReference i S).2.1, (K0_passReference i S).2.2) else (1, 0, (K0_passReference i S).2.2)) else (if ((K2_kind 6 i S)) = 5 then (if (K0_beginAlternative i S).1 = 0 then (0, (K0_beginAlternative i S).2.1, (K0_beginAlternative i S).2.2) else (1, 0, (K0_beginAlternative i S).2.2)) else (if ((K2_kind 6 i S)) = 6 then (0, (K2_aim 6 i S), S) else (if ((K2_kind 6 i S)) = 7 then (if (K0_beginGroup i S).1 = 0 then (0, (K0_beginGroup i S).2.1, (K0_beginGroup i S).2.2) else (1, 0, (K0_beginGroup i S).2.2)) else (if ((K2_kind 6 i S)) = 8 then (if (K0_endGroup i S).1 = 0 then (0, (K0_endGroup i S).2.1, (K0_endGroup i S).2.2) else (1, 0, (K0_endGroup i S).2.2)) else (if ((K2_kind 6 i S)) = 9 then (if (K0_enterLoop i S).1 = 0 then (0, (K0_enterLoop i S).2.1, (K0_enterLoop i S).2.2) else (1, 0, (K0_enterLoop i S).2.2)) else (if ((K2_kind 6 i S)) = 10 then (if (K0_endPass i S).1 = 0 then (0, (K0_endPass i S).2.1, (K0_endPass i S).2.2) else (1, 0, (K0_endPass i S).2.2)) else (if ((K2_kind 6 i S)) = 11 then (if (K0_endPass i S).1 = 0 then (0, (K0_endPass i S).2.1, (K0_endPass i S).2.2) else (1, 0, (K0_endPass i S).2.2)) else (if ((K2_kind 6 i S)) = 12 then (if (K0_beginPass i S).1 = 0 then (0, (K0_beginPass i S).2.1, (K0_beginPass i S).2.2) else (1, 0, (K0_beginPass i S).2.2)) else (if ((K2_kind 6 i S)) = 13 then (if (K0_beginLook i S).1 = 0 then (0, (K0_beginLook i S).2.1, (K0_beginLook i S).2.2) else (1, 0, (K0_beginLook i S).2.2)) else (if ((K2_kind 6 i S)) = 14 then (if (K0_endLook i S).1 = 0 then (0, (K0_endLook i S).2.1, (K0_endLook i S).2.2) else (1, 0, (K0_endLook i S).2.2)) else (if ((K2_kind 6 i S)) = 15 then (if (K0_beginLookNot i S).1 = 0 then (0, (K0_beginLookNot i S).2.1, (K0_beginLookNot i S).2.2) else (1, 0, (K0_beginLookNot i S).2.2)) else (if ((K2_kind 6 i S)) = 16 then (if (K0_endLookNot i S).1 = 0 then (0, (K0_endLookNot i S).2.1, (K0_endLookNot i S).2.2) else (1, 0, (K0_endLookNot i S).2.2)) else (0, (-1), S))))))))))))))))))
set_option maxHeartbeats 1000000 in
set_option maxRecDepth 100000 in
theorem cX0_carryOut_ok (l : Launch) (hl0 : l.stackTraces = false) (D : va_G) (cy : Nat → ClassId) (q : Nat → Nat) (V : Nat × (Nat → Nat)) (n0 x y a : Nat) (S : CSt) (hF : cFx a 6 S) (i : Int) (ha36 : a < 36) (hX : xV S) (h0 : 0 ≤ i) (h1 : i ≤ 1000)(hc4 : S.1 11 4 ≤ 11900) (hc3 : S.1 11 3 ≤ 8990) : gMi l D cy q V n0 x y "java/lang/UnsupportedOperationException" yX0_carryOut (.code yX0_carryOut cX0_carryOut 2 (some .int) :: TBC) 8 153 S [.ref (q 10), .int (zI i)] (K0_carryOut i S) := by
  refine g_of (cc := cX0_carryOut) (maxL := 2) (ret := (some .int)) (by decide) rfl rfl (Nat.le_of_ble_eq_true rfl) ?_
  intro p e s m args below meth c ls B hK hG hM hl
  generalize gA (cq q x y) n0 = A at hG hM ⊢
  have hR : (headSpec (.code yX0_carryOut cX0_carryOut 2 (some .int) :: TBC) (gRm 8 153 S)).room.cells = (gK - gl S) + 1 ∧ (headSpec (.code yX0_carryOut cX0_carryOut 2 (some .int) :: TBC) (gRm 8 153 S)).room.slots = 2 * (gK - gl S) + 6 := ⟨rfl, rfl⟩
  have hl : lv_has ls 2 [(0, .ref (q 10)), (1, .int (zI i))] := hl
  obtain ⟨hV, hP, ht0, ht1, hcs, hp0, hp1, hs0, hs1, h18, h24, h25, h35⟩ := id hX
  obtain ⟨hMk, hu30, hu31, hu40, hu41, hM6, hM7⟩ := id hV
  refine lv_aload_n B.1 B.2.1 dX0_carryOut_0 rfl (lv_at hl 0 rfl) ?_
  refine c_getr (q := (cq q x y)) (r := 6) B (iC0 _) hK hM 10 2 0 (by decide) rfl rfl (by decide) (by decide) rfl rfl rfl (cFx_r hF 10 2) (List.mem_cons_of_mem _ wC_fRX0_22) dX0_carryOut_1 ?_
  refine lv_iload_n B.1 B.2.1 dX0_carryOut_4 rfl (lv_at hl 1 rfl) ?_
  refine c_calli (q := (cq q x y)) (As := [.int (zI i)]) (rest := []) B hK hM 6 (by decide) (by decide) rfl (cX2_kind_ok l D cy (cq q x y) a 6 S hF 6 (by decide) i hP (by show -1000000000 ≤ i; omega) (by show i ≤ 1000000000; omega)) (cwC 1 B wC_mRX0_75 wC_im_yX2_kind wC_sl_yX2_kind wC_in_RX2 wC_cd_yX2_kind rfl rfl (by decide +kernel) ⟨Nat.le_of_ble_eq_true rfl, Nat.le_of_ble_eq_true rfl⟩) rfl hl.1 rfl (Nat.le_of_ble_eq_true rfl) dX0_carryOut_5 ⟨g_rc hR (Nat.le_refl _) (cFx_gl hF), g_rs hR (Nat.le_refl _) (cFx_gl hF)⟩ (fun z_3 S_2 H locs hp_1 hM => ?_)
  obtain ⟨hp_1, he_hp_1⟩ := hp_1
  have he_hp_1 := he_hp_1.symm
  subst he_hp_1
  have hp_1 : (K2_kind 6 i S) = z_3 := hp_1.symm
  subst hp_1
  have f_4 := K2_kind_bd i hP
  rcases (show ((K2_kind 6 i S)) = 0 ∨ ((K2_kind 6 i S)) = 1 ∨ ((K2_kind 6 i S)) = 2 ∨ ((K2_kind 6 i S)) = 3 ∨ ((K2_kind 6 i S)) = 4 ∨ ((K2_kind 6 i S)) = 5 ∨ ((K2_kind 6 i S)) = 6 ∨ ((K2_kind 6 i S)) = 7 ∨ ((K2_kind 6 i S)) = 8 ∨ ((K2_kind 6 i S)) = 9 ∨ ((K2_kind 6 i S)) = 10 ∨ ((K2_kind 6 i S)) = 11 ∨ ((K2_kind 6 i S)) = 12 ∨ ((K2_kind 6 i S)) = 13 ∨ ((K2_kind 6 i S)) = 14 ∨ ((K2_kind 6 i S)) = 15 ∨ ((K2_kind 6 i S)) = 16 ∨ (((K2_kind 6 i S)) < 0 ∨ 16 < ((K2_kind 6 i S))) by omega) with c_5 | c_5 | c_5 | c_5 | c_5 | c_5 | c_5 | c_5 | c_5 | c_5 | c_5 | c_5 | c_5 | c_5 | c_5 | c_5 | c_5 | c_5
  · --
    refine z_tableIn (tgt := 92) (off := 84) B.1 B.2.1 (zr_of (by omega) (by omega)) dX0_carryOut_8 (by omega) (by omega) (by rw [c_5]; rfl) (by decide) ?_
    refine z_bipush B.1 B.2.1 (by decide) dX0_carryOut_92 ?_
    exact g_reti (S := S) B hM (by unfold K0_carryOut; exact (if_pos c_5)) dX0_carryOut_94
  · --
    have n_6 : ¬ ((K2_kind 6 i S)) = 0 := by omega
    refine z_tableIn (tgt := 95) (off := 87) B.1 B.2.1 (zr_of (by omega) (by omega)) dX0_carryOut_8 (by omega) (by omega) (by rw [c_5]; rfl) (by decide) ?_
    refine lv_aload_n B.1 B.2.1 dX0_carryOut_95 rfl (lv_at hl 0 rfl) ?_
    refine lv_iload_n B.1 B.2.1 dX0_carryOut_96 rfl (lv_at hl 1 rfl) ?_
    refine g_calli (E := "java/lang/UnsupportedOperationException") (As := [.int (zI i)]) (rest := []) B hK hG hM 10 (by decide) (by decide) rfl (cX0_passSign_ok l hl0 D cy q V n0 x y a S hF  i ha36 hX (by show 0 ≤ i; omega) (by show i ≤ 1000; omega)) (cwC 1 B wC_mRX0_78 wC_im_yX0_passSign wC_sl_yX0_passSign wC_in_RX0 wC_cd_yX0_passSign rfl rfl (by decide +kernel) ⟨Nat.le_of_ble_eq_true rfl, Nat.le_of_ble_eq_true rfl⟩) rfl hl.1 rfl (Nat.le_of_ble_eq_true rfl) dX0_carryOut_97 hR (Nat.le_refl _) (cFx_gl hF) (K0_passSign_ok (a := a) ⟨hF, hV, hP, hc4, hc3⟩ h0 h1).2.1 (fun c_7 => (by unfold K0_carryOut; exact ((if_neg n_6).trans ((if_pos c_5).trans (if_neg c_7))))) (fun x y H locs c_7 hM => ?_)
    have hg : gl S ≤ gl (K0_passSign i S).2.2 := Nat.le_trans (Nat.le_refl _) (K0_passSign_ok (a := a) ⟨hF, hV, hP, hc4, hc3⟩ h0 h1).2.1
    exact g_reti (S := (K0_passSign i S).2.2) B hM (by unfold K0_carryOut; exact ((if_neg n_6).trans ((if_pos c_5).trans (if_pos c_7)))) dX0_carryOut_100
  · --
    have n_8 : ¬ ((K2_kind 6 i S)) = 0 := by omega
    have n_9 : ¬ ((K2_kind 6 i S)) = 1 := by omega
    refine z_tableIn (tgt := 101) (off := 93) B.1 B.2.1 (zr_of (by omega) (by omega)) dX0_carryOut_8 (by omega) (by omega) (by rw [c_5]; rfl) (by decide) ?_
    refine lv_aload_n B.1 B.2.1 dX0_carryOut_101 rfl (lv_at hl 0 rfl) ?_
    refine c_calli (q := (cq q x y)) (As := []) (rest := []) B hK hM 10 (by decide) (by decide) rfl (cX0_isLineBegin_ok l D cy (cq q x y) a S hF   hX) (cwC 0 B wC_mRX0_81 wC_im_yX0_isLineBegin wC_sl_yX0_isLineBegin wC_in_RX0 wC_cd_yX0_isLineBegin rfl rfl (by decide +kernel) ⟨Nat.le_of_ble_eq_true rfl, Nat.le_of_ble_eq_true rfl⟩) rfl hl.1 rfl (Nat.le_of_ble_eq_true rfl) dX0_carryOut_102 ⟨g_rc hR (Nat.le_refl _) (cFx_gl hF), g_rs hR (Nat.le_refl _) (cFx_gl hF)⟩ (fun z_12 S_11 H locs hp_10 hM => ?_)
    obtain ⟨hp_10, he_hp_10⟩ := hp_10
    have he_hp_10 := he_hp_10.symm
    subst he_hp_10
    have hp_10 : (K0_isLineBegin S) = z_12 := hp_10.symm
    subst hp_10
    have f_13 : (K0_isLineBegin S) = 0 ∨ (K0_isLineBegin S) = 1 := K0_isLineBegin_bd
    refine z_joinH (P := fun v H' locs' => v = (if ((K0_isLineBegin S)) = 0 then (-1) else i + 1 : Int) ∧ cH D cy (cq q x y) A s.heap S H' locs') (pcJ := 115) (lsJ := ls) (stJ := []) (fun v_14 H locs hv_15 => ?_) (fun hJ_16 => ?_)
    · --
      obtain ⟨hv_15, hM⟩ := hv_15
      have hv_15 := hv_15.symm
      subst hv_15
      exact g_reti (S := S) B hM (by unfold K0_carryOut; exact ((if_neg n_8).trans ((if_neg n_9).trans (if_pos c_5)))) dX0_carryOut_115
    · --
      refine z_if_eq (tgt := 114) B.1 B.2.1 (zr_of (by omega) (by omega)) dX0_carryOut_105 (by decide) (fun c_17 => ?_) (fun c_17 => ?_)
      · --
        refine z_iconst B.1 B.2.1 dX0_carryOut_114 ?_
        exact hJ_16 _ _ _ ⟨(if_pos c_17).symm, hM⟩
      · --
        refine lv_iload_n B.1 B.2.1 dX0_carryOut_108 rfl (lv_at hl 1 rfl) ?_
        refine z_iconst B.1 B.2.1 dX0_carryOut_109 ?_
        refine z_iadd (x := i + 1) B.1 B.2.1 rfl dX0_carryOut_110 ?_
        refine lv_goto (tgt := 115) B.1 B.2.1 dX0_carryOut_111 (by decide) ?_
        exact hJ_16 _ _ _ ⟨(if_neg c_17).symm, hM⟩
  · --
    have n_18 : ¬ ((K2_kind 6 i S)) = 0 := by omega
    have n_19 : ¬ ((K2_kind 6 i S)) = 1 := by omega
    have n_20 : ¬ ((K2_kind 6 i S)) = 2 := by omega
    refine z_tableIn (tgt := 116) (off := 108) B.1 B.2.1 (zr_of (by omega) (by omega)) dX0_carryOut_8 (by omega) (by omega) (by rw [c_5]; rfl) (by decide) ?_
    refine lv_aload_n B.1 B.2.1 dX0_carryOut_116 rfl (lv_at hl 0 rfl) ?_
    refine c_calli (q := (cq q x y)) (As := []) (rest := []) B hK hM 10 (by decide) (by decide) rfl (cX0_isLineEnd_ok l D cy (cq q x y) a S hF   hX) (cwC 0 B wC_mRX0_85 wC_im_yX0_isLineEnd wC_sl_yX0_isLineEnd wC_in_RX0 wC_cd_yX0_isLineEnd rfl rfl (by decide +kernel) ⟨Nat.le_of_ble_eq_true rfl, Nat.le_of_ble_eq_true rfl⟩) rfl hl.1 rfl (Nat.le_of_ble_eq_true rfl) dX0_carryOut_117 ⟨g_rc hR (Nat.le_refl _) (cFx_gl hF), g_rs hR (Nat.le_refl _) (cFx_gl hF)⟩ (fun z_23 S_22 H locs hp_21 hM => ?_)
    obtain ⟨hp_21, he_hp_21⟩ := hp_21
    have he_hp_21 := he_hp_21.symm
    subst he_hp_21
    have hp_21 : (K0_isLineEnd S) = z_23 := hp_21.symm
    subst hp_21
    have f_24 : (K0_isLineEnd S) = 0 ∨ (K0_isLineEnd S) = 1 := K0_isLineEnd_bd
    refine z_joinH (P := fun v H' locs' => v = (if ((K0_isLineEnd S)) = 0 then (-1) else i + 1 : Int) ∧ cH D cy (cq q x y) A s.heap S H' locs') (pcJ := 130) (lsJ := ls) (stJ := []) (fun v_25 H locs hv_26 => ?_) (fun hJ_27 => ?_)
    · --
      obtain ⟨hv_26, hM⟩ := hv_26
      have hv_26 := hv_26.symm
      subst hv_26
      exact g_reti (S := S) B hM (by unfold K0_carryOut; exact ((if_neg n_18).trans ((if_neg n_19).trans ((if_neg n_20).trans (if_pos c_5))))) dX0_carryOut_130
    · --
      refine z_if_eq (tgt := 129) B.1 B.2.1 (zr_of (by omega) (by omega)) dX0_carryOut_120 (by decide) (fun c_28 => ?_) (fun c_28 => ?_)
      · --
        refine z_iconst B.1 B.2.1 dX0_carryOut_129 ?_
        exact hJ_27 _ _ _ ⟨(if_pos c_28).symm, hM⟩
      · --
        refine lv_iload_n B.1 B.2.1 dX0_carryOut_123 rfl (lv_at hl 1 rfl) ?_
        refine z_iconst B.1 B.2.1 dX0_carryOut_124 ?_
        refine z_iadd (x := i + 1) B.1 B.2.1 rfl dX0_carryOut_125 ?_
        refine lv_goto (tgt := 130) B.1 B.2.1 dX0_carryOut_126 (by decide) ?_
        exact hJ_27 _ _ _ ⟨(if_neg c_28).symm, hM⟩
  · --
    have n_29 : ¬ ((K2_kind 6 i S)) = 0 := by omega
    have n_30 : ¬ ((K2_kind 6 i S)) = 1 := by omega
    have n_31 : ¬ ((K2_kind 6 i S)) = 2 := by omega
    have n_32 : ¬ ((K2_kind 6 i S)) = 3 := by omega
    refine z_tableIn (tgt := 131) (off := 123) B.1 B.2.1 (zr_of (by omega) (by omega)) dX0_carryOut_8 (by omega) (by omega) (by rw [c_5]; rfl) (by decide) ?_
    refine lv_aload_n B.1 B.2.1 dX0_carryOut_131 rfl (lv_at hl 0 rfl) ?_
    refine lv_iload_n B.1 B.2.1 dX0_carryOut_132 rfl (lv_at hl 1 rfl) ?_
    refine g_calli (E := "java/lang/UnsupportedOperationException") (As := [.int (zI i)]) (rest := []) B hK hG hM 10 (by decide) (by decide) rfl (cX0_passReference_ok l hl0 D cy q V n0 x y a S hF  i ha36 hX (by show 0 ≤ i; omega) (by show i ≤ 1000; omega)) (cwC 1 B wC_mRX0_88 wC_im_yX0_passReference wC_sl_yX0_passReference wC_in_RX0 wC_cd_yX0_passReference rfl rfl (by decide +kernel) ⟨Nat.le_of_ble_eq_true rfl, Nat.le_of_ble_eq_true rfl⟩) rfl hl.1 rfl (Nat.le_of_ble_eq_true rfl) dX0_carryOut_133 hR (Nat.le_refl _) (cFx_gl hF) (K0_passReference_ok (a := a) ⟨hF, hV, hP, hc4, hc3⟩ h0 h1).2.1 (fun c_33 => (by unfold K0_carryOut; exact ((if_neg n_29).trans ((if_neg n_30).trans ((if_neg n_31).trans ((if_neg n_32).trans ((if_pos c_5).trans (if_neg c_33)))))))) (fun x y H locs c_33 hM => ?_)
    have hg : gl S ≤ gl (K0_passReference i S).2.2 := Nat.le_trans (Nat.le_refl _) (K0_passReference_ok (a := a) ⟨hF, hV, hP, hc4, hc3⟩ h0 h1).2.1
    exact g_reti (S := (K0_passReference i S).2.2) B hM (by unfold K0_carryOut; exact ((if_neg n_29).trans ((if_neg n_30).trans ((if_neg n_31).trans ((if_neg n_32).trans ((if_pos c_5).trans (if_pos c_33))))))) dX0_carryOut_136
  · --
    have n_34 : ¬ ((K2_kind 6 i S)) = 0 := by omega
    have n_35 : ¬ ((K2_kind 6 i S)) = 1 := by omega
    have n_36 : ¬ ((K2_kind 6 i S)) = 2 := by omega
    have n_37 : ¬ ((K2_kind 6 i S)) = 3 := by omega
    have n_38 : ¬ ((K2_kind 6 i S)) = 4 := by omega
    refine z_tableIn (tgt := 137) (off := 129) B.1 B.2.1 (zr_of (by omega) (by omega)) dX0_carryOut_8 (by omega) (by omega) (by rw [c_5]; rfl) (by decide) ?_
    refine lv_aload_n B.1 B.2.1 dX0_carryOut_137 rfl (lv_at hl 0 rfl) ?_
    refine lv_iload_n B.1 B.2.1 dX0_carryOut_138 rfl (lv_at hl 1 rfl) ?_
    refine g_calli (E := "java/lang/UnsupportedOperationException") (As := [.int (zI i)]) (rest := []) B hK hG hM 10 (by decide) (by decide) rfl (cX0_beginAlternative_ok l hl0 D cy q V n0 x y a S hF  i ha36 hX (by show 0 ≤ i; omega) (by show i ≤ 1000; omega) (by show (S.1 11 4) ≤ 11900; omega) (by show (S.1 11 3) ≤ 8990; omega)) (cwC 1 B wC_mRX0_91 wC_im_yX0_beginAlternative wC_sl_yX0_beginAlternative wC_in_RX0 wC_cd_yX0_beginAlternative rfl rfl (by decide +kernel) ⟨Nat.le_of_ble_eq_true rfl, Nat.le_of_ble_eq_true rfl⟩) rfl hl.1 rfl (Nat.le_of_ble_eq_true rfl) dX0_carryOut_139 hR (Nat.le_refl _) (cFx_gl hF) (K0_beginAlternative_ok (a := a) ⟨hF, hV, hP, hc4, hc3⟩ hX h0 h1).2.1 (fun c_39 => (by unfold K0_carryOut; exact ((if_neg n_34).trans ((if_neg n_35).trans ((if_neg n_36).trans ((if_neg n_37).trans ((if_neg n_38).trans ((if_pos c_5).trans (if_neg c_39))))))))) (fun x y H locs c_39 hM => ?_)
    have hg : gl S ≤ gl (K0_beginAlternative i S).2.2 := Nat.le_trans (Nat.le_refl _) (K0_beginAlternative_ok (a := a) ⟨hF, hV, hP, hc4, hc3⟩ hX h0 h1).2.1
    exact g_reti (S := (K0_beginAlternative i S).2.2) B hM (by unfold K0_carryOut; exact ((if_neg n_34).trans ((if_neg n_35).trans ((if_neg n_36).trans ((if_neg n_37).trans ((if_neg n_38).trans ((if_pos c_5).trans (if_pos c_39)))))))) dX0_carryOut_142
  · --
    have n_40 : ¬ ((K2_kind 6 i S)) = 0 := by omega
    have n_41 : ¬ ((K2_kind 6 i S)) = 1 := by omega
    have n_42 : ¬ ((K2_kind 6 i S)) = 2 := by omega
    have n_43 : ¬ ((K2_kind 6 i S)) = 3 := by omega
    have n_44 : ¬ ((K2_kind 6 i S)) = 4 := by omega
    have n_45 : ¬ ((K2_kind 6 i S)) = 5 := by omega
    refine z_tableIn (tgt := 143) (off := 135) B.1 B.2.1 (zr_of (by omega) (by omega)) dX0_carryOut_8 (by omega) (by omega) (by rw [c_5]; rfl) (by decide) ?_
    refine lv_aload_n B.1 B.2.1 dX0_carryOut_143 rfl (lv_at hl 0 rfl) ?_
    refine c_getr (q := (cq q x y)) (r := 6) B (iC0 _) hK hM 10 2 0 (by decide) rfl rfl (by decide) (by decide) rfl rfl rfl (cFx_r hF 10 2) (List.mem_cons_of_mem _ wC_fRX0_22) dX0_carryOut_144 ?_
    refine lv_iload_n B.1 B.2.1 dX0_carryOut_147 rfl (lv_at hl 1 rfl) ?_
    refine c_calli (q := (cq q x y)) (As := [.int (zI i)]) (rest := []) B hK hM 6 (by decide) (by decide) rfl (cX2_aim_ok l D cy (cq q x y) a 6 S hF 6 (by decide) i hP (by show -1000000000 ≤ i; omega) (by show i ≤ 1000000000; omega)) (cwC 1 B wC_mRX0_94 wC_im_yX2_aim wC_sl_yX2_aim wC_in_RX2 wC_cd_yX2_aim rfl rfl (by decide +kernel) ⟨Nat.le_of_ble_eq_true rfl, Nat.le_of_ble_eq_true rfl⟩) rfl hl.1 rfl (Nat.le_of_ble_eq_true rfl) dX0_carryOut_148 ⟨g_rc hR (Nat.le_refl _) (cFx_gl hF), g_rs hR (Nat.le_refl _) (cFx_gl hF)⟩ (fun z_48 S_47 H locs hp_46 hM => ?_)
    obtain ⟨hp_46, he_hp_46⟩ := hp_46
    have he_hp_46 := he_hp_46.symm
    subst he_hp_46
    have hp_46 : (K2_aim 6 i S) = z_48 := hp_46.symm
    subst hp_46
    have f_49 := K2_aim_bd i hP
    have f_50 := K2_aim_b2 (S := S) i h18
    exact g_reti (S := S) B hM (by unfold K0_carryOut; exact ((if_neg n_40).trans ((if_neg n_41).trans ((if_neg n_42).trans ((if_neg n_43).trans ((if_neg n_44).trans ((if_neg n_45).trans (if_pos c_5)))))))) dX0_carryOut_151
  · --
    have n_51 : ¬ ((K2_kind 6 i S)) = 0 := by omega
    have n_52 : ¬ ((K2_kind 6 i S)) = 1 := by omega
    have n_53 : ¬ ((K2_kind 6 i S)) = 2 := by omega
    have n_54 : ¬ ((K2_kind 6 i S)) = 3 := by omega
    have n_55 : ¬ ((K2_kind 6 i S)) = 4 := by omega
    have n_56 : ¬ ((K2_kind 6 i S)) = 5 := by omega
    have n_57 : ¬ ((K2_kind 6 i S)) = 6 := by omega
    refine z_tableIn (tgt := 152) (off := 144) B.1 B.2.1 (zr_of (by omega) (by omega)) dX0_carryOut_8 (by omega) (by omega) (by rw [c_5]; rfl) (by decide) ?_
    refine lv_aload_n B.1 B.2.1 dX0_carryOut_152 rfl (lv_at hl 0 rfl) ?_
    refine lv_iload_n B.1 B.2.1 dX0_carryOut_153 rfl (lv_at hl 1 rfl) ?_
    refine g_calli (E := "java/lang/UnsupportedOperationException") (As := [.int (zI i)]) (rest := []) B hK hG hM 10 (by decide) (by decide) rfl (cX0_beginGroup_ok l hl0 D cy q V n0 x y a S hF  i ha36 hX (by show 0 ≤ i; omega) (by show i ≤ 1000; omega) (by show (S.1 11 4) ≤ 11900; omega) (by show (S.1 11 3) ≤ 8990; omega)) (cwC 1 B wC_mRX0_97 wC_im_yX0_beginGroup wC_sl_yX0_beginGroup wC_in_RX0 wC_cd_yX0_beginGroup rfl rfl (by decide +kernel) ⟨Nat.le_of_ble_eq_true rfl, Nat.le_of_ble_eq_true rfl⟩) rfl hl.1 rfl (Nat.le_of_ble_eq_true rfl) dX0_carryOut_154 hR (Nat.le_refl _) (cFx_gl hF) (K0_beginGroup_ok (a := a) ⟨hF, hV, hP, hc4, hc3⟩ hX h0 h1).2.1 (fun c_58 => (by unfold K0_carryOut; exact ((if_neg n_51).trans ((if_neg n_52).trans ((if_neg n_53).trans ((if_neg n_54).trans ((if_neg n_55).trans ((if_neg n_56).trans ((if_neg n_57).trans ((if_pos c_5).trans (if_neg c_58))))))))))) (fun x y H locs c_58 hM => ?_)
    have hg : gl S ≤ gl (K0_beginGroup i S).2.2 := Nat.le_trans (Nat.le_refl _) (K0_beginGroup_ok (a := a) ⟨hF, hV, hP, hc4, hc3⟩ hX h0 h1).2.1
    exact g_reti (S := (K0_beginGroup i S).2.2) B hM (by unfold K0_carryOut; exact ((if_neg n_51).trans ((if_neg n_52).trans ((if_neg n_53).trans ((if_neg n_54).trans ((if_neg n_55).trans ((if_neg n_56).trans ((if_neg n_57).trans ((if_pos c_5).trans (if_pos c_58)))))))))) dX0_carryOut_157
  · --
    have n_59 : ¬ ((K2_kind 6 i S)) = 0 := by omega
    have n_60 : ¬ ((K2_kind 6 i S)) = 1 := by omega
    have n_61 : ¬ ((K2_kind 6 i S)) = 2 := by omega
    have n_62 : ¬ ((K2_kind 6 i S)) = 3 := by omega
    have n_63 : ¬ ((K2_kind 6 i S)) = 4 := by omega
    have n_64 : ¬ ((K2_kind 6 i S)) = 5 := by omega
    have n_65 : ¬ ((K2_kind 6 i S)) = 6 := by omega
    have n_66 : ¬ ((K2_kind 6 i S)) = 7 := by omega
    refine z_tableIn (tgt := 158) (off := 150) B.1 B.2.1 (zr_of (by omega) (by omega)) dX0_carryOut_8 (by omega) (by omega) (by rw [c_5]; rfl) (by decide) ?_
    refine lv_aload_n B.1 B.2.1 dX0_carryOut_158 rfl (lv_at hl 0 rfl) ?_
    refine lv_iload_n B.1 B.2.1 dX0_carryOut_159 rfl (lv_at hl 1 rfl) ?_
    refine g_calli (E := "java/lang/UnsupportedOperationException") (As := [.int (zI i)]) (rest := []) B hK hG hM 10 (by decide) (by decide) rfl (cX0_endGroup_ok l hl0 D cy q V n0 x y a S hF  i ha36 hX (by show 0 ≤ i; omega) (by show i ≤ 1000; omega) (by show (S.1 11 4) ≤ 11900; omega) (by show (S.1 11 3) ≤ 8990; omega)) (cwC 1 B wC_mRX0_100 wC_im_yX0_endGroup wC_sl_yX0_endGroup wC_in_RX0 wC_cd_yX0_endGroup rfl rfl (by decide +kernel) ⟨Nat.le_of_ble_eq_true rfl, Nat.le_of_ble_eq_true rfl⟩) rfl hl.1 rfl (Nat.le_of_ble_eq_true rfl) dX0_carryOut_160 hR (Nat.le_refl _) (cFx_gl hF) (K0_endGroup_ok (a := a) ⟨hF, hV, hP, hc4, hc3⟩ hX h0 h1).2.1 (fun c_67 => (by unfold K0_carryOut; exact ((if_neg n_59).trans ((if_neg n_60).trans ((if_neg n_61).trans ((if_neg n_62).trans ((if_neg n_63).trans ((if_neg n_64).trans ((if_neg n_65).trans ((if_neg n_66).trans ((if_pos c_5).trans (if_neg c_67)))))))))))) (fun x y H locs c_67 hM => ?_)
    have hg : gl S ≤ gl (K0_endGroup i S).2.2 := Nat.le_trans (Nat.le_refl _) (K0_endGroup_ok (a := a) ⟨hF, hV, hP, hc4, hc3⟩ hX h0 h1).2.1
    exact g_reti (S := (K0_endGroup i S).2.2) B hM (by unfold K0_carryOut; exact ((if_neg n_59).trans ((if_neg n_60).trans ((if_neg n_61).trans ((if_neg n_62).trans ((if_neg n_63).trans ((if_neg n_64).trans ((if_neg n_65).trans ((if_neg n_66).trans ((if_pos c_5).trans (if_pos c_67))))))))))) dX0_carryOut_163
  · --
    have n_68 : ¬ ((K2_kind 6 i S)) = 0 := by omega
    have n_69 : ¬ ((K2_kind 6 i S)) = 1 := by omega
    have n_70 : ¬ ((K2_kind 6 i S)) = 2 := by omega
    have n_71 : ¬ ((K2_kind 6 i S)) = 3 := by omega
    have n_72 : ¬ ((K2_kind 6 i S)) = 4 := by omega
    have n_73 : ¬ ((K2_kind 6 i S)) = 5 := by omega
    have n_74 : ¬ ((K2_kind 6 i S)) = 6 := by omega
    have n_75 : ¬ ((K2_kind 6 i S)) = 7 := by omega
    have n_76 : ¬ ((K2_kind 6 i S)) = 8 := by omega
    refine z_tableIn (tgt := 164) (off := 156) B.1 B.2.1 (zr_of (by omega) (by omega)) dX0_carryOut_8 (by omega) (by omega) (by rw [c_5]; rfl) (by decide) ?_
    refine lv_aload_n B.1 B.2.1 dX0_carryOut_164 rfl (lv_at hl 0 rfl) ?_
    refine lv_iload_n B.1 B.2.1 dX0_carryOut_165 rfl (lv_at hl 1 rfl) ?_
    refine g_calli (E := "java/lang/UnsupportedOperationException") (As := [.int (zI i)]) (rest := []) B hK hG hM 10 (by decide) (by decide) rfl (cX0_enterLoop_ok l hl0 D cy q V n0 x y a S hF  i ha36 hX (by show 0 ≤ i; omega) (by show i ≤ 1000; omega) (by show (S.1 11 4) ≤ 11900; omega) (by show (S.1 11 3) ≤ 8990; omega)) (cwC 1 B wC_mRX0_103 wC_im_yX0_enterLoop wC_sl_yX0_enterLoop wC_in_RX0 wC_cd_yX0_enterLoop rfl rfl (by decide +kernel) ⟨Nat.le_of_ble_eq_true rfl, Nat.le_of_ble_eq_true rfl⟩) rfl hl.1 rfl (Nat.le_of_ble_eq_true rfl) dX0_carryOut_166 hR (Nat.le_refl _) (cFx_gl hF) (K0_enterLoop_ok (a := a) ⟨hF, hV, hP, hc4, hc3⟩ hX h0 h1).2.1 (fun c_77 => (by unfold K0_carryOut; exact ((if_neg n_68).trans ((if_neg n_69).trans ((if_neg n_70).trans ((if_neg n_71).trans ((if_neg n_72).trans ((if_neg n_73).trans ((if_neg n_74).trans ((if_neg n_75).trans ((if_neg n_76).trans ((if_pos c_5).trans (if_neg c_77))))))))))))) (fun x y H locs c_77 hM => ?_)
    have hg : gl S ≤ gl (K0_enterLoop i S).2.2 := Nat.le_trans (Nat.le_refl _) (K0_enterLoop_ok (a := a) ⟨hF, hV, hP, hc4, hc3⟩ hX h0 h1).2.1
    exact g_reti (S := (K0_enterLoop i S).2.2) B hM (by unfold K0_carryOut; exact ((if_neg n_68).trans ((if_neg n_69).trans ((if_neg n_70).trans ((if_neg n_71).trans ((if_neg n_72).trans ((if_neg n_73).trans ((if_neg n_74).trans ((if_neg n_75).trans ((if_neg n_76).trans ((if_pos c_5).trans (if_pos c_77)))))))))))) dX0_carryOut_169
  · --
    have n_78 : ¬ ((K2_kind 6 i S)) = 0 := by omega
    have n_79 : ¬ ((K2_kind 6 i S)) = 1 := by omega
    have n_80 : ¬ ((K2_kind 6 i S)) = 2 := by omega
    have n_81 : ¬ ((K2_kind 6 i S)) = 3 := by omega
    have n_82 : ¬ ((K2_kind 6 i S)) = 4 := by omega
    have n_83 : ¬ ((K2_kind 6 i S)) = 5 := by omega
    have n_84 : ¬ ((K2_kind 6 i S)) = 6 := by omega
    have n_85 : ¬ ((K2_kind 6 i S)) = 7 := by omega
    have n_86 : ¬ ((K2_kind 6 i S)) = 8 := by omega
    have n_87 : ¬ ((K2_kind 6 i S)) = 9 := by omega
    refine z_tableIn (tgt := 170) (off := 162) B.1 B.2.1 (zr_of (by omega) (by omega)) dX0_carryOut_8 (by omega) (by omega) (by rw [c_5]; rfl) (by decide) ?_
    refine lv_aload_n B.1 B.2.1 dX0_carryOut_170 rfl (lv_at hl 0 rfl) ?_
    refine lv_iload_n B.1 B.2.1 dX0_carryOut_171 rfl (lv_at hl 1 rfl) ?_
    refine g_calli (E := "java/lang/UnsupportedOperationException") (As := [.int (zI i)]) (rest := []) B hK hG hM 10 (by decide) (by decide) rfl (cX0_endPass_ok l hl0 D cy q V n0 x y a S hF  i ha36 hX (by show 0 ≤ i; omega) (by show i ≤ 1000; omega) (by show (S.1 11 4) ≤ 11900; omega) (by show (S.1 11 3) ≤ 8990; omega)) (cwC 1 B wC_mRX0_106 wC_im_yX0_endPass wC_sl_yX0_endPass wC_in_RX0 wC_cd_yX0_endPass rfl rfl (by decide +kernel) ⟨Nat.le_of_ble_eq_true rfl, Nat.le_of_ble_eq_true rfl⟩) rfl hl.1 rfl (Nat.le_of_ble_eq_true rfl) dX0_carryOut_172 hR (Nat.le_refl _) (cFx_gl hF) (K0_endPass_ok (a := a) ⟨hF, hV, hP, hc4, hc3⟩ hX h0 h1).2.1 (fun c_88 => (by unfold K0_carryOut; exact ((if_neg n_78).trans ((if_neg n_79).trans ((if_neg n_80).trans ((if_neg n_81).trans ((if_neg n_82).trans ((if_neg n_83).trans ((if_neg n_84).trans ((if_neg n_85).trans ((if_neg n_86).trans ((if_neg n_87).trans ((if_pos c_5).trans (if_neg c_88)))))))))))))) (fun x y H locs c_88 hM => ?_)
    have hg : gl S ≤ gl (K0_endPass i S).2.2 := Nat.le_trans (Nat.le_refl _) (K0_endPass_ok (a := a) ⟨hF, hV, hP, hc4, hc3⟩ hX h0 h1).2.1
    exact g_reti (S := (K0_endPass i S).2.2) B hM (by unfold K0_carryOut; exact ((if_neg n_78).trans ((if_neg n_79).trans ((if_neg n_80).trans ((if_neg n_81).trans ((if_neg n_82).trans ((if_neg n_83).trans ((if_neg n_84).trans ((if_neg n_85).trans ((if_neg n_86).trans ((if_neg n_87).trans ((if_pos c_5).trans (if_pos c_88))))))))))))) dX0_carryOut_175
  · --
    have n_89 : ¬ ((K2_kind 6 i S)) = 0 := by omega
    have n_90 : ¬ ((K2_kind 6 i S)) = 1 := by omega
    have n_91 : ¬ ((K2_kind 6 i S)) = 2 := by omega
    have n_92 : ¬ ((K2_kind 6 i S)) = 3 := by omega
    have n_93 : ¬ ((K2_kind 6 i S)) = 4 := by omega
    have n_94 : ¬ ((K2_kind 6 i S)) = 5 := by omega
    have n_95 : ¬ ((K2_kind 6 i S)) = 6 := by omega
    have n_96 : ¬ ((K2_kind 6 i S)) = 7 := by omega
    have n_97 : ¬ ((K2_kind 6 i S)) = 8 := by omega
    have n_98 : ¬ ((K2_kind 6 i S)) = 9 := by omega
    have n_99 : ¬ ((K2_kind 6 i S)) = 10 := by omega
    refine z_tableIn (tgt := 170) (off := 162) B.1 B.2.1 (zr_of (by omega) (by omega)) dX0_carryOut_8 (by omega) (by omega) (by rw [c_5]; rfl) (by decide) ?_
    refine lv_aload_n B.1 B.2.1 dX0_carryOut_170 rfl (lv_at hl 0 rfl) ?_
    refine lv_iload_n B.1 B.2.1 dX0_carryOut_171 rfl (lv_at hl 1 rfl) ?_
    refine g_calli (E := "java/lang/UnsupportedOperationException") (As := [.int (zI i)]) (rest := []) B hK hG hM 10 (by decide) (by decide) rfl (cX0_endPass_ok l hl0 D cy q V n0 x y a S hF  i ha36 hX (by show 0 ≤ i; omega) (by show i ≤ 1000; omega) (by show (S.1 11 4) ≤ 11900; omega) (by show (S.1 11 3) ≤ 8990; omega)) (cwC 1 B wC_mRX0_106 wC_im_yX0_endPass wC_sl_yX0_endPass wC_in_RX0 wC_cd_yX0_endPass rfl rfl (by decide +kernel) ⟨Nat.le_of_ble_eq_true rfl, Nat.le_of_ble_eq_true rfl⟩) rfl hl.1 rfl (Nat.le_of_ble_eq_true rfl) dX0_carryOut_172 hR (Nat.le_refl _) (cFx_gl hF) (K0_endPass_ok (a := a) ⟨hF, hV, hP, hc4, hc3⟩ hX h0 h1).2.1 (fun c_100 => (by unfold K0_carryOut; exact ((if_neg n_89).trans ((if_neg n_90).trans ((if_neg n_91).trans ((if_neg n_92).trans ((if_neg n_93).trans ((if_neg n_94).trans ((if_neg n_95).trans ((if_neg n_96).trans ((if_neg n_97).trans ((if_neg n_98).trans ((if_neg n_99).trans ((if_pos c_5).trans (if_neg c_100))))))))))))))) (fun x y H locs c_100 hM => ?_)
    have hg : gl S ≤ gl (K0_endPass i S).2.2 := Nat.le_trans (Nat.le_refl _) (K0_endPass_ok (a := a) ⟨hF, hV, hP, hc4, hc3⟩ hX h0 h1).2.1
    exact g_reti (S := (K0_endPass i S).2.2) B hM (by unfold K0_carryOut; exact ((if_neg n_89).trans ((if_neg n_90).trans ((if_neg n_91).trans ((if_neg n_92).trans ((if_neg n_93).trans ((if_neg n_94).trans ((if_neg n_95).trans ((if_neg n_96).trans ((if_neg n_97).trans ((if_neg n_98).trans ((if_neg n_99).trans ((if_pos c_5).trans (if_pos c_100)))))))))))))) dX0_carryOut_175
  · --
    have n_101 : ¬ ((K2_kind 6 i S)) = 0 := by omega
    have n_102 : ¬ ((K2_kind 6 i S)) = 1 := by omega
    have n_103 : ¬ ((K2_kind 6 i S)) = 2 := by omega
    have n_104 : ¬ ((K2_kind 6 i S)) = 3 := by omega
    have n_105 : ¬ ((K2_kind 6 i S)) = 4 := by omega
    have n_106 : ¬ ((K2_kind 6 i S)) = 5 := by omega
    have n_107 : ¬ ((K2_kind 6 i S)) = 6 := by omega
    have n_108 : ¬ ((K2_kind 6 i S)) = 7 := by omega
    have n_109 : ¬ ((K2_kind 6 i S)) = 8 := by omega
    have n_110 : ¬ ((K2_kind 6 i S)) = 9 := by omega
    have n_111 : ¬ ((K2_kind 6 i S)) = 10 := by omega
    have n_112 : ¬ ((K2_kind 6 i S)) = 11 := by omega
    refine z_tableIn (tgt := 176) (off := 168) B.1 B.2.1 (zr_of (by omega) (by omega)) dX0_carryOut_8 (by omega) (by omega) (by rw [c_5]; rfl) (by decide) ?_
    refine lv_aload_n B.1 B.2.1 dX0_carryOut_176 rfl (lv_at hl 0 rfl) ?_
    refine lv_iload_n B.1 B.2.1 dX0_carryOut_177 rfl (lv_at hl 1 rfl) ?_
    refine g_calli (E := "java/lang/UnsupportedOperationException") (As := [.int (zI i)]) (rest := []) B hK hG hM 10 (by decide) (by decide) rfl (cX0_beginPass_ok l hl0 D cy q V n0 x y a S hF  i ha36 hX (by show 0 ≤ i; omega) (by show i ≤ 1000; omega) (by show (S.1 11 4) ≤ 11900; omega) (by show (S.1 11 3) ≤ 8990; omega)) (cwC 1 B wC_mRX0_109 wC_im_yX0_beginPass wC_sl_yX0_beginPass wC_in_RX0 wC_cd_yX0_beginPass rfl rfl (by decide +kernel) ⟨Nat.le_of_ble_eq_true rfl, Nat.le_of_ble_eq_true rfl⟩) rfl hl.1 rfl (Nat.le_of_ble_eq_true rfl) dX0_carryOut_178 hR (Nat.le_refl _) (cFx_gl hF) (K0_beginPass_ok (a := a) ⟨hF, hV, hP, hc4, hc3⟩ hX h0 h1).2.1 (fun c_113 => (by unfold K0_carryOut; exact ((if_neg n_101).trans ((if_neg n_102).trans ((if_neg n_103).trans ((if_neg n_104).trans ((if_neg n_105).trans ((if_neg n_106).trans ((if_neg n_107).trans ((if_neg n_108).trans ((if_neg n_109).trans ((if_neg n_110).trans ((if_neg n_111).trans ((if_neg n_112).trans ((if_pos c_5).trans (if_neg c_113)))))))))))))))) (fun x y H locs c_113 hM => ?_)
    have hg : gl S ≤ gl (K0_beginPass i S).2.2 := Nat.le_trans (Nat.le_refl _) (K0_beginPass_ok (a := a) ⟨hF, hV, hP, hc4, hc3⟩ hX h0 h1).2.1
    exact g_reti (S := (K0_beginPass i S).2.2) B hM (by unfold K0_carryOut; exact ((if_neg n_101).trans ((if_neg n_102).trans ((if_neg n_103).trans ((if_neg n_104).trans ((if_neg n_105).trans ((if_neg n_106).trans ((if_neg n_107).trans ((if_neg n_108).trans ((if_neg n_109).trans ((if_neg n_110).trans ((if_neg n_111).trans ((if_neg n_112).trans ((if_pos c_5).trans (if_pos c_113))))))))))))))) dX0_carryOut_181
  · --
    have n_114 : ¬ ((K2_kind 6 i S)) = 0 := by omega
    have n_115 : ¬ ((K2_kind 6 i S)) = 1 := by omega
    have n_116 : ¬ ((K2_kind 6 i S)) = 2 := by omega
    have n_117 : ¬ ((K2_kind 6 i S)) = 3 := by omega
    have n_118 : ¬ ((K2_kind 6 i S)) = 4 := by omega
    have n_119 : ¬ ((K2_kind 6 i S)) = 5 := by omega
    have n_120 : ¬ ((K2_kind 6 i S)) = 6 := by omega
    have n_121 : ¬ ((K2_kind 6 i S)) = 7 := by omega
    have n_122 : ¬ ((K2_kind 6 i S)) = 8 := by omega
    have n_123 : ¬ ((K2_kind 6 i S)) = 9 := by omega
    have n_124 : ¬ ((K2_kind 6 i S)) = 10 := by omega
    have n_125 : ¬ ((K2_kind 6 i S)) = 11 := by omega
    have n_126 : ¬ ((K2_kind 6 i S)) = 12 := by omega
    refine z_tableIn (tgt := 182) (off := 174) B.1 B.2.1 (zr_of (by omega) (by omega)) dX0_carryOut_8 (by omega) (by omega) (by rw [c_5]; rfl) (by decide) ?_
    refine lv_aload_n B.1 B.2.1 dX0_carryOut_182 rfl (lv_at hl 0 rfl) ?_
    refine lv_iload_n B.1 B.2.1 dX0_carryOut_183 rfl (lv_at hl 1 rfl) ?_
    refine g_calli (E := "java/lang/UnsupportedOperationException") (As := [.int (zI i)]) (rest := []) B hK hG hM 10 (by decide) (by decide) rfl (cX0_beginLook_ok l hl0 D cy q V n0 x y a S hF  i ha36 hX (by show 0 ≤ i; omega) (by show i ≤ 1000; omega) (by show (S.1 11 4) ≤ 11900; omega) (by show (S.1 11 3) ≤ 8990; omega)) (cwC 1 B wC_mRX0_112 wC_im_yX0_beginLook wC_sl_yX0_beginLook wC_in_RX0 wC_cd_yX0_beginLook rfl rfl (by decide +kernel) ⟨Nat.le_of_ble_eq_true rfl, Nat.le_of_ble_eq_true rfl⟩) rfl hl.1 rfl (Nat.le_of_ble_eq_true rfl) dX0_carryOut_184 hR (Nat.le_refl _) (cFx_gl hF) (K0_beginLook_ok (a := a) ⟨hF, hV, hP, hc4, hc3⟩ hX h0 h1).2.1 (fun c_127 => (by unfold K0_carryOut; exact ((if_neg n_114).trans ((if_neg n_115).trans ((if_neg n_116).trans ((if_neg n_117).trans ((if_neg n_118).trans ((if_neg n_119).trans ((if_neg n_120).trans ((if_neg n_121).trans ((if_neg n_122).trans ((if_neg n_123).trans ((if_neg n_124).trans ((if_neg n_125).trans ((if_neg n_126).trans ((if_pos c_5).trans (if_neg c_127))))))))))))))))) (fun x y H locs c_127 hM => ?_)
    have hg : gl S ≤ gl (K0_beginLook i S).2.2 := Nat.le_trans (Nat.le_refl _) (K0_beginLook_ok (a := a) ⟨hF, hV, hP, hc4, hc3⟩ hX h0 h1).2.1
    exact g_reti (S := (K0_beginLook i S).2.2) B hM (by unfold K0_carryOut; exact ((if_neg n_114).trans ((if_neg n_115).trans ((if_neg n_116).trans ((if_neg n_117).trans ((if_neg n_118).trans ((if_neg n_119).trans ((if_neg n_120).trans ((if_neg n_121).trans ((if_neg n_122).trans ((if_neg n_123).trans ((if_neg n_124).trans ((if_neg n_125).trans ((if_neg n_126).trans ((if_pos c_5).trans (if_pos c_127)))))))))))))))) dX0_carryOut_187
  · --
    have n_128 : ¬ ((K2_kind 6 i S)) = 0 := by omega
    have n_129 : ¬ ((K2_kind 6 i S)) = 1 := by omega
    have n_130 : ¬ ((K2_kind 6 i S)) = 2 := by omega
    have n_131 : ¬ ((K2_kind 6 i S)) = 3 := by omega
    have n_132 : ¬ ((K2_kind 6 i S)) = 4 := by omega
    have n_133 : ¬ ((K2_kind 6 i S)) = 5 := by omega
    have n_134 : ¬ ((K2_kind 6 i S)) = 6 := by omega
    have n_135 : ¬ ((K2_kind 6 i S)) = 7 := by omega
    have n_136 : ¬ ((K2_kind 6 i S)) = 8 := by omega
    have n_137 : ¬ ((K2_kind 6 i S)) = 9 := by omega
    have n_138 : ¬ ((K2_kind 6 i S)) = 10 := by omega
    have n_139 : ¬ ((K2_kind 6 i S)) = 11 := by omega
    have n_140 : ¬ ((K2_kind 6 i S)) = 12 := by omega
    have n_141 : ¬ ((K2_kind 6 i S)) = 13 := by omega
    refine z_tableIn (tgt := 188) (off := 180) B.1 B.2.1 (zr_of (by omega) (by omega)) dX0_carryOut_8 (by omega) (by omega) (by rw [c_5]; rfl) (by decide) ?_
    refine lv_aload_n B.1 B.2.1 dX0_carryOut_188 rfl (lv_at hl 0 rfl) ?_
    refine lv_iload_n B.1 B.2.1 dX0_carryOut_189 rfl (lv_at hl 1 rfl) ?_
    refine g_calli (E := "java/lang/UnsupportedOperationException") (As := [.int (zI i)]) (rest := []) B hK hG hM 10 (by decide) (by decide) rfl (cX0_endLook_ok l hl0 D cy q V n0 x y a S hF  i ha36 hX (by show 0 ≤ i; omega) (by show i ≤ 1000; omega) (by show (S.1 11 4) ≤ 11900; omega) (by show (S.1 11 3) ≤ 8990; omega)) (cwC 1 B wC_mRX0_115 wC_im_yX0_endLook wC_sl_yX0_endLook wC_in_RX0 wC_cd_yX0_endLook rfl rfl (by decide +kernel) ⟨Nat.le_of_ble_eq_true rfl, Nat.le_of_ble_eq_true rfl⟩) rfl hl.1 rfl (Nat.le_of_ble_eq_true rfl) dX0_carryOut_190 hR (Nat.le_refl _) (cFx_gl hF) (K0_endLook_ok (a := a) ⟨hF, hV, hP, hc4, hc3⟩ h0 h1).2.1 (fun c_142 => (by unfold K0_carryOut; exact ((if_neg n_128).trans ((if_neg n_129).trans ((if_neg n_130).trans ((if_neg n_131).trans ((if_neg n_132).trans ((if_neg n_133).trans ((if_neg n_134).trans ((if_neg n_135).trans ((if_neg n_136).trans ((if_neg n_137).trans ((if_neg n_138).trans ((if_neg n_139).trans ((if_neg n_140).trans ((if_neg n_141).trans ((if_pos c_5).trans (if_neg c_142)))))))))))))))))) (fun x y H locs c_142 hM => ?_)
    have hg : gl S ≤ gl (K0_endLook i S).2.2 := Nat.le_trans (Nat.le_refl _) (K0_endLook_ok (a := a) ⟨hF, hV, hP, hc4, hc3⟩ h0 h1).2.1
    exact g_reti (S := (K0_endLook i S).2.2) B hM (by unfold K0_carryOut; exact ((if_neg n_128).trans ((if_neg n_129).trans ((if_neg n_130).trans ((if_neg n_131).trans ((if_neg n_132).trans ((if_neg n_133).trans ((if_neg n_134).trans ((if_neg n_135).trans ((if_neg n_136).trans ((if_neg n_137).trans ((if_neg n_138).trans ((if_neg n_139).trans ((if_neg n_140).trans ((if_neg n_141).trans ((if_pos c_5).trans (if_pos c_142))))))))))))))))) dX0_carryOut_193
  · --
    have n_143 : ¬ ((K2_kind 6 i S)) = 0 := by omega
    have n_144 : ¬ ((K2_kind 6 i S)) = 1 := by omega
    have n_145 : ¬ ((K2_kind 6 i S)) = 2 := by omega
    have n_146 : ¬ ((K2_kind 6 i S)) = 3 := by omega
    have n_147 : ¬ ((K2_kind 6 i S)) = 4 := by omega
    have n_148 : ¬ ((K2_kind 6 i S)) = 5 := by omega
    have n_149 : ¬ ((K2_kind 6 i S)) = 6 := by omega
    have n_150 : ¬ ((K2_kind 6 i S)) = 7 := by omega
    have n_151 : ¬ ((K2_kind 6 i S)) = 8 := by omega
    have n_152 : ¬ ((K2_kind 6 i S)) = 9 := by omega
    have n_153 : ¬ ((K2_kind 6 i S)) = 10 := by omega
    have n_154 : ¬ ((K2_kind 6 i S)) = 11 := by omega
    have n_155 : ¬ ((K2_kind 6 i S)) = 12 := by omega
    have n_156 : ¬ ((K2_kind 6 i S)) = 13 := by omega
    have n_157 : ¬ ((K2_kind 6 i S)) = 14 := by omega
    refine z_tableIn (tgt := 194) (off := 186) B.1 B.2.1 (zr_of (by omega) (by omega)) dX0_carryOut_8 (by omega) (by omega) (by rw [c_5]; rfl) (by decide) ?_
    refine lv_aload_n B.1 B.2.1 dX0_carryOut_194 rfl (lv_at hl 0 rfl) ?_
    refine lv_iload_n B.1 B.2.1 dX0_carryOut_195 rfl (lv_at hl 1 rfl) ?_
    refine g_calli (E := "java/lang/UnsupportedOperationException") (As := [.int (zI i)]) (rest := []) B hK hG hM 10 (by decide) (by decide) rfl (cX0_beginLookNot_ok l hl0 D cy q V n0 x y a S hF  i ha36 hX (by show 0 ≤ i; omega) (by show i ≤ 1000; omega) (by show (S.1 11 4) ≤ 11900; omega) (by show (S.1 11 3) ≤ 8990; omega)) (cwC 1 B wC_mRX0_118 wC_im_yX0_beginLookNot wC_sl_yX0_beginLookNot wC_in_RX0 wC_cd_yX0_beginLookNot rfl rfl (by decide +kernel) ⟨Nat.le_of_ble_eq_true rfl, Nat.le_of_ble_eq_true rfl⟩) rfl hl.1 rfl (Nat.le_of_ble_eq_true rfl) dX0_carryOut_196 hR (Nat.le_refl _) (cFx_gl hF) (K0_beginLookNot_ok (a := a) ⟨hF, hV, hP, hc4, hc3⟩ hX h0 h1).2.1 (fun c_158 => (by unfold K0_carryOut; exact ((if_neg n_143).trans ((if_neg n_144).trans ((if_neg n_145).trans ((if_neg n_146).trans ((if_neg n_147).trans ((if_neg n_148).trans ((if_neg n_149).trans ((if_neg n_150).trans ((if_neg n_151).trans ((if_neg n_152).trans ((if_neg n_153).trans ((if_neg n_154).trans ((if_neg n_155).trans ((if_neg n_156).trans ((if_neg n_157).trans ((if_pos c_5).trans (if_neg c_158))))))))))))))))))) (fun x y H locs c_158 hM => ?_)
    have hg : gl S ≤ gl (K0_beginLookNot i S).2.2 := Nat.le_trans (Nat.le_refl _) (K0_beginLookNot_ok (a := a) ⟨hF, hV, hP, hc4, hc3⟩ hX h0 h1).2.1
    exact g_reti (S := (K0_beginLookNot i S).2.2) B hM (by unfold K0_carryOut; exact ((if_neg n_143).trans ((if_neg n_144).trans ((if_neg n_145).trans ((if_neg n_146).trans ((if_neg n_147).trans ((if_neg n_148).trans ((if_neg n_149).trans ((if_neg n_150).trans ((if_neg n_151).trans ((if_neg n_152).trans ((if_neg n_153).trans ((if_neg n_154).trans ((if_neg n_155).trans ((if_neg n_156).trans ((if_neg n_157).trans ((if_pos c_5).trans (if_pos c_158)))))))))))))))))) dX0_carryOut_199
  · --
    have n_159 : ¬ ((K2_kind 6 i S)) = 0 := by omega
    have n_160 : ¬ ((K2_kind 6 i S)) = 1 := by omega
    have n_161 : ¬ ((K2_kind 6 i S)) = 2 := by omega
    have n_162 : ¬ ((K2_kind 6 i S)) = 3 := by omega
    have n_163 : ¬ ((K2_kind 6 i S)) = 4 := by omega
    have n_164 : ¬ ((K2_kind 6 i S)) = 5 := by omega
    have n_165 : ¬ ((K2_kind 6 i S)) = 6 := by omega
    have n_166 : ¬ ((K2_kind 6 i S)) = 7 := by omega
    have n_167 : ¬ ((K2_kind 6 i S)) = 8 := by omega
    have n_168 : ¬ ((K2_kind 6 i S)) = 9 := by omega
    have n_169 : ¬ ((K2_kind 6 i S)) = 10 := by omega
    have n_170 : ¬ ((K2_kind 6 i S)) = 11 := by omega
    have n_171 : ¬ ((K2_kind 6 i S)) = 12 := by omega
    have n_172 : ¬ ((K2_kind 6 i S)) = 13 := by omega
    have n_173 : ¬ ((K2_kind 6 i S)) = 14 := by omega
    have n_174 : ¬ ((K2_kind 6 i S)) = 15 := by omega
    refine z_tableIn (tgt := 200) (off := 192) B.1 B.2.1 (zr_of (by omega) (by omega)) dX0_carryOut_8 (by omega) (by omega) (by rw [c_5]; rfl) (by decide) ?_
    refine lv_aload_n B.1 B.2.1 dX0_carryOut_200 rfl (lv_at hl 0 rfl) ?_
    refine lv_iload_n B.1 B.2.1 dX0_carryOut_201 rfl (lv_at hl 1 rfl) ?_
    refine g_calli (E := "java/lang/UnsupportedOperationException") (As := [.int (zI i)]) (rest := []) B hK hG hM 10 (by decide) (by decide) rfl (cX0_endLookNot_ok l hl0 D cy q V n0 x y a S hF  i ha36 hX (by show 0 ≤ i; omega) (by show i ≤ 1000; omega) (by show (S.1 11 4) ≤ 11900; omega) (by show (S.1 11 3) ≤ 8990; omega)) (cwC 1 B wC_mRX0_121 wC_im_yX0_endLookNot wC_sl_yX0_endLookNot wC_in_RX0 wC_cd_yX0_endLookNot rfl rfl (by decide +kernel) ⟨Nat.le_of_ble_eq_true rfl, Nat.le_of_ble_eq_true rfl⟩) rfl hl.1 rfl (Nat.le_of_ble_eq_true rfl) dX0_carryOut_202 hR (Nat.le_refl _) (cFx_gl hF) (K0_endLookNot_ok (a := a) ⟨hF, hV, hP, hc4, hc3⟩ h0 h1).2.1 (fun c_175 => (by unfold K0_carryOut; exact ((if_neg n_159).trans ((if_neg n_160).trans ((if_neg n_161).trans ((if_neg n_162).trans ((if_neg n_163).trans ((if_neg n_164).trans ((if_neg n_165).trans ((if_neg n_166).trans ((if_neg n_167).trans ((if_neg n_168).trans ((if_neg n_169).trans ((if_neg n_170).trans ((if_neg n_171).trans ((if_neg n_172).trans ((if_neg n_173).trans ((if_neg n_174).trans ((if_pos c_5).trans (if_neg c_175)))))))))))))))))))) (fun x y H locs c_175 hM => ?_)
    have hg : gl S ≤ gl (K0_endLookNot i S).2.2 := Nat.le_trans (Nat.le_refl _) (K0_endLookNot_ok (a := a) ⟨hF, hV, hP, hc4, hc3⟩ h0 h1).2.1
    exact g_reti (S := (K0_endLookNot i S).2.2) B hM (by unfold K0_carryOut; exact ((if_neg n_159).trans ((if_neg n_160).trans ((if_neg n_161).trans ((if_neg n_162).trans ((if_neg n_163).trans ((if_neg n_164).trans ((if_neg n_165).trans ((if_neg n_166).trans ((if_neg n_167).trans ((if_neg n_168).trans ((if_neg n_169).trans ((if_neg n_170).trans ((if_neg n_171).trans ((if_neg n_172).trans ((if_neg n_173).trans ((if_neg n_174).trans ((if_pos c_5).trans (if_pos c_175))))))))))))))))))) dX0_carryOut_205
  · --
    have n_176 : ¬ ((K2_kind 6 i S)) = 0 := by omega
    have n_177 : ¬ ((K2_kind 6 i S)) = 1 := by omega
    have n_178 : ¬ ((K2_kind 6 i S)) = 2 := by omega
    have n_179 : ¬ ((K2_kind 6 i S)) = 3 := by omega
    have n_180 : ¬ ((K2_kind 6 i S)) = 4 := by omega
    have n_181 : ¬ ((K2_kind 6 i S)) = 5 := by omega
    have n_182 : ¬ ((K2_kind 6 i S)) = 6 := by omega
    have n_183 : ¬ ((K2_kind 6 i S)) = 7 := by omega
    have n_184 : ¬ ((K2_kind 6 i S)) = 8 := by omega
    have n_185 : ¬ ((K2_kind 6 i S)) = 9 := by omega
    have n_186 : ¬ ((K2_kind 6 i S)) = 10 := by omega
    have n_187 : ¬ ((K2_kind 6 i S)) = 11 := by omega
    have n_188 : ¬ ((K2_kind 6 i S)) = 12 := by omega
    have n_189 : ¬ ((K2_kind 6 i S)) = 13 := by omega
    have n_190 : ¬ ((K2_kind 6 i S)) = 14 := by omega
    have n_191 : ¬ ((K2_kind 6 i S)) = 15 := by omega
    have n_192 : ¬ ((K2_kind 6 i S)) = 16 := by omega
    refine z_tableOut (tgt := 206) B.1 B.2.1 (zr_of (by omega) (by omega)) dX0_carryOut_8 (by omega) (by decide) ?_
    refine z_iconst B.1 B.2.1 dX0_carryOut_206 ?_
    exact g_reti (S := S) B hM (by unfold K0_carryOut; exact ((if_neg n_176).trans ((if_neg n_177).trans ((if_neg n_178).trans ((if_neg n_179).trans ((if_neg n_180).trans ((if_neg n_181).trans ((if_neg n_182).trans ((if_neg n_183).trans ((if_neg n_184).trans ((if_neg n_185).trans ((if_neg n_186).trans ((if_neg n_187).trans ((if_neg n_188).trans ((if_neg n_189).trans ((if_neg n_190).trans ((if_neg n_191).trans (if_neg n_192)))))))))))))))))) dX0_carryOut_207
theorem tK_w {a : Nat} {S : CSt} {r : CR} (h : tK a S r) : tK a S (if r.1 = 0 then (0, r.2.1, r.2.2) else (1, 0, r.2.2)) := by
  obtain ⟨r1, r2, r3⟩ := r
  obtain ⟨h1, h2, h3, h4, h5⟩ := h
  split
  · exact ⟨h1, h2, h3, h4, Or.inl rfl⟩
  · exact ⟨h1, h2, by show (-2 : Int) ≤ 0; decide, by show (0 : Int) ≤ 1002; decide, Or.inr ⟨rfl, rfl⟩⟩
theorem K0_carryOut_ok {i : Int} {a : Nat} {S : CSt} (h : oK a 11900 8990 S) (hX : xV S) (h0 : 0 ≤ i) (h1 : i ≤ 1000) : tK a S (K0_carryOut i S) := by
  have b1 := K2_aim_bd i h.2.2.1
  have b2 := K2_aim_b2 i hX.2.2.2.2.2.2.2.2.2.1
  have key : ∀ v : Int, -2 ≤ v → v ≤ 1002 → tK a S (0, v, S) := fun v v0 v1 => ⟨oK_mono h (by omega) (by omega), Nat.le_refl _, v0, v1, Or.inl rfl⟩
  unfold K0_carryOut
  by_cases c0 : K2_kind 6 i S = 0
  · rw [if_pos c0]; exact key _ (by omega) (by omega)
  · rw [if_neg c0]
    by_cases c1 : K2_kind 6 i S = 1
    · rw [if_pos c1]; exact tK_w (K0_passSign_ok h h0 h1)
    · rw [if_neg c1]
      by_cases c2 : K2_kind 6 i S = 2
      · rw [if_pos c2]; exact key _ (by split <;> omega) (by split <;> omega)
      · rw [if_neg c2]
        by_cases c3 : K2_kind 6 i S = 3
        · rw [if_pos c3]; exact key _ (by split <;> omega) (by split <;> omega)
        · rw [if_neg c3]
          by_cases c4 : K2_kind 6 i S = 4
          · rw [if_pos c4]; exact tK_w (K0_passReference_ok h h0 h1)
          · rw [if_neg c4]
            by_cases c5 : K2_kind 6 i S = 5
            · rw [if_pos c5]; exact tK_w (K0_beginAlternative_ok h hX h0 h1)
            · rw [if_neg c5]
              by_cases c6 : K2_kind 6 i S = 6
              · rw [if_pos c6]; exact key _ (by omega) (by omega)
              · rw [if_neg c6]
                by_cases c7 : K2_kind 6 i S = 7
                · rw [if_pos c7]; exact tK_w (K0_beginGroup_ok h hX h0 h1)
                · rw [if_neg c7]
                  by_cases c8 : K2_kind 6 i S = 8
                  · rw [if_pos c8]; exact tK_w (K0_endGroup_ok h hX h0 h1)
                  · rw [if_neg c8]
                    by_cases c9 : K2_kind 6 i S = 9
                    · rw [if_pos c9]; exact tK_w (K0_enterLoop_ok h hX h0 h1)
                    · rw [if_neg c9]
                      by_cases c10 : K2_kind 6 i S = 10
                      · rw [if_pos c10]; exact tK_w (K0_endPass_ok h hX h0 h1)
                      · rw [if_neg c10]
                        by_cases c11 : K2_kind 6 i S = 11
                        · rw [if_pos c11]; exact tK_w (K0_endPass_ok h hX h0 h1)
                        · rw [if_neg c11]
                          by_cases c12 : K2_kind 6 i S = 12
                          · rw [if_pos c12]; exact tK_w (K0_beginPass_ok h hX h0 h1)
                          · rw [if_neg c12]
                            by_cases c13 : K2_kind 6 i S = 13
                            · rw [if_pos c13]; exact tK_w (K0_beginLook_ok h hX h0 h1)
                            · rw [if_neg c13]
                              by_cases c14 : K2_kind 6 i S = 14
                              · rw [if_pos c14]; exact tK_w (K0_endLook_ok h h0 h1)
                              · rw [if_neg c14]
                                by_cases c15 : K2_kind 6 i S = 15
                                · rw [if_pos c15]; exact tK_w (K0_beginLookNot_ok h hX h0 h1)
                                · rw [if_neg c15]
                                  by_cases c16 : K2_kind 6 i S = 16
                                  · rw [if_pos c16]; exact tK_w (K0_endLookNot_ok h h0 h1)
                                  · rw [if_neg c16]; exact key _ (by omega) (by omega)
