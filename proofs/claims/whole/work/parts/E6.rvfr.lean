/-- what the reference's reading leaves alone -/
def frR (T T' : MSt) : Prop := (∀ k, k < 19 ∨ (25 < k ∧ k ≠ 32) → T'.1 k = T.1 k) ∧ (∀ k, k < 15 ∨ (18 < k ∧ k < 26) ∨ 31 < k → T'.2 k = T.2 k)
theorem frR_refl (T : MSt) : frR T T := ⟨fun _ _ => rfl, fun _ _ => rfl⟩
theorem frR_trans {T T1 T2 : MSt} (h : frR T T1) (h' : frR T1 T2) : frR T T2 := ⟨fun k a => (h'.1 k a).trans (h.1 k a), fun k a => (h'.2 k a).trans (h.2 k a)⟩
theorem frR_mi {T T1 : MSt} {k : Nat} {v : Int} (hk : (19 ≤ k ∧ k ≤ 25) ∨ k = 32) (h : frR T T1) : frR T (mi T1 k v) := ⟨fun j hj => (show (if j = k then v else T1.1 j) = T.1 j from by rw [if_neg (by omega)]; exact h.1 j hj), h.2⟩
theorem frR_ma {T T1 : MSt} {k i : Nat} {v : Int} (hk : (15 ≤ k ∧ k ≤ 18) ∨ (26 ≤ k ∧ k ≤ 31)) (h : frR T T1) : frR T (ma T1 k i v) := ⟨h.1, fun j hj => (show (if j = k then zu (T1.2 k) i v else T1.2 j) = T.2 j from by rw [if_neg (by omega)]; exact h.2 j hj)⟩
theorem frR_emit {T T1 : MSt} {w x y z : Int} (h : frR T T1) : frR T (M_emit w x y z T1) := frR_mi (by omega) (frR_ma (by omega) (frR_ma (by omega) (frR_ma (by omega) (frR_ma (by omega) h))))
theorem frR_weigh {T T1 : MSt} {w : Int} (h : frR T T1) : frR T (M_weigh w T1) := frR_ma (by omega) h
theorem frR_open {T T1 : MSt} {q a : Int} (h : frR T T1) : frR T (M_openBody q a T1) := frR_ma (by omega) (frR_emit (frR_mi (by omega) (frR_ma (by omega) (frR_ma (by omega) (frR_ma (by omega) (frR_ma (by omega) (frR_ma (by omega) (frR_mi (by omega) h))))))))
theorem frR_up {T T1 U : MSt} {x y : Int} (hu : upAB T1 U x y) (h : frR T T1) : frR T U := ⟨fun k hk => (hu.2.2.1 k (by omega) (by omega)).trans (h.1 k hk), fun k hk => by rw [hu.2.2.2]; exact h.2 k hk⟩
theorem frR_count {T T1 : MSt} {a w : Int} (h : frR T T1) (hb : T1.1 25 = 0) (hle : T1.1 24 ≤ T1.1 14) : frR T (M_count a w T1) := by
  rcases cntX a w hb hle with e | ⟨l, m, z, U, k, bd, e, hu, -⟩
  · rw [e]; exact frR_weigh h
  · rw [e]
    exact frR_mi (by omega) (frR_emit (frR_ma (by omega) (frR_ma (by omega) (frR_ma (by omega) (frR_ma (by omega) (frR_weigh (frR_up hu h)))))))
theorem frR_clo {T T1 : MSt} (h : frR T T1) : frR T (clo T1) := by
  obtain ⟨o1, o2, o3, o4⟩ := clo_o T1
  exact ⟨fun k hk => (o2 k (by omega)).trans (h.1 k hk), fun k hk => (o3 k (by omega)).trans (h.2 k hk)⟩
theorem frR_close {T T1 : MSt} (h : frR T T1) (hb : T1.1 25 = 0) (hle : T1.1 24 ≤ T1.1 14) : frR T (M_closeBody T1) := by
  obtain ⟨o1, o2, o3, o4⟩ := clo_o T1
  have f := frR_clo h
  have b' : (clo T1).1 25 = 0 := by rw [o2 25 (by decide)]; exact hb
  have l' : (clo T1).1 24 ≤ (clo T1).1 14 := by rw [o2 24 (by decide), o2 14 (by decide)]; exact hle
  rw [closeB_clo]
  unfold closeF
  by_cases c0 : (clo T1).2 26 (T1.1 32 - 1).toNat = 0
  · rw [if_pos c0]; exact frR_mi (by omega) f
  rw [if_neg c0]
  by_cases c1 : (clo T1).2 26 (T1.1 32 - 1).toNat = 1
  · rw [if_pos c1]; exact frR_count (frR_emit (frR_mi (by omega) f)) b' l'
  rw [if_neg c1]
  by_cases c2 : (clo T1).2 26 (T1.1 32 - 1).toNat ≤ 2
  · rw [if_pos c2]; exact frR_count (frR_mi (by omega) f) b' l'
  rw [if_neg c2]
  exact frR_weigh (frR_emit (frR_ma (by omega) (frR_mi (by omega) f)))
theorem frR_set {T T1 : MSt} (h : frR T T1) (hb : T1.1 25 = 0) : frR T (M_set T1) := by
  unfold M_set
  rw [mi_mi]
  obtain ⟨v, b, q1, q2, q3, q4⟩ := setL_fr (if (M_sign T1 ((T1.1 24) + 1)) = 94 then 1 else 0 : Int) (((T1.1 24) + 1) + ((if ((if (M_sign T1 ((T1.1 24) + 1)) = 94 then 1 else 0 : Int)) = 0 then 0 else 1 : Int))) 60 1 (mi T1 24 (((T1.1 24) + 1) + ((if ((if (M_sign T1 ((T1.1 24) + 1)) = 94 then 1 else 0 : Int)) = 0 then 0 else 1 : Int)))) (Or.inl hb)
  rw [q4]
  exact frR_mi (by omega) (frR_emit (frR_mi (by omega) (frR_mi (by omega) (frR_mi (by omega) h))))
theorem frR_esc {T T1 : MSt} (h : frR T T1) : frR T (M_escaped T1) := by
  unfold M_escaped
  by_cases c1 : (zb (M_isClass (M_sign T1 ((T1.1 24) + 1)))) = 0
  · rw [if_pos c1]
    by_cases c2 : (M_sign T1 ((T1.1 24) + 1)) < 49
    · rw [if_pos c2]; exact frR_emit (frR_mi (by omega) (frR_mi (by omega) h))
    · rw [if_neg c2]
      by_cases c3 : 57 < (M_sign T1 ((T1.1 24) + 1))
      · rw [if_pos c3]; exact frR_emit (frR_mi (by omega) (frR_mi (by omega) h))
      · rw [if_neg c3]; exact frR_emit (frR_mi (by omega) (frR_mi (by omega) h))
  · rw [if_neg c1]; exact frR_emit (frR_mi (by omega) h)
theorem frR_atom {T : MSt} (hb : T.1 25 = 0) (h1 : T.1 24 < T.1 14) (cl : T.1 14 ≤ 40) (h0 : 0 ≤ T.1 24) : frR T (M_atom T) := by
  have key : ∀ T1 : MSt, frR T T1 → LFe T T1 → frR T (if T1.1 25 = 0 then M_count (T.1 19) 1 T1 else T1) := fun T1 f l => by
    by_cases c : T1.1 25 = 0
    · rw [if_pos c]
      rcases l with y | ⟨-, y1, -, -, -, y, -⟩
      · omega
      · exact frR_count f c (by omega)
    · rw [if_neg c]; exact f
  have f0 := frR_emit (w := 17) (x := 0) (y := T.1 20) (z := 0) (frR_refl T)
  unfold M_atom
  by_cases c1 : M_sign T (T.1 24) = 91
  · rw [if_pos c1]
    exact key _ (frR_set f0 hb) (LFe_emit (set_LF (T := M_emit 17 0 (T.1 20) 0 T) hb h1 cl h0))
  rw [if_neg c1]
  by_cases c2 : M_sign T (T.1 24) = 92
  · rw [if_pos c2]
    exact key _ (frR_esc f0) (LFe_emit (esc_LF (T := M_emit 17 0 (T.1 20) 0 T) hb))
  rw [if_neg c2]
  by_cases c3 : M_sign T (T.1 24) = 46
  · rw [if_pos c3]
    have l : LFe T (mi (M_emit 4 0 0 0 (M_emit 17 0 (T.1 20) 0 T)) 24 (T.1 24 + 1)) := Or.inr ⟨hb, rfl, rfl, rfl, rfl, by show T.1 24 < T.1 24 + 1 ∧ T.1 24 + 1 ≤ T.1 14; omega, rfl, rfl⟩
    exact key _ (frR_mi (by omega) (frR_emit f0)) l
  rw [if_neg c3]
  have b01 : (if (T.1 25) = 0 then (if (zb (M_isSpecial (M_sign T (T.1 24)))) = 0 then 0 else 1 : Int) else 1 : Int) = 0 ∨ (if (T.1 25) = 0 then (if (zb (M_isSpecial (M_sign T (T.1 24)))) = 0 then 0 else 1 : Int) else 1 : Int) = 1 := by (repeat' split) <;> omega
  generalize (if (T.1 25) = 0 then (if (zb (M_isSpecial (M_sign T (T.1 24)))) = 0 then 0 else 1 : Int) else 1 : Int) = bd at *
  have l : LFe T (mi (M_emit 3 (M_sign T (T.1 24)) 0 0 (mi (M_emit 17 0 (T.1 20) 0 T) 25 bd)) 24 (T.1 24 + 1)) := by
    rcases b01 with e | e
    · exact Or.inr ⟨e, rfl, rfl, rfl, rfl, by show T.1 24 < T.1 24 + 1 ∧ T.1 24 + 1 ≤ T.1 14; omega, rfl, rfl⟩
    · exact Or.inl e
  exact key _ (frR_mi (by omega) (frR_emit (frR_mi (by omega) f0))) l
theorem frR_par {T : MSt} : frR T (M_openParenthesis T) := by
  unfold M_openParenthesis
  have f1 := frR_mi (k := 24) (v := T.1 24 + 1) (by omega) (frR_refl T)
  have f2 := frR_mi (k := 24) (v := T.1 24 + 1 + 2) (by omega) f1
  by_cases c1 : M_sign T (T.1 24 + 1) = 63
  · rw [if_pos c1]
    by_cases c2 : M_sign T (T.1 24 + 1 + 1) = 58
    · rw [if_pos c2]; exact frR_open (frR_emit f2)
    rw [if_neg c2]
    by_cases c3 : M_sign T (T.1 24 + 1 + 1) = 61
    · rw [if_pos c3]; exact frR_open (frR_mi (by omega) (frR_emit f2))
    rw [if_neg c3]
    by_cases c4 : M_sign T (T.1 24 + 1 + 1) = 33
    · rw [if_pos c4]; exact frR_open (frR_mi (by omega) (frR_emit f2))
    rw [if_neg c4]; exact frR_mi (by omega) f2
  · rw [if_neg c1]
    exact frR_ma (by omega) (frR_open (frR_emit (frR_mi (by omega) (frR_emit f1))))
theorem frR_alt {T : MSt} : frR T (M_endAlternative 1 T) := by
  unfold M_endAlternative
  rw [if_neg i10]
  exact frR_ma (by omega) (frR_emit (frR_ma (by omega) (frR_ma (by omega) (frR_ma (by omega) (frR_emit (frR_refl T))))))
theorem frR_S {T : MSt} (h : RV T) (hb : T.1 25 = 0) (hl : T.1 24 < T.1 14) : frR T (rdS T) := by
  obtain ⟨i1, i2, i3, i4, -⟩ := h.1
  unfold rdS
  by_cases c1 : M_sign T (T.1 24) = 124
  · rw [if_pos c1]; exact frR_mi (by omega) frR_alt
  rw [if_neg c1]
  by_cases c2 : M_sign T (T.1 24) = 41
  · rw [if_pos c2]
    by_cases c3 : (if T.1 32 = 1 then 1 else 0 : Int) = 0
    · rw [if_pos c3]
      exact frR_close (frR_mi (by omega) (frR_mi (by omega) (frR_refl T))) c3 (by show T.1 24 + 1 ≤ T.1 14; omega)
    · rw [if_neg c3]; exact frR_mi (by omega) (frR_mi (by omega) (frR_refl T))
  rw [if_neg c2]
  by_cases c3 : M_sign T (T.1 24) = 94
  · rw [if_pos c3]; exact frR_mi (by omega) (frR_weigh (frR_emit (frR_refl T)))
  rw [if_neg c3]
  by_cases c4 : M_sign T (T.1 24) = 36
  · rw [if_pos c4]; exact frR_mi (by omega) (frR_weigh (frR_emit (frR_refl T)))
  rw [if_neg c4]
  by_cases c5 : M_sign T (T.1 24) = 40
  · rw [if_pos c5]; exact frR_par
  rw [if_neg c5]; exact frR_atom hb hl i4 i2
theorem VRd_S {n : Nat} {T : MSt} (h : VRd (n + 1) T) (hb : T.1 25 = 0) (hl : T.1 24 < T.1 14) : VRd n (rdS T) := by
  have s := VRd_step h
  obtain ⟨-, -, -, -, -, -, -, s, -⟩ := s
  obtain ⟨m, hm, s1, s2, s3, s4, s5, s6⟩ := s hb hl
  have e : m = n := by omega
  subst e
  unfold rdS
  by_cases c1 : M_sign T (T.1 24) = 124
  · rw [if_pos c1]; exact (s1 c1).2
  rw [if_neg c1]
  by_cases c2 : M_sign T (T.1 24) = 41
  · rw [if_pos c2]
    obtain ⟨-, -, s2a, s2b⟩ := s2 c2
    by_cases c3 : (if T.1 32 = 1 then 1 else 0 : Int) = 0
    · rw [if_pos c3]; exact (s2b c3).2
    · rw [if_neg c3]; exact s2a c3
  rw [if_neg c2]
  by_cases c3 : M_sign T (T.1 24) = 94
  · rw [if_pos c3]; exact (s3 c3).2.2.2.2
  rw [if_neg c3]
  by_cases c4 : M_sign T (T.1 24) = 36
  · rw [if_pos c4]; exact (s4 c4).2.2.2.2
  rw [if_neg c4]
  by_cases c5 : M_sign T (T.1 24) = 40
  · rw [if_pos c5]; exact (s5 c5).2
  rw [if_neg c5]; exact (s6 c1 c2 c3 c4 c5).2
/-- the end of the reference's reading -/
def endR (T : MSt) : Int × MSt := (if (T.1 32) = 1 then ((if 120 < ((M_closeBody T).2 30 (0 : Int).toNat) then 0 else (if 9 < ((M_closeBody T).1 20) then 0 else (if ((M_closeBody T).1 20) < ((M_closeBody T).1 23) then 0 else 1 : Int) : Int) : Int), (M_emit 16 0 0 0 (M_closeBody T))) else (0, T))
theorem readsL_end {n : Nat} {T : MSt} (hb : T.1 25 = 0) (hl : T.1 14 ≤ T.1 24) : M_readsL n T = endR T := by
  cases n with
  | zero => rw [M_readsL, if_pos hb, if_pos hl]; rfl
  | succ n => rw [M_readsL, if_pos hb, if_pos hl]; rfl
/-- what is known where reading has ended well -/
def FNr (T : MSt) : Prop := 0 ≤ T.1 19 ∧ T.1 19 ≤ 220 ∧ ∀ r : Nat, (r : Int) < T.1 19 → T.2 15 r = 6 → T.2 17 r < T.1 14
theorem clo_end {T : MSt} (h : RV T) (h32 : T.1 32 = 1) : M_closeBody T = mi (clo T) 32 0 := by
  obtain ⟨o1, o2, o3, o4⟩ := clo_o T
  have e26 : (clo T).2 26 ((1 : Int) - 1).toNat = 0 := by rw [o3 26 (by omega)]; exact h.1.2.2.2.2.2.2
  rw [closeB_clo, h32]
  unfold closeF
  rw [if_pos e26, o2 32 (by decide), h32]
  rfl
theorem end_V {T : MSt} (h : RV T) (hb : T.1 25 = 0) : frR T (endR T).2 ∧ ((endR T).1 = 0 ∨ (endR T).1 = 1) ∧ (¬ (endR T).1 = 0 → FNr (endR T).2) := by
  have h' := h
  obtain ⟨⟨i1, i2, i3, i4, i5, i6, i7⟩, ⟨a, b, c, d, e, f, g, s1, s2⟩, hc, hw⟩ := h'
  unfold endR
  by_cases c1 : T.1 32 = 1
  · rw [if_pos c1]
    refine ⟨frR_emit (frR_close (frR_refl T) hb i3), ?_, fun _ => ?_⟩
    · show (if 120 < ((M_closeBody T).2 30 (0 : Int).toNat) then 0 else (if 9 < ((M_closeBody T).1 20) then 0 else (if ((M_closeBody T).1 20) < ((M_closeBody T).1 23) then 0 else 1 : Int) : Int) : Int) = 0 ∨ _ = 1
      (repeat' split) <;> omega
    · obtain ⟨o1, o2, o3, o4⟩ := clo_o T
      rw [clo_end h c1]
      have al := CHs_al _ _ g
      rw [c1] at g al
      obtain ⟨g1, ⟨gs, g2, g3⟩, g4⟩ := g
      have g1' : 0 ≤ T.2 31 0 ∧ T.2 31 0 ≤ T.2 28 0 ∧ T.2 28 0 < T.1 19 := g1
      have ch : CH (T.2 16) (T.2 28 0).toNat gs (T.2 29 (T.1 32 - 1).toNat) := by rw [c1]; exact g2
      obtain ⟨n1, n2, n3⟩ := clo_np (T := T) (gs := gs) (m := (T.2 28 0).toNat) b (by omega) ch (by omega)
      have c15 : (clo T).2 15 (T.1 19).toNat = 2 := n3.1
      have e19 : (M_emit 16 0 0 0 (mi (clo T) 32 0)).1 19 = T.1 19 + 2 := by
        show (clo T).1 19 + 1 = _
        rw [o1]; omega
      have e14 : (M_emit 16 0 0 0 (mi (clo T) 32 0)).1 14 = T.1 14 := o2 14 (by decide)
      have e15 : (M_emit 16 0 0 0 (mi (clo T) 32 0)).2 15 = zu ((clo T).2 15) ((clo T).1 19).toNat 16 := rfl
      have e17 : (M_emit 16 0 0 0 (mi (clo T) 32 0)).2 17 = zu ((clo T).2 17) ((clo T).1 19).toNat 0 := rfl
      refine ⟨by show 0 ≤ (M_emit 16 0 0 0 (mi (clo T) 32 0)).1 19; omega, by show (M_emit 16 0 0 0 (mi (clo T) 32 0)).1 19 ≤ 220; omega, fun r hr h6 => ?_⟩
      show (M_emit 16 0 0 0 (mi (clo T) 32 0)).2 17 r < (M_emit 16 0 0 0 (mi (clo T) 32 0)).1 14
      have hr' : (r : Int) < (M_emit 16 0 0 0 (mi (clo T) 32 0)).1 19 := hr
      have h6' : (M_emit 16 0 0 0 (mi (clo T) 32 0)).2 15 r = 6 := h6
      rw [e15, o1] at h6'
      rw [e17, e14, o1]
      by_cases k1 : r = (T.1 19 + 1).toNat
      · rw [k1, zu_eq] at h6'; omega
      · rw [zu_ne k1] at h6' ⊢
        by_cases k2 : r = (T.1 19).toNat
        · rw [k2, c15] at h6'; omega
        · have n15 : (clo T).2 15 r = T.2 15 r := n1 0 r (by omega) k2 (fun y => by omega)
          have n17 : (clo T).2 17 r = T.2 17 r := n1 2 r (by omega) k2 (fun y => by omega)
          rw [n15] at h6'
          rw [n17]
          exact s1 r (by omega) h6'
  · rw [if_neg c1]
    exact ⟨frR_refl T, Or.inl rfl, fun y => absurd rfl y⟩
theorem read_V : ∀ (n : Nat) (T : MSt), VRd n T → frR T (M_readsL n T).2 ∧ ((M_readsL n T).1 = 0 ∨ (M_readsL n T).1 = 1) ∧ (¬ (M_readsL n T).1 = 0 → FNr (M_readsL n T).2) ∧ ∀ m, M_readsL (n + m) T = M_readsL n T := by
  intro n
  induction n with
  | zero =>
    intro T h
    rcases h with ⟨h25, hR, hn⟩ | ⟨h25, -⟩
    · have := hR.1.2.2.1
      omega
    · have e : ∀ n, M_readsL n T = (0, T) := fun n => readsL_bad (by omega)
      rw [e]
      exact ⟨frR_refl T, Or.inl rfl, fun y => absurd rfl y, fun m => e _⟩
  | succ n ih =>
    intro T h
    have h' := h
    rcases h with ⟨h25, hR, hn⟩ | ⟨h25, -⟩
    · by_cases c : T.1 24 < T.1 14
      · rw [readsL_S h25 c]
        obtain ⟨a, b, d, e⟩ := ih _ (VRd_S h' h25 c)
        refine ⟨frR_trans (frR_S hR h25 c) a, b, d, fun m => ?_⟩
        rw [show n + 1 + m = (n + m) + 1 by omega, readsL_S h25 c]
        exact e m
      · have e : ∀ n, M_readsL n T = endR T := fun n => readsL_end h25 (by omega)
        rw [e]
        obtain ⟨a, b, d⟩ := end_V hR h25
        exact ⟨a, b, d, fun m => e _⟩
    · have e : ∀ n, M_readsL n T = (0, T) := fun n => readsL_bad (by omega)
      rw [e]
      exact ⟨frR_refl T, Or.inl rfl, fun y => absurd rfl y, fun m => e _⟩
