theorem alt_V {T : MSt} (h : RV T) (hb : T.1 25 = 0) (h1 : T.1 24 < T.1 14) : VVd (mi (M_endAlternative 1 T) 24 ((M_endAlternative 1 T).1 24 + 1)) := by
  obtain ⟨⟨i1, i2, i3, i4, i5, i6, i7⟩, ⟨a, b, c, d, e, f, g, s1, s2⟩, hc, hw⟩ := h
  obtain ⟨k, hk⟩ : ∃ k : Nat, T.1 32 = (k + 1 : Nat) := ⟨(T.1 32 - 1).toNat, by omega⟩
  have kt : (T.1 32 - 1).toNat = k := by omega
  have kk : (T.1 32).toNat = k + 1 := by omega
  have al := CHs_al _ _ g
  rw [kk] at g hw al
  obtain ⟨g1, ⟨gs, g2, g3⟩, g4⟩ := g
  have al2 := CHs_al _ _ g4
  generalize hX : mi (M_endAlternative 1 T) 24 ((M_endAlternative 1 T).1 24 + 1) = X
  have x1 : X.1 25 = T.1 25 := by rw [← hX]; rfl
  have x24 : X.1 24 = T.1 24 + 1 := by rw [← hX]; rfl
  have x19 : X.1 19 = T.1 19 + 2 := by
    rw [← hX]
    show T.1 19 + 1 + 1 = _
    omega
  have x32 : X.1 32 = T.1 32 := by rw [← hX]; rfl
  have x14 : X.1 14 = T.1 14 := by rw [← hX]; rfl
  have x23 : X.1 23 = T.1 23 := by rw [← hX]; rfl
  have x20 : X.1 20 = T.1 20 := by rw [← hX]; rfl
  have x13 : X.2 13 = T.2 13 := by rw [← hX]; rfl
  have x26 : X.2 26 = T.2 26 := by rw [← hX]; rfl
  have x31 : X.2 31 = T.2 31 := by rw [← hX]; rfl
  have x30 : X.2 30 = zu (T.2 30) k (T.2 30 k + 1) := by
    rw [← hX, ← kt]; rfl
  have x29 : X.2 29 = zu (T.2 29) k (T.1 19) := by
    rw [← hX, ← kt]; rfl
  have x28 : X.2 28 = zu (T.2 28) k (T.1 19 + 1) := by
    rw [← hX, ← kt]; rfl
  have n1 : (T.1 19 + 1).toNat = (T.1 19).toNat + 1 := by omega
  have x15 : X.2 15 = zu (zu (T.2 15) (T.1 19).toNat 2) ((T.1 19).toNat + 1) 1 := by
    rw [← hX, ← n1]; rfl
  have x17 : X.2 17 = zu (zu (T.2 17) (T.1 19).toNat 0) ((T.1 19).toNat + 1) 0 := by
    rw [← hX, ← n1]; rfl
  have x16 : X.2 16 = zu (zu (zu (T.2 16) (T.1 19).toNat (T.2 29 k)) (T.2 28 k).toNat (T.1 19 + 1)) ((T.1 19).toNat + 1) (-1) := by
    rw [← hX, ← n1, ← kt]; rfl
  left
  refine ⟨by rw [x1]; exact hb, ⟨by rw [x13]; exact a, by omega, by omega, by rw [x23]; exact d, by rw [x20, x24]; omega, by rw [x32, x26]; exact f, ?_, fun r hr h6 => ?_, fun j hj => ?_⟩, by omega, ?_⟩
  · rw [x32, kk, x19, x28, x29, x31]
    refine ⟨by rw [zu_eq]; omega, ⟨(T.1 19).toNat :: gs, ?_, fun x hx => ?_⟩, ?_⟩
    · rw [zu_eq, zu_eq, n1]
      refine ⟨by omega, by omega, ?_⟩
      rw [x16, zu_ne (by omega), zu_ne (by omega), zu_eq]
      refine CH_mono (m := (T.2 28 k).toNat) (by omega) (CH_cong (fun x hx => ?_) g2)
      have := CH_mem g2 x hx
      rw [zu_ne (by omega), zu_ne (by omega), zu_ne (by omega)]
    · rcases List.mem_cons.mp hx with y | y
      · rw [y]; omega
      · exact g3 x y
    · refine CHs_cong (a := T.2 16) _ _ (fun x i hi hx => ?_) (fun i hi => ⟨zu_ne (by omega), zu_ne (by omega), rfl⟩) g4
      have := al2 i hi
      rw [x16, zu_ne (by omega), zu_ne (by omega), zu_ne (by omega)]
  · rw [x15] at h6
    rw [x17, x14]
    rw [x19] at hr
    by_cases c1 : r = (T.1 19).toNat + 1
    · rw [c1, zu_eq] at h6; omega
    · rw [zu_ne c1] at h6 ⊢
      by_cases c2 : r = (T.1 19).toNat
      · rw [c2, zu_eq] at h6; omega
      · rw [zu_ne c2] at h6 ⊢
        exact s1 r (by omega) h6
  · rw [x31, x15]
    rw [x32] at hj
    have := al j (by omega)
    rw [zu_ne (by omega), zu_ne (by omega)]
    exact s2 j hj
  · rw [x30, x32, x24, kk]
    have q := WB_top (d := 1) (s := 1) hw (fun n hn => by have := gN_s1 n (by omega); omega)
    rw [show (T.1 24 + 1).toNat + 1 = (T.1 24 + 1 + 1).toNat by omega] at q
    exact q
theorem anch_V {T : MSt} {w : Int} (hw6 : w ≠ 6) (h : RV T) (hb : T.1 25 = 0) (h1 : T.1 24 < T.1 14) : VVd (mi (M_weigh 1 (M_emit w 0 0 0 T)) 24 (T.1 24 + 1)) := by
  obtain ⟨⟨i1, i2, i3, i4, i5, i6, i7⟩, h0, hc, hw⟩ := h
  obtain ⟨k, hk⟩ : ∃ k : Nat, T.1 32 = (k + 1 : Nat) := ⟨(T.1 32 - 1).toNat, by omega⟩
  have kt : (T.1 32 - 1).toNat = k := by omega
  have kk : (T.1 32).toNat = k + 1 := by omega
  rw [kk] at hw
  left
  refine ⟨hb, RV0_24 (RV0_weigh (RV0_emit h0 (Or.inl hw6))) (by show T.1 24 ≤ T.1 24 + 1; omega), by show T.1 19 + 1 ≤ 3 * (T.1 24 + 1) + 1; omega, ?_⟩
  show WB (zu (T.2 30) (T.1 32 - 1).toNat (T.2 30 (T.1 32 - 1).toNat + 1)) (T.1 32).toNat (T.1 24 + 1 + 1).toNat
  rw [kt, kk]
  have q := WB_top (d := 1) (s := 1) hw (fun n hn => by have := gN_s1 n (by omega); omega)
  rw [show (T.1 24 + 1).toNat + 1 = (T.1 24 + 1 + 1).toNat by omega] at q
  exact q
theorem openB_V {T U : MSt} {q : Int} {s : Nat} (h : RV T) (hU : RV0 U) (u25 : U.1 25 = 0) (u32 : U.1 32 = T.1 32) (u19 : T.1 19 + 1 ≤ U.1 19) (u19' : U.1 19 + 1 ≤ 3 * U.1 24 + 1) (u24 : U.1 24 = T.1 24 + s) (s1 : 1 ≤ s) (u14 : U.1 14 = T.1 14) (hle : U.1 24 ≤ T.1 14 + 3) (u13 : U.2 13 = T.2 13) (u16 : ∀ x : Nat, (x : Int) < T.1 19 → U.2 16 x = T.2 16 x) (u28 : U.2 28 = T.2 28) (u29 : U.2 29 = T.2 29) (u31 : U.2 31 = T.2 31) (u30 : U.2 30 = T.2 30) (u15 : U.2 15 (T.1 19).toNat ≠ 6) (q0 : 1 ≤ q) (q4 : q ≤ 4) : VVd (M_openBody q (T.1 19) U) := by
  obtain ⟨⟨i1, i2, i3, i4, i5, i6, i7⟩, ⟨a, b, c, d, e, f, g, t1, t2⟩, hc, hw⟩ := h
  have al := CHs_al _ _ g
  have e25 : (M_openBody q (T.1 19) U).1 25 = (if U.1 25 = 0 then (if U.1 32 ≤ 8 then 0 else 1 : Int) else 1 : Int) := rfl
  by_cases c8 : U.1 32 ≤ 8
  · left
    refine ⟨by rw [e25, if_pos u25, if_pos c8], RV0_open hU ⟨by omega, c8⟩ ?_ b (by omega) ?_ (by omega) q4, u19', ?_⟩
    · rw [u28, u29, u31, u32]
      refine CHs_cong (a := T.2 16) _ _ (fun x i hi hx => ?_) (fun i hi => ⟨rfl, rfl, rfl⟩) g
      have := al i hi
      exact u16 x (by omega)
    · show zu (U.2 15) (U.1 19).toNat 1 (T.1 19).toNat ≠ 6
      rw [zu_ne (by omega)]
      exact u15
    · show WB (zu (U.2 30) (U.1 32).toNat 0) (U.1 32 + 1).toNat (U.1 24 + 1).toNat
      rw [u30, u32, u24, show (T.1 32 + 1).toNat = (T.1 32).toNat + 1 by omega]
      exact WB_mono _ _ _ (by omega) (WB_open hw)
  · right
    refine ⟨by rw [e25, if_pos u25, if_neg c8], by show 0 ≤ U.1 24 ∧ U.1 24 ≤ 1000; omega, by show 0 ≤ U.1 14 ∧ U.1 14 ≤ 40; omega, by show ∀ j, 0 ≤ U.2 13 j ∧ U.2 13 j ≤ 126; rw [u13]; exact a, by show -1000 ≤ U.1 32 + 1 ∧ U.1 32 + 1 ≤ 1000; omega⟩
theorem open_V {T : MSt} (h : RV T) (hb : T.1 25 = 0) (h1 : T.1 24 < T.1 14) : VVd (M_openParenthesis T) := by
  have h' := h
  obtain ⟨⟨i1, i2, i3, i4, i5, i6, i7⟩, h0, hc, hw⟩ := h'
  have c19 := h0.2.1
  have g20 := h0.2.2.2.2.1
  have z1 : ∀ (f : Nat → Int) (v : Int) (x : Nat), (x : Int) < T.1 19 → zu f (T.1 19).toNat v x = f x := fun f v x hx => zu_ne (by omega)
  unfold M_openParenthesis
  by_cases c1 : M_sign T (T.1 24 + 1) = 63
  · rw [if_pos c1]
    have k1 := sgn_lt (T := T) (k := T.1 24 + 1) (by omega)
    have r0 : RV0 (mi (mi T 24 (T.1 24 + 1)) 24 (T.1 24 + 1 + 2)) := by rw [mi_mi]; exact RV0_24 h0 (by omega)
    by_cases c2 : M_sign T (T.1 24 + 1 + 1) = 58
    · rw [if_pos c2]
      have k2 := sgn_lt (T := T) (k := T.1 24 + 1 + 1) (by omega)
      refine openB_V (s := 3) h (RV0_emit r0 (Or.inl (by decide))) hb rfl (by show T.1 19 + 1 ≤ T.1 19 + 1; omega) (by show T.1 19 + 1 + 1 ≤ 3 * (T.1 24 + 1 + 2) + 1; omega) (by show T.1 24 + 1 + 2 = T.1 24 + (3 : Nat); omega) (by omega) rfl (by show T.1 24 + 1 + 2 ≤ T.1 14 + 3; omega) rfl (fun x hx => z1 _ _ x hx) rfl rfl rfl rfl ?_ (by decide) (by decide)
      show zu (T.2 15) (T.1 19).toNat 17 (T.1 19).toNat ≠ 6
      rw [zu_eq]; decide
    rw [if_neg c2]
    have lk : ∀ (p q : Int), 1 ≤ q → q ≤ 4 → VVd (M_openBody q (T.1 19) (mi (M_emit 12 p 0 (T.1 22) (mi (mi T 24 (T.1 24 + 1)) 24 (T.1 24 + 1 + 2))) 22 (T.1 22 + 1))) := fun p q q1 q4 => by
      refine openB_V (s := 3) h (RV0_22 (RV0_emit r0 (Or.inl (by decide)))) hb rfl (by show T.1 19 + 1 ≤ T.1 19 + 1; omega) (by show T.1 19 + 1 + 1 ≤ 3 * (T.1 24 + 1 + 2) + 1; omega) (by show T.1 24 + 1 + 2 = T.1 24 + (3 : Nat); omega) (by omega) rfl (by show T.1 24 + 1 + 2 ≤ T.1 14 + 3; omega) rfl (fun x hx => z1 _ _ x hx) rfl rfl rfl rfl ?_ q1 q4
      show zu (T.2 15) (T.1 19).toNat 12 (T.1 19).toNat ≠ 6
      rw [zu_eq]; decide
    by_cases c3 : M_sign T (T.1 24 + 1 + 1) = 61
    · rw [if_pos c3]
      exact lk 1 3 (by decide) (by decide)
    rw [if_neg c3]
    by_cases c4 : M_sign T (T.1 24 + 1 + 1) = 33
    · rw [if_pos c4]
      exact lk 0 4 (by decide) (by decide)
    rw [if_neg c4]
    right
    have := h0.2.2.1
    exact ⟨rfl, by show 0 ≤ T.1 24 + 1 + 2 ∧ T.1 24 + 1 + 2 ≤ 1000; omega, by show 0 ≤ T.1 14 ∧ T.1 14 ≤ 40; omega, h0.1, by show -1000 ≤ T.1 32 ∧ T.1 32 ≤ 1000; omega⟩
  · rw [if_neg c1]
    have o := openB_V (T := T) (U := M_emit 10 (T.1 20 + 1) 0 0 (mi (M_emit 17 0 (T.1 20) 0 (mi T 24 (T.1 24 + 1))) 20 (T.1 20 + 1))) (q := 1) (s := 1) h (RV0_emit (RV0_20 (RV0_emit (RV0_24 h0 (by omega)) (Or.inl (by decide))) (by omega) (by show T.1 20 + 1 ≤ T.1 24 + 1; omega)) (Or.inl (by decide))) hb rfl (by show T.1 19 + 1 ≤ T.1 19 + 1 + 1; omega) (by show T.1 19 + 1 + 1 + 1 ≤ 3 * (T.1 24 + 1) + 1; omega) (by show T.1 24 + 1 = T.1 24 + (1 : Nat); omega) (by omega) rfl (by show T.1 24 + 1 ≤ T.1 14 + 3; omega) rfl (fun x hx => by
      show zu (zu (T.2 16) (T.1 19).toNat 0) (T.1 19 + 1).toNat (T.1 20 + 1) x = T.2 16 x
      rw [zu_ne (by omega), zu_ne (by omega)]) rfl rfl rfl rfl (by
      show zu (zu (T.2 15) (T.1 19).toNat 17) (T.1 19 + 1).toNat 10 (T.1 19).toNat ≠ 6
      rw [zu_ne (by omega), zu_eq]; decide) (by decide) (by decide)
    exact o
/-- what stays true of the reference's reading -/
def VRd (n : Nat) (T : MSt) : Prop := (T.1 25 = 0 ∧ RV T ∧ T.1 14 - T.1 24 < n) ∨ (T.1 25 = 1 ∧ BVd T)
theorem VRd_of {n : Nat} {T X : MSt} (hi : DMi T) (hb : T.1 25 = 0) (hl : T.1 24 < T.1 14) (hn : T.1 14 - T.1 24 < (n + 1 : Nat)) (e : rdS T = X) (h14 : X.1 25 = 0 → X.1 14 = T.1 14) (v : VVd X) : VRd n X := by
  rcases v with ⟨v0, v1, v2, v3⟩ | v
  · left
    have s := rd_step hi hb hl
    rw [e] at s
    rcases s with s | ⟨s0, s1, s2, -⟩
    · omega
    · have := h14 v0
      exact ⟨v0, ⟨s2, v1, v2, v3⟩, by omega⟩
  · exact Or.inr v
theorem len_S {T : MSt} (hi : DMi T) (hb : T.1 25 = 0) (hl : T.1 24 < T.1 14) : (rdS T).1 25 = 0 → (rdS T).1 14 = T.1 14 ∧ (rdS T).2 13 = T.2 13 := by
  have hi' := hi
  obtain ⟨i1, i2, i3, i4, i5, i6, i7⟩ := hi'
  unfold rdS
  intro h0
  by_cases c1 : M_sign T (T.1 24) = 124
  · rw [if_pos c1]; exact ⟨rfl, rfl⟩
  rw [if_neg c1] at h0 ⊢
  by_cases c2 : M_sign T (T.1 24) = 41
  · rw [if_pos c2] at h0 ⊢
    by_cases c3 : T.1 32 = 1
    · have e : (if T.1 32 = 1 then 1 else 0 : Int) = 1 := if_pos c3
      rw [e, if_neg (by decide)]; exact ⟨rfl, rfl⟩
    · have e : (if T.1 32 = 1 then 1 else 0 : Int) = 0 := if_neg c3
      rw [e, if_pos rfl] at h0 ⊢
      have c := close_eff (T := mi (mi T 24 (T.1 24 + 1)) 25 0) rfl (by show T.1 24 + 1 ≤ T.1 14; omega) (by show 2 ≤ T.1 32; omega) (by show 1 ≤ T.2 26 (T.1 32 - 1).toNat; exact i6 _ (by omega) (by omega)) (by show 0 ≤ T.2 30 (T.1 32 - 1).toNat; exact i5 _ (by omega))
      rcases c with c | ⟨a0, a1, a2, -⟩
      · omega
      · exact ⟨a1, a2⟩
  rw [if_neg c2] at h0 ⊢
  by_cases c3 : M_sign T (T.1 24) = 94
  · rw [if_pos c3]; exact ⟨rfl, rfl⟩
  rw [if_neg c3] at h0 ⊢
  by_cases c4 : M_sign T (T.1 24) = 36
  · rw [if_pos c4]; exact ⟨rfl, rfl⟩
  rw [if_neg c4] at h0 ⊢
  by_cases c5 : M_sign T (T.1 24) = 40
  · rw [if_pos c5] at h0 ⊢
    rcases open_eff hb hl with o | ⟨a0, a1, a2, -⟩
    · omega
    · exact ⟨a1, a2⟩
  rw [if_neg c5] at h0 ⊢
  rcases atom_eff hb hl i4 i2 with o | ⟨a0, a1, a2, -⟩
  · omega
  · exact ⟨a1, a2⟩
theorem VRd_step {n : Nat} {T : MSt} (h : VRd n T) : M_readsStep VRd n T := by
  rcases h with ⟨h25, hR, hn⟩ | ⟨h25, ⟨b1, b2, b3, b4⟩⟩
  · have hR' := hR
    obtain ⟨hD, ⟨a, b, c, d, e, f, g, s1, s2⟩, hc, hw⟩ := hR'
    have hD' := hD
    obtain ⟨i1, i2, i3, i4, i5, i6, i7⟩ := hD'
    have al := CHs_al _ _ g
    refine ⟨by omega, by omega, i2, by omega, by omega, i4, a, fun _ hl => ?_, fun hl => ⟨by omega, by omega, fun _ h32 => ?_⟩⟩
    · obtain ⟨m, hm⟩ : ∃ m : Nat, n = m + 1 := ⟨n - 1, by omega⟩
      subst hm
      have ls := len_S hD h25 hl
      have to : ∀ X, rdS T = X → VVd X → VRd m X := fun X e v => VRd_of hD h25 hl hn e (fun y => by rw [← e] at y ⊢; exact (ls y).1) v
      refine ⟨m, rfl, fun c1 => ?_, fun c2 => ⟨by omega, by omega, fun y => ?_, fun y => ?_⟩, fun c3 => ⟨b, by omega, i1, by omega, ?_⟩, fun c4 => ⟨b, by omega, i1, by omega, ?_⟩, fun c5 => ⟨⟨by omega, by omega, b, by omega, a, by omega, i4, i2, by omega, i1, by omega⟩, ?_⟩, fun n1 n2 n3 n4 n5 => ⟨⟨by omega, by omega, b, by omega, a, by omega, i4, i2, by omega, i1, by omega, d.1, by omega⟩, ?_⟩⟩
      · have ak := al (T.1 32 - 1).toNat (by omega)
        refine ⟨⟨by decide, by decide, b, by omega, i1, by omega, by omega, by omega⟩, to _ ?_ (alt_V hR h25 hl)⟩
        unfold rdS
        rw [if_pos c1]
      · right
        have e : (if T.1 32 = 1 then 1 else 0 : Int) = 1 := by
          by_cases z : T.1 32 = 1
          · rw [if_pos z]
          · rw [if_neg z] at y; exact absurd rfl y
        rw [e]
        exact ⟨rfl, by show 0 ≤ T.1 24 + 1 ∧ T.1 24 + 1 ≤ 1000; omega, by show 0 ≤ T.1 14 ∧ T.1 14 ≤ 40; omega, a, by show -1000 ≤ T.1 32 ∧ T.1 32 ≤ 1000; omega⟩
      · have z : ¬ T.1 32 = 1 := fun z => by rw [if_pos z] at y; exact absurd y (by decide)
        have e : (if T.1 32 = 1 then 1 else 0 : Int) = 0 := if_neg z
        have er : rdS T = M_closeBody (mi (mi T 24 (T.1 24 + 1)) 25 0) := by
          unfold rdS
          rw [if_neg (by omega), if_pos c2, e, if_pos rfl]
        rw [e]
        have r := RV_at (v := T.1 24 + 1) (b := 0) hR (by omega) (by omega)
        refine ⟨close_OK r ⟨by show (0 : Int) ≤ 0; omega, by show (0 : Int) ≤ 1; omega⟩, to _ er ?_⟩
        refine close_V (k := (T.1 32 - 2).toNat) r rfl (by show T.1 32 = _; omega) (by show 1 ≤ T.1 24 + 1; omega) (by show T.1 19 ≤ 3 * (T.1 24 + 1) - 2; omega) ?_
        show WB (T.2 30) ((T.1 32 - 2).toNat + 2) (T.1 24 + 1).toNat
        rw [show (T.1 32 - 2).toNat + 2 = (T.1 32).toNat by omega]
        exact hw
      · refine to _ ?_ (anch_V (by decide) hR h25 hl)
        unfold rdS
        rw [if_neg (by omega), if_neg (by omega), if_pos c3]
      · refine to _ ?_ (anch_V (by decide) hR h25 hl)
        unfold rdS
        rw [if_neg (by omega), if_neg (by omega), if_neg (by omega), if_pos c4]
      · refine to _ ?_ (open_V hR h25 hl)
        unfold rdS
        rw [if_neg (by omega), if_neg (by omega), if_neg (by omega), if_neg (by omega), if_pos c5]
      · refine to _ ?_ (atom_V hR h25 hl)
        unfold rdS
        rw [if_neg n1, if_neg n2, if_neg n3, if_neg n4, if_neg n5]
    · have ce := close_end h32 i7
      have wb := WB_bd _ _ (by omega) hw 0 (by omega)
      have w0 := i5 0 (by omega)
      have e19 : (M_closeBody T).1 19 = T.1 19 + 1 := by
        rw [closeB_clo, h32]
        unfold closeF
        have o := clo_o T
        have e26 : (clo T).2 26 ((1 : Int) - 1).toNat = 0 := by rw [o.2.2.1 26 (by omega)]; exact i7
        rw [if_pos e26]
        exact o.1
      rw [ce.1, ce.2.1, ce.2.2, e19]
      exact ⟨close_OK hR ⟨by omega, by omega⟩, by omega, by omega, by show -1000000 ≤ T.2 30 0; omega, by show T.2 30 0 ≤ 2000000000; omega, by omega, by omega, by omega, by omega⟩
  · exact ⟨by omega, by omega, b1.1, b1.2, b2.1, b2.2, b3, fun y => by omega, fun _ => ⟨b4.1, b4.2, fun y => by omega⟩⟩
theorem VRd_0 {S : MSt} (h14 : 0 ≤ S.1 14 ∧ S.1 14 ≤ 40) (hch : ∀ j, 0 ≤ S.2 13 j ∧ S.2 13 j ≤ 126) : VRd 100 (M_openBody 0 0 (mi (mi (mi (mi (mi (mi (mi (mi S 19 0) 20 0) 21 0) 22 0) 23 0) 24 0) 25 0) 32 0)) := by
  generalize hX : M_openBody 0 0 (mi (mi (mi (mi (mi (mi (mi (mi S 19 0) 20 0) 21 0) 22 0) 23 0) 24 0) 25 0) 32 0) = X
  have x25 : X.1 25 = 0 := by rw [← hX]; rfl
  have x24 : X.1 24 = 0 := by rw [← hX]; rfl
  have x14 : X.1 14 = S.1 14 := by rw [← hX]; rfl
  have x19 : X.1 19 = 1 := by rw [← hX]; rfl
  have x20 : X.1 20 = 0 := by rw [← hX]; rfl
  have x23 : X.1 23 = 0 := by rw [← hX]; rfl
  have x32 : X.1 32 = 1 := by rw [← hX]; rfl
  have x13 : X.2 13 = S.2 13 := by rw [← hX]; rfl
  have x26 : X.2 26 0 = 0 := by rw [← hX]; rfl
  have x28 : X.2 28 0 = 0 := by rw [← hX]; rfl
  have x29 : X.2 29 0 = -1 := by rw [← hX]; rfl
  have x30 : X.2 30 0 = 0 := by rw [← hX]; rfl
  have x31 : X.2 31 0 = 0 := by rw [← hX]; rfl
  have x15 : X.2 15 0 = 1 := by rw [← hX]; rfl
  left
  refine ⟨x25, ⟨⟨by omega, by omega, by omega, by omega, fun j hj => ?_, fun j h1 hj => by omega, x26⟩, ⟨by rw [x13]; exact hch, by omega, by omega, by omega, by omega, fun j hj => ?_, ?_, fun r hr h6 => ?_, fun j hj => ?_⟩, by omega, ?_⟩, by omega⟩
  · rw [show j = 0 by omega, x30]; omega
  · rw [show j = 0 by omega, x26]; omega
  · rw [x32, x19]
    exact ⟨by rw [x31, x28]; omega, ⟨[], x29, fun x hx => absurd hx (by simp)⟩, True.intro⟩
  · rw [show r = 0 by omega, x15] at h6; omega
  · rw [show j = 0 by omega, x31]
    show X.2 15 0 ≠ 6
    rw [x15]; decide
  · rw [x32, x24]
    exact ⟨0, 0, by decide, by rw [x30]; omega, True.intro⟩
/-- WHAT THE REFERENCE'S READING NEEDS -/
theorem reads_OK {S : MSt} (h14 : 0 ≤ S.1 14 ∧ S.1 14 ≤ 40) (hch : ∀ j, 0 ≤ S.2 13 j ∧ S.2 13 j ≤ 126) : M_readsOK S := ⟨VRd, fun _ _ h => VRd_step h, VRd_0 h14 hch⟩
