/-- one turn of reading -/
def rdS (T : MSt) : MSt := (if (M_sign T (T.1 24)) = 124 then ((mi (M_endAlternative 1 T) 24 (((M_endAlternative 1 T).1 24) + 1))) else (if (M_sign T (T.1 24)) = 41 then (if ((if (T.1 32) = 1 then 1 else 0 : Int)) = 0 then ((M_closeBody (mi (mi T 24 ((T.1 24) + 1)) 25 ((if (T.1 32) = 1 then 1 else 0 : Int))))) else ((mi (mi T 24 ((T.1 24) + 1)) 25 ((if (T.1 32) = 1 then 1 else 0 : Int))))) else (if (M_sign T (T.1 24)) = 94 then ((mi (M_weigh 1 (M_emit 8 0 0 0 T)) 24 ((T.1 24) + 1))) else (if (M_sign T (T.1 24)) = 36 then ((mi (M_weigh 1 (M_emit 9 0 0 0 T)) 24 ((T.1 24) + 1))) else (if (M_sign T (T.1 24)) = 40 then ((M_openParenthesis T)) else ((M_atom T)))))))
theorem readsL_S {n : Nat} {T : MSt} (hb : T.1 25 = 0) (h : T.1 24 < T.1 14) : M_readsL (n + 1) T = M_readsL n (rdS T) := by
  rw [M_readsL, if_pos hb, if_neg (show ¬ T.1 14 ≤ T.1 24 by omega)]
  unfold rdS
  by_cases c1 : M_sign T (T.1 24) = 124
  · rw [if_pos c1, if_pos c1]
  rw [if_neg c1, if_neg c1]
  by_cases c2 : M_sign T (T.1 24) = 41
  · rw [if_pos c2, if_pos c2]
    by_cases c3 : (if (T.1 32) = 1 then 1 else 0 : Int) = 0
    · rw [if_pos c3, if_pos c3]
    · rw [if_neg c3, if_neg c3]
  rw [if_neg c2, if_neg c2]
  by_cases c3 : M_sign T (T.1 24) = 94
  · rw [if_pos c3, if_pos c3]
  rw [if_neg c3, if_neg c3]
  by_cases c4 : M_sign T (T.1 24) = 36
  · rw [if_pos c4, if_pos c4]
  rw [if_neg c4, if_neg c4]
  by_cases c5 : M_sign T (T.1 24) = 40
  · rw [if_pos c5, if_pos c5]
  rw [if_neg c5, if_neg c5]
theorem readsL_bad {n : Nat} {T : MSt} (hb : ¬ T.1 25 = 0) : M_readsL n T = (0, T) := by
  cases n with
  | zero => rw [M_readsL, if_neg hb]
  | succ n => rw [M_readsL, if_neg hb]
/-- what a leaf leaves, when it isn't bad -/
def LFe (T T1 : MSt) : Prop := T1.1 25 = 1 ∨ (T1.1 25 = 0 ∧ T1.1 14 = T.1 14 ∧ T1.2 13 = T.2 13 ∧ T1.1 20 = T.1 20 ∧ T1.1 32 = T.1 32 ∧ (T.1 24 < T1.1 24 ∧ T1.1 24 ≤ T.1 14) ∧ T1.2 30 = T.2 30 ∧ T1.2 26 = T.2 26)
def AEf (T T' : MSt) : Prop := T'.1 25 = 1 ∨ (T'.1 25 = 0 ∧ T'.1 14 = T.1 14 ∧ T'.2 13 = T.2 13 ∧ T'.1 20 = T.1 20 ∧ T'.1 32 = T.1 32 ∧ (T.1 24 < T'.1 24 ∧ T'.1 24 ≤ T.1 14) ∧ (∃ d, 0 ≤ d ∧ wgT T T' d) ∧ T'.2 26 = T.2 26)
theorem AE_cnt {T T1 : MSt} {a : Int} (h : LFe T T1) : AEf T (if T1.1 25 = 0 then M_count a 1 T1 else T1) := by
  rcases h with h | ⟨h0, h1, h2, h3, h4, h5, h6, h7⟩
  · rw [if_neg (by omega)]; exact Or.inl h
  · rw [if_pos h0]
    obtain ⟨f, g⟩ := cnt_eff (a := a) (w := 1) (by omega) h0 (by omega)
    rcases g with g | ⟨g0, g1, d, g2, g3⟩
    · exact Or.inl g
    · refine Or.inr ⟨g0, (f.1 14 (by decide) (by decide) (by decide) (by decide)).trans h1, (f.2 13 (by omega)).trans h2, (f.1 20 (by decide) (by decide) (by decide) (by decide)).trans h3, (f.1 32 (by decide) (by decide) (by decide) (by decide)).trans h4, by omega, ⟨d, by omega, ?_⟩, (f.2 26 (by omega)).trans h7⟩
      unfold wgT at g3 ⊢
      rw [h4, h6] at g3
      exact g3
theorem set_LF {T : MSt} (hb : T.1 25 = 0) (h1 : T.1 24 < T.1 14) (cl : T.1 14 ≤ 40) (h0 : 0 ≤ T.1 24) : LFe T (M_set T) := by
  unfold M_set
  have e1 : (mi (mi T 24 ((T.1 24) + 1)) 24 (((T.1 24) + 1) + ((if ((if (M_sign T ((T.1 24) + 1)) = 94 then 1 else 0 : Int)) = 0 then 0 else 1 : Int)))) = mi T 24 (((T.1 24) + 1) + ((if ((if (M_sign T ((T.1 24) + 1)) = 94 then 1 else 0 : Int)) = 0 then 0 else 1 : Int))) := mi_mi _ _ _ _
  rw [e1]
  have hs : (((if ((if (M_sign T ((T.1 24) + 1)) = 94 then 1 else 0 : Int)) = 0 then 0 else 1 : Int)) = 0) ∨ (((if ((if (M_sign T ((T.1 24) + 1)) = 94 then 1 else 0 : Int)) = 0 then 0 else 1 : Int)) = 1 ∧ T.1 24 + 1 < T.1 14) := by
    by_cases c : M_sign T (T.1 24 + 1) = 94
    · right
      rw [if_pos c]
      refine ⟨rfl, Int.lt_of_not_ge (fun y => ?_)⟩
      unfold M_sign at c
      rw [if_pos y] at c
      exact absurd c (by decide)
    · left; rw [if_neg c]; rfl
  generalize ((if ((if (M_sign T ((T.1 24) + 1)) = 94 then 1 else 0 : Int)) = 0 then 0 else 1 : Int)) = e at *
  have a := setL_A (if (M_sign T ((T.1 24) + 1)) = 94 then 1 else 0 : Int) (T.1 24 + 1 + e) 60 1 (mi T 24 (T.1 24 + 1 + e)) hb (Or.inr rfl)
  have a' := a (by show T.1 24 + 1 + e ≤ T.1 14; omega) (by show T.1 14 - (T.1 24 + 1 + e) < (60 : Nat); omega)
  cases hq : setA (M_sign (mi T 24 (T.1 24 + 1 + e))) 60 1 ((mi T 24 (T.1 24 + 1 + e)).1 24) with
  | none => exact Or.inl (a'.2 hq)
  | some to =>
    rw [a'.1 to hq]
    have ge := (setA_ge 60 1 _ to hq).1
    have ge' : T.1 24 + 1 + e ≤ to := ge
    exact Or.inr ⟨hb, rfl, rfl, rfl, rfl, by show T.1 24 < to + 1 ∧ to + 1 ≤ T.1 14; have := sgn_lt (T := T) (k := to) (by have e : M_sign (mi T 24 (T.1 24 + 1 + e)) = M_sign T := sign_mi T 24 _ (by decide); have := (setA_ge 60 1 _ to hq).2; rw [e] at this; omega); omega, rfl, rfl⟩
theorem esc_LF {T : MSt} (hb : T.1 25 = 0) : LFe T (M_escaped T) := by
  unfold M_escaped
  have ok : ∀ (w x y z : Int) (U : MSt), U.1 25 = 0 ∨ U.1 25 = 1 → U.1 14 = T.1 14 → U.2 13 = T.2 13 → U.1 20 = T.1 20 → U.1 32 = T.1 32 → (U.1 24 = T.1 24 + 2 ∧ (U.1 25 = 0 → ¬ M_sign T (T.1 24 + 1) = 0)) → U.2 30 = T.2 30 → U.2 26 = T.2 26 → LFe T (M_emit w x y z U) := fun w x y z U h0 h1 h2 h3 h4 h5 h6 h7 => by
    rcases h0 with h0 | h0
    · exact Or.inr ⟨h0, h1, h2, h3, h4, by show T.1 24 < U.1 24 ∧ U.1 24 ≤ T.1 14; have := sgn_lt (h5.2 h0); omega, h6, h7⟩
    · exact Or.inl h0
  have n0 : ∀ y : Int, (if (T.1 25) = 0 then (if (zb (M_isSpecial y)) = 0 then (if y = 47 then 0 else 1 : Int) else 0 : Int) else 1 : Int) = 0 → ¬ y = 0 := fun y h e => by
    subst e
    rw [if_pos hb] at h
    exact absurd h (by decide)
  have b01 : ∀ y : Int, (if (T.1 25) = 0 then (if (zb (M_isSpecial y)) = 0 then (if y = 47 then 0 else 1 : Int) else 0 : Int) else 1 : Int) = 0 ∨ (if (T.1 25) = 0 then (if (zb (M_isSpecial y)) = 0 then (if y = 47 then 0 else 1 : Int) else 0 : Int) else 1 : Int) = 1 := fun y => by (repeat' split) <;> omega
  by_cases c1 : (zb (M_isClass (M_sign T ((T.1 24) + 1)))) = 0
  · rw [if_pos c1]
    by_cases c2 : (M_sign T ((T.1 24) + 1)) < 49
    · rw [if_pos c2]
      exact ok _ _ _ _ _ (b01 _) rfl rfl rfl rfl ⟨rfl, n0 _⟩ rfl rfl
    · rw [if_neg c2]
      by_cases c3 : 57 < (M_sign T ((T.1 24) + 1))
      · rw [if_pos c3]
        exact ok _ _ _ _ _ (b01 _) rfl rfl rfl rfl ⟨rfl, n0 _⟩ rfl rfl
      · rw [if_neg c3]
        exact ok _ _ _ _ _ (Or.inl hb) rfl rfl rfl rfl ⟨rfl, fun _ => by omega⟩ rfl rfl
  · rw [if_neg c1]
    refine ok _ _ _ _ _ (Or.inl hb) rfl rfl rfl rfl ⟨rfl, fun _ y => ?_⟩ rfl rfl
    rw [y] at c1
    exact absurd rfl c1
theorem LFe_emit {T T1 : MSt} {w x y z : Int} (h : LFe (M_emit w x y z T) T1) : LFe T T1 := h
theorem atom_eff {T : MSt} (hb : T.1 25 = 0) (h1 : T.1 24 < T.1 14) (cl : T.1 14 ≤ 40) (h0 : 0 ≤ T.1 24) : AEf T (M_atom T) := by
  unfold M_atom
  by_cases c1 : M_sign T (T.1 24) = 91
  · rw [if_pos c1]
    exact AE_cnt (LFe_emit (set_LF (T := M_emit 17 0 (T.1 20) 0 T) hb h1 cl h0))
  rw [if_neg c1]
  by_cases c2 : M_sign T (T.1 24) = 92
  · rw [if_pos c2]
    exact AE_cnt (LFe_emit (esc_LF (T := M_emit 17 0 (T.1 20) 0 T) hb))
  rw [if_neg c2]
  by_cases c3 : M_sign T (T.1 24) = 46
  · rw [if_pos c3]
    have l : LFe T (mi (M_emit 4 0 0 0 (M_emit 17 0 (T.1 20) 0 T)) 24 (T.1 24 + 1)) := Or.inr ⟨hb, rfl, rfl, rfl, rfl, by show T.1 24 < T.1 24 + 1 ∧ T.1 24 + 1 ≤ T.1 14; omega, rfl, rfl⟩
    exact AE_cnt l
  rw [if_neg c3]
  have b01 : (if (T.1 25) = 0 then (if (zb (M_isSpecial (M_sign T (T.1 24)))) = 0 then 0 else 1 : Int) else 1 : Int) = 0 ∨ (if (T.1 25) = 0 then (if (zb (M_isSpecial (M_sign T (T.1 24)))) = 0 then 0 else 1 : Int) else 1 : Int) = 1 := by (repeat' split) <;> omega
  generalize (if (T.1 25) = 0 then (if (zb (M_isSpecial (M_sign T (T.1 24)))) = 0 then 0 else 1 : Int) else 1 : Int) = bd at *
  have l : LFe T (mi (M_emit 3 (M_sign T (T.1 24)) 0 0 (mi (M_emit 17 0 (T.1 20) 0 T) 25 bd)) 24 (T.1 24 + 1)) := by
    rcases b01 with e | e
    · exact Or.inr ⟨e, rfl, rfl, rfl, rfl, by show T.1 24 < T.1 24 + 1 ∧ T.1 24 + 1 ≤ T.1 14; omega, rfl, rfl⟩
    · exact Or.inl e
  exact AE_cnt l
