/-- what stays in bounds while the class reads, also where it throws -/
def rQ (S : CSt) : Prop := ((0 ≤ S.1 8 5 ∧ S.1 8 5 ≤ 9) ∧ (0 ≤ S.1 8 6 ∧ (S.1 8 6 ≤ 9 ∨ S.1 8 6 = 1000000)) ∧ (S.1 8 7 = 0 ∨ S.1 8 7 = 1)) ∧ (∀ j, S.1 27 j ≤ 1000) ∧ (∀ j, 0 ≤ S.1 33 j) ∧ (∀ j, S.1 34 j ≤ 9) ∧ (0 ≤ S.1 7 12 ∧ S.1 7 12 ≤ 9) ∧ S.1 7 5 ≤ 96
theorem rQ_1 {S S' : CSt} (e : S'.1 = S.1) (h : rQ S) : rQ S' := by
  unfold rQ
  rw [e]
  exact h
theorem rQ_83 {S : CSt} {v : Int} (h : rQ S) : rQ (ci S 8 3 v) := h
theorem rQ_84 {S : CSt} {v : Int} (h : rQ S) : rQ (ci S 8 4 v) := h
theorem rQ_85 {S : CSt} {v : Int} (h : rQ S) (h0 : 0 ≤ v) (h1 : v ≤ 9) : rQ (ci S 8 5 v) := ⟨⟨⟨h0, h1⟩, h.1.2⟩, h.2⟩
theorem rQ_86 {S : CSt} {v : Int} (h : rQ S) (h0 : 0 ≤ v) (h1 : v ≤ 9 ∨ v = 1000000) : rQ (ci S 8 6 v) := ⟨⟨h.1.1, ⟨h0, h1⟩, h.1.2.2⟩, h.2⟩
theorem rQ_87 {S : CSt} {v : Int} (h : rQ S) (h1 : v = 0 ∨ v = 1) : rQ (ci S 8 7 v) := ⟨⟨h.1.1, h.1.2.1, h1⟩, h.2⟩
theorem rQ_27 {S : CSt} {i : Nat} {v : Int} (h : rQ S) (h1 : v ≤ 1000) : rQ (ci S 27 i v) := by
  obtain ⟨a, b, c⟩ := h
  refine ⟨a, fun j => ?_, c⟩
  show zu (S.1 27) i v j ≤ 1000
  by_cases e : j = i
  · rw [e, zu_eq]; exact h1
  · rw [zu_ne e]; exact b j
theorem Q_bd {r : CR} {k : Int → CSt → CR} (h : rQ r.2.2) (hk : r.1 = 0 → rQ (k r.2.1 r.2.2).2.2) : rQ (gBd r k).2.2 := by
  by_cases c : r.1 = 0
  · have e : gBd r k = k r.2.1 r.2.2 := if_pos c
    rw [e]; exact hk c
  · have e : gBd r k = (1, 0, r.2.2) := if_neg c
    rw [e]; exact h
theorem Q_go {r : CR} {k : Int → CSt → CR} (h : rQ r.2.2) (hk : ∀ v S', rQ S' → rQ (k v S').2.2) : rQ (gBd r k).2.2 := Q_bd h (fun _ => hk _ _ h)
theorem Q_take {x : Int} {S : CSt} {k : Int → CSt → CR} (h : rQ S) (hk : ∀ v S', (v = 0 ∨ v = 1) → rQ S' → rQ (k v S').2.2) : rQ (gLt (K3_take x S) k).2.2 := by
  show rQ (k (K3_take x S).1 (K3_take x S).2).2.2
  unfold K3_take
  by_cases c : K4_at 2 (S.1 8 3) S = x
  · rw [if_pos c]; exact hk _ _ (Or.inr rfl) (rQ_83 h)
  · rw [if_neg c]; exact hk _ _ (Or.inl rfl) h
theorem Q_opn {x : Int} {S : CSt} {k : Int → CSt → CR} (h : rQ S) (hk : ∀ v S', (v = 0 ∨ v = 1) → rQ S' → rQ (k v S').2.2) : rQ (gLt (K3_takeOpening x S) k).2.2 := by
  show rQ (k (K3_takeOpening x S).1 (K3_takeOpening x S).2).2.2
  unfold K3_takeOpening
  by_cases c : K4_at 2 (S.1 8 3) S = 40
  · rw [if_pos c]
    by_cases c2 : K4_at 2 (S.1 8 3 + 1) S = 63
    · rw [if_pos c2]
      by_cases c3 : K4_at 2 (S.1 8 3 + 2) S = x
      · rw [if_pos c3]; exact hk _ _ (Or.inr rfl) (rQ_83 h)
      · rw [if_neg c3]; exact hk _ _ (Or.inl rfl) h
    · rw [if_neg c2]; exact hk _ _ (Or.inl rfl) h
  · rw [if_neg c]; exact hk _ _ (Or.inl rfl) h
theorem Q_addS {kd am nb : Int} {S : CSt} (h : rQ S) (ha : am ≤ 1000) (h96 : S.1 7 5 < 96) : rQ (ci (ci (ci (ci S 26 (S.1 7 5).toNat kd) 27 (S.1 7 5).toNat am) 28 (S.1 7 5).toNat nb) 7 5 (S.1 7 5 + 1)) := by
  obtain ⟨a, b, c, d, e, f⟩ := h
  refine ⟨a, fun j => ?_, c, d, e, by show S.1 7 5 + 1 ≤ 96; omega⟩
  show zu (S.1 27) (S.1 7 5).toNat am j ≤ 1000
  by_cases g : j = (S.1 7 5).toNat
  · rw [g, zu_eq]; exact ha
  · rw [zu_ne g]; exact b j
theorem Q_add {kd am nb : Int} {S : CSt} {k : Int → CSt → CR} (h : rQ S) (ha : am ≤ 1000) (hk : ∀ v S', v ≤ 96 → rQ S' → rQ (k v S').2.2) : rQ (gBd (K2_add kd am nb S) k).2.2 := by
  unfold K2_add
  by_cases c : S.1 7 5 < 0
  · rw [if_pos c]; exact h
  · rw [if_neg c]
    by_cases c2 : S.1 7 5 < 96
    · rw [if_pos c2]
      exact hk _ _ (by show S.1 7 5 + 1 - 1 ≤ 96; omega) (Q_addS h ha c2)
    · rw [if_neg c2]; exact h
theorem Q_add0 {kd am nb : Int} {S : CSt} (h : rQ S) (ha : am ≤ 1000) : rQ (K2_add kd am nb S).2.2 := by
  unfold K2_add
  by_cases c : S.1 7 5 < 0
  · rw [if_pos c]; exact h
  · rw [if_neg c]
    by_cases c2 : S.1 7 5 < 96
    · rw [if_pos c2]; exact Q_addS h ha c2
    · rw [if_neg c2]; exact h
theorem Q_aim {i am : Int} {S : CSt} (h : rQ S) (ha : am ≤ 1000) : rQ (K2_aimAt 7 i am S) := by
  unfold K2_aimAt
  by_cases c : K2_isInstruction 7 i S = 0
  · rw [if_pos c]; exact h
  · rw [if_neg c]; exact rQ_27 h ha
theorem Q_chL {am : Int} (ha : am ≤ 1000) : ∀ (n : Nat) (j i : Int) (S : CSt), rQ S → rQ (K2_aimChainL 7 am n j i S)
  | 0, j, i, S, h => by rw [K2_aimChainL]; exact h
  | n + 1, j, i, S, h => by
    rw [K2_aimChainL]
    by_cases c : 96 ≤ i
    · rw [if_pos c]; exact h
    · rw [if_neg c]
      by_cases c2 : j = -1
      · rw [if_pos c2]; exact h
      · rw [if_neg c2]; exact Q_chL ha n _ _ _ (Q_aim h ha)
theorem Q_one {S : CSt} (h : rQ S) : rQ (K2_addOneSign S).2.2 := by
  have a := Q_add0 (kd := 1) (am := -1) (nb := -1) h (by decide)
  unfold K2_addOneSign
  by_cases c : (K2_add 1 (-1) (-1) S).1 = 0
  · rw [if_pos c]
    by_cases c2 : (K2_isInstruction 7 ((K2_add 1 (-1) (-1) S).2.1) (K2_add 1 (-1) (-1) S).2.2) = 0
    · rw [if_pos c2]; exact a
    · rw [if_neg c2]; exact rQ_1 rfl a
  · rw [if_neg c]; exact a
theorem Q_sign {tu : Int} {S : CSt} (h : rQ S) : rQ (K3_addOneSign tu S).2.2 := by
  have h1 : rQ (K5_turnRound S) := rQ_1 K5_turnRound_1 h
  have h2 : rQ (K5_addSameLetters S) := rQ_1 K5_addSameLetters_1 h
  have h3 : rQ (K5_turnRound (K5_addSameLetters S)) := rQ_1 K5_turnRound_1 h2
  have key : ∀ U : CSt, rQ U → rQ (if (K2_addOneSign U).1 = 0 then ((0, 1, (K2_addOneSign U).2.2) : CR) else (1, 0, (K2_addOneSign U).2.2)).2.2 := fun U hU => by
    by_cases c : (K2_addOneSign U).1 = 0
    · rw [if_pos c]; exact Q_one hU
    · rw [if_neg c]; exact Q_one hU
  unfold K3_addOneSign
  by_cases c : K2_has 7 4 S = 0
  · rw [if_pos c]
    by_cases c2 : tu = 0
    · rw [if_pos c2]; exact key _ h
    · rw [if_neg c2]; exact key _ h1
  · rw [if_neg c]
    by_cases c2 : tu = 0
    · rw [if_pos c2]; exact key _ h2
    · rw [if_neg c2]; exact key _ h3
theorem Q_digit {S : CSt} (h : rQ S) : rQ (K3_readDigit S).2.2 ∧ ((K3_readDigit S).1 = 0 → 0 ≤ (K3_readDigit S).2.1 ∧ (K3_readDigit S).2.1 ≤ 9) := by
  unfold K3_readDigit
  by_cases c : K4_at 2 (S.1 8 3) S < 48
  · rw [if_pos c]; exact ⟨h, fun y => absurd y i10⟩
  · rw [if_neg c]
    by_cases c2 : K4_at 2 (S.1 8 3) S ≤ 57
    · rw [if_pos c2]; exact ⟨rQ_83 h, fun _ => ⟨by show 0 ≤ K4_at 2 (S.1 8 3) S - 48; omega, by show K4_at 2 (S.1 8 3) S - 48 ≤ 9; omega⟩⟩
    · rw [if_neg c2]; exact ⟨h, fun y => absurd y i10⟩
theorem Q_if {c : Prop} [Decidable c] {a b : CR} (ha : rQ a.2.2) (hb : rQ b.2.2) : rQ (if c then a else b).2.2 := by
  by_cases y : c
  · rw [if_pos y]; exact ha
  · rw [if_neg y]; exact hb
theorem Q_braces {S : CSt} (h : rQ S) : rQ (K3_readBraces S).2.2 := by
  unfold K3_readBraces
  have fin : ∀ U : CSt, rQ U → rQ (gLt (K3_take 125 U) (fun v_16 S_17 => (if v_16 = 0 then (1, 0, S_17) else (if (S_17.1 8 5) ≤ (S_17.1 8 6) then (0, 0, S_17) else (1, 0, S_17))))).2.2 := fun U hU => Q_take hU (fun v S' _ h' => Q_if h' (Q_if h' h'))
  refine Q_bd (Q_digit h).1 (fun c => ?_)
  obtain ⟨d1, d2⟩ := (Q_digit h).2 c
  refine Q_take (rQ_86 (rQ_85 (Q_digit h).1 d1 d2) d1 (Or.inl d2)) (fun v S' _ h' => Q_if (fin _ h') (Q_if (fin _ (rQ_86 h' (by decide) (Or.inr rfl))) (Q_bd (Q_digit h').1 (fun c2 => ?_))))
  obtain ⟨e1, e2⟩ := (Q_digit h').2 c2
  exact fin _ (rQ_86 (Q_digit h').1 e1 (Or.inl e2))
theorem Q_count {S : CSt} (h : rQ S) : rQ (K3_readCount S).2.2 := by
  unfold K3_readCount
  have fin : ∀ U : CSt, rQ U → rQ (gLt (K3_take 63 U) (fun v_36 S_37 => (0, 1, (ci S_37 8 7 v_36)))).2.2 := fun U hU => Q_take hU (fun v S' hv h' => rQ_87 h' hv)
  exact Q_take h (fun _ _ _ h1 => Q_if (Q_take h1 (fun _ _ _ h2 => Q_if (Q_take h2 (fun _ _ _ h3 => Q_if (Q_take h3 (fun _ _ _ h4 => Q_if h4 (Q_go (Q_braces h4) (fun _ _ h5 => fin _ h5)))) (fin _ (rQ_86 (rQ_85 h3 (by decide) (by decide)) (by decide) (Or.inl (by decide)))))) (fin _ (rQ_86 (rQ_85 h2 (by decide) (by decide)) (by decide) (Or.inr rfl))))) (fin _ (rQ_86 (rQ_85 h1 (by decide) (by decide)) (by decide) (Or.inr rfl))))
theorem Q_esc {S : CSt} (h : rQ S) : rQ (K3_readEscaped S).2.2 := by
  unfold K3_readEscaped
  have s1 : ∀ v w : Int, rQ (gBd (K3_addOneSign 0 (K5_add v (ci S 8 3 w))) (fun v_17 S_18 => (0, v_17, S_18))).2.2 := fun v w => Q_go (Q_sign (rQ_1 K5_add_1 (rQ_83 h))) (fun _ _ h' => h')
  have s2 : ∀ v w : Int, rQ (gBd (K3_addOneSign 0 (K5_addKind v (ci S 8 3 w))) (fun v_17 S_18 => (0, v_17, S_18))).2.2 := fun v w => Q_go (Q_sign (rQ_1 K5_addKind_1 (rQ_83 h))) (fun _ _ h' => h')
  exact Q_if (Q_if (Q_if (s1 _ _) (Q_if (rQ_83 h) (s1 _ _))) (s2 _ _)) (Q_if (Q_if (Q_if (s1 _ _) (Q_if (rQ_83 h) (s1 _ _))) (s2 _ _)) (Q_add (rQ_84 (rQ_83 h)) (by decide) (fun _ _ _ h' => h')))
theorem Q_mark {S : CSt} (h : rQ S) : rQ (K3_readMark S).2.2 := by
  unfold K3_readMark
  have a1 : ∀ v : Int, rQ (K5_add v (ci S 8 3 (S.1 8 3 + 1))) := fun v => rQ_1 K5_add_1 (rQ_83 h)
  have a2 : ∀ v : Int, rQ (K5_add v (ci (ci S 8 3 ((S.1 8 3) + 1)) 8 3 (((S.1 8 3) + 1) + 1))) := fun v => rQ_1 K5_add_1 (rQ_83 (rQ_83 h))
  have a3 : ∀ v : Int, rQ (K5_addKind v (ci (ci S 8 3 ((S.1 8 3) + 1)) 8 3 (((S.1 8 3) + 1) + 1))) := fun v => rQ_1 K5_addKind_1 (rQ_83 (rQ_83 h))
  exact Q_if (rQ_83 h) (Q_if (Q_if (Q_if (a2 _) (Q_if (a2 _) (Q_if (a2 _) (rQ_83 (rQ_83 h))))) (a3 _)) (a1 _))
theorem Q_member {dx : Int} {S : CSt} (h : rQ S) : rQ (K3_readMember dx S).2.2 := by
  unfold K3_readMember
  have key : ∀ U : CSt, rQ U → rQ (gBd (K3_readMark U) (fun v_4 S_5 => (if ((K4_at 2 (S_5.1 8 3) S_5)) = 45 then (if ((K4_at 2 ((S_5.1 8 3) + 1) S_5)) = 93 then (0, 0, S_5) else (gBd (K3_readMark (ci S_5 8 3 ((S_5.1 8 3) + 1))) (fun v_20 S_21 => (if v_4 = (-1) then (1, 0, S_21) else (if v_20 = (-1) then (1, 0, S_21) else (if v_4 ≤ v_20 then (0, 1, (K5_addRange v_4 v_20 S_21)) else (1, 0, S_21))))))) else (0, 0, S_5)))).2.2 := fun U hU => Q_go (Q_mark hU) (fun _ _ h1 => Q_if (Q_if h1 (Q_go (Q_mark (rQ_83 h1)) (fun _ _ h2 => Q_if h2 (Q_if h2 (Q_if (rQ_1 K5_addRange_1 h2) h2))))) h1)
  exact Q_if (key _ h) (Q_take h (fun _ _ _ h1 => Q_if (key _ h1) (rQ_1 K5_add_1 h1)))
theorem Q_setL {tu : Int} : ∀ (n : Nat) (dx i : Int) (S : CSt), rQ S → rQ (K3_setL tu n dx i S).2.2
  | 0, dx, i, S, h => by rw [K3_setL]; exact Q_go (Q_sign h) (fun _ _ h' => h')
  | n + 1, dx, i, S, h => by
    rw [K3_setL]
    exact Q_if (Q_go (Q_sign h) (fun _ _ h' => h')) (Q_take h (fun _ _ _ h1 => Q_if (Q_go (Q_member h1) (fun _ _ h2 => Q_setL n _ _ _ h2)) (Q_go (Q_sign h1) (fun _ _ h' => h'))))
def QF (F : Int → CSt → CR) : Prop := ∀ dp S, rQ S → rQ (F dp S).2.2
theorem Q_inside {F : Int → CSt → CR} {dp : Int} {S : CSt} (hF : QF F) (h : rQ S) : rQ (K3_readInside F dp S).2.2 := by
  unfold K3_readInside
  exact Q_if (Q_go (hF _ _ h) (fun _ _ h1 => Q_take h1 (fun _ _ _ h2 => Q_if h2 h2))) h
theorem Q_group {F : Int → CSt → CR} {dp : Int} {S : CSt} (hF : QF F) (h : rQ S) : rQ (K3_readGroup F dp S).2.2 := by
  unfold K3_readGroup
  have g : rQ (K2_addGroup S).2.2 := by
    unfold K2_addGroup
    by_cases c : S.1 7 12 < 9
    · rw [if_pos c]
      exact ⟨h.1, h.2.1, h.2.2.1, h.2.2.2.1, ⟨by show 0 ≤ S.1 7 12 + 1; have := h.2.2.2.2.1; omega, by show S.1 7 12 + 1 ≤ 9; omega⟩, h.2.2.2.2.2⟩
    · rw [if_neg c]; exact h
  exact Q_go g (fun _ _ h1 => Q_add h1 (by decide) (fun _ _ _ h2 => Q_go (Q_inside hF h2) (fun _ _ h3 => Q_add h3 (by decide) (fun _ _ _ h4 => h4))))
theorem Q_any {S : CSt} (h : rQ S) : rQ (K3_addAnySign S) := by
  unfold K3_addAnySign
  by_cases c : K2_has 7 2 S = 0
  · rw [if_pos c]; exact rQ_1 K5_addRange_1 h
  · rw [if_neg c]; exact rQ_1 K5_addRange_1 (rQ_1 K5_addRange_1 h)
theorem Q_atom {F : Int → CSt → CR} {dp : Int} {S : CSt} (hF : QF F) (h : rQ S) : rQ (K3_readAtom F dp S).2.2 := by
  unfold K3_readAtom
  have id1 : ∀ {r : CR}, rQ r.2.2 → rQ (gBd r (fun v S => (0, v, S))).2.2 := fun hr => Q_go hr (fun _ _ h' => h')
  exact Q_opn h (fun _ _ _ h1 => Q_if (Q_take h1 (fun _ _ _ h2 => Q_if (Q_take (rQ_1 (S' := cj (cj _ 9 0 0) 9 1 0) rfl h2) (fun _ _ _ h3 => Q_if (Q_take h3 (fun _ _ _ h4 => Q_if (Q_take h4 (fun _ _ _ h5 => Q_if (Q_if (id1 (Q_sign (rQ_1 K5_add_1 (rQ_83 h5)))) h5) (id1 (Q_sign (Q_any h5))))) (id1 (Q_take h4 (fun _ _ _ h6 => Q_setL _ _ _ _ h6))))) (id1 (Q_esc h3)))) (id1 (Q_group hF h2)))) (id1 (Q_inside hF h1)))
theorem Q_loop {ls ms fg : Int} {S : CSt} (h : rQ S) (hf : 0 ≤ fg) : rQ (K2_addLoop ls ms fg S).2.2 := by
  unfold K2_addLoop
  by_cases c : S.1 7 10 < 0
  · rw [if_pos c]; exact h
  · rw [if_neg c]
    by_cases c2 : S.1 7 10 < 20
    · rw [if_pos c2]
      obtain ⟨a, b, d, e, f, g⟩ := h
      refine ⟨a, b, fun j => ?_, fun j => ?_, f, g⟩
      · show 0 ≤ zu (S.1 33) (S.1 7 10).toNat fg j
        by_cases y : j = (S.1 7 10).toNat
        · rw [y, zu_eq]; exact hf
        · rw [zu_ne y]; exact d j
      · show zu (S.1 34) (S.1 7 10).toNat (S.1 7 12) j ≤ 9
        by_cases y : j = (S.1 7 10).toNat
        · rw [y, zu_eq]; exact f.2
        · rw [zu_ne y]; exact e j
    · rw [if_neg c2]; exact h
theorem Q_cw {w : Int} {S : CSt} (h : rQ S) : rQ (K3_checkWeight w S).2.2 := by
  unfold K3_checkWeight
  exact Q_if h h
theorem Q_counted {F : Int → CSt → CR} {dp : Int} {S : CSt} (hF : QF F) (h : rQ S) : rQ (K3_readCountedAtom F dp S).2.2 := by
  unfold K3_readCountedAtom
  have g := h.2.2.2.2.1
  exact Q_add h (by decide) (fun _ _ hv h1 => Q_go (Q_atom hF h1) (fun _ _ h2 => Q_go (Q_count h2) (fun _ _ h3 => Q_if h3 (Q_go (Q_loop h3 (by omega)) (fun _ _ h4 => Q_add h4 (by decide) (fun _ _ hw h5 => Q_add h5 (by omega) (fun _ _ _ h6 => Q_if (Q_aim h6 (by omega)) (Q_cw (Q_aim h6 (by omega))))))))))
theorem Q_look {F : Int → CSt → CR} {bk ek dp : Int} {S : CSt} (hF : QF F) (h : rQ S) : rQ (K3_readLook F bk ek dp S).2.2 := by
  unfold K3_readLook
  have g : rQ (K2_addLook S).2.2 := by
    unfold K2_addLook
    by_cases c : S.1 7 11 < 10
    · rw [if_pos c]; exact h
    · rw [if_neg c]; exact h
  exact Q_go g (fun _ _ h1 => Q_add h1 (by decide) (fun _ _ _ h2 => Q_go (Q_inside hF h2) (fun _ _ h3 => Q_add h3 (by decide) (fun _ _ _ h4 => Q_aim h4 (by have := h4.2.2.2.2.2; omega)))))
theorem Q_term {F : Int → CSt → CR} {dp : Int} {S : CSt} (hF : QF F) (h : rQ S) : rQ (K3_readTerm F dp S).2.2 := by
  unfold K3_readTerm
  have id1 : ∀ {r : CR}, rQ r.2.2 → rQ (gBd r (fun v S => (0, v, S))).2.2 := fun hr => Q_go hr (fun _ _ h' => h')
  exact Q_take h (fun _ _ _ h1 => Q_if (Q_take h1 (fun _ _ _ h2 => Q_if (Q_opn h2 (fun _ _ _ h3 => Q_if (Q_opn h3 (fun _ _ _ h4 => Q_if (id1 (Q_counted hF h4)) (id1 (Q_look hF h4)))) (id1 (Q_look hF h3)))) (Q_add h2 (by decide) (fun _ _ _ h' => h')))) (Q_add h1 (by decide) (fun _ _ _ h' => h')))
theorem Q_rowL {F : Int → CSt → CR} {dp : Int} (hF : QF F) : ∀ (n : Nat) (wt i : Int) (S : CSt), rQ S → rQ (K3_rowL F dp n wt i S).2.2
  | 0, wt, i, S, h => by rw [K3_rowL]; exact h
  | n + 1, wt, i, S, h => by
    rw [K3_rowL]
    exact Q_if h (Q_if h (Q_go (Q_term hF h) (fun _ _ h1 => Q_rowL hF n _ _ _ h1)))
theorem Q_altL {F : Int → CSt → CR} {dp : Int} (hF : QF F) : ∀ (n : Nat) (bg wt j i : Int) (S : CSt), rQ S → j ≤ 96 → rQ (K3_altL F dp n bg wt j i S).2.2
  | 0, bg, wt, j, i, S, h, hj => by rw [K3_altL]; exact Q_chL (by have := h.2.2.2.2.2; omega) _ _ _ _ h
  | n + 1, bg, wt, j, i, S, h, hj => by
    rw [K3_altL]
    refine Q_if (Q_chL (by have := h.2.2.2.2.2; omega) _ _ _ _ h) (Q_take h (fun _ _ _ h1 => Q_if (Q_chL (by have := h1.2.2.2.2.2; omega) _ _ _ _ h1) (Q_add h1 (by omega) (fun _ _ hv h2 => Q_add h2 (by decide) (fun _ _ hw h3 => Q_go (Q_rowL hF _ _ _ _ (Q_aim h3 (by omega))) (fun _ _ h4 => Q_altL hF n _ _ _ _ _ h4 hv))))))
theorem Q_al : ∀ n : Nat, QF (K3_al n)
  | 0 => fun dp S h => by rw [K3_al]; exact h
  | n + 1 => fun dp S h => by
    rw [K3_al]
    unfold K3_readAlternatives
    exact Q_add h (by decide) (fun _ _ _ h1 => Q_go (Q_rowL (Q_al n) _ _ _ _ h1) (fun _ _ h2 => Q_altL (Q_al n) _ _ _ _ _ _ h2 (by decide)))
theorem Q_read {fl : Int} {S : CSt} (h : rQ S) : rQ (K3_read fl S).2.2 := by
  rw [K3_read_eq]
  have h0 : rQ (K3_r0 fl S) := ⟨h.1, h.2.1, h.2.2.1, h.2.2.2.1, ⟨by show (0 : Int) ≤ 0; decide, by show (0 : Int) ≤ 9; decide⟩, by show (0 : Int) ≤ 96; decide⟩
  exact Q_go (Q_al 9 _ _ h0) (fun _ _ h1 => Q_if (Q_if (Q_if (Q_add h1 (by decide) (fun _ _ _ h' => h')) (Q_cw h1)) h1) h1)
