/-- groups' numbers in the class's program stay below the number of groups, which is at least m -/
def rG (m : Int) (S : CSt) : Prop := (∀ j : Nat, (j : Int) < S.1 7 5 → S.1 26 j = 8 → S.1 28 j ≤ S.1 7 12) ∧ m ≤ S.1 7 12
theorem rG_1 {m : Int} {S S' : CSt} (e : S'.1 = S.1) (h : rG m S) : rG m S' := by
  unfold rG
  rw [e]
  exact h
theorem rG_8 {m : Int} {S : CSt} {k : Nat} {v : Int} (h : rG m S) : rG m (ci S 8 k v) := h
theorem rG_27 {m : Int} {S : CSt} {i : Nat} {v : Int} (h : rG m S) : rG m (ci S 27 i v) := h
theorem rG_le {m m' : Int} {S : CSt} (h : rG m S) (hm : m' ≤ m) : rG m' S := ⟨h.1, by have := h.2; omega⟩
theorem G_bd {m : Int} {r : CR} {k : Int → CSt → CR} (h : rG m r.2.2) (hk : r.1 = 0 → rG m (k r.2.1 r.2.2).2.2) : rG m (gBd r k).2.2 := by
  by_cases c : r.1 = 0
  · have e : gBd r k = k r.2.1 r.2.2 := if_pos c
    rw [e]; exact hk c
  · have e : gBd r k = (1, 0, r.2.2) := if_neg c
    rw [e]; exact h
theorem G_go {m : Int} {r : CR} {k : Int → CSt → CR} (h : rG m r.2.2) (hk : ∀ v S', rG m S' → rG m (k v S').2.2) : rG m (gBd r k).2.2 := G_bd h (fun _ => hk _ _ h)
theorem G_take {m : Int} {x : Int} {S : CSt} {k : Int → CSt → CR} (h : rG m S) (hk : ∀ v S', (v = 0 ∨ v = 1) → rG m S' → rG m (k v S').2.2) : rG m (gLt (K3_take x S) k).2.2 := by
  show rG m (k (K3_take x S).1 (K3_take x S).2).2.2
  unfold K3_take
  by_cases c : K4_at 2 (S.1 8 3) S = x
  · rw [if_pos c]; exact hk _ _ (Or.inr rfl) (rG_8 h)
  · rw [if_neg c]; exact hk _ _ (Or.inl rfl) h
theorem G_opn {m : Int} {x : Int} {S : CSt} {k : Int → CSt → CR} (h : rG m S) (hk : ∀ v S', (v = 0 ∨ v = 1) → rG m S' → rG m (k v S').2.2) : rG m (gLt (K3_takeOpening x S) k).2.2 := by
  show rG m (k (K3_takeOpening x S).1 (K3_takeOpening x S).2).2.2
  unfold K3_takeOpening
  by_cases c : K4_at 2 (S.1 8 3) S = 40
  · rw [if_pos c]
    by_cases c2 : K4_at 2 (S.1 8 3 + 1) S = 63
    · rw [if_pos c2]
      by_cases c3 : K4_at 2 (S.1 8 3 + 2) S = x
      · rw [if_pos c3]; exact hk _ _ (Or.inr rfl) (rG_8 h)
      · rw [if_neg c3]; exact hk _ _ (Or.inl rfl) h
    · rw [if_neg c2]; exact hk _ _ (Or.inl rfl) h
  · rw [if_neg c]; exact hk _ _ (Or.inl rfl) h
theorem G_addS {m kd am nb : Int} {S : CSt} (h : rG m S) (ha : kd ≠ 8 ∨ nb ≤ S.1 7 12) (h0 : 0 ≤ S.1 7 5) : rG m (ci (ci (ci (ci S 26 (S.1 7 5).toNat kd) 27 (S.1 7 5).toNat am) 28 (S.1 7 5).toNat nb) 7 5 (S.1 7 5 + 1)) := by
  obtain ⟨a, b⟩ := h
  refine ⟨fun j hj h8 => ?_, b⟩
  have hj' : (j : Int) < S.1 7 5 + 1 := hj
  have h8' : zu (S.1 26) (S.1 7 5).toNat kd j = 8 := h8
  show zu (S.1 28) (S.1 7 5).toNat nb j ≤ S.1 7 12
  by_cases g : j = (S.1 7 5).toNat
  · rw [g, zu_eq] at h8'
    rw [g, zu_eq]
    rcases ha with y | y
    · exact absurd h8' y
    · exact y
  · rw [zu_ne g] at h8' ⊢
    exact a j (by omega) h8'
theorem G_add {m kd am nb : Int} {S : CSt} {k : Int → CSt → CR} (h : rG m S) (ha : kd ≠ 8 ∨ nb ≤ S.1 7 12) (hk : ∀ v S', rG m S' → rG m (k v S').2.2) : rG m (gBd (K2_add kd am nb S) k).2.2 := by
  unfold K2_add
  by_cases c : S.1 7 5 < 0
  · rw [if_pos c]; exact h
  · rw [if_neg c]
    by_cases c2 : S.1 7 5 < 96
    · rw [if_pos c2]
      exact hk _ _ (G_addS h ha (by omega))
    · rw [if_neg c2]; exact h
theorem G_add0 {m kd am nb : Int} {S : CSt} (h : rG m S) (ha : kd ≠ 8 ∨ nb ≤ S.1 7 12) : rG m (K2_add kd am nb S).2.2 := by
  unfold K2_add
  by_cases c : S.1 7 5 < 0
  · rw [if_pos c]; exact h
  · rw [if_neg c]
    by_cases c2 : S.1 7 5 < 96
    · rw [if_pos c2]; exact G_addS h ha (by omega)
    · rw [if_neg c2]; exact h
theorem G_aim {m i am : Int} {S : CSt} (h : rG m S) : rG m (K2_aimAt 7 i am S) := by
  unfold K2_aimAt
  by_cases c : K2_isInstruction 7 i S = 0
  · rw [if_pos c]; exact h
  · rw [if_neg c]; exact rG_27 h
theorem G_chL {m am : Int} : ∀ (n : Nat) (j i : Int) (S : CSt), rG m S → rG m (K2_aimChainL 7 am n j i S)
  | 0, j, i, S, h => by rw [K2_aimChainL]; exact h
  | n + 1, j, i, S, h => by
    rw [K2_aimChainL]
    by_cases c : 96 ≤ i
    · rw [if_pos c]; exact h
    · rw [if_neg c]
      by_cases c2 : j = -1
      · rw [if_pos c2]; exact h
      · rw [if_neg c2]; exact G_chL n _ _ _ (G_aim h)
theorem G_one {m : Int} {S : CSt} (h : rG m S) : rG m (K2_addOneSign S).2.2 := by
  have a := G_add0 (kd := 1) (am := -1) (nb := -1) h (Or.inl (by decide))
  unfold K2_addOneSign
  by_cases c : (K2_add 1 (-1) (-1) S).1 = 0
  · rw [if_pos c]
    by_cases c2 : (K2_isInstruction 7 ((K2_add 1 (-1) (-1) S).2.1) (K2_add 1 (-1) (-1) S).2.2) = 0
    · rw [if_pos c2]; exact a
    · rw [if_neg c2]; exact rG_1 rfl a
  · rw [if_neg c]; exact a
theorem G_sign {m : Int} {tu : Int} {S : CSt} (h : rG m S) : rG m (K3_addOneSign tu S).2.2 := by
  have h1 : rG m (K5_turnRound S) := rG_1 K5_turnRound_1 h
  have h2 : rG m (K5_addSameLetters S) := rG_1 K5_addSameLetters_1 h
  have h3 : rG m (K5_turnRound (K5_addSameLetters S)) := rG_1 K5_turnRound_1 h2
  have key : ∀ U : CSt, rG m U → rG m (if (K2_addOneSign U).1 = 0 then ((0, 1, (K2_addOneSign U).2.2) : CR) else (1, 0, (K2_addOneSign U).2.2)).2.2 := fun U hU => by
    by_cases c : (K2_addOneSign U).1 = 0
    · rw [if_pos c]; exact G_one hU
    · rw [if_neg c]; exact G_one hU
  unfold K3_addOneSign
  by_cases c : K2_has 7 4 S = 0
  · rw [if_pos c]
    by_cases c2 : tu = 0
    · rw [if_pos c2]; exact key _ h
    · rw [if_neg c2]; exact key _ h1
  · rw [if_neg c]
    by_cases c2 : tu = 0
    · rw [if_pos c2]; exact key _ h2
    · rw [if_neg c2]; exact key _ h3
theorem G_digit {m : Int} {S : CSt} (h : rG m S) : rG m (K3_readDigit S).2.2 := by
  unfold K3_readDigit
  by_cases c : K4_at 2 (S.1 8 3) S < 48
  · rw [if_pos c]; exact h
  · rw [if_neg c]
    by_cases c2 : K4_at 2 (S.1 8 3) S ≤ 57
    · rw [if_pos c2]; exact rG_8 h
    · rw [if_neg c2]; exact h
theorem G_if {m : Int} {c : Prop} [Decidable c] {a b : CR} (ha : rG m a.2.2) (hb : rG m b.2.2) : rG m (if c then a else b).2.2 := by
  by_cases y : c
  · rw [if_pos y]; exact ha
  · rw [if_neg y]; exact hb
theorem G_braces {m : Int} {S : CSt} (h : rG m S) : rG m (K3_readBraces S).2.2 := by
  unfold K3_readBraces
  have fin : ∀ U : CSt, rG m U → rG m (gLt (K3_take 125 U) (fun v_16 S_17 => (if v_16 = 0 then (1, 0, S_17) else (if (S_17.1 8 5) ≤ (S_17.1 8 6) then (0, 0, S_17) else (1, 0, S_17))))).2.2 := fun U hU => G_take hU (fun v S' _ h' => G_if h' (G_if h' h'))
  exact G_go (G_digit h) (fun _ _ h0 => G_take (rG_8 (rG_8 h0)) (fun v S' _ h' => G_if (fin _ h') (G_if (fin _ (rG_8 h')) (G_go (G_digit h') (fun _ _ h2 => fin _ (rG_8 h2))))))
theorem G_count {m : Int} {S : CSt} (h : rG m S) : rG m (K3_readCount S).2.2 := by
  unfold K3_readCount
  have fin : ∀ U : CSt, rG m U → rG m (gLt (K3_take 63 U) (fun v_36 S_37 => (0, 1, (ci S_37 8 7 v_36)))).2.2 := fun U hU => G_take hU (fun v S' hv h' => rG_8 h')
  exact G_take h (fun _ _ _ h1 => G_if (G_take h1 (fun _ _ _ h2 => G_if (G_take h2 (fun _ _ _ h3 => G_if (G_take h3 (fun _ _ _ h4 => G_if h4 (G_go (G_braces h4) (fun _ _ h5 => fin _ h5)))) (fin _ (rG_8 (rG_8 h3))))) (fin _ (rG_8 (rG_8 h2))))) (fin _ (rG_8 (rG_8 h1))))
theorem G_esc {m : Int} {S : CSt} (h : rG m S) : rG m (K3_readEscaped S).2.2 := by
  unfold K3_readEscaped
  have s1 : ∀ v w : Int, rG m (gBd (K3_addOneSign 0 (K5_add v (ci S 8 3 w))) (fun v_17 S_18 => (0, v_17, S_18))).2.2 := fun v w => G_go (G_sign (rG_1 K5_add_1 (rG_8 h))) (fun _ _ h' => h')
  have s2 : ∀ v w : Int, rG m (gBd (K3_addOneSign 0 (K5_addKind v (ci S 8 3 w))) (fun v_17 S_18 => (0, v_17, S_18))).2.2 := fun v w => G_go (G_sign (rG_1 K5_addKind_1 (rG_8 h))) (fun _ _ h' => h')
  exact G_if (G_if (G_if (s1 _ _) (G_if (rG_8 h) (s1 _ _))) (s2 _ _)) (G_if (G_if (G_if (s1 _ _) (G_if (rG_8 h) (s1 _ _))) (s2 _ _)) (G_add (rG_8 (rG_8 h)) (Or.inl (by decide)) (fun _ _ h' => h')))
theorem G_mark {m : Int} {S : CSt} (h : rG m S) : rG m (K3_readMark S).2.2 := by
  unfold K3_readMark
  have a1 : ∀ v : Int, rG m (K5_add v (ci S 8 3 (S.1 8 3 + 1))) := fun v => rG_1 K5_add_1 (rG_8 h)
  have a2 : ∀ v : Int, rG m (K5_add v (ci (ci S 8 3 ((S.1 8 3) + 1)) 8 3 (((S.1 8 3) + 1) + 1))) := fun v => rG_1 K5_add_1 (rG_8 (rG_8 h))
  have a3 : ∀ v : Int, rG m (K5_addKind v (ci (ci S 8 3 ((S.1 8 3) + 1)) 8 3 (((S.1 8 3) + 1) + 1))) := fun v => rG_1 K5_addKind_1 (rG_8 (rG_8 h))
  exact G_if (rG_8 h) (G_if (G_if (G_if (a2 _) (G_if (a2 _) (G_if (a2 _) (rG_8 (rG_8 h))))) (a3 _)) (a1 _))
theorem G_member {m : Int} {dx : Int} {S : CSt} (h : rG m S) : rG m (K3_readMember dx S).2.2 := by
  unfold K3_readMember
  have key : ∀ U : CSt, rG m U → rG m (gBd (K3_readMark U) (fun v_4 S_5 => (if ((K4_at 2 (S_5.1 8 3) S_5)) = 45 then (if ((K4_at 2 ((S_5.1 8 3) + 1) S_5)) = 93 then (0, 0, S_5) else (gBd (K3_readMark (ci S_5 8 3 ((S_5.1 8 3) + 1))) (fun v_20 S_21 => (if v_4 = (-1) then (1, 0, S_21) else (if v_20 = (-1) then (1, 0, S_21) else (if v_4 ≤ v_20 then (0, 1, (K5_addRange v_4 v_20 S_21)) else (1, 0, S_21))))))) else (0, 0, S_5)))).2.2 := fun U hU => G_go (G_mark hU) (fun _ _ h1 => G_if (G_if h1 (G_go (G_mark (rG_8 h1)) (fun _ _ h2 => G_if h2 (G_if h2 (G_if (rG_1 K5_addRange_1 h2) h2))))) h1)
  exact G_if (key _ h) (G_take h (fun _ _ _ h1 => G_if (key _ h1) (rG_1 K5_add_1 h1)))
theorem G_setL {m : Int} {tu : Int} : ∀ (n : Nat) (dx i : Int) (S : CSt), rG m S → rG m (K3_setL tu n dx i S).2.2
  | 0, dx, i, S, h => by rw [K3_setL]; exact G_go (G_sign h) (fun _ _ h' => h')
  | n + 1, dx, i, S, h => by
    rw [K3_setL]
    exact G_if (G_go (G_sign h) (fun _ _ h' => h')) (G_take h (fun _ _ _ h1 => G_if (G_go (G_member h1) (fun _ _ h2 => G_setL n _ _ _ h2)) (G_go (G_sign h1) (fun _ _ h' => h'))))
def GF (F : Int → CSt → CR) : Prop := ∀ (m : Int) dp S, rG m S → rG m (F dp S).2.2
theorem G_inside {m : Int} {F : Int → CSt → CR} {dp : Int} {S : CSt} (hF : GF F) (h : rG m S) : rG m (K3_readInside F dp S).2.2 := by
  unfold K3_readInside
  exact G_if (G_go (hF _ _ _ h) (fun _ _ h1 => G_take h1 (fun _ _ _ h2 => G_if h2 h2))) h
theorem G_group {m : Int} {F : Int → CSt → CR} {dp : Int} {S : CSt} (hF : GF F) (h : rG m S) : rG m (K3_readGroup F dp S).2.2 := by
  unfold K3_readGroup K2_addGroup
  by_cases c : S.1 7 12 < 9
  · rw [if_pos c, bd_0]
    have h1 : rG (S.1 7 12 + 1) (ci S 7 12 (S.1 7 12 + 1)) := ⟨fun j hj h8 => by
      have := h.1 j hj h8
      show S.1 28 j ≤ S.1 7 12 + 1
      omega, by show S.1 7 12 + 1 ≤ S.1 7 12 + 1; omega⟩
    refine rG_le (G_add h1 (Or.inl (by decide)) (fun _ _ h2 => G_go (G_inside hF h2) (fun _ _ h3 => G_add h3 (Or.inr h3.2) (fun _ _ h4 => h4)))) ?_
    have := h.2
    omega
  · rw [if_neg c]; exact h
theorem G_any {m : Int} {S : CSt} (h : rG m S) : rG m (K3_addAnySign S) := by
  unfold K3_addAnySign
  by_cases c : K2_has 7 2 S = 0
  · rw [if_pos c]; exact rG_1 K5_addRange_1 h
  · rw [if_neg c]; exact rG_1 K5_addRange_1 (rG_1 K5_addRange_1 h)
theorem G_atom {m : Int} {F : Int → CSt → CR} {dp : Int} {S : CSt} (hF : GF F) (h : rG m S) : rG m (K3_readAtom F dp S).2.2 := by
  unfold K3_readAtom
  have id1 : ∀ {r : CR}, rG m r.2.2 → rG m (gBd r (fun v S => (0, v, S))).2.2 := fun hr => G_go hr (fun _ _ h' => h')
  exact G_opn h (fun _ _ _ h1 => G_if (G_take h1 (fun _ _ _ h2 => G_if (G_take (rG_1 (S' := cj (cj _ 9 0 0) 9 1 0) rfl h2) (fun _ _ _ h3 => G_if (G_take h3 (fun _ _ _ h4 => G_if (G_take h4 (fun _ _ _ h5 => G_if (G_if (id1 (G_sign (rG_1 K5_add_1 (rG_8 h5)))) h5) (id1 (G_sign (G_any h5))))) (id1 (G_take h4 (fun _ _ _ h6 => G_setL _ _ _ _ h6))))) (id1 (G_esc h3)))) (id1 (G_group hF h2)))) (id1 (G_inside hF h1)))
theorem G_loop {m ls ms fg : Int} {S : CSt} (h : rG m S) : rG m (K2_addLoop ls ms fg S).2.2 := by
  unfold K2_addLoop
  by_cases c : S.1 7 10 < 0
  · rw [if_pos c]; exact h
  · rw [if_neg c]
    by_cases c2 : S.1 7 10 < 20
    · rw [if_pos c2]; exact h
    · rw [if_neg c2]; exact h
theorem G_cw {m w : Int} {S : CSt} (h : rG m S) : rG m (K3_checkWeight w S).2.2 := by
  unfold K3_checkWeight
  exact G_if h h
theorem G_counted {m : Int} {F : Int → CSt → CR} {dp : Int} {S : CSt} (hF : GF F) (h : rG m S) : rG m (K3_readCountedAtom F dp S).2.2 := by
  unfold K3_readCountedAtom
  exact G_add h (Or.inl (by decide)) (fun _ _ h1 => G_go (G_atom hF h1) (fun _ _ h2 => G_go (G_count h2) (fun _ _ h3 => G_if h3 (G_go (G_loop h3) (fun _ _ h4 => G_add h4 (Or.inl (by split <;> decide)) (fun _ _ h5 => G_add h5 (Or.inl (by decide)) (fun _ _ h6 => G_if (G_aim h6) (G_cw (G_aim h6)))))))))
theorem G_look {m : Int} {F : Int → CSt → CR} {bk ek dp : Int} {S : CSt} (hb : bk ≠ 8) (he : ek ≠ 8) (hF : GF F) (h : rG m S) : rG m (K3_readLook F bk ek dp S).2.2 := by
  unfold K3_readLook
  have g : rG m (K2_addLook S).2.2 := by
    unfold K2_addLook
    by_cases c : S.1 7 11 < 10
    · rw [if_pos c]; exact h
    · rw [if_neg c]; exact h
  exact G_go g (fun _ _ h1 => G_add h1 (Or.inl hb) (fun _ _ h2 => G_go (G_inside hF h2) (fun _ _ h3 => G_add h3 (Or.inl he) (fun _ _ h4 => G_aim h4))))
theorem G_term {m : Int} {F : Int → CSt → CR} {dp : Int} {S : CSt} (hF : GF F) (h : rG m S) : rG m (K3_readTerm F dp S).2.2 := by
  unfold K3_readTerm
  have id1 : ∀ {r : CR}, rG m r.2.2 → rG m (gBd r (fun v S => (0, v, S))).2.2 := fun hr => G_go hr (fun _ _ h' => h')
  exact G_take h (fun _ _ _ h1 => G_if (G_take h1 (fun _ _ _ h2 => G_if (G_opn h2 (fun _ _ _ h3 => G_if (G_opn h3 (fun _ _ _ h4 => G_if (id1 (G_counted hF h4)) (id1 (G_look (by decide) (by decide) hF h4)))) (id1 (G_look (by decide) (by decide) hF h3)))) (G_add h2 (Or.inl (by decide)) (fun _ _ h' => h')))) (G_add h1 (Or.inl (by decide)) (fun _ _ h' => h')))
theorem G_rowL {m : Int} {F : Int → CSt → CR} {dp : Int} (hF : GF F) : ∀ (n : Nat) (wt i : Int) (S : CSt), rG m S → rG m (K3_rowL F dp n wt i S).2.2
  | 0, wt, i, S, h => by rw [K3_rowL]; exact h
  | n + 1, wt, i, S, h => by
    rw [K3_rowL]
    exact G_if h (G_if h (G_go (G_term hF h) (fun _ _ h1 => G_rowL hF n _ _ _ h1)))
theorem G_altL {m : Int} {F : Int → CSt → CR} {dp : Int} (hF : GF F) : ∀ (n : Nat) (bg wt j i : Int) (S : CSt), rG m S → rG m (K3_altL F dp n bg wt j i S).2.2
  | 0, bg, wt, j, i, S, h => by rw [K3_altL]; exact G_chL _ _ _ _ h
  | n + 1, bg, wt, j, i, S, h => by
    rw [K3_altL]
    exact G_if (G_chL _ _ _ _ h) (G_take h (fun _ _ _ h1 => G_if (G_chL _ _ _ _ h1) (G_add h1 (Or.inl (by decide)) (fun _ _ h2 => G_add h2 (Or.inl (by decide)) (fun _ _ h3 => G_go (G_rowL hF _ _ _ _ (G_aim h3)) (fun _ _ h4 => G_altL hF n _ _ _ _ _ h4))))))
theorem G_al : ∀ n : Nat, GF (K3_al n)
  | 0 => fun m dp S h => by rw [K3_al]; exact h
  | n + 1 => fun m dp S h => by
    rw [K3_al]
    unfold K3_readAlternatives
    exact G_add h (Or.inl (by decide)) (fun _ _ h1 => G_go (G_rowL (G_al n) _ _ _ _ h1) (fun _ _ h2 => G_altL (G_al n) _ _ _ _ _ _ h2))
theorem G_read {fl : Int} {S : CSt} : rG 0 (K3_read fl S).2.2 := by
  rw [K3_read_eq]
  have h0 : rG 0 (K3_r0 fl S) := ⟨fun j hj _ => absurd hj (show ¬ (j : Int) < 0 by omega), by show (0 : Int) ≤ 0; decide⟩
  exact G_go (G_al 9 _ _ _ h0) (fun _ _ h1 => G_if (G_if (G_if (G_add h1 (Or.inl (by decide)) (fun _ _ h' => h')) (G_cw h1)) h1) h1)
