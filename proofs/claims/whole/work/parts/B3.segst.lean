/-- the new code of the reference -/
def np (T : MSt) (j : Nat) : Nat → Int := T.2 (15 + j)
/-- the class's rows of the program in work -/
def cqR (S : CSt) (j : Nat) : Nat → Int := S.1 (26 + j)
def cwR (S : CSt) (j : Nat) : Nat → Int64 := S.2.1 (26 + j)
/-- the reference's state with the new code taken over -/
def tkT (f : Int) (T : MSt) : MSt := (fun k => if k = 6 then f else T.1 k, fun k => if k = 7 then T.2 13 else if k = 8 then T.2 15 else if k = 9 then T.2 16 else if k = 10 then T.2 17 else if k = 11 then T.2 18 else T.2 k)
def fitN (f : Int) (T : MSt) (r : Nat) (z : Int) : Int := M_fitR (r : Int) z (tkT f T)
theorem fitN_cong {f : Int} {T T' : MSt} {r : Nat} {z : Int} (h13 : T'.2 13 = T.2 13) (hp : ∀ j, j < 4 → np T' j r = np T j r) : fitN f T' r z = fitN f T r z := by
  have e8 : (tkT f T').2 8 ((r : Int)).toNat = (tkT f T).2 8 ((r : Int)).toNat := by rw [show ((r : Int)).toNat = r by omega]; exact hp 0 (by omega)
  have e9 : (tkT f T').2 9 ((r : Int)).toNat = (tkT f T).2 9 ((r : Int)).toNat := by rw [show ((r : Int)).toNat = r by omega]; exact hp 1 (by omega)
  have e10 : (tkT f T').2 10 ((r : Int)).toNat = (tkT f T).2 10 ((r : Int)).toNat := by rw [show ((r : Int)).toNat = r by omega]; exact hp 2 (by omega)
  have e11 : (tkT f T').2 11 ((r : Int)).toNat = (tkT f T).2 11 ((r : Int)).toNat := by rw [show ((r : Int)).toNat = r by omega]; exact hp 3 (by omega)
  have e7 : (tkT f T').2 7 = (tkT f T).2 7 := h13
  have e6 : (tkT f T').1 6 = (tkT f T).1 6 := rfl
  have ef : ∀ x, M_fits (r : Int) x (tkT f T') = M_fits (r : Int) x (tkT f T) := fun x => by
    unfold M_fits M_inSet M_has
    rw [e8, e9, e10, e6, M_inSetL_cong e7]
  unfold fitN M_fitR
  rw [ef, ef, e8, e11]
  rfl
/-- a closed segment of both programs: places b .. e - 1; loops lo .. hi - 1, looks ko .. ki - 1, groups go + 1 .. gi -/
def SEG (f : Int) (T : MSt) (S : CSt) (F E : Nat → Nat) (R : Nat → Int) (b e : Nat) (lo hi ko ki go gi : Int) : Prop :=
  SG (np T) E b e ∧ NUM (np T) 14 3 b e lo hi ∧ NUM (np T) 12 3 b e ko ki ∧ NUM (np T) 10 1 b e (go + 1) (gi + 1) ∧ (∀ r, b ≤ r → r < e → LOC (np T) r) ∧ WTR (np T) E R b e ∧ CERT (np T) F E (fitN f T) (cqR S) (cwR S) b e
theorem SEG_app {f : Int} {T : MSt} {S : CSt} {F E : Nat → Nat} {R : Nat → Int} {b m e : Nat} {lo li hi ko kk ki go gm gi : Int} (l1 : lo ≤ li) (l2 : li ≤ hi) (k1 : ko ≤ kk) (k2 : kk ≤ ki) (g1 : go ≤ gm) (g2 : gm ≤ gi) (h1 : SEG f T S F E R b m lo li ko kk go gm) (h2 : SEG f T S F E R m e li hi kk ki gm gi) : SEG f T S F E R b e lo hi ko ki go gi := by
  obtain ⟨a1, a2, a3, a4, a5, a6, a7⟩ := h1
  obtain ⟨b1, b2, b3, b4, b5, b6, b7⟩ := h2
  refine ⟨SG_app a1 b1, NUM_app l1 l2 a2 b2, NUM_app k1 k2 a3 b3, NUM_app (by omega) (by omega) a4 b4, fun r x y => ?_, fun r x y => ?_, CERT_app a7 b7⟩
  · by_cases c : r < m
    · exact a5 r x c
    · exact b5 r (by omega) y
  · by_cases c : r < m
    · exact a6 r x c
    · exact b6 r (by omega) y
theorem SEG_nil {f : Int} {T : MSt} {S : CSt} {F E : Nat → Nat} {R : Nat → Int} {b : Nat} {lo ko go : Int} : SEG f T S F E R b b lo lo ko ko go go :=
  ⟨SG_nil, NUM_none (fun h a c => by omega), NUM_none (fun h a c => by omega), NUM_none (fun h a c => by omega), fun r a c => by omega, fun r a c => by omega, fun r a c => by omega⟩
theorem LOC_cong {p p' : Nat → Nat → Int} {r : Nat} (h : ∀ j, j < 4 → p' j r = p j r) (h1 : blk p r → p' 0 (r + 1) = p 0 (r + 1)) (hl : LOC p r) : LOC p' r := by
  have e0 := h 0 (by omega)
  have e1 := h 1 (by omega)
  have e2 := h 2 (by omega)
  have e3 := h 3 (by omega)
  have el : leL p' r = leL p r := by unfold leL; rw [e1]
  have em : moL p' r = moL p r := by unfold moL; rw [e1]
  have ec : ccL p' r = ccL p r := by unfold ccL; rw [el, em]
  obtain ⟨o0, o1, o2, o3, o4, o5, o6⟩ := hl
  unfold LOC
  rw [e0, e1, e2, e3, el, em, ec]
  refine ⟨o0, o1, o2, o3, fun y => ?_, fun y => ?_, fun y => ?_⟩
  · rw [h1 (Or.inl y)]; exact o4 y
  · rw [h1 (Or.inr (Or.inl y))]; exact o5 y
  · rw [h1 (Or.inr (Or.inr y))]; exact o6 y
/-- what a segment speaks of: its own places, its own cells -/
theorem SEG_cong {f : Int} {T T' : MSt} {S S' : CSt} {F F' E E' : Nat → Nat} {R R' : Nat → Int} {b e : Nat} {lo hi ko ki go gi : Int} (l0 : 0 ≤ lo) (h13 : T'.2 13 = T.2 13) (hp : ∀ j k, j < 4 → b ≤ k → k < e → np T' j k = np T j k) (hF : ∀ k, b ≤ k → k ≤ e → F' k = F k) (hE : ∀ k, b ≤ k → k < e → E' k = E k) (hR : ∀ k, b ≤ k → k ≤ e → R' k = R k) (hq : ∀ j k, F b ≤ k → k < F e → j < 3 → cqR S' j k = cqR S j k) (hw : ∀ j k, j = 3 ∨ j = 4 → F b ≤ k → k < F e → cwR S' j k = cwR S j k) (hl : ∀ (j c : Nat), lo ≤ c → (c : Int) < hi → 5 ≤ j → j ≤ 8 → cqR S' j c = cqR S j c) (h : SEG f T S F E R b e lo hi ko ki go gi) : SEG f T' S' F' E' R' b e lo hi ko ki go gi := by
  obtain ⟨a1, a2, a3, a4, a5, a6, a7⟩ := h
  refine ⟨SG_cong hp hE a1, NUM_cong (by omega) hp a2, NUM_cong (by omega) hp a3, NUM_cong (by omega) hp a4, fun r x y => ?_, fun r x y => ?_, ?_⟩
  · refine LOC_cong (fun j hj => hp j r hj x y) (fun hb => ?_) (a5 r x y)
    obtain ⟨e1, e2, -⟩ := a1.2.1 r x y hb
    exact hp 0 (r + 1) (by omega) (by omega) (by omega)
  · obtain ⟨w1, w2⟩ := a6 r x y
    have ec : ccL (np T') r = ccL (np T) r := by
      have e1 := hp 1 r (by omega) x y
      have el : leL (np T') r = leL (np T) r := by unfold leL; rw [e1]
      have em : moL (np T') r = moL (np T) r := by unfold moL; rw [e1]
      unfold ccL; rw [el, em]
    rw [hR r x (by omega), hR (r + 1) (by omega) (by omega)]
    refine ⟨w1, fun h14 => ?_⟩
    rw [hp 0 r (by omega) x y] at h14
    obtain ⟨e1, e2, -⟩ := a1.2.1 r x y (Or.inr (Or.inr h14))
    rw [hE r x y, hR (E r) (by omega) (by omega), hR (E r + 1) (by omega) (by omega), ec]
    exact w2 h14
  · exact CERT_cong a1 a2 l0 hp hF hE (fun k z x y => fitN_cong h13 (fun j hj => hp j k hj x y)) hq hw hl a7
