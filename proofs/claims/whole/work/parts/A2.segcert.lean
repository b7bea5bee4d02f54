/-- whether the sign z is among the bits of the class's place i -/
def sbit (w : Nat → Nat → Int64) (i : Nat) (z : Int) : Bool := if 64 ≤ z then bw (w 4 i) (z - 64).toNat else bw (w 3 i) z.toNat
/-- the reference's place r against the class's rows: q 0 kinds, 1 aims, 2 numbers, 5 .. 8 of loops; w 3, 4 bits -/
def certS (p : Nat → Nat → Int) (F : Nat → Nat) (E : Nat → Nat) (fit : Nat → Int → Int) (q : Nat → Nat → Int) (w : Nat → Nat → Int64) (r : Nat) : Prop :=
  (F r ≤ F (r + 1)) ∧
  (p 0 r = 1 → q 0 (F r) = 5 ∧ F (r + 1) = F r + 1 ∧ q 1 (F r) = (if p 1 r = -1 then -1 else (F (p 1 r).toNat : Int))) ∧
  (p 0 r = 2 → (q 0 (F r) = 6 ∧ F (r + 1) = F r + 1 ∧ q 1 (F r) = F (p 1 r).toNat) ∨ F (p 1 r).toNat = F r) ∧
  (3 ≤ p 0 r → p 0 r ≤ 6 → q 0 (F r) = 1 ∧ F (r + 1) = F r + 1 ∧ ∀ z, 32 ≤ z → z ≤ 126 → fit r z = (if sbit w (F r) z then 1 else 0)) ∧
  (p 0 r = 7 → q 0 (F r) = 4 ∧ F (r + 1) = F r + 1 ∧ q 2 (F r) = p 1 r) ∧
  (p 0 r = 8 → q 0 (F r) = 2 ∧ F (r + 1) = F r + 1) ∧
  (p 0 r = 9 → q 0 (F r) = 3 ∧ F (r + 1) = F r + 1) ∧
  (p 0 r = 10 → q 0 (F r) = 7 ∧ F (r + 1) = F r + 1 ∧ q 2 (F r) = p 1 r) ∧
  (p 0 r = 11 → q 0 (F r) = 8 ∧ F (r + 1) = F r + 1 ∧ q 2 (F r) = p 1 r) ∧
  (p 0 r = 12 → F (r + 1) = F r + 1 ∧ q 2 (F r) = p 3 r ∧ (p 1 r = 1 → q 0 (F r) = 13) ∧ (p 1 r = 0 → q 0 (F r) = 15 ∧ q 1 (F r) = F (E r + 1))) ∧
  (p 0 r = 13 → F (r + 1) = F r + 1 ∧ q 2 (F r) = p 3 r ∧ (p 2 r = 1 → q 0 (F r) = 14) ∧ (p 2 r ≠ 1 → q 0 (F r) = 16)) ∧
  (p 0 r = 14 → q 0 (F r) = 9 ∧ q 1 (F r) = F (E r) ∧ F (r + 1) = F r + 1 ∧ q 0 (F (E r)) = (if p 1 r < 65536 then 10 else 11) ∧ q 2 (F (E r)) = p 3 r ∧ q 0 (F (E r) + 1) = 12 ∧ q 1 (F (E r) + 1) = F r + 1 ∧ q 2 (F (E r) + 1) = p 3 r ∧ F (E r + 1) = F (E r) + 2 ∧ q 5 (p 3 r).toNat = leL p r ∧ q 6 (p 3 r).toNat = (if moL p r = 99 then 1000000 else moL p r) ∧ q 7 (p 3 r).toNat = p 2 r / 16 % 256 + 1 ∧ q 8 (p 3 r).toNat = p 2 r % 16) ∧
  (p 0 r = 17 → q 0 (F r) = 9 ∧ q 1 (F r) = -1 ∧ F (r + 1) = F r + 1)
def CERT (p : Nat → Nat → Int) (F : Nat → Nat) (E : Nat → Nat) (fit : Nat → Int → Int) (q : Nat → Nat → Int) (w : Nat → Nat → Int64) (b e : Nat) : Prop := ∀ r, b ≤ r → r < e → certS p F E fit q w r
theorem CERT_app {p : Nat → Nat → Int} {F : Nat → Nat} {E : Nat → Nat} {fit : Nat → Int → Int} {q : Nat → Nat → Int} {w : Nat → Nat → Int64} {b m e : Nat} (h1 : CERT p F E fit q w b m) (h2 : CERT p F E fit q w m e) : CERT p F E fit q w b e := fun r a c => by
  by_cases z : r < m
  · exact h1 r a z
  · exact h2 r (by omega) c
theorem CERT_mono {p : Nat → Nat → Int} {F : Nat → Nat} {E : Nat → Nat} {fit : Nat → Int → Int} {q : Nat → Nat → Int} {w : Nat → Nat → Int64} {b e : Nat} (h : CERT p F E fit q w b e) : ∀ (d r : Nat), b ≤ r → r + d ≤ e → F r ≤ F (r + d)
  | 0, r, _, _ => Nat.le_refl _
  | d + 1, r, hb, hd => by
    have a := CERT_mono h d r hb (by omega)
    have c := (h (r + d) (by omega) (by omega)).1
    rw [show r + (d + 1) = r + d + 1 by omega]
    omega
theorem CERT_le {p : Nat → Nat → Int} {F : Nat → Nat} {E : Nat → Nat} {fit : Nat → Int → Int} {q : Nat → Nat → Int} {w : Nat → Nat → Int64} {b e r x : Nat} (h : CERT p F E fit q w b e) (h1 : b ≤ r) (h2 : r ≤ x) (h3 : x ≤ e) : F r ≤ F x := by
  have := CERT_mono h (x - r) r h1 (by omega)
  rw [show r + (x - r) = x by omega] at this
  exact this
/-- what a segment's certificate speaks of -/
theorem CERT_cong {p p' : Nat → Nat → Int} {F F' : Nat → Nat} {E E' : Nat → Nat} {fit fit' : Nat → Int → Int} {q q' : Nat → Nat → Int} {w w' : Nat → Nat → Int64} {b e : Nat} {lo hi : Int} (hs : SG p E b e) (hn : NUM p 14 3 b e lo hi) (l0 : 0 ≤ lo) (hp : ∀ j k, j < 4 → b ≤ k → k < e → p' j k = p j k) (hF : ∀ k, b ≤ k → k ≤ e → F' k = F k) (hE : ∀ k, b ≤ k → k < e → E' k = E k) (hf : ∀ k z, b ≤ k → k < e → fit' k z = fit k z) (hq : ∀ j k, F b ≤ k → k < F e → j < 3 → q' j k = q j k) (hw : ∀ j k, j = 3 ∨ j = 4 → F b ≤ k → k < F e → w' j k = w j k) (hl : ∀ (j c : Nat), lo ≤ c → (c : Int) < hi → 5 ≤ j → j ≤ 8 → q' j c = q j c) (h : CERT p F E fit q w b e) : CERT p' F' E' fit' q' w' b e := by
  intro r a c
  have hr := h r a c
  have f0 := CERT_le h (Nat.le_refl b) a (by omega)
  have f1 := CERT_le h (show b ≤ r + 1 by omega) (show r + 1 ≤ e by omega) (Nat.le_refl e)
  obtain ⟨c0, c1, c2, c3, c7, c8, c9, c10, c11, c12, c13, c14, c17⟩ := hr
  have eF := hF r a (by omega)
  have eF1 := hF (r + 1) (by omega) (by omega)
  have e0 := hp 0 r (by omega) a c
  have e1 := hp 1 r (by omega) a c
  have e2 := hp 2 r (by omega) a c
  have e3 := hp 3 r (by omega) a c
  have cell : F (r + 1) = F r + 1 → ∀ j, j < 3 → q' j (F r) = q j (F r) := fun y j hj => hq j (F r) f0 (by omega) hj
  unfold certS
  rw [eF, eF1, e0, e1, e2, e3]
  refine ⟨c0, fun y => ?_, fun y => ?_, fun y y' => ?_, fun y => ?_, fun y => ?_, fun y => ?_, fun y => ?_, fun y => ?_, fun y => ?_, fun y => ?_, fun y => ?_, fun y => ?_⟩
  · obtain ⟨x1, x2, x3⟩ := c1 y
    rw [cell x2 0 (by omega), cell x2 1 (by omega)]
    refine ⟨x1, x2, ?_⟩
    rw [x3]
    rcases hs.2.2.2.2.2.1 r a c y with z | ⟨z1, z2, z3, z4⟩
    · rw [if_pos z, if_pos z]
    · rw [if_neg (by omega), if_neg (by omega), hF _ (by omega) (by omega)]
  · obtain ⟨z1, z2, z3⟩ := hs.2.2.2.2.2.2 r a c y
    rw [hF _ (show b ≤ (p 1 r).toNat by omega) (by omega)]
    rcases c2 y with ⟨x1, x2, x3⟩ | x
    · rw [cell x2 0 (by omega), cell x2 1 (by omega)]
      exact Or.inl ⟨x1, x2, x3⟩
    · exact Or.inr x
  · obtain ⟨x1, x2, x3⟩ := c3 y y'
    rw [cell x2 0 (by omega)]
    refine ⟨x1, x2, fun z z0 z1 => ?_⟩
    rw [hf r z a c, x3 z z0 z1]
    unfold sbit
    rw [hw 4 (F r) (by omega) f0 (by omega), hw 3 (F r) (by omega) f0 (by omega)]
  · obtain ⟨x1, x2, x3⟩ := c7 y
    rw [cell x2 0 (by omega), cell x2 2 (by omega)]
    exact ⟨x1, x2, x3⟩
  · obtain ⟨x1, x2⟩ := c8 y
    rw [cell x2 0 (by omega)]
    exact ⟨x1, x2⟩
  · obtain ⟨x1, x2⟩ := c9 y
    rw [cell x2 0 (by omega)]
    exact ⟨x1, x2⟩
  · obtain ⟨x1, x2, x3⟩ := c10 y
    rw [cell x2 0 (by omega), cell x2 2 (by omega)]
    exact ⟨x1, x2, x3⟩
  · obtain ⟨x1, x2, x3⟩ := c11 y
    rw [cell x2 0 (by omega), cell x2 2 (by omega)]
    exact ⟨x1, x2, x3⟩
  · obtain ⟨x1, x2, x3, x4⟩ := c12 y
    have hb : blk p r := Or.inr (Or.inl y)
    have eE := (hs.2.1 r a c hb).2.1
    have eE1 := (hs.2.1 r a c hb).1
    rw [cell x1 0 (by omega), cell x1 1 (by omega), cell x1 2 (by omega), hE r a c, hF (E r + 1) (by omega) (by omega)]
    exact ⟨x1, x2, x3, x4⟩
  · obtain ⟨x1, x2, x3, x4⟩ := c13 y
    rw [cell x1 0 (by omega), cell x1 2 (by omega)]
    exact ⟨x1, x2, x3, x4⟩
  · obtain ⟨x1, x2, x3, x4, x5, x6, x7, x8, x9, x10, x11, x12, x13⟩ := c14 y
    have hb : blk p r := Or.inr (Or.inr y)
    obtain ⟨eE1, eE, e14, -⟩ := hs.2.1 r a c hb
    have nm := hn.1 r a c y
    have g1 := CERT_le h (show b ≤ b by omega) (show b ≤ E r by omega) (by omega)
    have g2 := CERT_le h (show b ≤ E r + 1 by omega) (show E r + 1 ≤ e by omega) (Nat.le_refl e)
    have elL : leL p' r = leL p r := by unfold leL; rw [e1]
    have emL : moL p' r = moL p r := by unfold moL; rw [e1]
    rw [hE r a c, hF (E r) (by omega) (by omega), hF (E r + 1) (by omega) (by omega), elL, emL, cell x3 0 (by omega), cell x3 1 (by omega), hq 0 (F (E r)) g1 (by omega) (by omega), hq 2 (F (E r)) g1 (by omega) (by omega), hq 0 (F (E r) + 1) (by omega) (by omega) (by omega), hq 1 (F (E r) + 1) (by omega) (by omega) (by omega), hq 2 (F (E r) + 1) (by omega) (by omega) (by omega), hl 5 _ (by omega) (by omega) (by omega) (by omega), hl 6 _ (by omega) (by omega) (by omega) (by omega), hl 7 _ (by omega) (by omega) (by omega) (by omega), hl 8 _ (by omega) (by omega) (by omega) (by omega)]
    exact ⟨x1, x2, x3, x4, x5, x6, x7, x8, x9, x10, x11, x12, x13⟩
  · obtain ⟨x1, x2, x3⟩ := c17 y
    rw [cell x3 0 (by omega), cell x3 1 (by omega)]
    exact ⟨x1, x2, x3⟩
/-- THE WHOLE: the certificate that trying needs -/
theorem certR_of {p : Nat → Nat → Int} {F : Nat → Nat} {E : Nat → Nat} {fit : Nat → Int → Int} {S : CSt} {n : Nat} {lh : Int} (hs : SG p E 0 n) (hn : NUM p 14 3 0 n 0 lh) (hc : CERT p F E fit (fun j => S.1 (pA 6 j)) (fun j => S.2.1 (pA 6 j)) 0 n) (hd : p 0 n = 16) (hnd : ∀ r, r < n → p 0 r ≠ 16) (hsz : S.1 6 5 = F n + 1) (h96 : F n + 1 ≤ 96) (hk : S.1 (pA 6 0) (F n) = 0) (hlp : S.1 6 10 = lh) (h20 : lh ≤ 20) : ∀ r, r < n + 1 → certR p (fun r => (F r : Int)) fit S r := by
  intro r hr
  have isI : ∀ i : Nat, i < F n + 1 → K2_isInstruction 6 (i : Int) S = 1 := fun i hi => by
    unfold K2_isInstruction
    rw [if_neg (by omega), if_neg (by omega), if_neg (by omega)]
  have kk : ∀ i : Nat, i < F n + 1 → K2_kind 6 (i : Int) S = S.1 (pA 6 0) i := fun i hi => by
    unfold K2_kind
    rw [isI i hi, if_neg (by decide), show ((i : Int)).toNat = i by omega]
  have ka : ∀ i : Nat, i < F n + 1 → K2_aim 6 (i : Int) S = S.1 (pA 6 1) i := fun i hi => by
    unfold K2_aim
    rw [isI i hi, if_neg (by decide), show ((i : Int)).toNat = i by omega]
  have kn : ∀ i : Nat, i < F n + 1 → K2_number 6 (i : Int) S = S.1 (pA 6 2) i := fun i hi => by
    unfold K2_number
    rw [isI i hi, if_neg (by decide), show ((i : Int)).toNat = i by omega]
  by_cases cn : r = n
  · subst cn
    unfold certR
    show (0 ≤ (F r : Int) ∧ (F r : Int) ≤ 900) ∧ _
    refine ⟨⟨by omega, by omega⟩, ?_, ?_, ?_, ?_, ?_, ?_, ?_, ?_, ?_, ?_, ?_, fun _ => ?_, ?_⟩
    all_goals first | (intros; omega) | skip
    show K2_kind 6 (F r : Int) S = 0
    rw [kk (F r) (by omega)]; exact hk
  · have hr' : r < n := by omega
    have h := hc r (by omega) hr'
    have f1 := CERT_le hc (show 0 ≤ r by omega) (show r ≤ n by omega) (Nat.le_refl n)
    have f2 := CERT_le hc (show 0 ≤ r + 1 by omega) (show r + 1 ≤ n by omega) (Nat.le_refl n)
    obtain ⟨c0, c1, c2, c3, c7, c8, c9, c10, c11, c12, c13, c14, c17⟩ := h
    unfold certR
    show (0 ≤ (F r : Int) ∧ (F r : Int) ≤ 900) ∧ _
    refine ⟨⟨by omega, by omega⟩, fun y => ?_, fun y => ?_, fun y y' => ?_, fun y => ?_, fun y => ?_, fun y => ?_, fun y => ?_, fun y => ?_, fun y => ?_, fun y => ?_, fun y => ?_, fun y => ?_, fun y => ?_⟩
    all_goals simp only []
    · obtain ⟨x1, x2, x3⟩ := c1 y
      rw [kk _ (by omega), ka _ (by omega)]
      exact ⟨x1, by omega, x3⟩
    · rcases c2 y with ⟨x1, x2, x3⟩ | x
      · rw [kk _ (by omega), ka _ (by omega)]
        exact Or.inl ⟨x1, x3⟩
      · exact Or.inr (by omega)
    · obtain ⟨x1, x2, x3⟩ := c3 y y'
      rw [kk _ (by omega)]
      refine ⟨x1, by omega, fun z z0 z1 => ?_⟩
      rw [x3 z z0 z1, K2_fits_v (by omega) (by omega) (by omega) (by omega) (by omega), show ((F r : Int)).toNat = F r by omega]
      rfl
    · obtain ⟨x1, x2, x3⟩ := c7 y
      rw [kk _ (by omega), kn _ (by omega)]
      exact ⟨x1, by omega, x3⟩
    · obtain ⟨x1, x2⟩ := c8 y
      rw [kk _ (by omega)]
      exact ⟨x1, by omega⟩
    · obtain ⟨x1, x2⟩ := c9 y
      rw [kk _ (by omega)]
      exact ⟨x1, by omega⟩
    · obtain ⟨x1, x2, x3⟩ := c10 y
      rw [kk _ (by omega), kn _ (by omega)]
      exact ⟨x1, by omega, x3⟩
    · obtain ⟨x1, x2, x3⟩ := c11 y
      rw [kk _ (by omega), kn _ (by omega)]
      exact ⟨x1, by omega, x3⟩
    · obtain ⟨x1, x2, x3, x4⟩ := c12 y
      have l12 := ((hs.2.1 r (by omega) hr' (Or.inr (Or.inl y))).2.2.2.1 y).2.1
      rw [kk _ (by omega), kn _ (by omega), ka _ (by omega), show (p 2 r).toNat = E r by omega]
      exact ⟨by omega, x2, x3, x4⟩
    · obtain ⟨x1, x2, x3, x4⟩ := c13 y
      rw [kk _ (by omega), kn _ (by omega)]
      exact ⟨x2, fun z => ⟨x3 z, by omega⟩, x4⟩
    · obtain ⟨x1, x2, x3, x4, x5, x6, x7, x8, x9, x10, x11, x12, x13⟩ := c14 y
      obtain ⟨eE1, eE, e14, -⟩ := hs.2.1 r (by omega) hr' (Or.inr (Or.inr y))
      have l14 := (e14 y).2.1
      have nm := hn.1 r (by omega) hr' y
      have g2 := CERT_le hc (show 0 ≤ E r + 1 by omega) (show E r + 1 ≤ n by omega) (Nat.le_refl n)
      have isL : K2_isLoop 6 (p 3 r) S = 1 := by
        unfold K2_isLoop
        rw [if_neg (by omega), if_neg (by omega), if_neg (by omega)]
      have en : enL p r = E r := by unfold enL; omega
      have ec : ((F (E r) : Nat) : Int) + 1 = ((F (E r) + 1 : Nat) : Int) := by omega
      have k5 : K2_least 6 (p 3 r) S = leL p r := by unfold K2_least; rw [isL, if_neg (by decide)]; exact x10
      have k6 : K2_most 6 (p 3 r) S = (if moL p r = 99 then 1000000 else moL p r) := by unfold K2_most; rw [isL, if_neg (by decide)]; exact x11
      have k7 : K2_firstGroup 6 (p 3 r) S = p 2 r / 16 % 256 + 1 := by unfold K2_firstGroup; rw [isL, if_neg (by decide)]; exact x12
      have k8 : K2_lastGroup 6 (p 3 r) S = p 2 r % 16 := by unfold K2_lastGroup; rw [isL, if_neg (by decide)]; exact x13
      rw [en, k5, k6, k7, k8, ec, kk _ (by omega), ka _ (by omega), kk _ (by omega), kn _ (by omega), kk _ (by omega), ka _ (by omega), kn _ (by omega)]
      exact ⟨x1, x2, by omega, x4, x5, x6, by omega, x8, by omega, rfl, rfl, rfl, rfl⟩
    · exact absurd y (hnd r hr')
    · obtain ⟨x1, x2, x3⟩ := c17 y
      rw [kk _ (by omega), ka _ (by omega)]
      exact ⟨x1, x2, by omega⟩
