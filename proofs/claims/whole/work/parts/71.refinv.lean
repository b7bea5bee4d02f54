/-- what a register weighs in the trail's account -/
def wgt (i : Nat) (v : Int) : Int := if (1 ≤ i ∧ i ≤ 9) ∨ (11 ≤ i ∧ i ≤ 19) then (if v = -1 then 0 else 1) else if 30 ≤ i ∧ i < 50 then (if v = 0 then 0 else 1) else 0
theorem wgt_nn (i : Nat) (v : Int) : 0 ≤ wgt i v ∧ wgt i v ≤ 1 := by unfold wgt; (repeat' split) <;> omega
def Wr (g : Nat → Int) : Nat → Int
  | 0 => 0
  | n + 1 => Wr g n + wgt n (g n)
theorem Wr_nn (g : Nat → Int) : ∀ n, 0 ≤ Wr g n
  | 0 => Int.le_refl _
  | n + 1 => by
    rw [Wr]
    have := Wr_nn g n
    have := wgt_nn n (g n)
    omega
theorem Wr_cong {g g' : Nat → Int} : ∀ n, (∀ i, i < n → g i = g' i) → Wr g n = Wr g' n
  | 0, _ => rfl
  | n + 1, h => by rw [Wr, Wr, Wr_cong n (fun i hi => h i (by omega)), h n (by omega)]
theorem Wr_zu {g : Nat → Int} {i : Nat} {v : Int} : ∀ n, i < n → Wr (zu g i v) n = Wr g n - wgt i (g i) + wgt i v
  | 0, h => by omega
  | n + 1, h => by
    rw [Wr, Wr]
    by_cases e : i = n
    · subst e
      rw [zu_eq, Wr_cong (g := zu g i v) (g' := g) i (fun x hx => zu_ne (by omega))]
      omega
    · rw [Wr_zu n (by omega), zu_ne (fun y => e y.symm)]
      omega
def stp (q : Int) : Int := if q = 1 ∨ (3 ≤ q ∧ q ≤ 7) ∨ q = 10 then 1 else 0
def dcp (q : Int) : Int := if q = 1 then 8 else if (3 ≤ q ∧ q ≤ 7) ∨ q = 10 then 3 else 0
def crp (q : Int) : Int := if q = 1 then 1 else 0
/-- what each place of a program must be -/
def opR (p : Nat → Nat → Int) (N r : Nat) : Prop :=
  (1 ≤ p 0 r ∧ p 0 r ≤ 17 ∧ -1000 ≤ p 1 r ∧ p 1 r ≤ 100000 ∧ 0 ≤ p 2 r ∧ p 2 r ≤ 2000000 ∧ 0 ≤ p 3 r ∧ p 3 r < 50) ∧
  (p 0 r = 1 → r + 1 < N ∧ sameB p r (r + 1) ∧ (p 1 r = -1 ∨ ((r : Int) < p 1 r ∧ p 1 r < N ∧ p 0 (p 1 r).toNat = 1 ∧ sameB p r (p 1 r).toNat))) ∧
  (p 0 r = 2 → (r : Int) < p 1 r ∧ p 1 r < N ∧ sameB p r (p 1 r).toNat) ∧
  (3 ≤ p 0 r → p 0 r ≤ 9 → r + 1 < N ∧ sameB p r (r + 1)) ∧
  (3 ≤ p 0 r → p 0 r ≤ 6 → 0 ≤ p 1 r ∧ p 1 r ≤ 1000) ∧
  (p 0 r = 6 → p 1 r ≤ 41 ∧ p 2 r ≤ 39) ∧
  (p 0 r = 7 → 1 ≤ p 1 r ∧ p 1 r ≤ 9) ∧
  (p 0 r = 10 → r + 1 < N ∧ p 0 (r + 1) = 1 ∧ 1 ≤ p 1 r ∧ p 1 r ≤ 9 ∧ butB p r r (r + 1) ∧ inB p r (r + 1)) ∧
  (p 0 r = 11 → r + 1 < N ∧ 1 ≤ p 1 r ∧ p 1 r ≤ 9 ∧ ∃ q, q < r ∧ p 0 q = 10 ∧ p 1 q = p 1 r ∧ inB p q r ∧ ¬ inB p q (r + 1) ∧ butB p q r (r + 1)) ∧
  (p 0 r = 12 → (p 1 r = 0 ∨ p 1 r = 1) ∧ p 3 r < 10 ∧ p 0 (r + 1) = 1 ∧ p 0 (p 2 r).toNat = 13) ∧
  (p 0 r = 13 → 0 ≤ p 1 r ∧ p 1 r < r ∧ p 0 (p 1 r).toNat = 12 ∧ p 2 (p 1 r).toNat = r ∧ p 3 r = p 3 (p 1 r).toNat ∧ p 2 r = p 1 (p 1 r).toNat) ∧
  (p 0 r = 14 → stp (p 0 (r + 1)) = 1 ∧ 0 ≤ p 1 r ∧ p 2 r / 16 % 256 ≤ p 2 r % 16 ∧ p 2 r % 16 ≤ 9) ∧
  (p 0 r = 15 → 0 ≤ p 1 r ∧ p 1 r < r ∧ p 0 (p 1 r).toNat = 14 ∧ enL p (p 1 r).toNat = r) ∧
  (p 0 r = 17 → r + 1 < N ∧ sameB p r (r + 1))
/-- the reference's program is one that its reader makes -/
def prR (p : Nat → Nat → Int) (R : Nat → Int) (N : Nat) : Prop :=
  shR p R N ∧ N ≤ 125 ∧ (∀ r, r < N → opR p N r) ∧
  (∀ h h', h < N → h' < N → p 0 h = 14 → p 0 h' = 14 → p 3 h = p 3 h' → h = h') ∧
  (∀ h h', h < N → h' < N → p 0 h = 12 → p 0 h' = 12 → p 3 h = p 3 h' → h = h') ∧
  (∀ h h', h < N → h' < N → p 0 h = 10 → p 0 h' = 10 → p 1 h = p 1 h' → h = h')
/-- the registers at a place -/
def RSb (p : Nat → Nat → Int) (N : Nat) (len : Int) (x : Nat → Int) (Q : Nat → Int) (sn : Nat → Nat → Int) (pos : Nat) (rg : Nat → Int) (pl : Int) (i : Nat) : Prop :=
  pos < N ∧ 0 ≤ pl ∧ pl ≤ len ∧ (∀ y, y < 130 → -1 ≤ rg y ∧ rg y ≤ 34) ∧
  (∀ g : Nat, 1 ≤ g → g ≤ 9 → rg g ≤ len ∧ rg (10 + g) ≤ len ∧ (0 ≤ rg g → rg g ≤ rg (10 + g)) ∧ (0 ≤ rg (10 + g) → 0 ≤ rg g)) ∧
  (∀ h, h < N → p 0 h = 14 → inB p h pos → 1 ≤ rg (reL p h) ∧ rg (reL p h) ≤ leL p h + 1 + rg (rbL p h) ∧ 0 ≤ rg (rbL p h) ∧ rg (rbL p h) ≤ pl) ∧
  (∀ h, h < N → p 0 h = 10 → inB p h pos → 0 ≤ rg (20 + p 1 h).toNat ∧ rg (20 + p 1 h).toNat ≤ pl) ∧
  (∀ k, k < N → p 0 k = 12 → inB p k pos → ∃ m : Nat, Q (p 3 k).toNat = m ∧ m < i ∧ x m % 4 = 2 ∧ x m / 4 % 256 = k ∧
    (∀ h, h < N → inB p h k → (p 0 h = 14 → rg (reL p h) = sn (x m / 32768).toNat (reL p h) ∧ rg (rbL p h) = sn (x m / 32768).toNat (rbL p h)) ∧ (p 0 h = 10 → rg (20 + p 1 h).toNat = sn (x m / 32768).toNat (20 + p 1 h).toNat))) ∧
  (∀ m, m < i → x m % 4 = 2 → inB p (x m / 4 % 256).toNat pos)
/-- the i-th pending choice -/
def EntR (p : Nat → Nat → Int) (R : Nat → Int) (N : Nat) (len md : Int) (x : Nat → Int) (Q : Nat → Int) (sn : Nat → Nat → Int) (i : Nat) : Prop :=
  0 ≤ x i ∧ x i / 32768 ≤ 5000 ∧ x i % 4 ≠ 3 ∧ RSb p N len x Q sn (x i / 4 % 256).toNat (sn (x i / 32768).toNat) (x i / 1024 % 32) i ∧
  x i / 32768 + Wr (sn (x i / 32768).toNat) 130 + 4 * cntB p 10 (x i / 4 % 256).toNat N ≤ 8 * md + 40 + dcp (p 0 (x i / 4 % 256).toNat) ∧
  (x i % 4 ≠ 1 → i + Ps p R N (sn (x i / 32768).toNat) (x i / 1024 % 32) N (x i / 4 % 256).toNat ≤ 79 * (x i / 1024 % 32 + 1) + 2 * md + crp (p 0 (x i / 4 % 256).toNat)) ∧
  (x i % 4 = 2 → p 0 (x i / 4 % 256).toNat = 12) ∧
  (x i % 4 = 1 → p 0 (x i / 4 % 256).toNat = 14 ∧ 0 ≤ sn (x i / 32768).toNat (reL p (x i / 4 % 256).toNat) ∧ sn (x i / 32768).toNat (reL p (x i / 4 % 256).toNat) ≤ leL p (x i / 4 % 256).toNat + x i / 1024 % 32 ∧ leL p (x i / 4 % 256).toNat ≤ sn (x i / 32768).toNat (reL p (x i / 4 % 256).toNat) ∧
    i + (R (enL p (x i / 4 % 256).toNat) - R ((x i / 4 % 256).toNat + 1)) ≤ 79 * (x i / 1024 % 32 + 1) + 2 * md)
/-- the pending choices: their number is cnt, the trail's length tr -/
def StR (p : Nat → Nat → Int) (R : Nat → Int) (N : Nat) (len md : Int) (x : Nat → Int) (Q : Nat → Int) (sn : Nat → Nat → Int) (cnt tr : Nat) : Prop :=
  (∀ i, i < cnt → EntR p R N len md x Q sn i ∧ x i / 32768 ≤ tr) ∧ (∀ i j, i ≤ j → j < cnt → x i / 32768 ≤ x j / 32768)
/-- how many pending choices are not of the kind 1 -/
def nzE (x : Nat → Int) : Nat → Int
  | 0 => 0
  | n + 1 => nzE x n + (if x n % 4 = 1 then 0 else 1)
theorem nzE_cong {x y : Nat → Int} : ∀ n, (∀ i, i < n → x i = y i) → nzE x n = nzE y n
  | 0, _ => rfl
  | n + 1, h => by rw [nzE, nzE, nzE_cong n (fun i hi => h i (by omega)), h n (by omega)]
theorem nzE_mono {x : Nat → Int} {m : Nat} : ∀ n, m ≤ n → nzE x m ≤ nzE x n
  | 0, h => by rw [show m = 0 by omega]; exact Int.le_refl _
  | n + 1, h => by
    by_cases e : m = n + 1
    · rw [e]; exact Int.le_refl _
    · have := nzE_mono (x := x) n (show m ≤ n by omega)
      rw [nzE]
      split <;> omega
theorem nzE_nn {x : Nat → Int} (n : Nat) : 0 ≤ nzE x n := nzE_mono (x := x) (m := 0) n (by omega)
/-- what stays true of the registers' place when nothing of them changes and the place is in the same blocks -/
theorem RSb_go {p : Nat → Nat → Int} {N : Nat} {len : Int} {x : Nat → Int} {Q : Nat → Int} {sn : Nat → Nat → Int} {pos pos' : Nat} {rg : Nat → Int} {pl : Int} {i : Nat} (hs : sameB p pos pos') (hp : pos' < N) (h : RSb p N len x Q sn pos rg pl i) : RSb p N len x Q sn pos' rg pl i := by
  obtain ⟨h0, h1, h2, h3, h4, h5, h6, h7, h8⟩ := h
  exact ⟨hp, h1, h2, h3, h4, fun k a b c => h5 k a b ((hs k).mpr c), fun k a b c => h6 k a b ((hs k).mpr c), fun k a b c => h7 k a b ((hs k).mpr c), fun m a b => (hs _).mp (h8 m a b)⟩
/-- the stack below i alone matters -/
theorem RSb_cong {p : Nat → Nat → Int} {N : Nat} {len : Int} {x x' : Nat → Int} {Q Q' : Nat → Int} {sn sn' : Nat → Nat → Int} {pos : Nat} {rg : Nat → Int} {pl : Int} {i : Nat} (hx : ∀ m, m < i → x' m = x m) (hQ : ∀ k, k < N → p 0 k = 12 → inB p k pos → Q' (p 3 k).toNat = Q (p 3 k).toNat) (hsn : ∀ m, m < i → sn' (x m / 32768).toNat = sn (x m / 32768).toNat) (h : RSb p N len x Q sn pos rg pl i) : RSb p N len x' Q' sn' pos rg pl i := by
  obtain ⟨h0, h1, h2, h3, h4, h5, h6, h7, h8⟩ := h
  refine ⟨h0, h1, h2, h3, h4, h5, h6, fun k a b c => ?_, fun m a b => ?_⟩
  · obtain ⟨m, m1, m2, m3, m4, m5⟩ := h7 k a b c
    refine ⟨m, (hQ k a b c).trans m1, m2, by rw [hx m m2]; exact m3, by rw [hx m m2]; exact m4, ?_⟩
    rw [hx m m2, hsn m m2]
    exact m5
  · rw [hx m a] at b ⊢
    exact h8 m a b
theorem EntR_cong {p : Nat → Nat → Int} {R : Nat → Int} {N : Nat} {len md md' : Int} {x x' : Nat → Int} {Q Q' : Nat → Int} {sn sn' : Nat → Nat → Int} {i : Nat} (hm : md ≤ md') (hx : ∀ m, m ≤ i → x' m = x m) (hQ : ∀ k, k < N → p 0 k = 12 → inB p k (x i / 4 % 256).toNat → Q' (p 3 k).toNat = Q (p 3 k).toNat) (hsn : ∀ m, m ≤ i → sn' (x m / 32768).toNat = sn (x m / 32768).toNat) (h : EntR p R N len md x Q sn i) : EntR p R N len md' x' Q' sn' i := by
  obtain ⟨h0, h1, h2, h3, h4, h5, h6, h7⟩ := h
  unfold EntR
  rw [hx i (Nat.le_refl _), hsn i (Nat.le_refl _)]
  refine ⟨h0, h1, h2, RSb_cong (fun m hmi => hx m (by omega)) hQ (fun m hmi => hsn m (by omega)) h3, by omega, fun a => ?_, h6, fun a => ?_⟩
  · have := h5 a; omega
  · obtain ⟨a1, a2, a3, a4, a5⟩ := h7 a
    exact ⟨a1, a2, a3, a4, by omega⟩
theorem StR_cong {p : Nat → Nat → Int} {R : Nat → Int} {N : Nat} {len md md' : Int} {x x' : Nat → Int} {Q Q' : Nat → Int} {sn sn' : Nat → Nat → Int} {cnt cnt' tr tr' : Nat} (hm : md ≤ md') (hc : cnt' ≤ cnt) (ht : ∀ i, i < cnt' → x i / 32768 ≤ tr → x i / 32768 ≤ tr') (hx : ∀ m, m < cnt' → x' m = x m) (hQ : ∀ k, k < N → p 0 k = 12 → (∃ i, i < cnt' ∧ inB p k (x i / 4 % 256).toNat) → Q' (p 3 k).toNat = Q (p 3 k).toNat) (hsn : ∀ m, m < cnt' → 0 ≤ x m → x m / 32768 ≤ tr → sn' (x m / 32768).toNat = sn (x m / 32768).toNat) (h : StR p R N len md x Q sn cnt tr) : StR p R N len md' x' Q' sn' cnt' tr' := by
  refine ⟨fun i hi => ⟨EntR_cong hm (fun m hmi => hx m (by omega)) (fun k a b c => hQ k a b ⟨i, hi, c⟩) (fun m hmi => hsn m (by omega) (h.1 m (by omega)).1.1 (h.1 m (by omega)).2) (h.1 i (by omega)).1, ?_⟩, fun i j hij hj => ?_⟩
  · rw [hx i hi]; exact ht i hi (h.1 i (by omega)).2
  · rw [hx i (by omega), hx j hj]; exact h.2 i j hij (by omega)
