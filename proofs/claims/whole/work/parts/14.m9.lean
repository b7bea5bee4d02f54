theorem M_undoL_i0 : ∀ (n : Nat) (S : MSt), (M_undoL n S).1 0 = S.1 0
  | 0, _ => rfl
  | n + 1, S => by rw [M_undoL, M_undoL_i0 n]; rfl
theorem M_undo_i0 (mark : Int) (S : MSt) : (M_undo mark S).1 0 = S.1 0 := M_undoL_i0 _ _
theorem M_undoL_a1 : ∀ (n : Nat) (S : MSt), (M_undoL n S).2 1 = S.2 1
  | 0, _ => rfl
  | n + 1, S => by rw [M_undoL, M_undoL_a1 n]; rfl
theorem M_undo_a1 (mark : Int) (S : MSt) : (M_undo mark S).2 1 = S.2 1 := M_undoL_a1 _ _
theorem M_undoL_i2 : ∀ (n : Nat) (S : MSt), (M_undoL n S).1 2 = S.1 2
  | 0, _ => rfl
  | n + 1, S => by rw [M_undoL, M_undoL_i2 n]; rfl
theorem M_undo_i2 (mark : Int) (S : MSt) : (M_undo mark S).1 2 = S.1 2 := M_undoL_i2 _ _
theorem M_undoL_a3 : ∀ (n : Nat) (S : MSt), (M_undoL n S).2 3 = S.2 3
  | 0, _ => rfl
  | n + 1, S => by rw [M_undoL, M_undoL_a3 n]; rfl
theorem M_undo_a3 (mark : Int) (S : MSt) : (M_undo mark S).2 3 = S.2 3 := M_undoL_a3 _ _
theorem M_undoL_i4 : ∀ (n : Nat) (S : MSt), (M_undoL n S).1 4 = S.1 4
  | 0, _ => rfl
  | n + 1, S => by rw [M_undoL, M_undoL_i4 n]; rfl
theorem M_undo_i4 (mark : Int) (S : MSt) : (M_undo mark S).1 4 = S.1 4 := M_undoL_i4 _ _
theorem M_undoL_i5 : ∀ (n : Nat) (S : MSt), (M_undoL n S).1 5 = S.1 5
  | 0, _ => rfl
  | n + 1, S => by rw [M_undoL, M_undoL_i5 n]; rfl
theorem M_undo_i5 (mark : Int) (S : MSt) : (M_undo mark S).1 5 = S.1 5 := M_undoL_i5 _ _
theorem M_undoL_i6 : ∀ (n : Nat) (S : MSt), (M_undoL n S).1 6 = S.1 6
  | 0, _ => rfl
  | n + 1, S => by rw [M_undoL, M_undoL_i6 n]; rfl
theorem M_undo_i6 (mark : Int) (S : MSt) : (M_undo mark S).1 6 = S.1 6 := M_undoL_i6 _ _
theorem M_undoL_a7 : ∀ (n : Nat) (S : MSt), (M_undoL n S).2 7 = S.2 7
  | 0, _ => rfl
  | n + 1, S => by rw [M_undoL, M_undoL_a7 n]; rfl
theorem M_undo_a7 (mark : Int) (S : MSt) : (M_undo mark S).2 7 = S.2 7 := M_undoL_a7 _ _
theorem M_undoL_a8 : ∀ (n : Nat) (S : MSt), (M_undoL n S).2 8 = S.2 8
  | 0, _ => rfl
  | n + 1, S => by rw [M_undoL, M_undoL_a8 n]; rfl
theorem M_undo_a8 (mark : Int) (S : MSt) : (M_undo mark S).2 8 = S.2 8 := M_undoL_a8 _ _
theorem M_undoL_a9 : ∀ (n : Nat) (S : MSt), (M_undoL n S).2 9 = S.2 9
  | 0, _ => rfl
  | n + 1, S => by rw [M_undoL, M_undoL_a9 n]; rfl
theorem M_undo_a9 (mark : Int) (S : MSt) : (M_undo mark S).2 9 = S.2 9 := M_undoL_a9 _ _
theorem M_undoL_a10 : ∀ (n : Nat) (S : MSt), (M_undoL n S).2 10 = S.2 10
  | 0, _ => rfl
  | n + 1, S => by rw [M_undoL, M_undoL_a10 n]; rfl
theorem M_undo_a10 (mark : Int) (S : MSt) : (M_undo mark S).2 10 = S.2 10 := M_undoL_a10 _ _
theorem M_undoL_a11 : ∀ (n : Nat) (S : MSt), (M_undoL n S).2 11 = S.2 11
  | 0, _ => rfl
  | n + 1, S => by rw [M_undoL, M_undoL_a11 n]; rfl
theorem M_undo_a11 (mark : Int) (S : MSt) : (M_undo mark S).2 11 = S.2 11 := M_undoL_a11 _ _
theorem M_undoL_i12 : ∀ (n : Nat) (S : MSt), (M_undoL n S).1 12 = S.1 12
  | 0, _ => rfl
  | n + 1, S => by rw [M_undoL, M_undoL_i12 n]; rfl
theorem M_undo_i12 (mark : Int) (S : MSt) : (M_undo mark S).1 12 = S.1 12 := M_undoL_i12 _ _
theorem M_undoL_a13 : ∀ (n : Nat) (S : MSt), (M_undoL n S).2 13 = S.2 13
  | 0, _ => rfl
  | n + 1, S => by rw [M_undoL, M_undoL_a13 n]; rfl
theorem M_undo_a13 (mark : Int) (S : MSt) : (M_undo mark S).2 13 = S.2 13 := M_undoL_a13 _ _
theorem M_undoL_i14 : ∀ (n : Nat) (S : MSt), (M_undoL n S).1 14 = S.1 14
  | 0, _ => rfl
  | n + 1, S => by rw [M_undoL, M_undoL_i14 n]; rfl
theorem M_undo_i14 (mark : Int) (S : MSt) : (M_undo mark S).1 14 = S.1 14 := M_undoL_i14 _ _
theorem M_undoL_a15 : ∀ (n : Nat) (S : MSt), (M_undoL n S).2 15 = S.2 15
  | 0, _ => rfl
  | n + 1, S => by rw [M_undoL, M_undoL_a15 n]; rfl
theorem M_undo_a15 (mark : Int) (S : MSt) : (M_undo mark S).2 15 = S.2 15 := M_undoL_a15 _ _
theorem M_undoL_a16 : ∀ (n : Nat) (S : MSt), (M_undoL n S).2 16 = S.2 16
  | 0, _ => rfl
  | n + 1, S => by rw [M_undoL, M_undoL_a16 n]; rfl
theorem M_undo_a16 (mark : Int) (S : MSt) : (M_undo mark S).2 16 = S.2 16 := M_undoL_a16 _ _
theorem M_undoL_a17 : ∀ (n : Nat) (S : MSt), (M_undoL n S).2 17 = S.2 17
  | 0, _ => rfl
  | n + 1, S => by rw [M_undoL, M_undoL_a17 n]; rfl
theorem M_undo_a17 (mark : Int) (S : MSt) : (M_undo mark S).2 17 = S.2 17 := M_undoL_a17 _ _
theorem M_undoL_a18 : ∀ (n : Nat) (S : MSt), (M_undoL n S).2 18 = S.2 18
  | 0, _ => rfl
  | n + 1, S => by rw [M_undoL, M_undoL_a18 n]; rfl
theorem M_undo_a18 (mark : Int) (S : MSt) : (M_undo mark S).2 18 = S.2 18 := M_undoL_a18 _ _
theorem M_undoL_i19 : ∀ (n : Nat) (S : MSt), (M_undoL n S).1 19 = S.1 19
  | 0, _ => rfl
  | n + 1, S => by rw [M_undoL, M_undoL_i19 n]; rfl
theorem M_undo_i19 (mark : Int) (S : MSt) : (M_undo mark S).1 19 = S.1 19 := M_undoL_i19 _ _
theorem M_undoL_i20 : ∀ (n : Nat) (S : MSt), (M_undoL n S).1 20 = S.1 20
  | 0, _ => rfl
  | n + 1, S => by rw [M_undoL, M_undoL_i20 n]; rfl
theorem M_undo_i20 (mark : Int) (S : MSt) : (M_undo mark S).1 20 = S.1 20 := M_undoL_i20 _ _
theorem M_undoL_i21 : ∀ (n : Nat) (S : MSt), (M_undoL n S).1 21 = S.1 21
  | 0, _ => rfl
  | n + 1, S => by rw [M_undoL, M_undoL_i21 n]; rfl
theorem M_undo_i21 (mark : Int) (S : MSt) : (M_undo mark S).1 21 = S.1 21 := M_undoL_i21 _ _
theorem M_undoL_i22 : ∀ (n : Nat) (S : MSt), (M_undoL n S).1 22 = S.1 22
  | 0, _ => rfl
  | n + 1, S => by rw [M_undoL, M_undoL_i22 n]; rfl
theorem M_undo_i22 (mark : Int) (S : MSt) : (M_undo mark S).1 22 = S.1 22 := M_undoL_i22 _ _
theorem M_undoL_i23 : ∀ (n : Nat) (S : MSt), (M_undoL n S).1 23 = S.1 23
  | 0, _ => rfl
  | n + 1, S => by rw [M_undoL, M_undoL_i23 n]; rfl
theorem M_undo_i23 (mark : Int) (S : MSt) : (M_undo mark S).1 23 = S.1 23 := M_undoL_i23 _ _
theorem M_undoL_i24 : ∀ (n : Nat) (S : MSt), (M_undoL n S).1 24 = S.1 24
  | 0, _ => rfl
  | n + 1, S => by rw [M_undoL, M_undoL_i24 n]; rfl
theorem M_undo_i24 (mark : Int) (S : MSt) : (M_undo mark S).1 24 = S.1 24 := M_undoL_i24 _ _
theorem M_undoL_i25 : ∀ (n : Nat) (S : MSt), (M_undoL n S).1 25 = S.1 25
  | 0, _ => rfl
  | n + 1, S => by rw [M_undoL, M_undoL_i25 n]; rfl
theorem M_undo_i25 (mark : Int) (S : MSt) : (M_undo mark S).1 25 = S.1 25 := M_undoL_i25 _ _
theorem M_undoL_a26 : ∀ (n : Nat) (S : MSt), (M_undoL n S).2 26 = S.2 26
  | 0, _ => rfl
  | n + 1, S => by rw [M_undoL, M_undoL_a26 n]; rfl
theorem M_undo_a26 (mark : Int) (S : MSt) : (M_undo mark S).2 26 = S.2 26 := M_undoL_a26 _ _
theorem M_undoL_a27 : ∀ (n : Nat) (S : MSt), (M_undoL n S).2 27 = S.2 27
  | 0, _ => rfl
  | n + 1, S => by rw [M_undoL, M_undoL_a27 n]; rfl
theorem M_undo_a27 (mark : Int) (S : MSt) : (M_undo mark S).2 27 = S.2 27 := M_undoL_a27 _ _
theorem M_undoL_a28 : ∀ (n : Nat) (S : MSt), (M_undoL n S).2 28 = S.2 28
  | 0, _ => rfl
  | n + 1, S => by rw [M_undoL, M_undoL_a28 n]; rfl
theorem M_undo_a28 (mark : Int) (S : MSt) : (M_undo mark S).2 28 = S.2 28 := M_undoL_a28 _ _
theorem M_undoL_a29 : ∀ (n : Nat) (S : MSt), (M_undoL n S).2 29 = S.2 29
  | 0, _ => rfl
  | n + 1, S => by rw [M_undoL, M_undoL_a29 n]; rfl
theorem M_undo_a29 (mark : Int) (S : MSt) : (M_undo mark S).2 29 = S.2 29 := M_undoL_a29 _ _
theorem M_undoL_a30 : ∀ (n : Nat) (S : MSt), (M_undoL n S).2 30 = S.2 30
  | 0, _ => rfl
  | n + 1, S => by rw [M_undoL, M_undoL_a30 n]; rfl
theorem M_undo_a30 (mark : Int) (S : MSt) : (M_undo mark S).2 30 = S.2 30 := M_undoL_a30 _ _
theorem M_undoL_a31 : ∀ (n : Nat) (S : MSt), (M_undoL n S).2 31 = S.2 31
  | 0, _ => rfl
  | n + 1, S => by rw [M_undoL, M_undoL_a31 n]; rfl
theorem M_undo_a31 (mark : Int) (S : MSt) : (M_undo mark S).2 31 = S.2 31 := M_undoL_a31 _ _
theorem M_undoL_i32 : ∀ (n : Nat) (S : MSt), (M_undoL n S).1 32 = S.1 32
  | 0, _ => rfl
  | n + 1, S => by rw [M_undoL, M_undoL_i32 n]; rfl
theorem M_undo_i32 (mark : Int) (S : MSt) : (M_undo mark S).1 32 = S.1 32 := M_undoL_i32 _ _
theorem M_undoL_a34 : ∀ (n : Nat) (S : MSt), (M_undoL n S).2 34 = S.2 34
  | 0, _ => rfl
  | n + 1, S => by rw [M_undoL, M_undoL_a34 n]; rfl
theorem M_undo_a34 (mark : Int) (S : MSt) : (M_undo mark S).2 34 = S.2 34 := M_undoL_a34 _ _
theorem M_undoL_a36 : ∀ (n : Nat) (S : MSt), (M_undoL n S).2 36 = S.2 36
  | 0, _ => rfl
  | n + 1, S => by rw [M_undoL, M_undoL_a36 n]; rfl
theorem M_undo_a36 (mark : Int) (S : MSt) : (M_undo mark S).2 36 = S.2 36 := M_undoL_a36 _ _
theorem M_undoL_i37 : ∀ (n : Nat) (S : MSt), (M_undoL n S).1 37 = S.1 37
  | 0, _ => rfl
  | n + 1, S => by rw [M_undoL, M_undoL_i37 n]; rfl
theorem M_undo_i37 (mark : Int) (S : MSt) : (M_undo mark S).1 37 = S.1 37 := M_undoL_i37 _ _
theorem M_undoL_i38 : ∀ (n : Nat) (S : MSt), (M_undoL n S).1 38 = S.1 38
  | 0, _ => rfl
  | n + 1, S => by rw [M_undoL, M_undoL_i38 n]; rfl
theorem M_undo_i38 (mark : Int) (S : MSt) : (M_undo mark S).1 38 = S.1 38 := M_undoL_i38 _ _
theorem M_undoL_i39 : ∀ (n : Nat) (S : MSt), (M_undoL n S).1 39 = S.1 39
  | 0, _ => rfl
  | n + 1, S => by rw [M_undoL, M_undoL_i39 n]; rfl
theorem M_undo_i39 (mark : Int) (S : MSt) : (M_undo mark S).1 39 = S.1 39 := M_undoL_i39 _ _
theorem M_undoL_i40 : ∀ (n : Nat) (S : MSt), (M_undoL n S).1 40 = S.1 40
  | 0, _ => rfl
  | n + 1, S => by rw [M_undoL, M_undoL_i40 n]; rfl
theorem M_undo_i40 (mark : Int) (S : MSt) : (M_undo mark S).1 40 = S.1 40 := M_undoL_i40 _ _
theorem M_undoL_i41 : ∀ (n : Nat) (S : MSt), (M_undoL n S).1 41 = S.1 41
  | 0, _ => rfl
  | n + 1, S => by rw [M_undoL, M_undoL_i41 n]; rfl
theorem M_undo_i41 (mark : Int) (S : MSt) : (M_undo mark S).1 41 = S.1 41 := M_undoL_i41 _ _
theorem M_undoL_i42 : ∀ (n : Nat) (S : MSt), (M_undoL n S).1 42 = S.1 42
  | 0, _ => rfl
  | n + 1, S => by rw [M_undoL, M_undoL_i42 n]; rfl
theorem M_undo_i42 (mark : Int) (S : MSt) : (M_undo mark S).1 42 = S.1 42 := M_undoL_i42 _ _
theorem M_undoL_a43 : ∀ (n : Nat) (S : MSt), (M_undoL n S).2 43 = S.2 43
  | 0, _ => rfl
  | n + 1, S => by rw [M_undoL, M_undoL_a43 n]; rfl
theorem M_undo_a43 (mark : Int) (S : MSt) : (M_undo mark S).2 43 = S.2 43 := M_undoL_a43 _ _
theorem M_undoL_a44 : ∀ (n : Nat) (S : MSt), (M_undoL n S).2 44 = S.2 44
  | 0, _ => rfl
  | n + 1, S => by rw [M_undoL, M_undoL_a44 n]; rfl
theorem M_undo_a44 (mark : Int) (S : MSt) : (M_undo mark S).2 44 = S.2 44 := M_undoL_a44 _ _
theorem M_undoL_i45 : ∀ (n : Nat) (S : MSt), (M_undoL n S).1 45 = S.1 45
  | 0, _ => rfl
  | n + 1, S => by rw [M_undoL, M_undoL_i45 n]; rfl
theorem M_undo_i45 (mark : Int) (S : MSt) : (M_undo mark S).1 45 = S.1 45 := M_undoL_i45 _ _
theorem M_undoL_a46 : ∀ (n : Nat) (S : MSt), (M_undoL n S).2 46 = S.2 46
  | 0, _ => rfl
  | n + 1, S => by rw [M_undoL, M_undoL_a46 n]; rfl
theorem M_undo_a46 (mark : Int) (S : MSt) : (M_undo mark S).2 46 = S.2 46 := M_undoL_a46 _ _
theorem M_undoL_i47 : ∀ (n : Nat) (S : MSt), (M_undoL n S).1 47 = S.1 47
  | 0, _ => rfl
  | n + 1, S => by rw [M_undoL, M_undoL_i47 n]; rfl
theorem M_undo_i47 (mark : Int) (S : MSt) : (M_undo mark S).1 47 = S.1 47 := M_undoL_i47 _ _
theorem M_undoL_a48 : ∀ (n : Nat) (S : MSt), (M_undoL n S).2 48 = S.2 48
  | 0, _ => rfl
  | n + 1, S => by rw [M_undoL, M_undoL_a48 n]; rfl
theorem M_undo_a48 (mark : Int) (S : MSt) : (M_undo mark S).2 48 = S.2 48 := M_undoL_a48 _ _
theorem M_undoL_i49 : ∀ (n : Nat) (S : MSt), (M_undoL n S).1 49 = S.1 49
  | 0, _ => rfl
  | n + 1, S => by rw [M_undoL, M_undoL_i49 n]; rfl
theorem M_undo_i49 (mark : Int) (S : MSt) : (M_undo mark S).1 49 = S.1 49 := M_undoL_i49 _ _
theorem M_undoL_35 : ∀ (n : Nat) (S : MSt), (M_undoL n S).1 35 = S.1 35 - n
  | 0, S => by show S.1 35 = S.1 35 - 0; omega
  | n + 1, S => by
    rw [M_undoL, M_undoL_35 n]
    show S.1 35 - 1 - n = S.1 35 - ((n + 1 : Nat) : Int)
    omega
theorem M_undo_35 {mark : Int} {S : MSt} (h : mark ≤ S.1 35) : (M_undo mark S).1 35 = mark := by
  unfold M_undo
  rw [M_undoL_35]
  omega
theorem M_undoL_reg : ∀ (n : Nat) (S : MSt), (∀ j, -100000 ≤ S.2 33 j ∧ S.2 33 j ≤ 99999) → ∀ j, -100000 ≤ (M_undoL n S).2 33 j ∧ (M_undoL n S).2 33 j ≤ 99999
  | 0, _, h => h
  | n + 1, S, h => by
    rw [M_undoL]
    refine M_undoL_reg n _ (fun j => ?_)
    show -100000 ≤ zu (S.2 33) _ _ j ∧ zu (S.2 33) _ _ j ≤ 99999
    exact zu_in (P := fun x => -100000 ≤ x ∧ x ≤ 99999) h (by omega) j
theorem M_undo_reg {mark : Int} {S : MSt} (h : ∀ j, -100000 ≤ S.2 33 j ∧ S.2 33 j ≤ 99999) : ∀ j, -100000 ≤ (M_undo mark S).2 33 j ∧ (M_undo mark S).2 33 j ≤ 99999 := M_undoL_reg _ _ h
/-- what the pending choices must be, that going back can go through them: the place of each in the code, its place in the trail -/
def M_chOK (T : MSt) : Prop := ∀ j : Nat, (j : Int) < T.1 37 → 0 ≤ T.2 36 j ∧ T.2 36 j ≤ 2000000000 ∧ T.2 36 j / 32768 ≤ T.1 35 ∧ T.2 36 j / 4 % 256 < 220 ∧ -1000 ≤ T.2 9 (T.2 36 j / 4 % 256).toNat ∧ T.2 9 (T.2 36 j / 4 % 256).toNat ≤ 200000 ∧
  (T.2 36 j % 4 = 1 → 0 ≤ T.2 11 (T.2 36 j / 4 % 256).toNat ∧ T.2 11 (T.2 36 j / 4 % 256).toNat < 50 ∧ 0 ≤ T.2 10 (T.2 36 j / 4 % 256).toNat ∧ T.2 10 (T.2 36 j / 4 % 256).toNat ≤ 2000000 ∧ T.2 10 (T.2 36 j / 4 % 256).toNat / 16 % 256 ≤ T.2 10 (T.2 36 j / 4 % 256).toNat % 16)
def M_chMono (T : MSt) : Prop := ∀ i j : Nat, i ≤ j → (j : Int) < T.1 37 → T.2 36 i / 32768 ≤ T.2 36 j / 32768
theorem M_chOK_undo {T : MSt} (hch : M_chOK T) (hmo : M_chMono T) (h : 0 < T.1 37) : M_chOK (M_undo ((T.2 36 ((T.1 37) - 1).toNat) / 32768) (mi (mi T 37 ((T.1 37) - 1)) 38 (((T.2 36 ((T.1 37) - 1).toNat) / 1024) % 32))) := by
  intro j hj
  rw [M_undo_i37] at hj
  have hj' : (j : Int) < T.1 37 - 1 := hj
  have h0 := hch j (by omega)
  have h1 := hch (T.1 37 - 1).toNat (by omega)
  have h2 := hmo j (T.1 37 - 1).toNat (by omega) (by omega)
  have h5 := M_undo_35 (mark := (T.2 36 ((T.1 37) - 1).toNat) / 32768) (S := mi (mi T 37 ((T.1 37) - 1)) 38 (((T.2 36 ((T.1 37) - 1).toNat) / 1024) % 32)) h1.2.2.1
  rw [h5, M_undo_a36, M_undo_a9, M_undo_a11, M_undo_a10]
  exact ⟨h0.1, h0.2.1, h2, h0.2.2.2⟩
theorem M_chMono_undo {T : MSt} (hmo : M_chMono T) (h : 0 < T.1 37) : M_chMono (M_undo ((T.2 36 ((T.1 37) - 1).toNat) / 32768) (mi (mi T 37 ((T.1 37) - 1)) 38 (((T.2 36 ((T.1 37) - 1).toNat) / 1024) % 32))) := by
  intro i j hij hj
  rw [M_undo_i37] at hj
  have hj' : (j : Int) < T.1 37 - 1 := hj
  rw [M_undo_a36]
  exact hmo i j hij (by omega)
def M_goBackL  : Nat → MSt → Int × MSt
  | 0, T => (0, T)
  | n + 1, T => (if (T.1 37) ≤ 0 then (0, T) else (if ((T.2 36 ((T.1 37) - 1).toNat) % 4) = 0 then (1, (mi (M_undo ((T.2 36 ((T.1 37) - 1).toNat) / 32768) (mi (mi T 37 ((T.1 37) - 1)) 38 (((T.2 36 ((T.1 37) - 1).toNat) / 1024) % 32))) 39 (((T.2 36 ((T.1 37) - 1).toNat) / 4) % 256))) else (if ((T.2 36 ((T.1 37) - 1).toNat) % 4) = 1 then (1, (M_pass (((T.2 36 ((T.1 37) - 1).toNat) / 4) % 256) (M_undo ((T.2 36 ((T.1 37) - 1).toNat) / 32768) (mi (mi T 37 ((T.1 37) - 1)) 38 (((T.2 36 ((T.1 37) - 1).toNat) / 1024) % 32))))) else (if (T.2 9 (((T.2 36 ((T.1 37) - 1).toNat) / 4) % 256).toNat) = 0 then (1, (mi (M_undo ((T.2 36 ((T.1 37) - 1).toNat) / 32768) (mi (mi T 37 ((T.1 37) - 1)) 38 (((T.2 36 ((T.1 37) - 1).toNat) / 1024) % 32))) 39 ((T.2 10 (((T.2 36 ((T.1 37) - 1).toNat) / 4) % 256).toNat) + 1))) else M_goBackL  n ((M_undo ((T.2 36 ((T.1 37) - 1).toNat) / 32768) (mi (mi T 37 ((T.1 37) - 1)) 38 (((T.2 36 ((T.1 37) - 1).toNat) / 1024) % 32))))))))
set_option maxHeartbeats 4000000 in
set_option maxRecDepth 100000 in
theorem lp7_goBack (l : Launch) (D : va_G) (cy : Nat → ClassId) (o : Nat) (q : Nat → Nat)   {p : Program} {e : Env} {s : State} {m : MethodId} {args : Array Value} {below : List Frame} {meth : Method} {c : Code} (B : zAt p s m args meth c RX7 cX7_goBack 4 (some .boolean) (.code yX7_goBack cX7_goBack 4 (some .boolean) :: TB7)) (hK : va_K D vwCl (zTY cy) s) (post : Int → MSt → Prop) :
    ∀ (n : Nat) (T : MSt) (H : Heap) (locs : List Loc) (ls : Array Slot), (T.1 37 ≤ n) → (0 ≤ T.1 37) → (T.1 37 ≤ 3000) → (∀ j : Nat, 0 ≤ T.2 34 j ∧ T.2 34 j < 11520) → (0 ≤ T.1 35) → (T.1 35 ≤ 5800) → (∀ j, -100000 ≤ T.2 33 j ∧ T.2 33 j ≤ 99999) → (M_chOK T) → (M_chMono T) → mH D cy o q (mA o q) s.heap T H locs → lv_has ls 4 [(0, .ref o)] → post (M_goBackL  n T).1 (M_goBackL  n T).2 → W p l e (headSpec (.code yX7_goBack cX7_goBack 4 (some .boolean) :: TB7) ({ frames := 2, cells := 0, slots := 0, locals := 46 })).room s m args below meth c H locs 0 0 (MQ below (mQi D cy o q post) args s 0 0 (mA o q)) (F0 m 0 ls []) := by
  intro n
  induction n with
  | zero =>
    intro T H locs ls hn hc0 hc1 ht ht0 ht1 hr hch hmo hM hl hpost
    refine lv_aload_n B.1 B.2.1 dX7_goBack_0 rfl (lv_at hl 0 rfl) ?_
    refine m_get (x := T.1 37) B (i7 _) hK hM 37 (by decide) rfl rfl (List.mem_cons_of_mem _ w7_fRX7_228) dX7_goBack_1 ?_
    refine z_if_le (tgt := 108) B.1 B.2.1 (zr_of (by omega) (by omega)) dX7_goBack_4 (by decide) (fun c_1 => ?_) (fun c_1 => ?_)
    · --
      refine z_iconst B.1 B.2.1 dX7_goBack_108 ?_
      have hq : M_goBackL  0 T = (0, T) := rfl
      rw [hq] at hpost
      exact m_retz B hM (by decide) (hpost) dX7_goBack_109
    · exact absurd c_1 (by omega)
  | succ n ih =>
    intro T H locs ls hn hc0 hc1 ht ht0 ht1 hr hch hmo hM hl hpost
    refine lv_aload_n B.1 B.2.1 dX7_goBack_0 rfl (lv_at hl 0 rfl) ?_
    refine m_get (x := T.1 37) B (i7 _) hK hM 37 (by decide) rfl rfl (List.mem_cons_of_mem _ w7_fRX7_228) dX7_goBack_1 ?_
    refine z_if_le (tgt := 108) B.1 B.2.1 (zr_of (by omega) (by omega)) dX7_goBack_4 (by decide) (fun c_1 => ?_) (fun c_1 => ?_)
    · --
      refine z_iconst B.1 B.2.1 dX7_goBack_108 ?_
      have hq : M_goBackL  (n + 1) T = (0, T) := by rw [M_goBackL]; exact (if_pos c_1)
      rw [hq] at hpost
      exact m_retz B hM (by decide) (hpost) dX7_goBack_109
    · --
      have hx := hch ((T.1 37) - 1).toNat (by omega)
      obtain ⟨hx0, hx1, hx2, hx3, hx4, hx5, hx6⟩ := hx
      refine lv_aload_n B.1 B.2.1 dX7_goBack_7 rfl (lv_at hl 0 rfl) ?_
      refine lv_dup B.1 B.2.1 dX7_goBack_8 rfl ?_
      refine m_get (x := T.1 37) B (i7 _) hK hM 37 (by decide) rfl rfl (List.mem_cons_of_mem _ w7_fRX7_228) dX7_goBack_9 ?_
      refine z_iconst B.1 B.2.1 dX7_goBack_12 ?_
      refine z_isub (x := (T.1 37) - 1) B.1 B.2.1 rfl dX7_goBack_13 ?_
      refine m_put B (i7 _) hK hM 37 (by decide) rfl (by decide +kernel) (List.mem_cons_of_mem _ w7_fRX7_228) dX7_goBack_14 (fun H locs hM => ?_)
      refine lv_aload_n B.1 B.2.1 dX7_goBack_17 rfl (lv_at hl 0 rfl) ?_
      refine m_getr B (i7 _) hK hM 36 (by decide) rfl (List.mem_cons_of_mem _ w7_fRX7_71) dX7_goBack_18 ?_
      refine lv_aload_n B.1 B.2.1 dX7_goBack_21 rfl (lv_at hl 0 rfl) ?_
      refine m_get (x := (T.1 37) - 1) B (i7 _) hK hM 37 (by decide) rfl rfl (List.mem_cons_of_mem _ w7_fRX7_228) dX7_goBack_22 ?_
      refine m_iald (x := T.2 36 ((T.1 37) - 1).toNat) B hK hM 20 36 rfl rfl (by omega) (by simp only [mN]; omega) rfl dX7_goBack_25 ?_
      refine lv_istore_n (lv' := [(1, .int (zI (T.2 36 ((T.1 37) - 1).toNat))), (0, .ref o)]) B.1 B.2.1 dX7_goBack_26 rfl hl (by decide) rfl (fun ls hl => ?_)
      refine lv_iload_n B.1 B.2.1 dX7_goBack_27 rfl (lv_at hl 0 rfl) ?_
      refine z_iconst B.1 B.2.1 dX7_goBack_28 ?_
      refine z_irem (x := (T.2 36 ((T.1 37) - 1).toNat) % 4) B.1 B.2.1 rfl (zr_of (by omega) (by omega)) (by omega) (zr_of (by decide) (by decide)) (by decide) dX7_goBack_29 ?_
      refine lv_istore_n (lv' := [(2, .int (zI ((T.2 36 ((T.1 37) - 1).toNat) % 4))), (1, .int (zI (T.2 36 ((T.1 37) - 1).toNat))), (0, .ref o)]) B.1 B.2.1 dX7_goBack_30 rfl hl (by decide) rfl (fun ls hl => ?_)
      refine lv_iload_n B.1 B.2.1 dX7_goBack_31 rfl (lv_at hl 1 rfl) ?_
      refine z_iconst B.1 B.2.1 dX7_goBack_32 ?_
      refine z_idiv (x := (T.2 36 ((T.1 37) - 1).toNat) / 4) B.1 B.2.1 rfl (zr_of (by omega) (by omega)) (by omega) (zr_of (by decide) (by decide)) (by decide) dX7_goBack_33 ?_
      refine z_sipush B.1 B.2.1 (by decide) dX7_goBack_34 ?_
      refine z_irem (x := ((T.2 36 ((T.1 37) - 1).toNat) / 4) % 256) B.1 B.2.1 rfl (zr_of (by omega) (by omega)) (by omega) (zr_of (by decide) (by decide)) (by decide) dX7_goBack_37 ?_
      refine lv_istore_n (lv' := [(3, .int (zI (((T.2 36 ((T.1 37) - 1).toNat) / 4) % 256))), (2, .int (zI ((T.2 36 ((T.1 37) - 1).toNat) % 4))), (1, .int (zI (T.2 36 ((T.1 37) - 1).toNat))), (0, .ref o)]) B.1 B.2.1 dX7_goBack_38 rfl hl (by decide) rfl (fun ls hl => ?_)
      refine lv_aload_n B.1 B.2.1 dX7_goBack_39 rfl (lv_at hl 3 rfl) ?_
      refine lv_iload_n B.1 B.2.1 dX7_goBack_40 rfl (lv_at hl 2 rfl) ?_
      refine z_sipush B.1 B.2.1 (by decide) dX7_goBack_41 ?_
      refine z_idiv (x := (T.2 36 ((T.1 37) - 1).toNat) / 1024) B.1 B.2.1 rfl (zr_of (by omega) (by omega)) (by omega) (zr_of (by decide) (by decide)) (by decide) dX7_goBack_44 ?_
      refine z_bipush B.1 B.2.1 (by decide) dX7_goBack_45 ?_
      refine z_irem (x := ((T.2 36 ((T.1 37) - 1).toNat) / 1024) % 32) B.1 B.2.1 rfl (zr_of (by omega) (by omega)) (by omega) (zr_of (by decide) (by decide)) (by decide) dX7_goBack_47 ?_
      refine m_put B (i7 _) hK hM 38 (by decide) rfl (by decide +kernel) (List.mem_cons_of_mem _ w7_fRX7_216) dX7_goBack_48 (fun H locs hM => ?_)
      refine lv_aload_n B.1 B.2.1 dX7_goBack_51 rfl (lv_at hl 3 rfl) ?_
      refine lv_iload_n B.1 B.2.1 dX7_goBack_52 rfl (lv_at hl 2 rfl) ?_
      refine lv_ldc (v := zI 32768) B.1 B.2.1 B.2.2.2.1 (B.2.2.2.2.1 _ (List.mem_cons_of_mem _ w7_kRX7_231)) dX7_goBack_53 ?_
      refine z_idiv (x := (T.2 36 ((T.1 37) - 1).toNat) / 32768) B.1 B.2.1 rfl (zr_of (by omega) (by omega)) (by omega) (zr_of (by decide) (by decide)) (by decide) dX7_goBack_55 ?_
      refine m_callv (As := [.int (zI ((T.2 36 ((T.1 37) - 1).toNat) / 32768))]) (rest := []) B hK hM (cX7_undo_ok l D cy o q (mi (mi T 37 ((T.1 37) - 1)) 38 (((T.2 36 ((T.1 37) - 1).toNat) / 1024) % 32)) ((T.2 36 ((T.1 37) - 1).toNat) / 32768) (by show 0 ≤ ((T.2 36 ((T.1 37) - 1).toNat) / 32768); omega) (by show ((T.2 36 ((T.1 37) - 1).toNat) / 32768) ≤ (T.1 35); omega) (by show (T.1 35) ≤ 6000; omega) ht) (cw7 1 B w7_mRX7_232 w7_im_yX7_undo w7_sl_yX7_undo w7_cd_yX7_undo rfl rfl (by decide +kernel) ⟨Nat.le_of_ble_eq_true rfl, Nat.le_of_ble_eq_true rfl⟩) rfl hl.1 rfl (Nat.le_of_ble_eq_true rfl) dX7_goBack_56 ⟨Nat.zero_le _, Nat.zero_le _⟩ (fun S_3 H locs hp_2 hM => ?_)
      have hp_2 := hp_2.symm
      subst hp_2
      have f_5 : (M_undo ((T.2 36 ((T.1 37) - 1).toNat) / 32768) (mi (mi T 37 ((T.1 37) - 1)) 38 (((T.2 36 ((T.1 37) - 1).toNat) / 1024) % 32))).1 35 = ((T.2 36 ((T.1 37) - 1).toNat) / 32768) := M_undo_35 (S := (mi (mi T 37 ((T.1 37) - 1)) 38 (((T.2 36 ((T.1 37) - 1).toNat) / 1024) % 32))) (by show ((T.2 36 ((T.1 37) - 1).toNat) / 32768) ≤ (T.1 35); omega)
      have hr_4 := M_undo_reg (mark := ((T.2 36 ((T.1 37) - 1).toNat) / 32768)) (S := (mi (mi T 37 ((T.1 37) - 1)) 38 (((T.2 36 ((T.1 37) - 1).toNat) / 1024) % 32))) hr
      refine lv_iload_n B.1 B.2.1 dX7_goBack_59 rfl (lv_at hl 1 rfl) ?_
      refine z_if_ne (tgt := 70) B.1 B.2.1 (zr_of (by omega) (by omega)) dX7_goBack_60 (by decide) (fun c_6 => ?_) (fun c_6 => ?_)
      · --
        refine lv_iload_n B.1 B.2.1 dX7_goBack_70 rfl (lv_at hl 1 rfl) ?_
        refine z_iconst B.1 B.2.1 dX7_goBack_71 ?_
        refine z_icmp_ne (tgt := 82) B.1 B.2.1 (zr_of (by omega) (by omega)) (zr_of (by decide) (by decide)) dX7_goBack_72 (by decide) (fun c_7 => ?_) (fun c_7 => ?_)
        · --
          refine lv_aload_n B.1 B.2.1 dX7_goBack_82 rfl (lv_at hl 3 rfl) ?_
          refine m_getr B (i7 _) hK hM 9 (by decide) rfl (List.mem_cons_of_mem _ w7_fRX7_23) dX7_goBack_83 ?_
          refine lv_iload_n B.1 B.2.1 dX7_goBack_86 rfl (lv_at hl 0 rfl) ?_
          refine m_iald (x := T.2 9 (((T.2 36 ((T.1 37) - 1).toNat) / 4) % 256).toNat) B hK hM 4 9 rfl rfl (by omega) (by simp only [mN]; omega) (by simp only [M_undo_a9, mi_2]) dX7_goBack_87 ?_
          refine z_if_ne (tgt := 105) B.1 B.2.1 (zr_of (by omega) (by omega)) dX7_goBack_88 (by decide) (fun c_8 => ?_) (fun c_8 => ?_)
          · --
            refine lv_goto (tgt := 0) B.1 B.2.1 dX7_goBack_105 (by decide) ?_
            have hq : M_goBackL  (n + 1) T = M_goBackL  n ((M_undo ((T.2 36 ((T.1 37) - 1).toNat) / 32768) (mi (mi T 37 ((T.1 37) - 1)) 38 (((T.2 36 ((T.1 37) - 1).toNat) / 1024) % 32)))) := by rw [M_goBackL]; exact ((if_neg c_1).trans ((if_neg c_6).trans ((if_neg c_7).trans (if_neg c_8))))
            rw [hq] at hpost
            exact ih ((M_undo ((T.2 36 ((T.1 37) - 1).toNat) / 32768) (mi (mi T 37 ((T.1 37) - 1)) 38 (((T.2 36 ((T.1 37) - 1).toNat) / 1024) % 32)))) H locs ls (by simp only [M_undo_i37, mi_ne (show (37 : Nat) ≠ 38 by decide), mi_eq]; omega) (by simp only [M_undo_i37, mi_ne (show (37 : Nat) ≠ 38 by decide), mi_eq]; omega) (by simp only [M_undo_i37, mi_ne (show (37 : Nat) ≠ 38 by decide), mi_eq]; omega) (by rw [M_undo_a34]; exact ht) (by omega) (by omega) hr_4 (M_chOK_undo hch hmo (by omega)) (M_chMono_undo hmo (by omega)) hM (lv_sub hl [3] rfl) hpost
          · --
            refine lv_aload_n B.1 B.2.1 dX7_goBack_91 rfl (lv_at hl 3 rfl) ?_
            refine lv_aload_n B.1 B.2.1 dX7_goBack_92 rfl (lv_at hl 3 rfl) ?_
            refine m_getr B (i7 _) hK hM 10 (by decide) rfl (List.mem_cons_of_mem _ w7_fRX7_26) dX7_goBack_93 ?_
            refine lv_iload_n B.1 B.2.1 dX7_goBack_96 rfl (lv_at hl 0 rfl) ?_
            refine m_iald (x := T.2 10 (((T.2 36 ((T.1 37) - 1).toNat) / 4) % 256).toNat) B hK hM 5 10 rfl rfl (by omega) (by simp only [mN]; omega) (by simp only [M_undo_a10, mi_2]) dX7_goBack_97 ?_
            refine z_iconst B.1 B.2.1 dX7_goBack_98 ?_
            refine z_iadd (x := (T.2 10 (((T.2 36 ((T.1 37) - 1).toNat) / 4) % 256).toNat) + 1) B.1 B.2.1 rfl dX7_goBack_99 ?_
            refine m_put B (i7 _) hK hM 39 (by decide) rfl (by decide +kernel) (List.mem_cons_of_mem _ w7_fRX7_235) dX7_goBack_100 (fun H locs hM => ?_)
            refine z_iconst B.1 B.2.1 dX7_goBack_103 ?_
            have hq : M_goBackL  (n + 1) T = (1, (mi (M_undo ((T.2 36 ((T.1 37) - 1).toNat) / 32768) (mi (mi T 37 ((T.1 37) - 1)) 38 (((T.2 36 ((T.1 37) - 1).toNat) / 1024) % 32))) 39 ((T.2 10 (((T.2 36 ((T.1 37) - 1).toNat) / 4) % 256).toNat) + 1))) := by rw [M_goBackL]; exact ((if_neg c_1).trans ((if_neg c_6).trans ((if_neg c_7).trans (if_pos c_8))))
            rw [hq] at hpost
            exact m_retz B hM (by decide) (hpost) dX7_goBack_104
        · --
          obtain ⟨e1, e2, e3, e4, e5⟩ := hx6 (by omega)
          have hr9 : (M_undo ((T.2 36 ((T.1 37) - 1).toNat) / 32768) (mi (mi T 37 ((T.1 37) - 1)) 38 (((T.2 36 ((T.1 37) - 1).toNat) / 1024) % 32))).2 33 (30 + (M_undo ((T.2 36 ((T.1 37) - 1).toNat) / 32768) (mi (mi T 37 ((T.1 37) - 1)) 38 (((T.2 36 ((T.1 37) - 1).toNat) / 1024) % 32))).2 11 ((T.2 36 ((T.1 37) - 1).toNat) / 4 % 256).toNat).toNat < 100000 := by have := (hr_4 (30 + (M_undo ((T.2 36 ((T.1 37) - 1).toNat) / 32768) (mi (mi T 37 ((T.1 37) - 1)) 38 (((T.2 36 ((T.1 37) - 1).toNat) / 1024) % 32))).2 11 ((T.2 36 ((T.1 37) - 1).toNat) / 4 % 256).toNat).toNat).2; omega
          refine lv_aload_n B.1 B.2.1 dX7_goBack_75 rfl (lv_at hl 3 rfl) ?_
          refine lv_iload_n B.1 B.2.1 dX7_goBack_76 rfl (lv_at hl 0 rfl) ?_
          refine m_callv (As := [.int (zI (((T.2 36 ((T.1 37) - 1).toNat) / 4) % 256))]) (rest := []) B hK hM (cX7_pass_ok l D cy o q (M_undo ((T.2 36 ((T.1 37) - 1).toNat) / 32768) (mi (mi T 37 ((T.1 37) - 1)) 38 (((T.2 36 ((T.1 37) - 1).toNat) / 1024) % 32))) (((T.2 36 ((T.1 37) - 1).toNat) / 4) % 256) (by show 0 ≤ (((T.2 36 ((T.1 37) - 1).toNat) / 4) % 256); omega) (by show (((T.2 36 ((T.1 37) - 1).toNat) / 4) % 256) < 220; omega) (by (try simp only [M_undo_a11, mi_2]); omega) (by (try simp only [M_undo_a11, mi_2]); omega) (by (try simp only [M_undo_a10, mi_2]); omega) (by (try simp only [M_undo_a10, mi_2]); omega) (by (try simp only [M_undo_a10, mi_2]); omega) (by (try simp only [M_undo_i38, mi_eq]); omega) (by (try simp only [M_undo_i38, mi_eq]); omega) (by show 0 ≤ ((M_undo ((T.2 36 ((T.1 37) - 1).toNat) / 32768) (mi (mi T 37 ((T.1 37) - 1)) 38 (((T.2 36 ((T.1 37) - 1).toNat) / 1024) % 32))).1 35); omega) (by show ((M_undo ((T.2 36 ((T.1 37) - 1).toNat) / 32768) (mi (mi T 37 ((T.1 37) - 1)) 38 (((T.2 36 ((T.1 37) - 1).toNat) / 1024) % 32))).1 35) ≤ 5900; omega) (fun j => ⟨(hr_4 j).1, by have := (hr_4 j).2; omega⟩) hr9) (cw7 1 B w7_mRX7_238 w7_im_yX7_pass w7_sl_yX7_pass w7_cd_yX7_pass rfl rfl (by decide +kernel) ⟨Nat.le_of_ble_eq_true rfl, Nat.le_of_ble_eq_true rfl⟩) rfl hl.1 rfl (Nat.le_of_ble_eq_true rfl) dX7_goBack_77 ⟨Nat.zero_le _, Nat.zero_le _⟩ (fun S_10 H locs hp_9 hM => ?_)
          have hp_9 := hp_9.symm
          subst hp_9
          refine z_iconst B.1 B.2.1 dX7_goBack_80 ?_
          have hq : M_goBackL  (n + 1) T = (1, (M_pass (((T.2 36 ((T.1 37) - 1).toNat) / 4) % 256) (M_undo ((T.2 36 ((T.1 37) - 1).toNat) / 32768) (mi (mi T 37 ((T.1 37) - 1)) 38 (((T.2 36 ((T.1 37) - 1).toNat) / 1024) % 32))))) := by rw [M_goBackL]; exact ((if_neg c_1).trans ((if_neg c_6).trans (if_pos c_7)))
          rw [hq] at hpost
          exact m_retz B hM (by decide) (hpost) dX7_goBack_81
      · --
        refine lv_aload_n B.1 B.2.1 dX7_goBack_63 rfl (lv_at hl 3 rfl) ?_
        refine lv_iload_n B.1 B.2.1 dX7_goBack_64 rfl (lv_at hl 0 rfl) ?_
        refine m_put B (i7 _) hK hM 39 (by decide) rfl (by decide +kernel) (List.mem_cons_of_mem _ w7_fRX7_235) dX7_goBack_65 (fun H locs hM => ?_)
        refine z_iconst B.1 B.2.1 dX7_goBack_68 ?_
        have hq : M_goBackL  (n + 1) T = (1, (mi (M_undo ((T.2 36 ((T.1 37) - 1).toNat) / 32768) (mi (mi T 37 ((T.1 37) - 1)) 38 (((T.2 36 ((T.1 37) - 1).toNat) / 1024) % 32))) 39 (((T.2 36 ((T.1 37) - 1).toNat) / 4) % 256))) := by rw [M_goBackL]; exact ((if_neg c_1).trans (if_pos c_6))
        rw [hq] at hpost
        exact m_retz B hM (by decide) (hpost) dX7_goBack_69
def M_goBack (S : MSt) : Int × MSt := M_goBackL (S.1 37).toNat S
set_option maxHeartbeats 4000000 in
set_option maxRecDepth 100000 in
theorem cX7_goBack_ok (l : Launch) (D : va_G) (cy : Nat → ClassId) (o : Nat) (q : Nat → Nat) (S : MSt) (hc0 : 0 ≤ S.1 37) (hc1 : S.1 37 ≤ 3000) (ht : ∀ j : Nat, 0 ≤ S.2 34 j ∧ S.2 34 j < 11520) (ht0 : 0 ≤ S.1 35) (ht1 : S.1 35 ≤ 5800) (hr : ∀ j, -100000 ≤ S.2 33 j ∧ S.2 33 j ≤ 99999) (hch : M_chOK S) (hmo : M_chMono S) : mMi l D cy o q yX7_goBack (.code yX7_goBack cX7_goBack 4 (some .boolean) :: TB7) ({ frames := 2, cells := 0, slots := 0, locals := 46 }) S [] (fun r S' => r = (M_goBack S).1 ∧ S' = (M_goBack S).2) := by
  refine m_of (cc := cX7_goBack) (maxL := 4) (ret := (some .boolean)) (by decide) rfl rfl (Nat.le_of_ble_eq_true rfl) ?_
  intro p e s m args below meth c ls B hK hM hl
  have hl : lv_has ls 4 [(0, .ref o)] := hl
  exact lp7_goBack l D cy o q B hK _ (S.1 37).toNat S _ _ ls (by omega) hc0 hc1 ht ht0 ht1 hr hch hmo hM (lv_sub hl [0] rfl) ⟨rfl, rfl⟩
