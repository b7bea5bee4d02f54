theorem M_clr_i0 : ∀ (n : Nat) (g : Int) (S : MSt), (M_clr n g S).1 0 = S.1 0
  | 0, _, _ => rfl
  | n + 1, g, S => by rw [M_clr, M_clr_i0 n, M_put_i0, M_put_i0]
theorem M_clr_a1 : ∀ (n : Nat) (g : Int) (S : MSt), (M_clr n g S).2 1 = S.2 1
  | 0, _, _ => rfl
  | n + 1, g, S => by rw [M_clr, M_clr_a1 n, M_put_a1, M_put_a1]
theorem M_clr_i2 : ∀ (n : Nat) (g : Int) (S : MSt), (M_clr n g S).1 2 = S.1 2
  | 0, _, _ => rfl
  | n + 1, g, S => by rw [M_clr, M_clr_i2 n, M_put_i2, M_put_i2]
theorem M_clr_a3 : ∀ (n : Nat) (g : Int) (S : MSt), (M_clr n g S).2 3 = S.2 3
  | 0, _, _ => rfl
  | n + 1, g, S => by rw [M_clr, M_clr_a3 n, M_put_a3, M_put_a3]
theorem M_clr_i4 : ∀ (n : Nat) (g : Int) (S : MSt), (M_clr n g S).1 4 = S.1 4
  | 0, _, _ => rfl
  | n + 1, g, S => by rw [M_clr, M_clr_i4 n, M_put_i4, M_put_i4]
theorem M_clr_i5 : ∀ (n : Nat) (g : Int) (S : MSt), (M_clr n g S).1 5 = S.1 5
  | 0, _, _ => rfl
  | n + 1, g, S => by rw [M_clr, M_clr_i5 n, M_put_i5, M_put_i5]
theorem M_clr_i6 : ∀ (n : Nat) (g : Int) (S : MSt), (M_clr n g S).1 6 = S.1 6
  | 0, _, _ => rfl
  | n + 1, g, S => by rw [M_clr, M_clr_i6 n, M_put_i6, M_put_i6]
theorem M_clr_a7 : ∀ (n : Nat) (g : Int) (S : MSt), (M_clr n g S).2 7 = S.2 7
  | 0, _, _ => rfl
  | n + 1, g, S => by rw [M_clr, M_clr_a7 n, M_put_a7, M_put_a7]
theorem M_clr_a8 : ∀ (n : Nat) (g : Int) (S : MSt), (M_clr n g S).2 8 = S.2 8
  | 0, _, _ => rfl
  | n + 1, g, S => by rw [M_clr, M_clr_a8 n, M_put_a8, M_put_a8]
theorem M_clr_a9 : ∀ (n : Nat) (g : Int) (S : MSt), (M_clr n g S).2 9 = S.2 9
  | 0, _, _ => rfl
  | n + 1, g, S => by rw [M_clr, M_clr_a9 n, M_put_a9, M_put_a9]
theorem M_clr_a10 : ∀ (n : Nat) (g : Int) (S : MSt), (M_clr n g S).2 10 = S.2 10
  | 0, _, _ => rfl
  | n + 1, g, S => by rw [M_clr, M_clr_a10 n, M_put_a10, M_put_a10]
theorem M_clr_a11 : ∀ (n : Nat) (g : Int) (S : MSt), (M_clr n g S).2 11 = S.2 11
  | 0, _, _ => rfl
  | n + 1, g, S => by rw [M_clr, M_clr_a11 n, M_put_a11, M_put_a11]
theorem M_clr_i12 : ∀ (n : Nat) (g : Int) (S : MSt), (M_clr n g S).1 12 = S.1 12
  | 0, _, _ => rfl
  | n + 1, g, S => by rw [M_clr, M_clr_i12 n, M_put_i12, M_put_i12]
theorem M_clr_a13 : ∀ (n : Nat) (g : Int) (S : MSt), (M_clr n g S).2 13 = S.2 13
  | 0, _, _ => rfl
  | n + 1, g, S => by rw [M_clr, M_clr_a13 n, M_put_a13, M_put_a13]
theorem M_clr_i14 : ∀ (n : Nat) (g : Int) (S : MSt), (M_clr n g S).1 14 = S.1 14
  | 0, _, _ => rfl
  | n + 1, g, S => by rw [M_clr, M_clr_i14 n, M_put_i14, M_put_i14]
theorem M_clr_a15 : ∀ (n : Nat) (g : Int) (S : MSt), (M_clr n g S).2 15 = S.2 15
  | 0, _, _ => rfl
  | n + 1, g, S => by rw [M_clr, M_clr_a15 n, M_put_a15, M_put_a15]
theorem M_clr_a16 : ∀ (n : Nat) (g : Int) (S : MSt), (M_clr n g S).2 16 = S.2 16
  | 0, _, _ => rfl
  | n + 1, g, S => by rw [M_clr, M_clr_a16 n, M_put_a16, M_put_a16]
theorem M_clr_a17 : ∀ (n : Nat) (g : Int) (S : MSt), (M_clr n g S).2 17 = S.2 17
  | 0, _, _ => rfl
  | n + 1, g, S => by rw [M_clr, M_clr_a17 n, M_put_a17, M_put_a17]
theorem M_clr_a18 : ∀ (n : Nat) (g : Int) (S : MSt), (M_clr n g S).2 18 = S.2 18
  | 0, _, _ => rfl
  | n + 1, g, S => by rw [M_clr, M_clr_a18 n, M_put_a18, M_put_a18]
theorem M_clr_i19 : ∀ (n : Nat) (g : Int) (S : MSt), (M_clr n g S).1 19 = S.1 19
  | 0, _, _ => rfl
  | n + 1, g, S => by rw [M_clr, M_clr_i19 n, M_put_i19, M_put_i19]
theorem M_clr_i20 : ∀ (n : Nat) (g : Int) (S : MSt), (M_clr n g S).1 20 = S.1 20
  | 0, _, _ => rfl
  | n + 1, g, S => by rw [M_clr, M_clr_i20 n, M_put_i20, M_put_i20]
theorem M_clr_i21 : ∀ (n : Nat) (g : Int) (S : MSt), (M_clr n g S).1 21 = S.1 21
  | 0, _, _ => rfl
  | n + 1, g, S => by rw [M_clr, M_clr_i21 n, M_put_i21, M_put_i21]
theorem M_clr_i22 : ∀ (n : Nat) (g : Int) (S : MSt), (M_clr n g S).1 22 = S.1 22
  | 0, _, _ => rfl
  | n + 1, g, S => by rw [M_clr, M_clr_i22 n, M_put_i22, M_put_i22]
theorem M_clr_i23 : ∀ (n : Nat) (g : Int) (S : MSt), (M_clr n g S).1 23 = S.1 23
  | 0, _, _ => rfl
  | n + 1, g, S => by rw [M_clr, M_clr_i23 n, M_put_i23, M_put_i23]
theorem M_clr_i24 : ∀ (n : Nat) (g : Int) (S : MSt), (M_clr n g S).1 24 = S.1 24
  | 0, _, _ => rfl
  | n + 1, g, S => by rw [M_clr, M_clr_i24 n, M_put_i24, M_put_i24]
theorem M_clr_i25 : ∀ (n : Nat) (g : Int) (S : MSt), (M_clr n g S).1 25 = S.1 25
  | 0, _, _ => rfl
  | n + 1, g, S => by rw [M_clr, M_clr_i25 n, M_put_i25, M_put_i25]
theorem M_clr_a26 : ∀ (n : Nat) (g : Int) (S : MSt), (M_clr n g S).2 26 = S.2 26
  | 0, _, _ => rfl
  | n + 1, g, S => by rw [M_clr, M_clr_a26 n, M_put_a26, M_put_a26]
theorem M_clr_a27 : ∀ (n : Nat) (g : Int) (S : MSt), (M_clr n g S).2 27 = S.2 27
  | 0, _, _ => rfl
  | n + 1, g, S => by rw [M_clr, M_clr_a27 n, M_put_a27, M_put_a27]
theorem M_clr_a28 : ∀ (n : Nat) (g : Int) (S : MSt), (M_clr n g S).2 28 = S.2 28
  | 0, _, _ => rfl
  | n + 1, g, S => by rw [M_clr, M_clr_a28 n, M_put_a28, M_put_a28]
theorem M_clr_a29 : ∀ (n : Nat) (g : Int) (S : MSt), (M_clr n g S).2 29 = S.2 29
  | 0, _, _ => rfl
  | n + 1, g, S => by rw [M_clr, M_clr_a29 n, M_put_a29, M_put_a29]
theorem M_clr_a30 : ∀ (n : Nat) (g : Int) (S : MSt), (M_clr n g S).2 30 = S.2 30
  | 0, _, _ => rfl
  | n + 1, g, S => by rw [M_clr, M_clr_a30 n, M_put_a30, M_put_a30]
theorem M_clr_a31 : ∀ (n : Nat) (g : Int) (S : MSt), (M_clr n g S).2 31 = S.2 31
  | 0, _, _ => rfl
  | n + 1, g, S => by rw [M_clr, M_clr_a31 n, M_put_a31, M_put_a31]
theorem M_clr_i32 : ∀ (n : Nat) (g : Int) (S : MSt), (M_clr n g S).1 32 = S.1 32
  | 0, _, _ => rfl
  | n + 1, g, S => by rw [M_clr, M_clr_i32 n, M_put_i32, M_put_i32]
theorem M_clr_a36 : ∀ (n : Nat) (g : Int) (S : MSt), (M_clr n g S).2 36 = S.2 36
  | 0, _, _ => rfl
  | n + 1, g, S => by rw [M_clr, M_clr_a36 n, M_put_a36, M_put_a36]
theorem M_clr_i37 : ∀ (n : Nat) (g : Int) (S : MSt), (M_clr n g S).1 37 = S.1 37
  | 0, _, _ => rfl
  | n + 1, g, S => by rw [M_clr, M_clr_i37 n, M_put_i37, M_put_i37]
theorem M_clr_i38 : ∀ (n : Nat) (g : Int) (S : MSt), (M_clr n g S).1 38 = S.1 38
  | 0, _, _ => rfl
  | n + 1, g, S => by rw [M_clr, M_clr_i38 n, M_put_i38, M_put_i38]
theorem M_clr_i39 : ∀ (n : Nat) (g : Int) (S : MSt), (M_clr n g S).1 39 = S.1 39
  | 0, _, _ => rfl
  | n + 1, g, S => by rw [M_clr, M_clr_i39 n, M_put_i39, M_put_i39]
theorem M_clr_i40 : ∀ (n : Nat) (g : Int) (S : MSt), (M_clr n g S).1 40 = S.1 40
  | 0, _, _ => rfl
  | n + 1, g, S => by rw [M_clr, M_clr_i40 n, M_put_i40, M_put_i40]
theorem M_clr_i41 : ∀ (n : Nat) (g : Int) (S : MSt), (M_clr n g S).1 41 = S.1 41
  | 0, _, _ => rfl
  | n + 1, g, S => by rw [M_clr, M_clr_i41 n, M_put_i41, M_put_i41]
theorem M_clr_i42 : ∀ (n : Nat) (g : Int) (S : MSt), (M_clr n g S).1 42 = S.1 42
  | 0, _, _ => rfl
  | n + 1, g, S => by rw [M_clr, M_clr_i42 n, M_put_i42, M_put_i42]
theorem M_clr_a43 : ∀ (n : Nat) (g : Int) (S : MSt), (M_clr n g S).2 43 = S.2 43
  | 0, _, _ => rfl
  | n + 1, g, S => by rw [M_clr, M_clr_a43 n, M_put_a43, M_put_a43]
theorem M_clr_a44 : ∀ (n : Nat) (g : Int) (S : MSt), (M_clr n g S).2 44 = S.2 44
  | 0, _, _ => rfl
  | n + 1, g, S => by rw [M_clr, M_clr_a44 n, M_put_a44, M_put_a44]
theorem M_clr_i45 : ∀ (n : Nat) (g : Int) (S : MSt), (M_clr n g S).1 45 = S.1 45
  | 0, _, _ => rfl
  | n + 1, g, S => by rw [M_clr, M_clr_i45 n, M_put_i45, M_put_i45]
theorem M_clr_a46 : ∀ (n : Nat) (g : Int) (S : MSt), (M_clr n g S).2 46 = S.2 46
  | 0, _, _ => rfl
  | n + 1, g, S => by rw [M_clr, M_clr_a46 n, M_put_a46, M_put_a46]
theorem M_clr_i47 : ∀ (n : Nat) (g : Int) (S : MSt), (M_clr n g S).1 47 = S.1 47
  | 0, _, _ => rfl
  | n + 1, g, S => by rw [M_clr, M_clr_i47 n, M_put_i47, M_put_i47]
theorem M_clr_a48 : ∀ (n : Nat) (g : Int) (S : MSt), (M_clr n g S).2 48 = S.2 48
  | 0, _, _ => rfl
  | n + 1, g, S => by rw [M_clr, M_clr_a48 n, M_put_a48, M_put_a48]
theorem M_clr_i49 : ∀ (n : Nat) (g : Int) (S : MSt), (M_clr n g S).1 49 = S.1 49
  | 0, _, _ => rfl
  | n + 1, g, S => by rw [M_clr, M_clr_i49 n, M_put_i49, M_put_i49]
theorem M_pass_i0 (k : Int) (S : MSt) : (M_pass k S).1 0 = S.1 0 := by
  show (M_clr _ _ _).1 0 = _
  rw [M_clr_i0, M_put_i0, M_put_i0]
theorem M_pass_a1 (k : Int) (S : MSt) : (M_pass k S).2 1 = S.2 1 := by
  show (M_clr _ _ _).2 1 = _
  rw [M_clr_a1, M_put_a1, M_put_a1]
theorem M_pass_i2 (k : Int) (S : MSt) : (M_pass k S).1 2 = S.1 2 := by
  show (M_clr _ _ _).1 2 = _
  rw [M_clr_i2, M_put_i2, M_put_i2]
theorem M_pass_a3 (k : Int) (S : MSt) : (M_pass k S).2 3 = S.2 3 := by
  show (M_clr _ _ _).2 3 = _
  rw [M_clr_a3, M_put_a3, M_put_a3]
theorem M_pass_i4 (k : Int) (S : MSt) : (M_pass k S).1 4 = S.1 4 := by
  show (M_clr _ _ _).1 4 = _
  rw [M_clr_i4, M_put_i4, M_put_i4]
theorem M_pass_i5 (k : Int) (S : MSt) : (M_pass k S).1 5 = S.1 5 := by
  show (M_clr _ _ _).1 5 = _
  rw [M_clr_i5, M_put_i5, M_put_i5]
theorem M_pass_i6 (k : Int) (S : MSt) : (M_pass k S).1 6 = S.1 6 := by
  show (M_clr _ _ _).1 6 = _
  rw [M_clr_i6, M_put_i6, M_put_i6]
theorem M_pass_a7 (k : Int) (S : MSt) : (M_pass k S).2 7 = S.2 7 := by
  show (M_clr _ _ _).2 7 = _
  rw [M_clr_a7, M_put_a7, M_put_a7]
theorem M_pass_a8 (k : Int) (S : MSt) : (M_pass k S).2 8 = S.2 8 := by
  show (M_clr _ _ _).2 8 = _
  rw [M_clr_a8, M_put_a8, M_put_a8]
theorem M_pass_a9 (k : Int) (S : MSt) : (M_pass k S).2 9 = S.2 9 := by
  show (M_clr _ _ _).2 9 = _
  rw [M_clr_a9, M_put_a9, M_put_a9]
theorem M_pass_a10 (k : Int) (S : MSt) : (M_pass k S).2 10 = S.2 10 := by
  show (M_clr _ _ _).2 10 = _
  rw [M_clr_a10, M_put_a10, M_put_a10]
theorem M_pass_a11 (k : Int) (S : MSt) : (M_pass k S).2 11 = S.2 11 := by
  show (M_clr _ _ _).2 11 = _
  rw [M_clr_a11, M_put_a11, M_put_a11]
theorem M_pass_i12 (k : Int) (S : MSt) : (M_pass k S).1 12 = S.1 12 := by
  show (M_clr _ _ _).1 12 = _
  rw [M_clr_i12, M_put_i12, M_put_i12]
theorem M_pass_a13 (k : Int) (S : MSt) : (M_pass k S).2 13 = S.2 13 := by
  show (M_clr _ _ _).2 13 = _
  rw [M_clr_a13, M_put_a13, M_put_a13]
theorem M_pass_i14 (k : Int) (S : MSt) : (M_pass k S).1 14 = S.1 14 := by
  show (M_clr _ _ _).1 14 = _
  rw [M_clr_i14, M_put_i14, M_put_i14]
theorem M_pass_a15 (k : Int) (S : MSt) : (M_pass k S).2 15 = S.2 15 := by
  show (M_clr _ _ _).2 15 = _
  rw [M_clr_a15, M_put_a15, M_put_a15]
theorem M_pass_a16 (k : Int) (S : MSt) : (M_pass k S).2 16 = S.2 16 := by
  show (M_clr _ _ _).2 16 = _
  rw [M_clr_a16, M_put_a16, M_put_a16]
theorem M_pass_a17 (k : Int) (S : MSt) : (M_pass k S).2 17 = S.2 17 := by
  show (M_clr _ _ _).2 17 = _
  rw [M_clr_a17, M_put_a17, M_put_a17]
theorem M_pass_a18 (k : Int) (S : MSt) : (M_pass k S).2 18 = S.2 18 := by
  show (M_clr _ _ _).2 18 = _
  rw [M_clr_a18, M_put_a18, M_put_a18]
theorem M_pass_i19 (k : Int) (S : MSt) : (M_pass k S).1 19 = S.1 19 := by
  show (M_clr _ _ _).1 19 = _
  rw [M_clr_i19, M_put_i19, M_put_i19]
theorem M_pass_i20 (k : Int) (S : MSt) : (M_pass k S).1 20 = S.1 20 := by
  show (M_clr _ _ _).1 20 = _
  rw [M_clr_i20, M_put_i20, M_put_i20]
theorem M_pass_i21 (k : Int) (S : MSt) : (M_pass k S).1 21 = S.1 21 := by
  show (M_clr _ _ _).1 21 = _
  rw [M_clr_i21, M_put_i21, M_put_i21]
theorem M_pass_i22 (k : Int) (S : MSt) : (M_pass k S).1 22 = S.1 22 := by
  show (M_clr _ _ _).1 22 = _
  rw [M_clr_i22, M_put_i22, M_put_i22]
theorem M_pass_i23 (k : Int) (S : MSt) : (M_pass k S).1 23 = S.1 23 := by
  show (M_clr _ _ _).1 23 = _
  rw [M_clr_i23, M_put_i23, M_put_i23]
theorem M_pass_i24 (k : Int) (S : MSt) : (M_pass k S).1 24 = S.1 24 := by
  show (M_clr _ _ _).1 24 = _
  rw [M_clr_i24, M_put_i24, M_put_i24]
theorem M_pass_i25 (k : Int) (S : MSt) : (M_pass k S).1 25 = S.1 25 := by
  show (M_clr _ _ _).1 25 = _
  rw [M_clr_i25, M_put_i25, M_put_i25]
theorem M_pass_a26 (k : Int) (S : MSt) : (M_pass k S).2 26 = S.2 26 := by
  show (M_clr _ _ _).2 26 = _
  rw [M_clr_a26, M_put_a26, M_put_a26]
theorem M_pass_a27 (k : Int) (S : MSt) : (M_pass k S).2 27 = S.2 27 := by
  show (M_clr _ _ _).2 27 = _
  rw [M_clr_a27, M_put_a27, M_put_a27]
theorem M_pass_a28 (k : Int) (S : MSt) : (M_pass k S).2 28 = S.2 28 := by
  show (M_clr _ _ _).2 28 = _
  rw [M_clr_a28, M_put_a28, M_put_a28]
theorem M_pass_a29 (k : Int) (S : MSt) : (M_pass k S).2 29 = S.2 29 := by
  show (M_clr _ _ _).2 29 = _
  rw [M_clr_a29, M_put_a29, M_put_a29]
theorem M_pass_a30 (k : Int) (S : MSt) : (M_pass k S).2 30 = S.2 30 := by
  show (M_clr _ _ _).2 30 = _
  rw [M_clr_a30, M_put_a30, M_put_a30]
theorem M_pass_a31 (k : Int) (S : MSt) : (M_pass k S).2 31 = S.2 31 := by
  show (M_clr _ _ _).2 31 = _
  rw [M_clr_a31, M_put_a31, M_put_a31]
theorem M_pass_i32 (k : Int) (S : MSt) : (M_pass k S).1 32 = S.1 32 := by
  show (M_clr _ _ _).1 32 = _
  rw [M_clr_i32, M_put_i32, M_put_i32]
theorem M_pass_a36 (k : Int) (S : MSt) : (M_pass k S).2 36 = S.2 36 := by
  show (M_clr _ _ _).2 36 = _
  rw [M_clr_a36, M_put_a36, M_put_a36]
theorem M_pass_i37 (k : Int) (S : MSt) : (M_pass k S).1 37 = S.1 37 := by
  show (M_clr _ _ _).1 37 = _
  rw [M_clr_i37, M_put_i37, M_put_i37]
theorem M_pass_i38 (k : Int) (S : MSt) : (M_pass k S).1 38 = S.1 38 := by
  show (M_clr _ _ _).1 38 = _
  rw [M_clr_i38, M_put_i38, M_put_i38]
theorem M_pass_i40 (k : Int) (S : MSt) : (M_pass k S).1 40 = S.1 40 := by
  show (M_clr _ _ _).1 40 = _
  rw [M_clr_i40, M_put_i40, M_put_i40]
theorem M_pass_i41 (k : Int) (S : MSt) : (M_pass k S).1 41 = S.1 41 := by
  show (M_clr _ _ _).1 41 = _
  rw [M_clr_i41, M_put_i41, M_put_i41]
theorem M_pass_i42 (k : Int) (S : MSt) : (M_pass k S).1 42 = S.1 42 := by
  show (M_clr _ _ _).1 42 = _
  rw [M_clr_i42, M_put_i42, M_put_i42]
theorem M_pass_a43 (k : Int) (S : MSt) : (M_pass k S).2 43 = S.2 43 := by
  show (M_clr _ _ _).2 43 = _
  rw [M_clr_a43, M_put_a43, M_put_a43]
theorem M_pass_a44 (k : Int) (S : MSt) : (M_pass k S).2 44 = S.2 44 := by
  show (M_clr _ _ _).2 44 = _
  rw [M_clr_a44, M_put_a44, M_put_a44]
theorem M_pass_i45 (k : Int) (S : MSt) : (M_pass k S).1 45 = S.1 45 := by
  show (M_clr _ _ _).1 45 = _
  rw [M_clr_i45, M_put_i45, M_put_i45]
theorem M_pass_a46 (k : Int) (S : MSt) : (M_pass k S).2 46 = S.2 46 := by
  show (M_clr _ _ _).2 46 = _
  rw [M_clr_a46, M_put_a46, M_put_a46]
theorem M_pass_i47 (k : Int) (S : MSt) : (M_pass k S).1 47 = S.1 47 := by
  show (M_clr _ _ _).1 47 = _
  rw [M_clr_i47, M_put_i47, M_put_i47]
theorem M_pass_a48 (k : Int) (S : MSt) : (M_pass k S).2 48 = S.2 48 := by
  show (M_clr _ _ _).2 48 = _
  rw [M_clr_a48, M_put_a48, M_put_a48]
theorem M_pass_i49 (k : Int) (S : MSt) : (M_pass k S).1 49 = S.1 49 := by
  show (M_clr _ _ _).1 49 = _
  rw [M_clr_i49, M_put_i49, M_put_i49]
theorem M_pass_39 (k : Int) (S : MSt) : (M_pass k S).1 39 = k + 1 := rfl
def M_decide (k : Int) (S : MSt) : MSt := (if ((S.2 9 k.toNat) % 128) ≤ (S.2 33 (30 + (S.2 11 k.toNat)).toNat) then (if (((S.2 9 k.toNat) / 128) % 512) = 99 then (if ((if (S.2 9 k.toNat) < 65536 then 0 else 1 : Int)) = 0 then (M_pass k (M_choose 0 (((S.2 10 k.toNat) / 4096) + 1) S)) else (mi (M_choose 1 k S) 39 (((S.2 10 k.toNat) / 4096) + 1))) else (if (S.2 33 (30 + (S.2 11 k.toNat)).toNat) < (((S.2 9 k.toNat) / 128) % 512) then (if ((if (S.2 9 k.toNat) < 65536 then 0 else 1 : Int)) = 0 then (M_pass k (M_choose 0 (((S.2 10 k.toNat) / 4096) + 1) S)) else (mi (M_choose 1 k S) 39 (((S.2 10 k.toNat) / 4096) + 1))) else (mi S 39 (((S.2 10 k.toNat) / 4096) + 1)))) else (M_pass k S))
set_option maxHeartbeats 4000000 in
set_option maxRecDepth 100000 in
theorem cX7_decide_ok (l : Launch) (D : va_G) (cy : Nat → ClassId) (o : Nat) (q : Nat → Nat) (S : MSt) (k : Int) (hk0 : 0 ≤ k) (hk1 : k < 220) (hl0 : 0 ≤ S.2 11 k.toNat) (hl1 : S.2 11 k.toNat < 50) (hb0 : 0 ≤ S.2 10 k.toNat) (hb1 : S.2 10 k.toNat ≤ 2000000) (hb2 : S.2 10 k.toNat / 16 % 256 ≤ S.2 10 k.toNat % 16) (hp0 : 0 ≤ S.1 38) (hp1 : S.1 38 ≤ 1000) (ht0 : 0 ≤ S.1 35) (ht1 : S.1 35 ≤ 5900) (hr : ∀ j, -100000 ≤ S.2 33 j ∧ S.2 33 j ≤ 100000) (hr9 : S.2 33 (30 + S.2 11 k.toNat).toNat < 100000) (hc0 : 0 ≤ S.1 37) (hc1 : S.1 37 < 3000) (ha0 : 0 ≤ S.2 9 k.toNat) (ha1 : S.2 9 k.toNat ≤ 200000) : mMv l D cy o q yX7_decide (.code yX7_decide cX7_decide 7 none :: TB7) ({ frames := 2, cells := 0, slots := 0, locals := 46 }) S [.int (zI k)] (fun S' => S' = M_decide k S) := by
  refine m_of (cc := cX7_decide) (maxL := 7) (ret := none) (by decide) rfl rfl (Nat.le_of_ble_eq_true rfl) ?_
  intro p e s m args below meth c ls B hK hM hl
  have hl : lv_has ls 7 [(0, .ref o), (1, .int (zI k))] := hl
  have hr8 := hr (30 + S.2 11 k.toNat).toNat
  refine lv_aload_n B.1 B.2.1 dX7_decide_0 rfl (lv_at hl 0 rfl) ?_
  refine m_getr B (i7 _) hK hM 9 (by decide) rfl (List.mem_cons_of_mem _ w7_fRX7_23) dX7_decide_1 ?_
  refine lv_iload_n B.1 B.2.1 dX7_decide_4 rfl (lv_at hl 1 rfl) ?_
  refine m_iald (x := S.2 9 k.toNat) B hK hM 4 9 rfl rfl (by omega) (by simp only [mN]; omega) rfl dX7_decide_5 ?_
  refine z_sipush B.1 B.2.1 (by decide) dX7_decide_6 ?_
  refine z_irem (x := (S.2 9 k.toNat) % 128) B.1 B.2.1 rfl (zr_of (by omega) (by omega)) (by omega) (zr_of (by decide) (by decide)) (by decide) dX7_decide_9 ?_
  refine lv_istore_n (lv' := [(2, .int (zI ((S.2 9 k.toNat) % 128))), (0, .ref o), (1, .int (zI k))]) B.1 B.2.1 dX7_decide_10 rfl hl (by decide) rfl (fun ls hl => ?_)
  refine lv_aload_n B.1 B.2.1 dX7_decide_11 rfl (lv_at hl 1 rfl) ?_
  refine m_getr B (i7 _) hK hM 9 (by decide) rfl (List.mem_cons_of_mem _ w7_fRX7_23) dX7_decide_12 ?_
  refine lv_iload_n B.1 B.2.1 dX7_decide_15 rfl (lv_at hl 2 rfl) ?_
  refine m_iald (x := S.2 9 k.toNat) B hK hM 4 9 rfl rfl (by omega) (by simp only [mN]; omega) rfl dX7_decide_16 ?_
  refine z_sipush B.1 B.2.1 (by decide) dX7_decide_17 ?_
  refine z_idiv (x := (S.2 9 k.toNat) / 128) B.1 B.2.1 rfl (zr_of (by omega) (by omega)) (by omega) (zr_of (by decide) (by decide)) (by decide) dX7_decide_20 ?_
  refine z_sipush B.1 B.2.1 (by decide) dX7_decide_21 ?_
  refine z_irem (x := ((S.2 9 k.toNat) / 128) % 512) B.1 B.2.1 rfl (zr_of (by omega) (by omega)) (by omega) (zr_of (by decide) (by decide)) (by decide) dX7_decide_24 ?_
  refine lv_istore_n (lv' := [(3, .int (zI (((S.2 9 k.toNat) / 128) % 512))), (2, .int (zI ((S.2 9 k.toNat) % 128))), (0, .ref o), (1, .int (zI k))]) B.1 B.2.1 dX7_decide_25 rfl hl (by decide) rfl (fun ls hl => ?_)
  refine lv_aload_n B.1 B.2.1 dX7_decide_26 rfl (lv_at hl 2 rfl) ?_
  refine m_getr B (i7 _) hK hM 9 (by decide) rfl (List.mem_cons_of_mem _ w7_fRX7_23) dX7_decide_27 ?_
  refine lv_iload_n B.1 B.2.1 dX7_decide_30 rfl (lv_at hl 3 rfl) ?_
  refine m_iald (x := S.2 9 k.toNat) B hK hM 4 9 rfl rfl (by omega) (by simp only [mN]; omega) rfl dX7_decide_31 ?_
  refine lv_ldc (v := zI 65536) B.1 B.2.1 B.2.2.2.1 (B.2.2.2.2.1 _ (List.mem_cons_of_mem _ w7_kRX7_149)) dX7_decide_32 ?_
  refine z_joinH (P := fun v H' locs' => v = (if (S.2 9 k.toNat) < 65536 then 0 else 1 : Int) ∧ mH D cy o q (mA o q) s.heap S H' locs') (pcJ := 42) (lsJ := ls) (stJ := []) (fun v_1 H locs hv_2 => ?_) (fun hJ_3 => ?_)
  · --
    obtain ⟨hv_2, hM⟩ := hv_2
    have hb_4 : (if (S.2 9 k.toNat) < 65536 then 0 else 1 : Int) = 0 ∨ (if (S.2 9 k.toNat) < 65536 then 0 else 1 : Int) = 1 := by (repeat' split) <;> simp
    have hv_2 := hv_2.symm
    subst hv_2
    refine lv_istore (lv' := [(4, .int (zI ((if (S.2 9 k.toNat) < 65536 then 0 else 1 : Int)))), (3, .int (zI (((S.2 9 k.toNat) / 128) % 512))), (2, .int (zI ((S.2 9 k.toNat) % 128))), (0, .ref o), (1, .int (zI k))]) B.1 B.2.1 dX7_decide_42 hl (by decide) rfl (fun ls hl => ?_)
    refine lv_aload_n B.1 B.2.1 dX7_decide_44 rfl (lv_at hl 3 rfl) ?_
    refine m_getr B (i7 _) hK hM 33 (by decide) rfl (List.mem_cons_of_mem _ w7_fRX7_65) dX7_decide_45 ?_
    refine z_bipush B.1 B.2.1 (by decide) dX7_decide_48 ?_
    refine lv_aload_n B.1 B.2.1 dX7_decide_50 rfl (lv_at hl 3 rfl) ?_
    refine m_getr B (i7 _) hK hM 11 (by decide) rfl (List.mem_cons_of_mem _ w7_fRX7_29) dX7_decide_51 ?_
    refine lv_iload_n B.1 B.2.1 dX7_decide_54 rfl (lv_at hl 4 rfl) ?_
    refine m_iald (x := S.2 11 k.toNat) B hK hM 6 11 rfl rfl (by omega) (by simp only [mN]; omega) rfl dX7_decide_55 ?_
    refine z_iadd (x := 30 + (S.2 11 k.toNat)) B.1 B.2.1 rfl dX7_decide_56 ?_
    refine m_iald (x := S.2 33 (30 + (S.2 11 k.toNat)).toNat) B hK hM 18 33 rfl rfl (by omega) (by simp only [mN]; omega) rfl dX7_decide_57 ?_
    refine lv_istore (lv' := [(5, .int (zI (S.2 33 (30 + (S.2 11 k.toNat)).toNat))), (4, .int (zI ((if (S.2 9 k.toNat) < 65536 then 0 else 1 : Int)))), (3, .int (zI (((S.2 9 k.toNat) / 128) % 512))), (2, .int (zI ((S.2 9 k.toNat) % 128))), (0, .ref o), (1, .int (zI k))]) B.1 B.2.1 dX7_decide_58 hl (by decide) rfl (fun ls hl => ?_)
    refine lv_aload_n B.1 B.2.1 dX7_decide_60 rfl (lv_at hl 4 rfl) ?_
    refine m_getr B (i7 _) hK hM 10 (by decide) rfl (List.mem_cons_of_mem _ w7_fRX7_26) dX7_decide_61 ?_
    refine lv_iload_n B.1 B.2.1 dX7_decide_64 rfl (lv_at hl 5 rfl) ?_
    refine m_iald (x := S.2 10 k.toNat) B hK hM 5 10 rfl rfl (by omega) (by simp only [mN]; omega) rfl dX7_decide_65 ?_
    refine z_sipush B.1 B.2.1 (by decide) dX7_decide_66 ?_
    refine z_idiv (x := (S.2 10 k.toNat) / 4096) B.1 B.2.1 rfl (zr_of (by omega) (by omega)) (by omega) (zr_of (by decide) (by decide)) (by decide) dX7_decide_69 ?_
    refine lv_istore (lv' := [(6, .int (zI ((S.2 10 k.toNat) / 4096))), (5, .int (zI (S.2 33 (30 + (S.2 11 k.toNat)).toNat))), (4, .int (zI ((if (S.2 9 k.toNat) < 65536 then 0 else 1 : Int)))), (3, .int (zI (((S.2 9 k.toNat) / 128) % 512))), (2, .int (zI ((S.2 9 k.toNat) % 128))), (0, .ref o), (1, .int (zI k))]) B.1 B.2.1 dX7_decide_70 hl (by decide) rfl (fun ls hl => ?_)
    refine lv_iload B.1 B.2.1 dX7_decide_72 (lv_at hl 1 rfl) ?_
    refine lv_iload_n B.1 B.2.1 dX7_decide_74 rfl (lv_at hl 4 rfl) ?_
    refine z_icmp_ge (tgt := 86) B.1 B.2.1 (zr_of (by omega) (by omega)) (zr_of (by omega) (by omega)) dX7_decide_75 (by decide) (fun c_5 => ?_) (fun c_5 => ?_)
    · --
      refine lv_iload_n B.1 B.2.1 dX7_decide_86 rfl (lv_at hl 3 rfl) ?_
      refine z_bipush B.1 B.2.1 (by decide) dX7_decide_87 ?_
      refine z_icmp_eq (tgt := 109) B.1 B.2.1 (zr_of (by omega) (by omega)) (zr_of (by decide) (by decide)) dX7_decide_89 (by decide) (fun c_6 => ?_) (fun c_6 => ?_)
      · --
        refine lv_iload B.1 B.2.1 dX7_decide_109 (lv_at hl 2 rfl) ?_
        refine z_if_eq (tgt := 131) B.1 B.2.1 (zr_of (by omega) (by omega)) dX7_decide_111 (by decide) (fun c_7 => ?_) (fun c_7 => ?_)
        · --
          refine lv_aload_n B.1 B.2.1 dX7_decide_131 rfl (lv_at hl 5 rfl) ?_
          refine z_iconst B.1 B.2.1 dX7_decide_132 ?_
          refine lv_iload B.1 B.2.1 dX7_decide_133 (lv_at hl 0 rfl) ?_
          refine z_iconst B.1 B.2.1 dX7_decide_135 ?_
          refine z_iadd (x := ((S.2 10 k.toNat) / 4096) + 1) B.1 B.2.1 rfl dX7_decide_136 ?_
          refine m_callv (As := [.int (zI 0), .int (zI (((S.2 10 k.toNat) / 4096) + 1))]) (rest := []) B hK hM (cX7_choose_ok l D cy o q S 0 (((S.2 10 k.toNat) / 4096) + 1) (by show 0 ≤ (S.1 37); omega) (by show (S.1 37) < 3000; omega)) (cw7 2 B w7_mRX7_244 w7_im_yX7_choose w7_sl_yX7_choose w7_cd_yX7_choose rfl rfl (by decide +kernel) ⟨Nat.le_of_ble_eq_true rfl, Nat.le_of_ble_eq_true rfl⟩) rfl hl.1 rfl (Nat.le_of_ble_eq_true rfl) dX7_decide_137 ⟨Nat.zero_le _, Nat.zero_le _⟩ (fun S_9 H locs hp_8 hM => ?_)
          have hp_8 := hp_8.symm
          subst hp_8
          refine lv_aload_n B.1 B.2.1 dX7_decide_140 rfl (lv_at hl 5 rfl) ?_
          refine lv_iload_n B.1 B.2.1 dX7_decide_141 rfl (lv_at hl 6 rfl) ?_
          refine m_callv (As := [.int (zI k)]) (rest := []) B hK hM (cX7_pass_ok l D cy o q (M_choose 0 (((S.2 10 k.toNat) / 4096) + 1) S) k (by show 0 ≤ k; omega) (by show k < 220; omega) (by show 0 ≤ (S.2 11 k.toNat); omega) (by show (S.2 11 k.toNat) < 50; omega) (by show 0 ≤ (S.2 10 k.toNat); omega) (by show (S.2 10 k.toNat) ≤ 2000000; omega) (by show (S.2 10 k.toNat) / 16 % 256 ≤ (S.2 10 k.toNat) % 16; omega) (by show 0 ≤ (S.1 38); omega) (by show (S.1 38) ≤ 1000; omega) (by show 0 ≤ (S.1 35); omega) (by show (S.1 35) ≤ 5900; omega) hr hr9) (cw7 1 B w7_mRX7_238 w7_im_yX7_pass w7_sl_yX7_pass w7_cd_yX7_pass rfl rfl (by decide +kernel) ⟨Nat.le_of_ble_eq_true rfl, Nat.le_of_ble_eq_true rfl⟩) rfl hl.1 rfl (Nat.le_of_ble_eq_true rfl) dX7_decide_142 ⟨Nat.zero_le _, Nat.zero_le _⟩ (fun S_11 H locs hp_10 hM => ?_)
          have hp_10 := hp_10.symm
          subst hp_10
          exact m_retv B hM (by unfold M_decide; exact ((if_pos c_5).trans ((if_pos c_6).trans (if_pos c_7))).symm) dX7_decide_145
        · --
          refine lv_aload_n B.1 B.2.1 dX7_decide_114 rfl (lv_at hl 5 rfl) ?_
          refine z_iconst B.1 B.2.1 dX7_decide_115 ?_
          refine lv_iload_n B.1 B.2.1 dX7_decide_116 rfl (lv_at hl 6 rfl) ?_
          refine m_callv (As := [.int (zI 1), .int (zI k)]) (rest := []) B hK hM (cX7_choose_ok l D cy o q S 1 k (by show 0 ≤ (S.1 37); omega) (by show (S.1 37) < 3000; omega)) (cw7 2 B w7_mRX7_244 w7_im_yX7_choose w7_sl_yX7_choose w7_cd_yX7_choose rfl rfl (by decide +kernel) ⟨Nat.le_of_ble_eq_true rfl, Nat.le_of_ble_eq_true rfl⟩) rfl hl.1 rfl (Nat.le_of_ble_eq_true rfl) dX7_decide_117 ⟨Nat.zero_le _, Nat.zero_le _⟩ (fun S_13 H locs hp_12 hM => ?_)
          have hp_12 := hp_12.symm
          subst hp_12
          refine lv_aload_n B.1 B.2.1 dX7_decide_120 rfl (lv_at hl 5 rfl) ?_
          refine lv_iload B.1 B.2.1 dX7_decide_121 (lv_at hl 0 rfl) ?_
          refine z_iconst B.1 B.2.1 dX7_decide_123 ?_
          refine z_iadd (x := ((S.2 10 k.toNat) / 4096) + 1) B.1 B.2.1 rfl dX7_decide_124 ?_
          refine m_put B (i7 _) hK hM 39 (by decide) rfl (by decide +kernel) (List.mem_cons_of_mem _ w7_fRX7_235) dX7_decide_125 (fun H locs hM => ?_)
          refine lv_goto (tgt := 145) B.1 B.2.1 dX7_decide_128 (by decide) ?_
          exact m_retv B hM (by unfold M_decide; exact ((if_pos c_5).trans ((if_pos c_6).trans (if_neg c_7))).symm) dX7_decide_145
      · --
        refine lv_iload B.1 B.2.1 dX7_decide_92 (lv_at hl 1 rfl) ?_
        refine lv_iload_n B.1 B.2.1 dX7_decide_94 rfl (lv_at hl 3 rfl) ?_
        refine z_icmp_lt (tgt := 109) B.1 B.2.1 (zr_of (by omega) (by omega)) (zr_of (by omega) (by omega)) dX7_decide_95 (by decide) (fun c_14 => ?_) (fun c_14 => ?_)
        · --
          refine lv_iload B.1 B.2.1 dX7_decide_109 (lv_at hl 2 rfl) ?_
          refine z_if_eq (tgt := 131) B.1 B.2.1 (zr_of (by omega) (by omega)) dX7_decide_111 (by decide) (fun c_15 => ?_) (fun c_15 => ?_)
          · --
            refine lv_aload_n B.1 B.2.1 dX7_decide_131 rfl (lv_at hl 5 rfl) ?_
            refine z_iconst B.1 B.2.1 dX7_decide_132 ?_
            refine lv_iload B.1 B.2.1 dX7_decide_133 (lv_at hl 0 rfl) ?_
            refine z_iconst B.1 B.2.1 dX7_decide_135 ?_
            refine z_iadd (x := ((S.2 10 k.toNat) / 4096) + 1) B.1 B.2.1 rfl dX7_decide_136 ?_
            refine m_callv (As := [.int (zI 0), .int (zI (((S.2 10 k.toNat) / 4096) + 1))]) (rest := []) B hK hM (cX7_choose_ok l D cy o q S 0 (((S.2 10 k.toNat) / 4096) + 1) (by show 0 ≤ (S.1 37); omega) (by show (S.1 37) < 3000; omega)) (cw7 2 B w7_mRX7_244 w7_im_yX7_choose w7_sl_yX7_choose w7_cd_yX7_choose rfl rfl (by decide +kernel) ⟨Nat.le_of_ble_eq_true rfl, Nat.le_of_ble_eq_true rfl⟩) rfl hl.1 rfl (Nat.le_of_ble_eq_true rfl) dX7_decide_137 ⟨Nat.zero_le _, Nat.zero_le _⟩ (fun S_17 H locs hp_16 hM => ?_)
            have hp_16 := hp_16.symm
            subst hp_16
            refine lv_aload_n B.1 B.2.1 dX7_decide_140 rfl (lv_at hl 5 rfl) ?_
            refine lv_iload_n B.1 B.2.1 dX7_decide_141 rfl (lv_at hl 6 rfl) ?_
            refine m_callv (As := [.int (zI k)]) (rest := []) B hK hM (cX7_pass_ok l D cy o q (M_choose 0 (((S.2 10 k.toNat) / 4096) + 1) S) k (by show 0 ≤ k; omega) (by show k < 220; omega) (by show 0 ≤ (S.2 11 k.toNat); omega) (by show (S.2 11 k.toNat) < 50; omega) (by show 0 ≤ (S.2 10 k.toNat); omega) (by show (S.2 10 k.toNat) ≤ 2000000; omega) (by show (S.2 10 k.toNat) / 16 % 256 ≤ (S.2 10 k.toNat) % 16; omega) (by show 0 ≤ (S.1 38); omega) (by show (S.1 38) ≤ 1000; omega) (by show 0 ≤ (S.1 35); omega) (by show (S.1 35) ≤ 5900; omega) hr hr9) (cw7 1 B w7_mRX7_238 w7_im_yX7_pass w7_sl_yX7_pass w7_cd_yX7_pass rfl rfl (by decide +kernel) ⟨Nat.le_of_ble_eq_true rfl, Nat.le_of_ble_eq_true rfl⟩) rfl hl.1 rfl (Nat.le_of_ble_eq_true rfl) dX7_decide_142 ⟨Nat.zero_le _, Nat.zero_le _⟩ (fun S_19 H locs hp_18 hM => ?_)
            have hp_18 := hp_18.symm
            subst hp_18
            exact m_retv B hM (by unfold M_decide; exact ((if_pos c_5).trans ((if_neg c_6).trans ((if_pos c_14).trans (if_pos c_15)))).symm) dX7_decide_145
          · --
            refine lv_aload_n B.1 B.2.1 dX7_decide_114 rfl (lv_at hl 5 rfl) ?_
            refine z_iconst B.1 B.2.1 dX7_decide_115 ?_
            refine lv_iload_n B.1 B.2.1 dX7_decide_116 rfl (lv_at hl 6 rfl) ?_
            refine m_callv (As := [.int (zI 1), .int (zI k)]) (rest := []) B hK hM (cX7_choose_ok l D cy o q S 1 k (by show 0 ≤ (S.1 37); omega) (by show (S.1 37) < 3000; omega)) (cw7 2 B w7_mRX7_244 w7_im_yX7_choose w7_sl_yX7_choose w7_cd_yX7_choose rfl rfl (by decide +kernel) ⟨Nat.le_of_ble_eq_true rfl, Nat.le_of_ble_eq_true rfl⟩) rfl hl.1 rfl (Nat.le_of_ble_eq_true rfl) dX7_decide_117 ⟨Nat.zero_le _, Nat.zero_le _⟩ (fun S_21 H locs hp_20 hM => ?_)
            have hp_20 := hp_20.symm
            subst hp_20
            refine lv_aload_n B.1 B.2.1 dX7_decide_120 rfl (lv_at hl 5 rfl) ?_
            refine lv_iload B.1 B.2.1 dX7_decide_121 (lv_at hl 0 rfl) ?_
            refine z_iconst B.1 B.2.1 dX7_decide_123 ?_
            refine z_iadd (x := ((S.2 10 k.toNat) / 4096) + 1) B.1 B.2.1 rfl dX7_decide_124 ?_
            refine m_put B (i7 _) hK hM 39 (by decide) rfl (by decide +kernel) (List.mem_cons_of_mem _ w7_fRX7_235) dX7_decide_125 (fun H locs hM => ?_)
            refine lv_goto (tgt := 145) B.1 B.2.1 dX7_decide_128 (by decide) ?_
            exact m_retv B hM (by unfold M_decide; exact ((if_pos c_5).trans ((if_neg c_6).trans ((if_pos c_14).trans (if_neg c_15)))).symm) dX7_decide_145
        · --
          refine lv_aload_n B.1 B.2.1 dX7_decide_98 rfl (lv_at hl 5 rfl) ?_
          refine lv_iload B.1 B.2.1 dX7_decide_99 (lv_at hl 0 rfl) ?_
          refine z_iconst B.1 B.2.1 dX7_decide_101 ?_
          refine z_iadd (x := ((S.2 10 k.toNat) / 4096) + 1) B.1 B.2.1 rfl dX7_decide_102 ?_
          refine m_put B (i7 _) hK hM 39 (by decide) rfl (by decide +kernel) (List.mem_cons_of_mem _ w7_fRX7_235) dX7_decide_103 (fun H locs hM => ?_)
          refine lv_goto (tgt := 145) B.1 B.2.1 dX7_decide_106 (by decide) ?_
          exact m_retv B hM (by unfold M_decide; exact ((if_pos c_5).trans ((if_neg c_6).trans (if_neg c_14))).symm) dX7_decide_145
    · --
      refine lv_aload_n B.1 B.2.1 dX7_decide_78 rfl (lv_at hl 5 rfl) ?_
      refine lv_iload_n B.1 B.2.1 dX7_decide_79 rfl (lv_at hl 6 rfl) ?_
      refine m_callv (As := [.int (zI k)]) (rest := []) B hK hM (cX7_pass_ok l D cy o q S k (by show 0 ≤ k; omega) (by show k < 220; omega) (by show 0 ≤ (S.2 11 k.toNat); omega) (by show (S.2 11 k.toNat) < 50; omega) (by show 0 ≤ (S.2 10 k.toNat); omega) (by show (S.2 10 k.toNat) ≤ 2000000; omega) (by show (S.2 10 k.toNat) / 16 % 256 ≤ (S.2 10 k.toNat) % 16; omega) (by show 0 ≤ (S.1 38); omega) (by show (S.1 38) ≤ 1000; omega) (by show 0 ≤ (S.1 35); omega) (by show (S.1 35) ≤ 5900; omega) hr hr9) (cw7 1 B w7_mRX7_238 w7_im_yX7_pass w7_sl_yX7_pass w7_cd_yX7_pass rfl rfl (by decide +kernel) ⟨Nat.le_of_ble_eq_true rfl, Nat.le_of_ble_eq_true rfl⟩) rfl hl.1 rfl (Nat.le_of_ble_eq_true rfl) dX7_decide_80 ⟨Nat.zero_le _, Nat.zero_le _⟩ (fun S_23 H locs hp_22 hM => ?_)
      have hp_22 := hp_22.symm
      subst hp_22
      refine lv_goto (tgt := 145) B.1 B.2.1 dX7_decide_83 (by decide) ?_
      exact m_retv B hM (by unfold M_decide; exact (if_neg c_5).symm) dX7_decide_145
  · --
    refine z_icmp_lt (tgt := 41) B.1 B.2.1 (zr_of (by omega) (by omega)) (zr_of (by decide) (by decide)) dX7_decide_34 (by decide) (fun c_24 => ?_) (fun c_24 => ?_)
    · --
      refine z_iconst B.1 B.2.1 dX7_decide_41 ?_
      exact hJ_3 _ _ _ ⟨(if_pos c_24).symm, hM⟩
    · --
      refine z_iconst B.1 B.2.1 dX7_decide_37 ?_
      refine lv_goto (tgt := 42) B.1 B.2.1 dX7_decide_38 (by decide) ?_
      exact hJ_3 _ _ _ ⟨(if_neg c_24).symm, hM⟩
