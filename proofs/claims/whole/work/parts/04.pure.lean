/-! THE REFERENCE'S METHODS AS FUNCTIONS OF ITS STATE -/
abbrev M_isDigit (x : Int) : Prop := 48 ≤ x ∧ x ≤ 57
abbrev M_isClass (x : Int) : Prop := x = 100 ∨ x = 119 ∨ x = 115 ∨ x = 68 ∨ x = 87 ∨ x = 83
abbrev M_isSpecial (x : Int) : Prop := x = 94 ∨ x = 36 ∨ x = 92 ∨ x = 46 ∨ x = 42 ∨ x = 43 ∨ x = 63 ∨ x = 40 ∨ x = 41 ∨ x = 91 ∨ x = 93 ∨ x = 123 ∨ x = 125 ∨ x = 124
def M_other (x : Int) : Int := if 97 ≤ x ∧ x ≤ 122 then x - 32 else if 65 ≤ x ∧ x ≤ 90 then x + 32 else x
def M_emit (w x y z : Int) (S : MSt) : MSt := mi (ma (ma (ma (ma S 15 (S.1 19).toNat w) 16 (S.1 19).toNat x) 17 (S.1 19).toNat y) 18 (S.1 19).toNat z) 19 (S.1 19 + 1)
def M_sign (S : MSt) (k : Int) : Int := if S.1 14 ≤ k then 0 else S.2 13 k.toNat
def M_weigh (w : Int) (S : MSt) : MSt := ma S 30 (S.1 32 - 1).toNat (S.2 30 (S.1 32 - 1).toNat + w)
def M_step (S : MSt) : MSt := mi (mi S 41 (zb (¬ S.1 41 = 0 ∨ S.1 40 = 500))) 40 (S.1 40 + 1)
def M_put (r v : Int) (S : MSt) : MSt := if S.2 33 r.toNat = v then S else ma (mi (ma S 34 (S.1 35).toNat (64 * r + S.2 33 r.toNat + 2)) 35 (S.1 35 + 1)) 33 r.toNat v
def M_choose (kind what : Int) (S : MSt) : MSt := mi (ma S 36 (S.1 37).toNat (kind + 4 * (what + 256 * (S.1 38 + 32 * S.1 35)))) 37 (S.1 37 + 1)
def M_looked (k : Int) (S : MSt) : MSt := mi (mi S 38 (S.2 36 (S.2 33 (130 + S.2 11 k.toNat).toNat).toNat / 1024 % 32)) 37 (S.2 33 (130 + S.2 11 k.toNat).toNat)
abbrev M_isIdle (k : Int) (S : MSt) : Prop := S.2 9 k.toNat % 128 < S.2 33 (30 + S.2 11 k.toNat).toNat ∧ S.2 33 (80 + S.2 11 k.toNat).toNat = S.1 38
