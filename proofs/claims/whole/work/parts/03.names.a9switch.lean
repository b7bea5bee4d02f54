/-! switches and masks over whole numbers -/
/-- the bits that both have (none is negative) -/
def zand (a b : Int) : Int := ((a.toNat &&& b.toNat : Nat) : Int)
theorem zI_and {a b : Int} (ha : 0 ≤ a) (hb : 0 ≤ b) : zI a &&& zI b = zI (zand a b) := by
  obtain ⟨n, rfl⟩ : ∃ n : Nat, a = n := ⟨a.toNat, by omega⟩
  obtain ⟨k, rfl⟩ : ∃ k : Nat, b = k := ⟨b.toNat, by omega⟩
  have e : ∀ j : Nat, zI j = nI j := fun j => Int32.ofInt_eq_ofNat
  show zI n &&& zI k = zI (((n : Int).toNat &&& (k : Int).toNat : Nat) : Int)
  rw [e, e, e, Int.toNat_natCast, Int.toNat_natCast]
  apply Int32.toBitVec_inj.1
  show BitVec.ofNat 32 n &&& BitVec.ofNat 32 k = BitVec.ofNat 32 (n &&& k)
  apply BitVec.eq_of_getLsbD_eq
  intro i hi
  simp [hi]
theorem zand_bd {a b : Int} (ha : 0 ≤ a) : 0 ≤ zand a b ∧ zand a b ≤ a := by
  have : a.toNat &&& b.toNat ≤ a.toNat := Nat.and_le_left
  unfold zand
  omega
section SW
variable {p : Program} {l : Launch} {e : Env} {R : Room} {s : State} {m : MethodId} {args : Array Value} {below : List Frame} {meth : Method} {c : Code} {H : Heap} {locs : List Loc} {cells slots : Nat} {Q : State → Prop} {cc : ByteArray} {pc : Nat} {ls : Array Slot} {rest : List Value}
theorem z_iand (hexec : p.tables.exec = Jvm.exec) (hb : c.code = cc) {a b x : Int} (hx : zand a b = x) (ha : 0 ≤ a) (hb0 : 0 ≤ b) (hdg : decode cc pc = .ok (.iand, 1)) (k : W p l e R s m args below meth c H locs cells slots Q (F0 m (pc + 1) ls (.int (zI x) :: rest))) : W p l e R s m args below meth c H locs cells slots Q (F0 m pc ls (.int (zI b) :: .int (zI a) :: rest)) := by
  subst hx
  exact lv_iand hexec hb hdg (by rw [zI_and ha hb0]; exact k)
theorem z_lookup (hexec : p.tables.exec = Jvm.exec) (hb : c.code = cc) {dflt : Int} {ps : Array (Int × Int)} {len : Nat} {x off : Int} {tgt : Nat} (hz : zr x) (hdg : decode cc pc = .ok (.lookupswitch dflt ps, len)) (hp : (ps.toList.zip (ps.toList.drop 1)).all (fun (a, next) => a.1 < next.1) = true) (ho : Op.lookupswitch.offset ps.toList dflt x = off) (ht : (pc : Int) + off = (tgt : Int)) (k : W p l e R s m args below meth c H locs cells slots Q (F0 m tgt ls rest)) : W p l e R s m args below meth c H locs cells slots Q (F0 m pc ls (.int (zI x) :: rest)) :=
  lv_lookup hexec hb hdg hp (by rw [zI_toInt hz]; exact ho) ht k
theorem z_tableIn (hexec : p.tables.exec = Jvm.exec) (hb : c.code = cc) {dflt lo hi : Int} {offs : Array Int} {len : Nat} {x off : Int} {tgt : Nat} (hz : zr x) (hdg : decode cc pc = .ok (.tableswitch dflt lo hi offs, len)) (h1 : lo ≤ x) (h2 : x ≤ hi) (ho : offs[(x - lo).toNat]? = some off) (ht : (pc : Int) + off = (tgt : Int)) (k : W p l e R s m args below meth c H locs cells slots Q (F0 m tgt ls rest)) : W p l e R s m args below meth c H locs cells slots Q (F0 m pc ls (.int (zI x) :: rest)) :=
  lv_tableIn hexec hb hdg (by rw [zI_toInt hz]; omega) (by rw [zI_toInt hz]; omega) (by rw [zI_toInt hz]; exact ho) ht k
theorem z_tableOut (hexec : p.tables.exec = Jvm.exec) (hb : c.code = cc) {dflt lo hi : Int} {offs : Array Int} {len : Nat} {x : Int} {tgt : Nat} (hz : zr x) (hdg : decode cc pc = .ok (.tableswitch dflt lo hi offs, len)) (h : x < lo ∨ hi < x) (ht : (pc : Int) + dflt = (tgt : Int)) (k : W p l e R s m args below meth c H locs cells slots Q (F0 m tgt ls rest)) : W p l e R s m args below meth c H locs cells slots Q (F0 m pc ls (.int (zI x) :: rest)) :=
  lv_tableOut hexec hb hdg (by rw [zI_toInt hz]; exact h) ht k
end SW
