/-! 'throw new NoSuchElementException(text)' in a method of the component -/
section GRN
variable {p : Program} {l : Launch} {e : Env} {R : Room} {s : State} {m : MethodId} {args : Array Value} {below : List Frame} {meth : Method} {c : Code} {H : Heap} {locs : List Loc} {Q : State → Prop} {cc : ByteArray} {pc : Nat} {ls : Array Slot} {rest : List Value}
variable {D : va_G} {cy : Nat → ClassId} {q : Nat → Nat} {V : Nat × (Nat → Nat)} {n0 x y : Nat} {A : Nat → Prop} {S S0 : CSt} {maxL : Nat} {ret : Option FieldType} {ws : List Cond} {index : Nat} {C E : String} {rc : CR} {Qc : Array Value → State → Outcome → State → Prop}
/-- 'throw new E(text)' -/
theorem g_throwN {ik is : Nat} {text : String} (j : Nat) (hj : j < 26) (hl0 : l.stackTraces = false) (B : zAt p s m args meth c C cc maxL ret ws) (hG : gEn V n0 A s c) (h : cH D cy (cq q x y) A s.heap S H locs) (hC : C = "PatternRunner") (hT : sT j = (C, is, text)) (hE : nsE ∈ sX) (hk : Cond.classLink C ik nsE ∈ ws) (hini : Cond.initialized nsE ∈ ws) (hat : ∀ w ∈ (vx_ns).filter goodWord, w ∈ ws) (hng : ∀ w ∈ (vx_ns).filter (fun w => !goodWord w), w ∈ sNG nsE) (hsize : ls.size = maxL) (hroom : (rest.map fun v => v.category).sum ≤ 8) (hR : R.cells = (gK - gl S0) + 1 ∧ R.slots = 2 * (gK - gl S0) + 6) (hF : 5 < R.frames) (hL : 90 ≤ R.locals) (hg0 : gl S0 ≤ gl S) (hg1 : gl S ≤ gK)
    (hgood : ∀ w ∈ Cond.classLink C ik nsE :: Cond.initialized nsE :: vx_ns, vx_ot w = true)
    (d0 : decode cc pc = .ok (.new ik, 3)) (d3 : decode cc (pc + 3) = .ok (.dup, 1)) (d4 : decode cc (pc + 4) = .ok (.ldc is, 2)) (d6 : decode cc (pc + 6) = .ok (.invokespecial 143, 3)) (d9 : decode cc (pc + 9) = .ok (.athrow, 1)) (hr : rc = (1, 0, S)) :
    W p l e R s m args below meth c H locs (gl S - gl S0) (2 * (gl S - gl S0)) (vx_MQ below Qc (gX D cy q A nsE rc) args s (gc S0 rc) (gs S0 rc) A) (F0 m pc ls rest) := by
  subst hC
  obtain ⟨h1, h2, h3, h4, h5, -⟩ := hG.1
  have hs := h1 j hj
  rw [hT] at hs
  have e1 : gc S0 rc = (gl S - gl S0) + 1 := by rw [hr]; rfl
  have e2 : gs S0 rc = 2 * (gl S - gl S0) + 6 := by rw [hr]; rfl
  refine vx_throwN (A := A) (mc := gc S0 rc) (ms := gs S0 rc) (sa := V.2 j) B.1 B.2.1 hl0 B.2.2.2.1 (B.2.2.2.2.1 _ hk) (B.2.2.2.2.1 _ hini) hs ?_ hgood (h2.narrow hG.2.1) (h3.narrow hG.2.1) h.2.2 (hsize.trans B.2.2.1.symm) d0 d3 d4 d6 d9 (fun z hz => (hG.2.2.2.2.2 z hz).elim) hF (by omega) (by rw [hR.1]; omega) (by rw [hR.2]; omega) B.2.2.2.2.2.2 ?_ h.2.2.2.2 (by rw [e1]; exact Nat.le_refl _) (by rw [e2]; exact Nat.le_refl _)
  · refine vx_hat (B := sNG nsE) (fun w hw => B.2.2.2.2.1 w (hat w hw)) hng ?_
    exact vx_c (va_Nw.use rfl (h4 nsE hE)) (vx_c (va_Nw.use rfl (h5 _ (List.Mem.head _))) (vx_c (va_Nw.use rfl (h5 _ (List.Mem.tail _ (List.Mem.head _)))) (vx_c (va_Nw.use rfl (h5 _ (List.Mem.tail _ (List.Mem.tail _ (List.Mem.head _))))) vx_n)))
  · intro t hvm hsz hsm
    refine ⟨(S, x, y), hr, ⟨rfl, ?_, h.2.1⟩, ?_⟩
    · exact va_P.kept h.1 (fun k z hk => hsm z.1 (vx_lt h.1 hk))
    · exact ⟨Nat.le_trans h.2.2.1 hsz, fun a ha hn => (hsm a (Nat.lt_of_lt_of_le ha h.2.2.1)).trans (h.2.2.2.1 a ha hn)⟩
end GRN
