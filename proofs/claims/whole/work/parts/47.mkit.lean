/-! Rows that the reference's methods want beside the others. -/
theorem pk_mulC (a b : Nat) : nI a * nI b = nI (b * a) := by rw [pk_mul, Nat.mul_comm]
section MM
variable {p : Program} {l : Launch} {e : Env} {R : Room} {s : State} {m : MethodId} {args : Array Value} {below : List Frame} {meth : Method} {c : Code} {H : Heap} {locs : List Loc} {cells slots : Nat} {Q : State → Prop}
variable {cc : ByteArray} {pc nL : Nat} {ls : Array Slot} {rest : List Value} {own : String}
theorem pl_idiv {x y : Nat} (X : CallFix p m c cc nL s args TG own) (hy0 : 0 < y) (hx : x < 2 ^ 31) (hy : y < 2 ^ 31) (hdg : decode cc pc = .ok (.idiv, 1)) (k : W p l e R s m args below meth c H locs cells slots Q (F0 m (pc + 1) ls (.int (nI (x / y)) :: rest))) : W p l e R s m args below meth c H locs cells slots Q (F0 m pc ls (.int (nI y) :: .int (nI x) :: rest)) :=
  lv_idiv X.1 X.2.1 hdg (nI_ne0 hy0 hy) (by rw [pk_div hx hy0 hy]; exact k)
theorem pl_irem {x y : Nat} (X : CallFix p m c cc nL s args TG own) (hy0 : 0 < y) (hx : x < 2 ^ 31) (hy : y < 2 ^ 31) (hdg : decode cc pc = .ok (.irem, 1)) (k : W p l e R s m args below meth c H locs cells slots Q (F0 m (pc + 1) ls (.int (nI (x % y)) :: rest))) : W p l e R s m args below meth c H locs cells slots Q (F0 m pc ls (.int (nI y) :: .int (nI x) :: rest)) :=
  lv_irem X.1 X.2.1 hdg (nI_ne0 hy0 hy) (by rw [pk_rem hx hy0 hy]; exact k)
end MM
section NF
variable {o n : Nat} {k : Int32}
theorem numFit_a (h : o = 5 ∨ o = 6) : numFit o k n = inB k 7 := if_pos h
theorem numFit_b (h1 : ¬ o = 5) (h2 : ¬ o = 6) (h : o = 9) : numFit o k n = inB k 8 := by unfold numFit; rw [if_neg (by omega), if_neg (by omega), if_pos h]
theorem numFit_c (h : o = 7 ∨ o = 8) : numFit o k n = inB k n := by unfold numFit; rw [if_neg (by omega), if_pos h]
theorem numFit_d (h1 : ¬ o = 5) (h2 : ¬ o = 6) (h3 : ¬ o = 9) (h4 : ¬ o = 7) (h5 : ¬ o = 8) : numFit o k n = true := by unfold numFit; rw [if_neg (by omega), if_neg (by omega), if_neg h3]
end NF
