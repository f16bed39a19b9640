/-! New objects and arrays. -/
def cwN (cl : List vw_C) (own : String) (idx ci : Nat) (C : String) (T : u_T) (N : Nat) (ty : Nat → FieldType) : Prop := cl[ci]? = some (C, T, N) ∧ (∀ w ∈ u_ws C T N, w ∈ TG) ∧ (∀ k, k < N → parseFieldDescriptor (T k).2.2.1 = some (ty k)) ∧ Cond.classLink own idx C ∈ TG ∧ Cond.instantiable C N ∈ TG ∧ Cond.initialized C ∈ TG
section MK
variable {p : Program} {l : Launch} {e : Env} {R : Room} {s : State} {m : MethodId} {args : Array Value} {below : List Frame} {meth : Method} {c : Code} {H : Heap} {locs : List Loc} {cells slots : Nat} {Q : State → Prop}
variable {cc : ByteArray} {pc nL : Nat} {ls : Array Slot} {rest : List Value} {D : va_G} {cl : List vw_C} {A : Nat → Prop} {a : Nat} {tys : List (ClassId × FieldType)} {ws : va_W} {own : String}
theorem pl_new {idx ci N : Nat} {C : String} {T : u_T} {ty : Nat → FieldType} (X : CallFix p m c cc nL s args TG own) (Kn : cwN cl own idx ci C T N ty) (hK : va_K D cl tys s) (hP : va_P D cl ws H) (hD : va_D A ws) (hS : va_S A s.heap H locs) (hA : ∀ q, s.heap.size ≤ q → A q) {fs : List Value} (hfs : ∀ j, j < N → defaultValue (ty j) = vp_V fs j) (hc : cells + 1 ≤ R.cells) (hs : slots + N ≤ R.slots) (hdg : decode cc pc = .ok (.new idx, 3))
    {ws' : Nat → va_W} (hw : ∀ q, ws ++ [(q, .inr (ci, fs))] = ws' q) (kk : ∀ (q : Nat) (H1 : Heap), va_P D cl (ws' q) H1 → va_D A (ws' q) → va_S A s.heap H1 locs → W p l e R s m args below meth c H1 locs (cells + 1) (slots + N) Q (F0 m (pc + 3) ls (.ref q :: rest))) : W p l e R s m args below meth c H locs cells slots Q (F0 m pc ls rest) :=
  va_new X.1 X.2.1 X.2.2.2.2 Kn.2.1 ty Kn.2.2.1 X.2.2.2.1 (X.2.2.2.2 _ Kn.2.2.2.1) (X.2.2.2.2 _ Kn.2.2.2.2.1) (X.2.2.2.2 _ Kn.2.2.2.2.2) hK hP hD hS hA Kn.1 hfs hc hs hdg (fun q H1 h1 h2 h3 => kk q H1 (hw q ▸ h1) (hw q ▸ h2) h3)
theorem pl_newaI {cI : ClassId} {N : Nat} (X : CallFix p m c cc nL s args TG own) (hw0 : Cond.arrayClass .int ∈ TG) (hK : va_K D cl tys s) (t0 : Nat) (ht : tys[t0]? = some (cI, .int)) (hP : va_P D cl ws H) (hD : va_D A ws) (hS : va_S A s.heap H locs) (hA : ∀ q, s.heap.size ≤ q → A q) (hN : N ≤ 100000) (hc : cells + 1 ≤ R.cells) (hs : slots + N ≤ R.slots) (hdg : decode cc pc = .ok (.newarray .int, 2))
    {ws' : Nat → va_W} (hw : ∀ q, ws ++ [(q, .inl (cI, N, .inl (fun _ => nI 0)))] = ws' q) (kk : ∀ (q : Nat) (H1 : Heap), va_P D cl (ws' q) H1 → va_D A (ws' q) → va_S A s.heap H1 locs → W p l e R s m args below meth c H1 locs (cells + 1) (slots + N) Q (F0 m (pc + 2) ls (.ref q :: rest))) : W p l e R s m args below meth c H locs cells slots Q (F0 m pc ls (.int (nI N) :: rest)) := by
  refine va_newa (atype := .int) (ty := .int) (a0 := (N, .inl (fun _ => nI 0))) X.1 X.2.1 (X.2.2.2.2 _ hw0) rfl hK hP hD hS hA (fun cA => rfl) (nI_pos (by omega)) (nI_clamp (by omega)) (by show N * 4 ≤ _; omega) hc hs hdg ?_
  intro q cA H1 hK1 h1 h2 h3
  have e1 : s.vm.findClass ("[" ++ FieldType.int.toString) = some cA := (hK1.2 tys.length (cA, .int) (by rw [List.getElem?_append_right (Nat.le_refl _), Nat.sub_self]; rfl)).2
  have e2 : s.vm.findClass ("[" ++ FieldType.int.toString) = some cI := (hK.2 t0 _ ht).2
  have e3 : cA = cI := Option.some.inj (e1.symm.trans e2)
  subst e3
  exact kk q H1 (hw q ▸ h1) (hw q ▸ h2) h3
theorem pl_newaZ {cI : ClassId} {N : Nat} (X : CallFix p m c cc nL s args TG own) (hw0 : Cond.arrayClass .boolean ∈ TG) (hK : va_K D cl tys s) (t0 : Nat) (ht : tys[t0]? = some (cI, .boolean)) (hP : va_P D cl ws H) (hD : va_D A ws) (hS : va_S A s.heap H locs) (hA : ∀ q, s.heap.size ≤ q → A q) (hN : N ≤ 100000) (hc : cells + 1 ≤ R.cells) (hs : slots + N ≤ R.slots) (hdg : decode cc pc = .ok (.newarray .boolean, 2))
    {ws' : Nat → va_W} (hw : ∀ q, ws ++ [(q, .inl (cI, N, .inl (fun _ => nI 0)))] = ws' q) (kk : ∀ (q : Nat) (H1 : Heap), va_P D cl (ws' q) H1 → va_D A (ws' q) → va_S A s.heap H1 locs → W p l e R s m args below meth c H1 locs (cells + 1) (slots + N) Q (F0 m (pc + 2) ls (.ref q :: rest))) : W p l e R s m args below meth c H locs cells slots Q (F0 m pc ls (.int (nI N) :: rest)) := by
  refine va_newa (atype := .boolean) (ty := .boolean) (a0 := (N, .inl (fun _ => nI 0))) X.1 X.2.1 (X.2.2.2.2 _ hw0) rfl hK hP hD hS hA (fun cA => rfl) (nI_pos (by omega)) (nI_clamp (by omega)) (by show N * 1 ≤ _; omega) hc hs hdg ?_
  intro q cA H1 hK1 h1 h2 h3
  have e1 : s.vm.findClass ("[" ++ FieldType.boolean.toString) = some cA := (hK1.2 tys.length (cA, .boolean) (by rw [List.getElem?_append_right (Nat.le_refl _), Nat.sub_self]; rfl)).2
  have e2 : s.vm.findClass ("[" ++ FieldType.boolean.toString) = some cI := (hK.2 t0 _ ht).2
  have e3 : cA = cI := Option.some.inj (e1.symm.trans e2)
  subst e3
  exact kk q H1 (hw q ▸ h1) (hw q ▸ h2) h3
end MK
