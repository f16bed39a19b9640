/-! Truth values, numbers, arrays that agree. -/
def bI (b : Bool) : Int32 := cond b 1 0
theorem bI_t {b : Bool} (h : b = true) : nI 1 = bI b := by subst h; rfl
theorem bI_f {b : Bool} (h : b = false) : nI 0 = bI b := by subst h; rfl
theorem bI_nar (b : Bool) : narrow .boolean (.int (bI b)) = .int (bI b) := by cases b <;> rfl
theorem bI_fit (b : Bool) : fits .boolean (.int (bI b)) = true := by cases b <;> rfl
theorem bI_0 {b : Bool} : bI b = 0 ↔ b = false := by cases b <;> simp [bI] <;> decide
theorem nI_0iff {x : Nat} (hx : x < 2 ^ 31) : nI x = 0 ↔ x = 0 := by rw [← nI_0]; exact nI_eq hx (by decide)
theorem i_lt0 {x : Int32} : x < 0 ↔ x.toInt < 0 := by rw [Int32.lt_iff_toInt_lt]; rfl
theorem i_le {x y : Int32} : x ≤ y ↔ x.toInt ≤ y.toInt := Int32.le_iff_toInt_le
theorem i_lt {x y : Int32} : x < y ↔ x.toInt < y.toInt := Int32.lt_iff_toInt_lt
/-- an int that is a natural number below n -/
def inB (x : Int32) (n : Nat) : Bool := decide (0 ≤ x.toInt ∧ x.toInt < n)
theorem inB_lo {x : Int32} {n : Nat} (h : x < 0) : inB x n = false := by
  have := i_lt0.mp h
  simp only [inB, decide_eq_false_iff_not]; omega
theorem inB_hi {x : Int32} {n : Nat} (hn : n < 2 ^ 31) (h : nI n ≤ x) : inB x n = false := by
  have h1 := i_le.mp h
  rw [nI_toInt hn] at h1
  simp only [inB, decide_eq_false_iff_not]; omega
theorem inB_in {x : Int32} {n : Nat} (hn : n < 2 ^ 31) (h0 : ¬ x < 0) (h : ¬ nI n ≤ x) : inB x n = true := by
  have h1 : ¬ x.toInt < 0 := fun q => h0 (i_lt0.mpr q)
  have h2 : ¬ (n : Int) ≤ x.toInt := fun q => h (i_le.mpr (by rw [nI_toInt hn]; exact q))
  simp only [inB, decide_eq_true_eq]; omega
theorem inB_nI {j n : Nat} (hj : j < 2 ^ 31) : inB (nI j) n = decide (j < n) := by
  simp only [inB, nI_toInt hj]
  by_cases h : j < n
  · rw [decide_eq_true h, decide_eq_true]; omega
  · rw [decide_eq_false h, decide_eq_false]; omega
theorem inB_of {x : Int32} {n : Nat} (hn : n < 2 ^ 31) (h : inB x n = true) : ∃ j : Nat, j < n ∧ x = nI j := by
  simp only [inB, decide_eq_true_eq] at h
  exact vp_in_of (vp_in_iff.mpr h) hn
theorem nI_inc1 (a : Nat) : nI a + Int32.ofInt 1 = nI (a + 1) := by rw [lit1]; exact nI_1 a
theorem upd_s {f : Nat → Int32} {k : Nat} {x : Int32} : upd f k x k = x := by simp [upd]
theorem upd_n {f : Nat → Int32} {k j : Nat} {x : Int32} (h : j ≠ k) : upd f k x j = f j := by simp [upd, h]
theorem arrV_ext {cA : ClassId} {n : Nat} {f g : Nat → Int32} (h : ∀ j, j < n → f j = g j) : vp_cell cA (n, .inl f) = vp_cell cA (n, .inl g) := by
  rw [vp_cell_i, vp_cell_i]
  unfold arrV
  congr 1
  apply congrArg
  funext j
  show Value.int (f j.val) = Value.int (g j.val)
  rw [h j.val j.isLt]
/-- a world whose array agrees with another one -/
theorem pl_ext {D : va_G} {cl : List vw_C} {ws : va_W} {H : Heap} (hP : va_P D cl ws H) (q : Nat) {a : Nat} {cA : ClassId} {n : Nat} {f : Nat → Int32} (he : ws[q]? = some (a, .inl (cA, n, .inl f))) (g : Nat → Int32) (h : ∀ j, j < n → f j = g j) {ws' : va_W} (hw : ws.set q (a, .inl (cA, n, .inl g)) = ws') : va_P D cl ws' H := by
  subst hw
  intro k x hk
  have hl := (List.getElem?_eq_some_iff.mp he).1
  by_cases hkq : k = q
  · subst hkq
    rw [List.getElem?_set_self hl] at hk
    cases hk
    have h1 := hP k _ he
    show H[a]? = some (vp_cell cA (n, .inl g))
    rw [← arrV_ext h]
    exact h1
  · rw [List.getElem?_set_ne (Ne.symm hkq)] at hk
    exact hP k x hk
theorem pl_extD {A : Nat → Prop} {ws : va_W} (hD : va_D A ws) (q : Nat) {a : Nat} {e : va_E} (he : ws[q]? = some (a, e)) (e' : va_E) {ws' : va_W} (hw : ws.set q (a, e') = ws') : va_D A ws' := by
  subst hw
  exact hD.set he
section PLN
variable {p : Program} {l : Launch} {e : Env} {R : Room} {s : State} {m : MethodId} {args : Array Value} {below : List Frame} {meth : Method} {c : Code} {H : Heap} {locs : List Loc} {cells slots : Nat} {Q : State → Prop}
variable {cc : ByteArray} {pc nL : Nat} {ls : Array Slot} {rest : List Value} {own : String} {off : Int} {tgt x : Nat} {b : Bool}
theorem pl_if_eq (X : CallFix p m c cc nL s args TG own) (hx : x < 2 ^ 31) (hdg : decode cc pc = .ok (.ifCond .eq off, 3)) (ht : (pc : Int) + off = (tgt : Int)) (kt : x = 0 → W p l e R s m args below meth c H locs cells slots Q (F0 m tgt ls rest)) (kf : ¬ x = 0 → W p l e R s m args below meth c H locs cells slots Q (F0 m (pc + 3) ls rest)) : W p l e R s m args below meth c H locs cells slots Q (F0 m pc ls (.int (nI x) :: rest)) :=
  lv_if_eq X.1 X.2.1 hdg ht (fun h => kt ((nI_0iff hx).mp h)) (fun h => kf (fun q => h ((nI_0iff hx).mpr q)))
theorem pl_if_ne (X : CallFix p m c cc nL s args TG own) (hx : x < 2 ^ 31) (hdg : decode cc pc = .ok (.ifCond .ne off, 3)) (ht : (pc : Int) + off = (tgt : Int)) (kt : ¬ x = 0 → W p l e R s m args below meth c H locs cells slots Q (F0 m tgt ls rest)) (kf : x = 0 → W p l e R s m args below meth c H locs cells slots Q (F0 m (pc + 3) ls rest)) : W p l e R s m args below meth c H locs cells slots Q (F0 m pc ls (.int (nI x) :: rest)) :=
  lv_if_ne X.1 X.2.1 hdg ht (fun h => kt (fun q => h ((nI_0iff hx).mpr q))) (fun h => kf ((nI_0iff hx).mp h))
theorem pl_if_lt (X : CallFix p m c cc nL s args TG own) (hx : x < 2 ^ 31) (hdg : decode cc pc = .ok (.ifCond .lt off, 3)) (ht : (pc : Int) + off = (tgt : Int)) (kf : W p l e R s m args below meth c H locs cells slots Q (F0 m (pc + 3) ls rest)) : W p l e R s m args below meth c H locs cells slots Q (F0 m pc ls (.int (nI x) :: rest)) :=
  lv_if_lt X.1 X.2.1 hdg ht (fun h => absurd h (nI_pos hx)) (fun _ => kf)
theorem pl_if_ge (X : CallFix p m c cc nL s args TG own) (hx : x < 2 ^ 31) (hdg : decode cc pc = .ok (.ifCond .ge off, 3)) (ht : (pc : Int) + off = (tgt : Int)) (kt : W p l e R s m args below meth c H locs cells slots Q (F0 m tgt ls rest)) : W p l e R s m args below meth c H locs cells slots Q (F0 m pc ls (.int (nI x) :: rest)) :=
  lv_if_ge X.1 X.2.1 hdg ht (fun _ => kt) (fun h => absurd (nI_pos' hx) h)
theorem pl_if_le (X : CallFix p m c cc nL s args TG own) (hx : x < 2 ^ 31) (hdg : decode cc pc = .ok (.ifCond .le off, 3)) (ht : (pc : Int) + off = (tgt : Int)) (kt : x = 0 → W p l e R s m args below meth c H locs cells slots Q (F0 m tgt ls rest)) (kf : 0 < x → W p l e R s m args below meth c H locs cells slots Q (F0 m (pc + 3) ls rest)) : W p l e R s m args below meth c H locs cells slots Q (F0 m pc ls (.int (nI x) :: rest)) :=
  lv_if_le X.1 X.2.1 hdg ht (fun h => kt (by rcases Nat.eq_zero_or_pos x with q | q; exact q; exact absurd h (nI_nle q hx))) (fun h => kf (Nat.pos_of_ne_zero fun q => h (by rw [q]; decide)))
theorem pl_if_gt (X : CallFix p m c cc nL s args TG own) (hx : x < 2 ^ 31) (hdg : decode cc pc = .ok (.ifCond .gt off, 3)) (ht : (pc : Int) + off = (tgt : Int)) (kt : 0 < x → W p l e R s m args below meth c H locs cells slots Q (F0 m tgt ls rest)) (kf : x = 0 → W p l e R s m args below meth c H locs cells slots Q (F0 m (pc + 3) ls rest)) : W p l e R s m args below meth c H locs cells slots Q (F0 m pc ls (.int (nI x) :: rest)) :=
  lv_if_gt X.1 X.2.1 hdg ht (fun h => kt (Nat.pos_of_ne_zero fun q => by rw [q] at h; exact absurd h (by decide))) (fun h => kf (by rcases Nat.eq_zero_or_pos x with q | q; exact q; exact absurd (by rw [← nI_0]; exact nI_lt q hx) h))
theorem pl_ifB_eq (X : CallFix p m c cc nL s args TG own) (hdg : decode cc pc = .ok (.ifCond .eq off, 3)) (ht : (pc : Int) + off = (tgt : Int)) (kt : b = false → W p l e R s m args below meth c H locs cells slots Q (F0 m tgt ls rest)) (kf : b = true → W p l e R s m args below meth c H locs cells slots Q (F0 m (pc + 3) ls rest)) : W p l e R s m args below meth c H locs cells slots Q (F0 m pc ls (.int (bI b) :: rest)) :=
  lv_if_eq X.1 X.2.1 hdg ht (fun h => kt (bI_0.mp h)) (fun h => kf (by cases b; exact absurd rfl h; rfl))
theorem pl_ifB_ne (X : CallFix p m c cc nL s args TG own) (hdg : decode cc pc = .ok (.ifCond .ne off, 3)) (ht : (pc : Int) + off = (tgt : Int)) (kt : b = true → W p l e R s m args below meth c H locs cells slots Q (F0 m tgt ls rest)) (kf : b = false → W p l e R s m args below meth c H locs cells slots Q (F0 m (pc + 3) ls rest)) : W p l e R s m args below meth c H locs cells slots Q (F0 m pc ls (.int (bI b) :: rest)) :=
  lv_if_ne X.1 X.2.1 hdg ht (fun h => kt (by cases b; exact absurd rfl h; rfl)) (fun h => kf (bI_0.mp h))
def ckO (own : String) (idx : Nat) : Prop := Cond.methodLink own idx Lib.objectInit ∈ TG ∧ Cond.instanceMethod Lib.objectInit ∈ TG ∧ Cond.code Lib.objectInit ⟨#[0xb1]⟩ 1 none ∈ TG
theorem pl_objInit {idx a : Nat} (X : CallFix p m c cc nL s args TG own) (K : ckO own idx) (hsize : ls.size = c.maxLocals) (hframes : 1 ≤ R.frames) (hlocals : (rest.map fun v => v.category).sum + 12 ≤ R.locals) (hdg : decode cc pc = .ok (.invokespecial idx, 3))
    (kk : W p l e R s m args below meth c H locs cells slots Q (F0 m (pc + 3) ls rest)) : W p l e R s m args below meth c H locs cells slots Q (F0 m pc ls (.ref a :: rest)) :=
  W.objInit X.1 X.2.1 X.2.2.2.1 (X.2.2.2.2 _ K.1) (X.2.2.2.2 _ K.2.1) (X.2.2.2.2 _ K.2.2) rfl hsize rfl hdg hframes (by have : (F0 m pc ls (.ref a :: rest)).monitorRoom = 0 := rfl; omega) kk
end PLN
theorem i_nle {x y : Int32} : ¬ x ≤ y ↔ y < x := by rw [i_le, i_lt]; omega
theorem i_nlt {x y : Int32} : ¬ x < y ↔ y ≤ x := by rw [i_le, i_lt]; omega
/-- how many of the states below s have a rule for the act t -/
def cntR (th : Nat → Int32) (t : Nat) : Nat → Nat
  | 0 => 0
  | s + 1 => cntR th t s + (if th (s * 8 + t) = -1 then 0 else 1)
theorem cntR_le (th : Nat → Int32) (t : Nat) : ∀ s, cntR th t s ≤ s
  | 0 => Nat.le_refl _
  | s + 1 => by
    have := cntR_le th t s
    simp only [cntR]
    split <;> omega
theorem nI_dec (q : Nat) : nI (q + 1) - nI 1 = nI q := by rw [pk_sub (by omega)]; rfl
/-- what an act makes of status, place, height, state, how many were done, and the trace -/
abbrev RSa : Type := Nat × Nat × Nat × Nat × Nat × (Nat → Int32) × (Nat → Int32)
def actS (how : Nat) (ok : Bool) (pl q stt dn t j : Nat) (v : Int32) (ta tn : Nat → Int32) : RSa :=
  if how = 2 ∧ ok = false then (4, pl, q + 1, stt, dn, ta, tn) else if 60 ≤ dn then (3, pl, q + 1, stt, dn, ta, tn) else (1, pl + 1, q, (if how = 2 then t else stt), dn + 1, upd ta dn (nI j), upd tn dn v)
section ACT
variable {how pl q stt dn t j : Nat} {v : Int32} {ta tn : Nat → Int32} {ok : Bool}
theorem actS_4 (h : how = 2) (k : ok = false) : (4, pl, q + 1, stt, dn, ta, tn) = actS how ok pl q stt dn t j v ta tn := by simp [actS, h, k]
theorem actS_3w (k : ok = true) (d : 60 ≤ dn) : (3, pl, q + 1, stt, dn, ta, tn) = actS how ok pl q stt dn t j v ta tn := by simp [actS, k, d]
theorem actS_3n (h : ¬ how = 2) (d : 60 ≤ dn) : (3, pl, q + 1, stt, dn, ta, tn) = actS how ok pl q stt dn t j v ta tn := by simp [actS, h, d]
theorem actS_1w (h : how = 2) (k : ok = true) (d : dn < 60) : (1, pl + 1, q, t, dn + 1, upd ta dn (nI j), upd tn dn v) = actS how ok pl q stt dn t j v ta tn := by simp [actS, h, k, Nat.not_le.mpr d]
theorem actS_1n (h : ¬ how = 2) (d : dn < 60) : (1, pl + 1, q, stt, dn + 1, upd ta dn (nI j), upd tn dn v) = actS how ok pl q stt dn t j v ta tn := by simp [actS, h, Nat.not_le.mpr d]
end ACT
