/-! What methods know beside their world: two links across the nest, the two tables of Heights. -/
def EV (t1 t2 : Nat) : pl_Ev := fun A U H =>
  va_Nw (.methodLinkNest R_Heights 62 y_Loom_goesElsewhere R_Loom) U ∧ va_Nw (.methodLinkNest R_Weaver 42 y_Loom_goesElsewhere R_Loom) U ∧
  va_Z R_Heights "TAKES" "[I" (.ref t1) A U H ∧ va_T .int t1 13 (fun j => .int (nI (tkN j))) A U H ∧
  va_Z R_Heights "LEAVES" "[I" (.ref t2) A U H ∧ va_T .int t2 13 (fun j => .int (nI (lvN j))) A U H
theorem EV_ok (t1 t2 : Nat) : pl_Ok (EV t1 t2) := by
  refine ⟨fun A U U' H hW h => ?_, fun A B U H H1 hk hAB h => ?_⟩
  · obtain ⟨h1, h2, h3, h4, h5, h6⟩ := h
    exact ⟨va_Nw.warmM hW h1, va_Nw.warmM hW h2, h3.moved hW.alike, h4.moved hW.alike, h5.moved hW.alike, h6.moved hW.alike⟩
  · obtain ⟨h1, h2, h3, h4, h5, h6⟩ := h
    exact ⟨h1, h2, (h3.kept hk).narrow hAB, (h4.kept hk).narrow hAB, (h5.kept hk).narrow hAB, (h6.kept hk).narrow hAB⟩
/-- a callee is told what its caller knows -/
theorem pl_pass {E : pl_Ev} (hO : pl_Ok E) {A : Nat → Prop} {s : State} {H : Heap} {locs : List Loc} {ws wi : va_W} (hE : E A s s.heap) (hD : va_D A ws) (hS : va_S A s.heap H locs) (hA : ∀ q, s.heap.size ≤ q → A q) (isC : List Nat) (hC : isC.map (fun i => ws[i]?) = wi.map some) : E (va_A wi H.size) s H :=
  hO.2 A _ s s.heap H hS.2.1 (va_free (wc := wi) hD hS hA isC hC) hE
set_option maxRecDepth 20000 in
theorem ckN_goes : ckN y_Loom_goesElsewhere b_Loom_goesElsewhere 1 (some .boolean) 1 := ⟨tg_mem 264 rfl rfl, tg_mem 36 rfl rfl, tg_mem 265 rfl rfl, ⟨by decide, by decide, by decide +kernel⟩⟩
