/-! Methods that catch: contracts, starts, ends, calls; longs. -/
def pl_H {S : Type} (l : Launch) (y : MethodName) (b : ByteArray) (n : Nat) (hh : List (Nat × Nat × Nat × Nat)) (rm : Room) (E : pl_Ev) (D : va_G) (cl : List vw_C) (tys : List (ClassId × FieldType)) (av : List Value) (wi : va_W) (post : Int32 → S → Prop) (wo : S → va_W) : Prop :=
  ∀ sz, Met l y (Cond.codeWith y b n (some .int) hh :: TG) rm (va_Pc av (pl_in E D cl tys wi sz)) (va_Qi post (fun u => pl_out D cl tys (va_A wi sz) (wo u)) (va_A wi sz)) rm.cells rm.slots (va_A wi sz)
theorem pl_ofWH {l : Launch} {y : MethodName} {ws ws' : List Cond} {rm : Room} {Pc : Array Value → State → Prop} {Qc : Array Value → State → Outcome → State → Prop} {mc ms : Nat} {free : Addr → Prop} {cc : ByteArray} {maxL : Nat} {ret : Option FieldType} {hh : List (Nat × Nat × Nat × Nat)}
    (hy : plainName y.cls = true) (hw : ws = Cond.codeWith y cc maxL ret hh :: ws')
    (body : ∀ p e s m args below meth c s₁, BodyLoose p l y (headSpec ws rm) cc maxL ret e s m args below meth c s₁ → c.maxLocals = maxL → c.exceptionTable.toList = tableOf hh → Pc args s →
      W p l e (headSpec ws rm).room s m args below meth c s.heap [] 0 0 (MQ below Qc args s mc ms free) (entryFrame m args maxL)) : Met l y ws rm Pc Qc mc ms free := by
  refine MetFree.of_bodyS (code := cc) (maxLocals := maxL) (ret := ret) hy ?_ ?_
  · intro args s m h hn
    obtain ⟨m9, meth, c, hn9, h1, h2, h3, h4, -, h5, h6, -⟩ := Cond.codeWith_spec (atoms_spec (ws := ws) h _ (by rw [hw]; exact List.mem_cons_self))
    cases hn.symm.trans hn9
    exact ⟨meth, c, h1, h2, h3, h4, h5, h6⟩
  · intro p e s m args below meth c s₁ B hml hP _
    have hh0 : s₁.heap = s.heap := by rw [B.state]; rfl
    have hT := vx_table (x := y) B (atoms_spec (ws := ws) B.pre _ (by rw [hw]; exact List.mem_cons_self))
    obtain ⟨t, a1, o, b1, b2, b3⟩ := body p e s m args below meth c s₁ B hml hT hP s₁ hh0 (Stand.of_body B)
    exact ⟨t, o, a1, b1, b2, b3⟩
section HB
variable {l : Launch} {y : MethodName} {b : ByteArray} {n : Nat} {rm : Room} {E : pl_Ev} {D : va_G} {cl : List vw_C} {tys : List (ClassId × FieldType)} {av : List Value} {wi : va_W} {hh : List (Nat × Nat × Nat × Nat)}
theorem pl_startH {S : Type} {post : Int32 → S → Prop} {wo : S → va_W} (hy : plainName y.cls = true) (hlen : (lg_sl av).length ≤ n)
    (body : ∀ (p : Program) (e : Env) (s : State) (m : MethodId) (args : Array Value) (below : List Frame) (meth : Method) (c : Code) (A : Nat → Prop) (ls : Array Slot), CallFix p m c b n s args TG y.cls → meth.sig.returnType = some .int → meth.locks = false → c.exceptionTable.toList = tableOf hh → va_K D cl tys s → va_P D cl wi s.heap → va_D A wi → va_S A s.heap s.heap [] → (∀ q, s.heap.size ≤ q → A q) → E A s s.heap → lv_has ls n (lv_args 0 av) →
      W p l e rm s m args below meth c s.heap [] 0 0 (MQ below (va_Qi post (fun u => pl_out D cl tys A (wo u)) A) args s rm.cells rm.slots A) (F0 m 0 ls [])) : pl_H l y b n hh rm E D cl tys av wi post wo := by
  intro sz
  refine pl_ofWH (cc := b) (maxL := n) (ret := some .int) hy rfl ?_
  intro p e s m args below meth c s₁ B hml hT hv
  obtain ⟨rfl, hsz, hP, hK, hD0, hE⟩ := hv
  subst hsz
  rw [lg_entry_eq]
  exact body p e s m _ below meth c (va_A wi s.heap.size) _ ⟨B.exec, B.bytes, hml, findClass_of_methodNamed B.named, fun w hw => atoms_spec (ws := Cond.codeWith y b n (some .int) hh :: TG) B.pre w (List.mem_cons_of_mem _ hw)⟩ B.returns B.notSynchronized hT hK hP hD0.self va_S.rf (fun q h => Or.inr h) hE (lv_entry av hlen)
end HB
def ckH (own : String) (index : Nat) (y : MethodName) (b : ByteArray) (maxL : Nat) (hh : List (Nat × Nat × Nat × Nat)) (n : Nat) : Prop := Cond.methodLink own index y ∈ TG ∧ Cond.static y ∈ TG ∧ Cond.initialized y.cls ∈ TG ∧ Cond.codeWith y b maxL (some .int) hh ∈ TG ∧ ckD y n
section HR
variable {p : Program} {l : Launch} {e : Env} {R : Room} {s : State} {m : MethodId} {args : Array Value} {below : List Frame} {meth : Method} {c : Code} {H : Heap} {locs : List Loc} {cells slots : Nat} {Q : State → Prop}
variable {cc bytes : ByteArray} {pc nL maxL index n ci N b : Nat} {ls : Array Slot} {rest st0 As : List Value} {D : va_G} {cl : List vw_C} {A : Nat → Prop} {tys : List (ClassId × FieldType)} {ws wi wr : va_W} {own : String} {y : MethodName} {rm : Room} {E : pl_Ev} {T : u_T} {fs : List Value} {hh : List (Nat × Nat × Nat × Nat)}
theorem pl_iretH {S : Type} {post : Int32 → S → Prop} {wo : S → va_W} {mc ms : Nat} {v : Int32} {ty : FieldType} (X : CallFix p m c cc nL s args TG own) (hr : meth.sig.returnType = some ty) (hlocks : meth.locks = false) (hK : va_K D cl tys s) (hn : narrow ty (.int v) = .int v) (u : S) (hu : post v u) (hP : va_P D cl (wo u) H) (hD : va_D A (wo u)) (hS : va_S A s.heap H locs) (hc : cells ≤ mc) (hs : slots ≤ ms) (hdg : decode cc pc = .ok (.ireturn, 1)) :
    W p l e R s m args below meth c H locs cells slots (MQ below (va_Qi post (fun u => pl_out D cl tys A (wo u)) A) args s mc ms A) (F0 m pc ls [.int v]) :=
  W.widen hc hs (pl_iret X hr hlocks hK hn u hu hP hD hS hdg)
theorem ckH.w (K : ckH own index y bytes maxL hh n) (X : CallFix p m c cc nL s args TG own) (hR : rm.frames + 1 ≤ R.frames ∧ 8 + (maxL + 11) + rm.locals ≤ R.locals) : vx_CSW R s args own index y bytes maxL (some .int) hh (Cond.codeWith y bytes maxL (some .int) hh :: TG) rm rm.cells rm.slots n :=
  vx_cwSW n X.2.2.2.2 (tg_in (ck_app (ck_c K.1 (ck_c K.2.1 (ck_c K.2.2.1 ck_n))) (ck_c K.2.2.2.1 (fun _ h => h)))) rfl rfl rfl K.2.2.2.2 hR
theorem pl_callHI {S : Type} {post : Int32 → S → Prop} {wo wf : S → va_W} (X : CallFix p m c cc nL s args TG own) (hM : pl_H l y bytes maxL hh rm E D cl tys As wi post wo) (K : ckH own index y bytes maxL hh n) (hE : pl_Ok E) (hEc : E (va_A wi H.size) s H) (hK : va_K D cl tys s) (hP : va_P D cl ws H) (hD : va_D A ws) (hS : va_S A s.heap H locs) (hA : ∀ q, s.heap.size ≤ q → A q) (isC isR isF : List Nat) (hC : isC.map (fun i => ws[i]?) = wi.map some) (hnC : va_nd isC = true) (hR : isR.map (fun i => ws[i]?) = wr.map some) (hnR : va_nd isR = true) (hdis : ∀ i ∈ isR, i ∉ isC) (hF : ∀ u, isF.map (fun i => (wr ++ wo u)[i]?) = (wf u).map some) (hnF : va_nd isF = true) (hlen : As.length = n) (hsize : ls.size = nL) (hst : st0 = As.reverse ++ rest) (hcat : (rest.map fun v => v.category).sum ≤ 8) (hroom : rm.frames + 1 ≤ R.frames ∧ 8 + (maxL + 11) + rm.locals ≤ R.locals) (hf : cells + rm.cells ≤ R.cells ∧ slots + rm.slots ≤ R.slots) (hdg : decode cc pc = .ok (.invokestatic index, 3))
    (kk : ∀ (r : Int32) (u : S) (H1 : Heap) (locs1 : List Loc), post r u → va_P D cl (wf u) H1 → va_D A (wf u) → va_S A s.heap H1 locs1 → W p l e R s m args below meth c H1 locs1 (cells + rm.cells) (slots + rm.slots) Q (F0 m (pc + 3) ls (.int r :: rest))) : W p l e R s m args below meth c H locs cells slots Q (F0 m pc ls st0) := by
  have hFc := va_free (wc := wi) hD hS hA isC hC
  refine va_calli (vx_runSW (As := As) (rest := rest) X (hM H.size) (K.w X hroom) (pl_pre hE (hP.sub isC (pl_fm hC)) (hD.sub isC hnC hC) hK hEc) rfl hlen hsize hst (lv_room hcat) hdg hf) hS (fun q _ h => hFc q h) hFc (fun r u t H1 locs1 ht hvm hpo hB hz1 hk1 hS1 => ?_)
  obtain ⟨hP1, hK1, hD1⟩ := hB
  rw [ht] at hP1
  obtain ⟨hP2, hD2⟩ := pl_back (wf := wf u) hP hD isC isR isF hC hR hnR hdis (hF u) hnF hk1 hFc hP1 hD1
  exact kk r u H1 locs1 hpo hP2 hD2 hS1
/-- caught by the first handler, by the second one -/
theorem pl_catch1 {a1 a2 a3 a4 : Nat} {h2 : List (Nat × Nat × Nat × Nat)} {nm : String} {ce : Cell} {q : Addr} (X : CallFix p m c cc nL s args TG own) (hT : c.exceptionTable.toList = tableOf ((a1, a2, a3, a4) :: h2)) (hcv : covers ⟨a1, a2, a3, a4⟩ pc = true) (h0 : a4 ≠ 0) (hl : Cond.classLink own a4 nm ∈ TG) (hcast : va_Nw (.castable nm nm) s) (hcell : H[q]? = some ce) (hv : ce.vm = .none) (hcl : s.vm.findClass nm = some ce.cls)
    (kk : W p l e R s m args below meth c H locs cells slots Q (F0 m a3 ls [.ref q])) : vx_W p l e R s m args below meth c H locs cells slots Q (F0 m pc ls rest) q :=
  vx_catch X.2.2.2.1 [] ⟨a1, a2, a3, a4⟩ (tableOf h2) hT (fun z hz => nomatch hz) hcv h0 (X.2.2.2.2 _ hl) (va_Nw.use rfl hcast) hcell hv hcl kk
theorem pl_catch2 {b1 b2 b3 b4 a1 a2 a3 a4 : Nat} {h2 : List (Nat × Nat × Nat × Nat)} {nm no : String} {ce : Cell} {q : Addr} (X : CallFix p m c cc nL s args TG own) (hT : c.exceptionTable.toList = tableOf ((b1, b2, b3, b4) :: (a1, a2, a3, a4) :: h2)) (hcv : covers ⟨a1, a2, a3, a4⟩ pc = true) (h0 : a4 ≠ 0) (hl : Cond.classLink own a4 nm ∈ TG) (h1 : b4 ≠ 0) (hl1 : Cond.classLink own b4 no ∈ TG) (hno : va_Nc nm no s) (hcast : va_Nw (.castable nm nm) s) (hcell : H[q]? = some ce) (hv : ce.vm = .none) (hcl : s.vm.findClass nm = some ce.cls)
    (kk : W p l e R s m args below meth c H locs cells slots Q (F0 m a3 ls [.ref q])) : vx_W p l e R s m args below meth c H locs cells slots Q (F0 m pc ls rest) q :=
  vx_catch X.2.2.2.1 [⟨b1, b2, b3, b4⟩] ⟨a1, a2, a3, a4⟩ (tableOf h2) hT (fun z hz => by rw [List.mem_singleton.mp hz]; exact Or.inr ⟨h1, no, X.2.2.2.2 _ hl1, hno⟩) hcv h0 (X.2.2.2.2 _ hl) (va_Nw.use rfl hcast) hcell hv hcl kk
/-- an array of one long -/
theorem pl_last1 {x : Int64} {f : Nat → Int64} {cA : ClassId} {a : Nat} (X : CallFix p m c cc nL s args TG own) (hK : va_K D cl tys s) (hP : va_P D cl ws H) (hD : va_D A ws) (hS : va_S A s.heap H locs) (q0 t0 : Nat) (ha : ws[q0]? = some (a, .inl (cA, 1, .inr (.inl f)))) (ht : tys[t0]? = some (cA, .long)) (hdg : decode cc pc = .ok (.lastore, 1)) {ws' : va_W} (hw : ws.set q0 (a, .inl (cA, 1, .inr (.inl (fun _ => x)))) = ws')
    (kk : ∀ (H1 : Heap) (locs1 : List Loc), va_P D cl ws' H1 → va_D A ws' → va_S A s.heap H1 locs1 → W p l e R s m args below meth c H1 locs1 cells slots Q (F0 m (pc + 1) ls rest)) : W p l e R s m args below meth c H locs cells slots Q (F0 m pc ls (.long x :: .int (nI 0) :: .ref a :: rest)) := by
  subst hw
  refine va_last X.1 X.2.1 hK hP hD hS q0 t0 ha ht (vp_in_nI (by omega) (by omega)) hdg (fun H1 locs1 hP1 hD1 hS1 => kk H1 locs1 ?_ (hD.set ha) hS1)
  have hl := (List.getElem?_eq_some_iff.mp ha).1
  intro k z hk
  have h1 := hP1 k
  by_cases hkq : k = q0
  · subst hkq
    rw [List.getElem?_set_self hl] at hk h1
    cases hk
    have h2 := h1 _ rfl
    rw [nI_clamp (by omega)] at h2
    show H1[a]? = some (vp_cell cA (1, .inr (.inl (fun _ => x))))
    rw [show vp_cell cA (1, .inr (.inl (fun _ => x))) = vp_cell cA (1, .inr (.inl (vp_updL f 0 x))) from ?_]
    · exact h2
    · rw [vp_cell_l, vp_cell_l]
      unfold arrV
      congr 1
  · rw [List.getElem?_set_ne (Ne.symm hkq)] at hk h1
    exact h1 z hk
theorem pl_lald1 {x : Int64} {cA : ClassId} {a : Nat} (X : CallFix p m c cc nL s args TG own) (hK : va_K D cl tys s) (hP : va_P D cl ws H) (q0 t0 : Nat) (ha : ws[q0]? = some (a, .inl (cA, 1, .inr (.inl (fun _ => x))))) (ht : tys[t0]? = some (cA, .long)) (hdg : decode cc pc = .ok (.laload, 1))
    (kk : W p l e R s m args below meth c H locs cells slots Q (F0 m (pc + 1) ls (.long x :: rest))) : W p l e R s m args below meth c H locs cells slots Q (F0 m pc ls (.int (nI 0) :: .ref a :: rest)) :=
  va_lald X.1 X.2.1 hK hP q0 t0 ha ht (vp_in_nI (by omega) (by omega)) hdg kk
theorem pl_lcmp0 {x : Int64} (X : CallFix p m c cc nL s args TG own) (hdg : decode cc pc = .ok (.lcmp, 1))
    (kk : W p l e R s m args below meth c H locs cells slots Q (F0 m (pc + 1) ls (.int (nI 0) :: rest))) : W p l e R s m args below meth c H locs cells slots Q (F0 m pc ls (.long x :: .long x :: rest)) := by
  have hexec := X.1
  have hb := X.2.1
  intro T hT Y
  obtain ⟨t, a, b⟩ := kk T hT Y
  refine ⟨t, ?_, b⟩
  jvm_step Y.here [Y.here.top, hexec, hb, hdg]
  exact a
end HR
/-- what the law's own methods know: how the exceptions that are caught stand to one another -/
def EL (t1 t2 : Nat) : pl_Ev := fun A U H => EX t1 t2 A U H ∧ va_Nc iobS iaeS U ∧ va_Nc iobS iseS U ∧ va_Nc iaeS iseS U
theorem EL_ok (t1 t2 : Nat) : pl_Ok (EL t1 t2) := by
  refine ⟨fun A U U' H hW h => ?_, fun A B U H H1 hk hAB h => ?_⟩
  · obtain ⟨h1, h2, h3, h4⟩ := h
    exact ⟨(EX_ok t1 t2).1 A U U' H hW h1, h2.moved hW.alike, h3.moved hW.alike, h4.moved hW.alike⟩
  · exact ⟨(EX_ok t1 t2).2 A B U H H1 hk hAB h.1, h.2⟩
theorem pl_TI_conv {S SX SX' : Type} {post : Int32 → S → Prop} {wo : S → va_W} {px : String → SX → Prop} {wx : SX → va_W} {px' : String → SX' → Prop} {wx' : SX' → va_W} {l : Launch} {y : MethodName} {b : ByteArray} {n : Nat} {ret : FieldType} {rm : Room} {E : pl_Ev} {D : va_G} {cl : List vw_C} {tys : List (ClassId × FieldType)} {av : List Value} {wi : va_W} (h : pl_TI l y b n ret rm E D cl tys av wi post wo px wx) (f : SX → SX') (hp : ∀ N u, px N u → px' N (f u)) (hw : ∀ N u, px N u → wx' (f u) = wx u) : pl_TI l y b n ret rm E D cl tys av wi post wo px' wx' := by
  intro sz
  refine MetFree.mono (h sz) (fun _ _ q => q) (fun _ _ _ _ _ q => q) ?_
  intro a s o s' _ q
  rcases q with q | ⟨q0, e0, N, ce, L, u1, h1⟩
  · exact Or.inl q
  · refine Or.inr ⟨q0, e0, N, ce, L, ?_, h1⟩
    obtain ⟨u, e1, ⟨e2, e3⟩, e4⟩ := u1
    exact ⟨f u, e1, ⟨hp N u e2, by show pl_out D cl tys (va_A wi sz) (wx' (f u)) s'; rw [hw N u e2]; exact e3⟩, e4⟩
