/-! Methods that may throw: contracts, starts, ends, calls. -/
def pl_XC {SX : Type} (px : String → SX → Prop) (D : va_G) (cl : List vw_C) (tys : List (ClassId × FieldType)) (A : Nat → Prop) (wx : SX → va_W) : String → State → State → Prop := vx_X (fun _ : SX => True) (fun N u t => px N u ∧ pl_out D cl tys A (wx u) t) A
def pl_TV {S SX : Type} (l : Launch) (y : MethodName) (b : ByteArray) (n : Nat) (rm : Room) (E : pl_Ev) (D : va_G) (cl : List vw_C) (tys : List (ClassId × FieldType)) (av : List Value) (wi : va_W) (post : S → Prop) (wo : S → va_W) (px : String → SX → Prop) (wx : SX → va_W) : Prop :=
  ∀ sz, vx_Met l y (Cond.code y b n none :: TG) rm (va_Pc av (pl_in E D cl tys wi sz)) (va_Qv post (fun u => pl_out D cl tys (va_A wi sz) (wo u)) (va_A wi sz)) (pl_XC px D cl tys (va_A wi sz) wx) rm.cells rm.slots (va_A wi sz)
def pl_TI {S SX : Type} (l : Launch) (y : MethodName) (b : ByteArray) (n : Nat) (ret : FieldType) (rm : Room) (E : pl_Ev) (D : va_G) (cl : List vw_C) (tys : List (ClassId × FieldType)) (av : List Value) (wi : va_W) (post : Int32 → S → Prop) (wo : S → va_W) (px : String → SX → Prop) (wx : SX → va_W) : Prop :=
  ∀ sz, vx_Met l y (Cond.code y b n (some ret) :: TG) rm (va_Pc av (pl_in E D cl tys wi sz)) (va_Qi post (fun u => pl_out D cl tys (va_A wi sz) (wo u)) (va_A wi sz)) (pl_XC px D cl tys (va_A wi sz) wx) rm.cells rm.slots (va_A wi sz)
section XB
variable {l : Launch} {y : MethodName} {b : ByteArray} {n : Nat} {rm : Room} {E : pl_Ev} {D : va_G} {cl : List vw_C} {tys : List (ClassId × FieldType)} {av : List Value} {wi : va_W}
theorem pl_startTV {S SX : Type} {post : S → Prop} {wo : S → va_W} {px : String → SX → Prop} {wx : SX → va_W} (hy : plainName y.cls = true) (hlen : (lg_sl av).length ≤ n)
    (body : ∀ (p : Program) (e : Env) (s : State) (m : MethodId) (args : Array Value) (below : List Frame) (meth : Method) (c : Code) (A : Nat → Prop) (ls : Array Slot), CallFix p m c b n s args TG y.cls → meth.sig.returnType = none → meth.locks = false → (∀ x ∈ c.exceptionTable.toList, False) → va_K D cl tys s → va_P D cl wi s.heap → va_D A wi → va_S A s.heap s.heap [] → (∀ q, s.heap.size ≤ q → A q) → E A s s.heap → lv_has ls n (lv_args 0 av) →
      W p l e rm s m args below meth c s.heap [] 0 0 (vx_MQ below (va_Qv post (fun u => pl_out D cl tys A (wo u)) A) (pl_XC px D cl tys A wx) args s rm.cells rm.slots A) (F0 m 0 ls [])) : pl_TV l y b n rm E D cl tys av wi post wo px wx := by
  intro sz
  refine vx_ofW (cc := b) (maxL := n) (ret := none) hy rfl ?_
  intro p e s m args below meth c s₁ B hml hno hv
  obtain ⟨rfl, hsz, hP, hK, hD0, hE⟩ := hv
  subst hsz
  rw [lg_entry_eq]
  exact body p e s m _ below meth c (va_A wi s.heap.size) _ ⟨B.exec, B.bytes, hml, findClass_of_methodNamed B.named, fun w hw => atoms_spec (ws := Cond.code y b n none :: TG) B.pre w (List.mem_cons_of_mem _ hw)⟩ B.returns B.notSynchronized hno hK hP hD0.self va_S.rf (fun q h => Or.inr h) hE (lv_entry av hlen)
theorem pl_startTI {S SX : Type} {ret : FieldType} {post : Int32 → S → Prop} {wo : S → va_W} {px : String → SX → Prop} {wx : SX → va_W} (hy : plainName y.cls = true) (hlen : (lg_sl av).length ≤ n)
    (body : ∀ (p : Program) (e : Env) (s : State) (m : MethodId) (args : Array Value) (below : List Frame) (meth : Method) (c : Code) (A : Nat → Prop) (ls : Array Slot), CallFix p m c b n s args TG y.cls → meth.sig.returnType = (some ret) → meth.locks = false → (∀ x ∈ c.exceptionTable.toList, False) → va_K D cl tys s → va_P D cl wi s.heap → va_D A wi → va_S A s.heap s.heap [] → (∀ q, s.heap.size ≤ q → A q) → E A s s.heap → lv_has ls n (lv_args 0 av) →
      W p l e rm s m args below meth c s.heap [] 0 0 (vx_MQ below (va_Qi post (fun u => pl_out D cl tys A (wo u)) A) (pl_XC px D cl tys A wx) args s rm.cells rm.slots A) (F0 m 0 ls [])) : pl_TI l y b n ret rm E D cl tys av wi post wo px wx := by
  intro sz
  refine vx_ofW (cc := b) (maxL := n) (ret := (some ret)) hy rfl ?_
  intro p e s m args below meth c s₁ B hml hno hv
  obtain ⟨rfl, hsz, hP, hK, hD0, hE⟩ := hv
  subst hsz
  rw [lg_entry_eq]
  exact body p e s m _ below meth c (va_A wi s.heap.size) _ ⟨B.exec, B.bytes, hml, findClass_of_methodNamed B.named, fun w hw => atoms_spec (ws := Cond.code y b n (some ret) :: TG) B.pre w (List.mem_cons_of_mem _ hw)⟩ B.returns B.notSynchronized hno hK hP hD0.self va_S.rf (fun q h => Or.inr h) hE (lv_entry av hlen)
end XB
section XR
variable {p : Program} {l : Launch} {e : Env} {R : Room} {s : State} {m : MethodId} {args : Array Value} {below : List Frame} {meth : Method} {c : Code} {H : Heap} {locs : List Loc} {cells slots : Nat} {Q : State → Prop}
variable {cc bytes : ByteArray} {pc nL maxL index n ci N b : Nat} {ls : Array Slot} {rest st0 As : List Value} {D : va_G} {cl : List vw_C} {A : Nat → Prop} {tys : List (ClassId × FieldType)} {ws wi wr : va_W} {own : String} {y : MethodName} {rm : Room} {E : pl_Ev} {T : u_T} {fs : List Value}
theorem pl_vretT {S : Type} {post : S → Prop} {wo : S → va_W} {XC : String → State → State → Prop} {mc ms : Nat} (X : CallFix p m c cc nL s args TG own) (hr : meth.sig.returnType = none) (hlocks : meth.locks = false) (hK : va_K D cl tys s) (u : S) (hu : post u) (hP : va_P D cl (wo u) H) (hD : va_D A (wo u)) (hS : va_S A s.heap H locs) (hc : cells ≤ mc) (hs : slots ≤ ms) (hdg : decode cc pc = .ok (.return_, 1)) :
    W p l e R s m args below meth c H locs cells slots (vx_MQ below (va_Qv post (fun u => pl_out D cl tys A (wo u)) A) XC args s mc ms A) (F0 m pc ls []) :=
  W.widen hc hs (vx_ret (pl_vret X hr hlocks hK u hu hP hD hS hdg))
theorem pl_iretT {S : Type} {post : Int32 → S → Prop} {wo : S → va_W} {XC : String → State → State → Prop} {mc ms : Nat} {v : Int32} {ty : FieldType} (X : CallFix p m c cc nL s args TG own) (hr : meth.sig.returnType = some ty) (hlocks : meth.locks = false) (hK : va_K D cl tys s) (hn : narrow ty (.int v) = .int v) (u : S) (hu : post v u) (hP : va_P D cl (wo u) H) (hD : va_D A (wo u)) (hS : va_S A s.heap H locs) (hc : cells ≤ mc) (hs : slots ≤ ms) (hdg : decode cc pc = .ok (.ireturn, 1)) :
    W p l e R s m args below meth c H locs cells slots (vx_MQ below (va_Qi post (fun u => pl_out D cl tys A (wo u)) A) XC args s mc ms A) (F0 m pc ls [.int v]) :=
  W.widen hc hs (vx_ret (pl_iret X hr hlocks hK hn u hu hP hD hS hdg))
/-- not caught here -/
theorem pl_outT {SX : Type} {px : String → SX → Prop} {wx : SX → va_W} {Qc : Array Value → State → Outcome → State → Prop} {mc ms : Nat} {Nm : String} {ce : Cell} {q : Addr} (hno : ∀ x ∈ c.exceptionTable.toList, False) (hlocks : meth.locks = false) (hK : va_K D cl tys s) (hcell : H[q]? = some ce) (hv : ce.vm = .none) (hcl : s.vm.findClass Nm = some ce.cls) (u : SX) (hu : px Nm u) (hP : va_P D cl (wx u) H) (hD : va_D A (wx u)) (hS : va_S A s.heap H locs) (hc : cells ≤ mc) (hs : slots ≤ ms) :
    vx_W p l e R s m args below meth c H locs cells slots (vx_MQ below Qc (pl_XC px D cl tys A wx) args s mc ms A) (F0 m pc ls rest) q :=
  vx_out (fun x hx => (hno x hx).elim) hlocks hcell hv hcl (fun t ht hvm => ⟨u, trivial, ⟨hu, by rw [ht]; exact hP, va_K.moved hvm hK, hD⟩, hS.F ht⟩) hS.2.2 hc hs
theorem pl_callTV {S SX : Type} {post : S → Prop} {wo wf : S → va_W} {px : String → SX → Prop} {wx wfx : SX → va_W} (X : CallFix p m c cc nL s args TG own) (hM : pl_TV l y bytes maxL rm E D cl tys (.ref b :: As) wi post wo px wx) (K : ckV own index y bytes maxL none n) (hE : pl_Ok E) (hEc : E (va_A wi H.size) s H) (hK : va_K D cl tys s) (hP : va_P D cl ws H) (hD : va_D A ws) (hS : va_S A s.heap H locs) (hA : ∀ q, s.heap.size ≤ q → A q) (hc : cl[ci]? = some (y.cls, T, N)) (q0 : Nat) (he : ws[q0]? = some (b, .inr (ci, fs))) (isC isR isF isX : List Nat) (hC : isC.map (fun i => ws[i]?) = wi.map some) (hnC : va_nd isC = true) (hR : isR.map (fun i => ws[i]?) = wr.map some) (hnR : va_nd isR = true) (hdis : ∀ i ∈ isR, i ∉ isC) (hF : ∀ u, isF.map (fun i => (wr ++ wo u)[i]?) = (wf u).map some) (hnF : va_nd isF = true) (hX : ∀ u, isX.map (fun i => (wr ++ wx u)[i]?) = (wfx u).map some) (hnX : va_nd isX = true) (hlen : As.length = n) (hsize : ls.size = nL) (hst : st0 = As.reverse ++ .ref b :: rest) (hcat : (rest.map fun v => v.category).sum ≤ 8) (hroom : rm.frames + 1 ≤ R.frames ∧ 8 + (maxL + 11) + rm.locals ≤ R.locals) (hf : cells + rm.cells ≤ R.cells ∧ slots + rm.slots ≤ R.slots) (hdg : decode cc pc = .ok (.invokevirtual index, 3))
    (kx : ∀ (Nm : String) (ce : Cell) (q : Addr) (u : SX) (H1 : Heap) (locs1 : List Loc), px Nm u → va_P D cl (wfx u) H1 → va_D A (wfx u) → va_S A s.heap H1 locs1 → H1[q]? = some ce → ce.vm = .none → s.vm.findClass Nm = some ce.cls → vx_W p l e R s m args below meth c H1 locs1 (cells + rm.cells) (slots + rm.slots) Q (F0 m pc ls rest) q)
    (kk : ∀ (u : S) (H1 : Heap) (locs1 : List Loc), post u → va_P D cl (wf u) H1 → va_D A (wf u) → va_S A s.heap H1 locs1 → W p l e R s m args below meth c H1 locs1 (cells + rm.cells) (slots + rm.slots) Q (F0 m (pc + 3) ls (rest))) : W p l e R s m args below meth c H locs cells slots Q (F0 m pc ls st0) := by
  have hFc := va_free (wc := wi) hD hS hA isC hC
  refine vx_callv (vx_runV (As := As) (rest := rest) X (hM H.size) (K.w X hroom) (⟨(pl_blind hE), va_recv hK hP hc he, (pl_pre (av := .ref b :: As) hE (hP.sub isC (pl_fm hC)) (hD.sub isC hnC hC) hK hEc).2⟩) rfl hlen hsize hst (lv_room hcat) hdg hf) hS (fun q _ h => hFc q h) hFc (fun q _ h => hFc q h) (fun Nm ce q u t H1 locs1 ht hvm _ hB hz1 hk1 hS1 hce hcv hcl => ?_) (fun u t H1 locs1 ht hvm hpo hB hz1 hk1 hS1 => ?_)
  · obtain ⟨hpx, hP1, hK1, hD1⟩ := hB
    rw [ht] at hP1
    obtain ⟨hP2, hD2⟩ := pl_back (wf := wfx u) hP hD isC isR isX hC hR hnR hdis (hX u) hnX hk1 hFc hP1 hD1
    exact kx Nm ce q u H1 locs1 hpx hP2 hD2 hS1 hce hcv hcl
  · obtain ⟨hP1, hK1, hD1⟩ := hB
    rw [ht] at hP1
    obtain ⟨hP2, hD2⟩ := pl_back (wf := wf u) hP hD isC isR isF hC hR hnR hdis (hF u) hnF hk1 hFc hP1 hD1
    exact kk u H1 locs1 hpo hP2 hD2 hS1
theorem pl_callTI {S SX : Type} {ret : FieldType} {post : Int32 → S → Prop} {wo wf : S → va_W} {px : String → SX → Prop} {wx wfx : SX → va_W} (X : CallFix p m c cc nL s args TG own) (hM : pl_TI l y bytes maxL ret rm E D cl tys (.ref b :: As) wi post wo px wx) (K : ckV own index y bytes maxL (some ret) n) (hE : pl_Ok E) (hEc : E (va_A wi H.size) s H) (hK : va_K D cl tys s) (hP : va_P D cl ws H) (hD : va_D A ws) (hS : va_S A s.heap H locs) (hA : ∀ q, s.heap.size ≤ q → A q) (hc : cl[ci]? = some (y.cls, T, N)) (q0 : Nat) (he : ws[q0]? = some (b, .inr (ci, fs))) (isC isR isF isX : List Nat) (hC : isC.map (fun i => ws[i]?) = wi.map some) (hnC : va_nd isC = true) (hR : isR.map (fun i => ws[i]?) = wr.map some) (hnR : va_nd isR = true) (hdis : ∀ i ∈ isR, i ∉ isC) (hF : ∀ u, isF.map (fun i => (wr ++ wo u)[i]?) = (wf u).map some) (hnF : va_nd isF = true) (hX : ∀ u, isX.map (fun i => (wr ++ wx u)[i]?) = (wfx u).map some) (hnX : va_nd isX = true) (hlen : As.length = n) (hsize : ls.size = nL) (hst : st0 = As.reverse ++ .ref b :: rest) (hcat : (rest.map fun v => v.category).sum ≤ 8) (hroom : rm.frames + 1 ≤ R.frames ∧ 8 + (maxL + 11) + rm.locals ≤ R.locals) (hf : cells + rm.cells ≤ R.cells ∧ slots + rm.slots ≤ R.slots) (hdg : decode cc pc = .ok (.invokevirtual index, 3))
    (kx : ∀ (Nm : String) (ce : Cell) (q : Addr) (u : SX) (H1 : Heap) (locs1 : List Loc), px Nm u → va_P D cl (wfx u) H1 → va_D A (wfx u) → va_S A s.heap H1 locs1 → H1[q]? = some ce → ce.vm = .none → s.vm.findClass Nm = some ce.cls → vx_W p l e R s m args below meth c H1 locs1 (cells + rm.cells) (slots + rm.slots) Q (F0 m pc ls rest) q)
    (kk : ∀ (r : Int32) (u : S) (H1 : Heap) (locs1 : List Loc), post r u → va_P D cl (wf u) H1 → va_D A (wf u) → va_S A s.heap H1 locs1 → W p l e R s m args below meth c H1 locs1 (cells + rm.cells) (slots + rm.slots) Q (F0 m (pc + 3) ls (.int r :: rest))) : W p l e R s m args below meth c H locs cells slots Q (F0 m pc ls st0) := by
  have hFc := va_free (wc := wi) hD hS hA isC hC
  refine vx_calli (vx_runV (As := As) (rest := rest) X (hM H.size) (K.w X hroom) (⟨(pl_blind hE), va_recv hK hP hc he, (pl_pre (av := .ref b :: As) hE (hP.sub isC (pl_fm hC)) (hD.sub isC hnC hC) hK hEc).2⟩) rfl hlen hsize hst (lv_room hcat) hdg hf) hS (fun q _ h => hFc q h) hFc (fun q _ h => hFc q h) (fun Nm ce q u t H1 locs1 ht hvm _ hB hz1 hk1 hS1 hce hcv hcl => ?_) (fun r u t H1 locs1 ht hvm hpo hB hz1 hk1 hS1 => ?_)
  · obtain ⟨hpx, hP1, hK1, hD1⟩ := hB
    rw [ht] at hP1
    obtain ⟨hP2, hD2⟩ := pl_back (wf := wfx u) hP hD isC isR isX hC hR hnR hdis (hX u) hnX hk1 hFc hP1 hD1
    exact kx Nm ce q u H1 locs1 hpx hP2 hD2 hS1 hce hcv hcl
  · obtain ⟨hP1, hK1, hD1⟩ := hB
    rw [ht] at hP1
    obtain ⟨hP2, hD2⟩ := pl_back (wf := wf u) hP hD isC isR isF hC hR hnR hdis (hF u) hnF hk1 hFc hP1 hD1
    exact kk r u H1 locs1 hpo hP2 hD2 hS1
end XR
