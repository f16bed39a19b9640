/-! Words, contracts, rows: what every walk of this claim uses. -/
def TG : List Cond := lw_tbl.filter goodWord
theorem tg_mem {w : Cond} (i : Nat) (h : lw_tbl[i]? = some w) (g : goodWord w = true) : w ∈ TG := List.mem_filter.mpr ⟨List.mem_of_getElem? h, g⟩
theorem tg_ok {w : Cond} (h : w ∈ TG) : (w.onTables && w.keeps) = true ∨ ∃ ty, w = .arrayClass ty := good_of_word (List.mem_filter.mp h).2
theorem tg_in {ws : List Cond} (h : ∀ w ∈ ws, w ∈ TG) : GoodIn TG ws := fun w hw => ⟨h w hw, tg_ok (h w hw)⟩
theorem tg_cons {w : Cond} (h : w ∈ TG) : GoodIn TG (w :: TG) := tg_in (List.forall_mem_cons.mpr ⟨h, fun _ q => q⟩)
/-- what a method may know of the heap beside its world -/
abbrev pl_Ev : Type := (Nat → Prop) → State → Heap → Prop
def pl_Ok (E : pl_Ev) : Prop := (∀ A U U' H, U.WarmedH U'.vm → E A U H → E A U' H) ∧ ∀ A B U H H1, (∀ a : Nat, a < H.size → ¬ A a → H1[a]? = H[a]?) → (∀ q, B q → A q) → E A U H → E B U H1
def pl_E0 : pl_Ev := fun _ _ _ => True
theorem pl_E0_ok : pl_Ok pl_E0 := ⟨fun _ _ _ _ _ h => h, fun _ _ _ _ _ _ _ h => h⟩
def pl_in (E : pl_Ev) (D : va_G) (cl : List vw_C) (tys : List (ClassId × FieldType)) (ws : va_W) (sz : Nat) : State → Prop := fun U => U.heap.size = sz ∧ va_P D cl ws U.heap ∧ va_K D cl tys U ∧ va_D (fun _ => True) ws ∧ E (va_A ws sz) U U.heap
def pl_out (D : va_G) (cl : List vw_C) (tys : List (ClassId × FieldType)) (A : Nat → Prop) (ws : va_W) : State → Prop := fun t => va_P D cl ws t.heap ∧ va_K D cl tys t ∧ va_D A ws
/-- contracts: a method that answers nothing; an int; a cell that is known -/
def pl_V {S : Type} (l : Launch) (y : MethodName) (b : ByteArray) (n : Nat) (rm : Room) (E : pl_Ev) (D : va_G) (cl : List vw_C) (tys : List (ClassId × FieldType)) (av : List Value) (wi : va_W) (post : S → Prop) (wo : S → va_W) : Prop :=
  ∀ sz, Met l y (Cond.code y b n none :: TG) rm (va_Pc av (pl_in E D cl tys wi sz)) (va_Qv post (fun u => pl_out D cl tys (va_A wi sz) (wo u)) (va_A wi sz)) rm.cells rm.slots (va_A wi sz)
def pl_I {S : Type} (l : Launch) (y : MethodName) (b : ByteArray) (n : Nat) (ret : FieldType) (rm : Room) (E : pl_Ev) (D : va_G) (cl : List vw_C) (tys : List (ClassId × FieldType)) (av : List Value) (wi : va_W) (post : Int32 → S → Prop) (wo : S → va_W) : Prop :=
  ∀ sz, Met l y (Cond.code y b n (some ret) :: TG) rm (va_Pc av (pl_in E D cl tys wi sz)) (va_Qi post (fun u => pl_out D cl tys (va_A wi sz) (wo u)) (va_A wi sz)) rm.cells rm.slots (va_A wi sz)
def pl_R {S : Type} (l : Launch) (y : MethodName) (b : ByteArray) (n : Nat) (ret : FieldType) (rm : Room) (E : pl_Ev) (D : va_G) (cl : List vw_C) (tys : List (ClassId × FieldType)) (av : List Value) (wi : va_W) (a0 : Nat) (post : S → Prop) (wo : S → va_W) : Prop :=
  ∀ sz, Met l y (Cond.code y b n (some ret) :: TG) rm (va_Pc av (pl_in E D cl tys wi sz)) (va_Qr post (fun u a t => a = a0 ∧ pl_out D cl tys (va_A wi sz) (wo u) t) (va_A wi sz)) rm.cells rm.slots (va_A wi sz)
theorem pl_blind {E : pl_Ev} (hE : pl_Ok E) {D : va_G} {cl : List vw_C} {tys : List (ClassId × FieldType)} {ws : va_W} {sz : Nat} {av : List Value} : FrameBlind (va_Pc av (pl_in E D cl tys ws sz)) := by
  intro a U g mk q
  obtain ⟨q0, q1, qP, qK, qD, qE⟩ := q
  exact ⟨q0, q1, qP, va_K.moved (u := U) (U := U.calling g mk a) (Vm.Alike.refl U.vm) qK, qD, hE.1 _ U (U.calling g mk a) _ (State.WarmedH.refl U) qE⟩
theorem pl_pre {E : pl_Ev} (hE : pl_Ok E) {D : va_G} {cl : List vw_C} {tys : List (ClassId × FieldType)} {ws : va_W} {s : State} {H : Heap} {A : Nat → Prop} {av : List Value} (hP : va_P D cl ws H) (hD : va_D A ws) (hK : va_K D cl tys s) (h : E (va_A ws H.size) s H) : PreS s H (va_Pc av (pl_in E D cl tys ws H.size)) av :=
  ⟨pl_blind hE, fun U hU hW => ⟨rfl, by rw [hU], by rw [hU]; exact hP, va_K.moved hW.alike hK, hD.weaken (fun _ _ _ _ => trivial), by rw [hU]; exact hE.1 _ s U _ hW h⟩⟩
section PLB
variable {l : Launch} {y : MethodName} {b : ByteArray} {n : Nat} {rm : Room} {E : pl_Ev} {D : va_G} {cl : List vw_C} {tys : List (ClassId × FieldType)} {av : List Value} {wi : va_W}
/-- a body's start -/
theorem pl_startV {S : Type} {post : S → Prop} {wo : S → va_W} (hy : plainName y.cls = true) (hlen : (lg_sl av).length ≤ n)
    (body : ∀ (p : Program) (e : Env) (s : State) (m : MethodId) (args : Array Value) (below : List Frame) (meth : Method) (c : Code) (A : Nat → Prop) (ls : Array Slot), CallFix p m c b n s args TG y.cls → meth.sig.returnType = none → meth.locks = false → meth.name = y.name → va_K D cl tys s → va_P D cl wi s.heap → va_D A wi → va_S A s.heap s.heap [] → (∀ q, s.heap.size ≤ q → A q) → E A s s.heap → lv_has ls n (lv_args 0 av) →
      W p l e rm s m args below meth c s.heap [] 0 0 (MQ below (va_Qv post (fun u => pl_out D cl tys A (wo u)) A) args s rm.cells rm.slots A) (F0 m 0 ls [])) : pl_V l y b n rm E D cl tys av wi post wo := by
  intro sz
  refine Met.ofW (cc := b) (maxL := n) (ret := none) hy rfl ?_
  intro p e s m args below meth c s₁ B hml hv
  obtain ⟨rfl, hsz, hP, hK, hD0, hE⟩ := hv
  subst hsz
  rw [lg_entry_eq]
  exact body p e s m _ below meth c (va_A wi s.heap.size) _ ⟨B.exec, B.bytes, hml, findClass_of_methodNamed B.named, fun w hw => atoms_spec (ws := Cond.code y b n none :: TG) B.pre w (List.mem_cons_of_mem _ hw)⟩ B.returns B.notSynchronized (name_of_methodNamed B.named B.method).1 hK hP hD0.self va_S.rf (fun q h => Or.inr h) hE (lv_entry av hlen)
theorem pl_startI {S : Type} {ret : FieldType} {post : Int32 → S → Prop} {wo : S → va_W} (hy : plainName y.cls = true) (hlen : (lg_sl av).length ≤ n)
    (body : ∀ (p : Program) (e : Env) (s : State) (m : MethodId) (args : Array Value) (below : List Frame) (meth : Method) (c : Code) (A : Nat → Prop) (ls : Array Slot), CallFix p m c b n s args TG y.cls → meth.sig.returnType = some ret → meth.locks = false → meth.name = y.name → va_K D cl tys s → va_P D cl wi s.heap → va_D A wi → va_S A s.heap s.heap [] → (∀ q, s.heap.size ≤ q → A q) → E A s s.heap → lv_has ls n (lv_args 0 av) →
      W p l e rm s m args below meth c s.heap [] 0 0 (MQ below (va_Qi post (fun u => pl_out D cl tys A (wo u)) A) args s rm.cells rm.slots A) (F0 m 0 ls [])) : pl_I l y b n ret rm E D cl tys av wi post wo := by
  intro sz
  refine Met.ofW (cc := b) (maxL := n) (ret := some ret) hy rfl ?_
  intro p e s m args below meth c s₁ B hml hv
  obtain ⟨rfl, hsz, hP, hK, hD0, hE⟩ := hv
  subst hsz
  rw [lg_entry_eq]
  exact body p e s m _ below meth c (va_A wi s.heap.size) _ ⟨B.exec, B.bytes, hml, findClass_of_methodNamed B.named, fun w hw => atoms_spec (ws := Cond.code y b n (some ret) :: TG) B.pre w (List.mem_cons_of_mem _ hw)⟩ B.returns B.notSynchronized (name_of_methodNamed B.named B.method).1 hK hP hD0.self va_S.rf (fun q h => Or.inr h) hE (lv_entry av hlen)
theorem pl_startR {S : Type} {ret : FieldType} {a0 : Nat} {post : S → Prop} {wo : S → va_W} (hy : plainName y.cls = true) (hlen : (lg_sl av).length ≤ n)
    (body : ∀ (p : Program) (e : Env) (s : State) (m : MethodId) (args : Array Value) (below : List Frame) (meth : Method) (c : Code) (A : Nat → Prop) (ls : Array Slot), CallFix p m c b n s args TG y.cls → meth.sig.returnType = some ret → meth.locks = false → meth.name = y.name → va_K D cl tys s → va_P D cl wi s.heap → va_D A wi → va_S A s.heap s.heap [] → (∀ q, s.heap.size ≤ q → A q) → E A s s.heap → lv_has ls n (lv_args 0 av) →
      W p l e rm s m args below meth c s.heap [] 0 0 (MQ below (va_Qr post (fun u a t => a = a0 ∧ pl_out D cl tys A (wo u) t) A) args s rm.cells rm.slots A) (F0 m 0 ls [])) : pl_R l y b n ret rm E D cl tys av wi a0 post wo := by
  intro sz
  refine Met.ofW (cc := b) (maxL := n) (ret := some ret) hy rfl ?_
  intro p e s m args below meth c s₁ B hml hv
  obtain ⟨rfl, hsz, hP, hK, hD0, hE⟩ := hv
  subst hsz
  rw [lg_entry_eq]
  exact body p e s m _ below meth c (va_A wi s.heap.size) _ ⟨B.exec, B.bytes, hml, findClass_of_methodNamed B.named, fun w hw => atoms_spec (ws := Cond.code y b n (some ret) :: TG) B.pre w (List.mem_cons_of_mem _ hw)⟩ B.returns B.notSynchronized (name_of_methodNamed B.named B.method).1 hK hP hD0.self va_S.rf (fun q h => Or.inr h) hE (lv_entry av hlen)
end PLB
section PLR
variable {p : Program} {l : Launch} {e : Env} {R : Room} {s : State} {m : MethodId} {args : Array Value} {below : List Frame} {meth : Method} {c : Code} {H : Heap} {locs : List Loc} {cells slots : Nat} {Q : State → Prop}
variable {cc : ByteArray} {pc nL : Nat} {ls : Array Slot} {rest : List Value} {D : va_G} {cl : List vw_C} {A : Nat → Prop} {a : Nat} {tys : List (ClassId × FieldType)} {ws : va_W} {own : String}
/-- a body's end -/
theorem pl_vret {S : Type} {post : S → Prop} {wo : S → va_W} (X : CallFix p m c cc nL s args TG own) (hr : meth.sig.returnType = none) (hlocks : meth.locks = false) (hK : va_K D cl tys s) (u : S) (hu : post u) (hP : va_P D cl (wo u) H) (hD : va_D A (wo u)) (hS : va_S A s.heap H locs) (hdg : decode cc pc = .ok (.return_, 1)) :
    W p l e R s m args below meth c H locs cells slots (MQ below (va_Qv post (fun u => pl_out D cl tys A (wo u)) A) args s cells slots A) (F0 m pc ls []) :=
  W.vret X.1 X.2.1 hr (fun t ht hW => ⟨⟨u, rfl, hu, by rw [ht]; exact hP, va_K.moved hW.alike hK, hD⟩, hS.F ht⟩) hS.2.2 hdg hlocks
theorem pl_iret {S : Type} {post : Int32 → S → Prop} {wo : S → va_W} {v : Int32} {ty : FieldType} (X : CallFix p m c cc nL s args TG own) (hr : meth.sig.returnType = some ty) (hlocks : meth.locks = false) (hK : va_K D cl tys s) (hn : narrow ty (.int v) = .int v) (u : S) (hu : post v u) (hP : va_P D cl (wo u) H) (hD : va_D A (wo u)) (hS : va_S A s.heap H locs) (hdg : decode cc pc = .ok (.ireturn, 1)) :
    W p l e R s m args below meth c H locs cells slots (MQ below (va_Qi post (fun u => pl_out D cl tys A (wo u)) A) args s cells slots A) (F0 m pc ls [.int v]) :=
  W.zret X.1 X.2.1 hr hn (fun t ht hW => ⟨⟨v, u, rfl, hu, by rw [ht]; exact hP, va_K.moved hW.alike hK, hD⟩, hS.F ht⟩) hS.2.2 hdg hlocks
theorem pl_aret {S : Type} {a0 : Nat} {post : S → Prop} {wo : S → va_W} {C : String} (X : CallFix p m c cc nL s args TG own) (hr : meth.sig.returnType = some (.object C)) (hlocks : meth.locks = false) (hK : va_K D cl tys s) (u : S) (hu : post u) (hP : va_P D cl (wo u) H) (hD : va_D A (wo u)) (hS : va_S A s.heap H locs) (hdg : decode cc pc = .ok (.areturn, 1)) :
    W p l e R s m args below meth c H locs cells slots (MQ below (va_Qr post (fun u a t => a = a0 ∧ pl_out D cl tys A (wo u) t) A) args s cells slots A) (F0 m pc ls [.ref a0]) :=
  W.aret X.1 X.2.1 hr (Or.inl ⟨C, rfl⟩) (Or.inr ⟨a0, rfl⟩) (fun t ht hW => ⟨⟨u, a0, rfl, hu, rfl, by rw [ht]; exact hP, va_K.moved hW.alike hK, hD⟩, hS.F ht⟩) hS.2.2 hdg hlocks
/-- fields -/
def fw (cl : List vw_C) (own : String) (idx ci k : Nat) (C : String) (T : u_T) (N : Nat) : Prop := cl[ci]? = some (C, T, N) ∧ k < N ∧ (∀ w ∈ u_ws C T N, w ∈ TG) ∧ Cond.fieldLink own idx (T k).1 (T k).2.1 (T k).2.2.1 ∈ TG
def fp (T : u_T) (N : Nat) (ty : Nat → FieldType) : Prop := (∀ k, k < N → parseFieldDescriptor (T k).2.2.1 = some (ty k)) ∧ (∀ a, a < N → ∀ b, b < N → a ≠ b → (T a).2.1 ≠ (T b).2.1)
theorem pl_get {idx ci k N : Nat} {C : String} {T : u_T} (X : CallFix p m c cc nL s args TG own) (F : fw cl own idx ci k C T N) (hK : va_K D cl tys s) (hP : va_P D cl ws H) (q0 : Nat) {fs : List Value} (he : ws[q0]? = some (a, .inr (ci, fs))) {v : Value} (hv : fs[k]? = some v) (hdg : decode cc pc = .ok (.getfield idx, 3))
    (kk : W p l e R s m args below meth c H locs cells slots Q (F0 m (pc + 3) ls (v :: rest))) : W p l e R s m args below meth c H locs cells slots Q (F0 m pc ls (.ref a :: rest)) :=
  va_get X.1 X.2.1 (ref := (T k).1) X.2.2.2.2 F.2.2.1 X.2.2.2.1 hK hP q0 he F.1 k F.2.1 (X.2.2.2.2 _ F.2.2.2) (fun _ h => h) hv hdg kk
theorem pl_put {idx ci k N : Nat} {C : String} {T : u_T} {ty : Nat → FieldType} (X : CallFix p m c cc nL s args TG own) (F : fw cl own idx ci k C T N) (G : fp T N ty) (hfin : (T k).2.2.2 = false) (hK : va_K D cl tys s) (hP : va_P D cl ws H) (hD : va_D A ws) (hS : va_S A s.heap H locs) (q0 : Nat) {fs : List Value} (he : ws[q0]? = some (a, .inr (ci, fs))) {v : Value} (hn : narrow (ty k) v = v) (hfit : fits (ty k) v = true) (hl : k < fs.length) (hdg : decode cc pc = .ok (.putfield idx, 3)) {ws' : va_W} (hw : ws.set q0 (a, .inr (ci, fs.set k v)) = ws')
    (kk : ∀ (H1 : Heap) (locs1 : List Loc), va_P D cl ws' H1 → va_D A ws' → va_S A s.heap H1 locs1 → W p l e R s m args below meth c H1 locs1 cells slots Q (F0 m (pc + 3) ls rest)) : W p l e R s m args below meth c H locs cells slots Q (F0 m pc ls (v :: .ref a :: rest)) := by
  subst hw
  exact va_put X.1 X.2.1 (ref := (T k).1) X.2.2.2.2 F.2.2.1 ty G.1 G.2 X.2.2.2.1 hK hP hD hS q0 he F.1 k F.2.1 (X.2.2.2.2 _ F.2.2.2) (fun _ h => h) hfin (G.1 k F.2.1) hn hfit hl hdg kk
theorem pl_putF {idx ci k N : Nat} {C : String} {T : u_T} {ty : Nat → FieldType} (X : CallFix p m c cc nL s args TG own) (F : fw cl own idx ci k C T N) (G : fp T N ty) (hfin : (T k).2.2.2 = true) (hin : meth.name = "<init>") (hdecl : (T k).1 = own) (hK : va_K D cl tys s) (hP : va_P D cl ws H) (hD : va_D A ws) (hS : va_S A s.heap H locs) (q0 : Nat) {fs : List Value} (he : ws[q0]? = some (a, .inr (ci, fs))) {v : Value} (hn : narrow (ty k) v = v) (hfit : fits (ty k) v = true) (hl : k < fs.length) (hdg : decode cc pc = .ok (.putfield idx, 3)) {ws' : va_W} (hw : ws.set q0 (a, .inr (ci, fs.set k v)) = ws')
    (kk : ∀ (H1 : Heap) (locs1 : List Loc), va_P D cl ws' H1 → va_D A ws' → va_S A s.heap H1 locs1 → W p l e R s m args below meth c H1 locs1 cells slots Q (F0 m (pc + 3) ls rest)) : W p l e R s m args below meth c H locs cells slots Q (F0 m pc ls (v :: .ref a :: rest)) := by
  subst hw
  exact va_putF X.1 X.2.1 (ref := (T k).1) X.2.2.2.2 F.2.2.1 ty G.1 G.2 X.2.2.2.1 hK hP hD hS q0 he F.1 k F.2.1 (X.2.2.2.2 _ F.2.2.2) (fun _ h => h) hfin hin hdecl (G.1 k F.2.1) hn hfit hl hdg kk
/-- int arrays, at places that are natural numbers -/
theorem pl_ix {j n : Nat} (hj : j < n) (hn : n < 2 ^ 31) : vp_in (nI j) n ∧ (nI j).toNatClampNeg = j := ⟨vp_in_nI hj hn, nI_clamp (by omega)⟩
theorem pl_iald (X : CallFix p m c cc nL s args TG own) (hK : va_K D cl tys s) (hP : va_P D cl ws H) (q0 t0 : Nat) {cA : ClassId} {n : Nat} {f : Nat → Int32} (ha : ws[q0]? = some (a, .inl (cA, n, .inl f))) (ht : tys[t0]? = some (cA, .int)) (j : Nat) (hj : j < n) (hn : n < 2 ^ 31) {z : Int32} (hz : f j = z) (hdg : decode cc pc = .ok (.iaload, 1))
    (kk : W p l e R s m args below meth c H locs cells slots Q (F0 m (pc + 1) ls (.int z :: rest))) : W p l e R s m args below meth c H locs cells slots Q (F0 m pc ls (.int (nI j) :: .ref a :: rest)) := by
  subst hz
  refine va_iald X.1 X.2.1 hK hP q0 t0 ha ht (pl_ix hj hn).1 hdg ?_
  rw [(pl_ix hj hn).2]
  exact kk
theorem pl_zald (X : CallFix p m c cc nL s args TG own) (hK : va_K D cl tys s) (hP : va_P D cl ws H) (q0 t0 : Nat) {cA : ClassId} {n : Nat} {f : Nat → Int32} (ha : ws[q0]? = some (a, .inl (cA, n, .inl f))) (ht : tys[t0]? = some (cA, .boolean)) (j : Nat) (hj : j < n) (hn : n < 2 ^ 31) {z : Int32} (hz : f j = z) (hdg : decode cc pc = .ok (.baload, 1))
    (kk : W p l e R s m args below meth c H locs cells slots Q (F0 m (pc + 1) ls (.int z :: rest))) : W p l e R s m args below meth c H locs cells slots Q (F0 m pc ls (.int (nI j) :: .ref a :: rest)) := by
  subst hz
  refine va_zald X.1 X.2.1 hK hP q0 t0 ha ht (pl_ix hj hn).1 hdg ?_
  rw [(pl_ix hj hn).2]
  exact kk
theorem pl_iast (X : CallFix p m c cc nL s args TG own) (hK : va_K D cl tys s) (hP : va_P D cl ws H) (hD : va_D A ws) (hS : va_S A s.heap H locs) (q0 t0 : Nat) {cA : ClassId} {n : Nat} {f : Nat → Int32} (ha : ws[q0]? = some (a, .inl (cA, n, .inl f))) (ht : tys[t0]? = some (cA, .int)) (j : Nat) (hj : j < n) (hn : n < 2 ^ 31) {x : Int32} (hdg : decode cc pc = .ok (.iastore, 1)) {ws' : va_W} (hw : ws.set q0 (a, .inl (cA, n, .inl (upd f j x))) = ws')
    (kk : ∀ (H1 : Heap) (locs1 : List Loc), va_P D cl ws' H1 → va_D A ws' → va_S A s.heap H1 locs1 → W p l e R s m args below meth c H1 locs1 cells slots Q (F0 m (pc + 1) ls rest)) : W p l e R s m args below meth c H locs cells slots Q (F0 m pc ls (.int x :: .int (nI j) :: .ref a :: rest)) := by
  subst hw
  refine va_iast X.1 X.2.1 hK hP hD hS q0 t0 ha ht (pl_ix hj hn).1 hdg ?_
  rw [(pl_ix hj hn).2]
  exact kk
theorem pl_zast (X : CallFix p m c cc nL s args TG own) (hK : va_K D cl tys s) (hP : va_P D cl ws H) (hD : va_D A ws) (hS : va_S A s.heap H locs) (q0 t0 : Nat) {cA : ClassId} {n : Nat} {f : Nat → Int32} (ha : ws[q0]? = some (a, .inl (cA, n, .inl f))) (ht : tys[t0]? = some (cA, .boolean)) (j : Nat) (hj : j < n) (hn : n < 2 ^ 31) {x : Int32} (hx0 : vp_nar .boolean x = x) (hdg : decode cc pc = .ok (.bastore, 1)) {ws' : va_W} (hw : ws.set q0 (a, .inl (cA, n, .inl (upd f j x))) = ws')
    (kk : ∀ (H1 : Heap) (locs1 : List Loc), va_P D cl ws' H1 → va_D A ws' → va_S A s.heap H1 locs1 → W p l e R s m args below meth c H1 locs1 cells slots Q (F0 m (pc + 1) ls rest)) : W p l e R s m args below meth c H locs cells slots Q (F0 m pc ls (.int x :: .int (nI j) :: .ref a :: rest)) := by
  subst hw
  refine va_zast X.1 X.2.1 hK hP hD hS q0 t0 ha ht (pl_ix hj hn).1 hdg ?_
  rw [(pl_ix hj hn).2, hx0]
  exact kk
theorem pl_alen (X : CallFix p m c cc nL s args TG own) (hK : va_K D cl tys s) (hP : va_P D cl ws H) (q0 t0 : Nat) {cA : ClassId} {x : vp_A} (ha : ws[q0]? = some (a, .inl (cA, x))) {ty : FieldType} (ht : tys[t0]? = some (cA, ty)) {L : Nat} (hL : x.1 = L) (hdg : decode cc pc = .ok (.arraylength, 1))
    (kk : W p l e R s m args below meth c H locs cells slots Q (F0 m (pc + 1) ls (.int (nI L) :: rest))) : W p l e R s m args below meth c H locs cells slots Q (F0 m pc ls (.ref a :: rest)) :=
  va_alen X.1 X.2.1 hK hP q0 t0 ha ht (congrArg nI hL) hdg kk
/-- numbers with their value said -/
theorem pl_iadd {x y z : Int32} (X : CallFix p m c cc nL s args TG own) (hdg : decode cc pc = .ok (.iadd, 1)) (hz : x + y = z) (k : W p l e R s m args below meth c H locs cells slots Q (F0 m (pc + 1) ls (.int z :: rest))) : W p l e R s m args below meth c H locs cells slots Q (F0 m pc ls (.int y :: .int x :: rest)) := by
  subst hz; exact lv_iadd X.1 X.2.1 hdg k
theorem pl_isub {x y z : Int32} (X : CallFix p m c cc nL s args TG own) (hdg : decode cc pc = .ok (.isub, 1)) (hz : x - y = z) (k : W p l e R s m args below meth c H locs cells slots Q (F0 m (pc + 1) ls (.int z :: rest))) : W p l e R s m args below meth c H locs cells slots Q (F0 m pc ls (.int y :: .int x :: rest)) := by
  subst hz; exact lv_isub X.1 X.2.1 hdg k
theorem pl_imul {x y z : Int32} (X : CallFix p m c cc nL s args TG own) (hdg : decode cc pc = .ok (.imul, 1)) (hz : x * y = z) (k : W p l e R s m args below meth c H locs cells slots Q (F0 m (pc + 1) ls (.int z :: rest))) : W p l e R s m args below meth c H locs cells slots Q (F0 m pc ls (.int y :: .int x :: rest)) := by
  subst hz; exact lv_imul X.1 X.2.1 hdg k
/-- compares of natural numbers -/
theorem pl_icmp_eq {x y : Nat} (X : CallFix p m c cc nL s args TG own) (hx : x < 2 ^ 31) (hy : y < 2 ^ 31) {off : Int} {tgt : Nat} (hdg : decode cc pc = .ok (.if_icmp .eq off, 3)) (ht : (pc : Int) + off = (tgt : Int)) (kt : x = y → W p l e R s m args below meth c H locs cells slots Q (F0 m tgt ls rest)) (kf : ¬ x = y → W p l e R s m args below meth c H locs cells slots Q (F0 m (pc + 3) ls rest)) : W p l e R s m args below meth c H locs cells slots Q (F0 m pc ls (.int (nI y) :: .int (nI x) :: rest)) :=
  lv_icmp_eq X.1 X.2.1 hdg ht (fun h => kt ((nI_eq hx hy).mp h)) (fun h => kf (fun q => h (by rw [q])))
theorem pl_icmp_ne {x y : Nat} (X : CallFix p m c cc nL s args TG own) (hx : x < 2 ^ 31) (hy : y < 2 ^ 31) {off : Int} {tgt : Nat} (hdg : decode cc pc = .ok (.if_icmp .ne off, 3)) (ht : (pc : Int) + off = (tgt : Int)) (kt : ¬ x = y → W p l e R s m args below meth c H locs cells slots Q (F0 m tgt ls rest)) (kf : x = y → W p l e R s m args below meth c H locs cells slots Q (F0 m (pc + 3) ls rest)) : W p l e R s m args below meth c H locs cells slots Q (F0 m pc ls (.int (nI y) :: .int (nI x) :: rest)) :=
  lv_icmp_ne X.1 X.2.1 hdg ht (fun h => kt (fun q => h (by rw [q]))) (fun h => kf ((nI_eq hx hy).mp h))
theorem pl_icmp_ge {x y : Nat} (X : CallFix p m c cc nL s args TG own) (hx : x < 2 ^ 31) (hy : y < 2 ^ 31) {off : Int} {tgt : Nat} (hdg : decode cc pc = .ok (.if_icmp .ge off, 3)) (ht : (pc : Int) + off = (tgt : Int)) (kt : y ≤ x → W p l e R s m args below meth c H locs cells slots Q (F0 m tgt ls rest)) (kf : x < y → W p l e R s m args below meth c H locs cells slots Q (F0 m (pc + 3) ls rest)) : W p l e R s m args below meth c H locs cells slots Q (F0 m pc ls (.int (nI y) :: .int (nI x) :: rest)) :=
  lv_icmp_ge X.1 X.2.1 hdg ht (fun h => kt ((nI_leI hy hx).mp h)) (fun h => kf (Nat.lt_of_not_le fun q => h ((nI_leI hy hx).mpr q)))
theorem pl_icmp_lt {x y : Nat} (X : CallFix p m c cc nL s args TG own) (hx : x < 2 ^ 31) (hy : y < 2 ^ 31) {off : Int} {tgt : Nat} (hdg : decode cc pc = .ok (.if_icmp .lt off, 3)) (ht : (pc : Int) + off = (tgt : Int)) (kt : x < y → W p l e R s m args below meth c H locs cells slots Q (F0 m tgt ls rest)) (kf : y ≤ x → W p l e R s m args below meth c H locs cells slots Q (F0 m (pc + 3) ls rest)) : W p l e R s m args below meth c H locs cells slots Q (F0 m pc ls (.int (nI y) :: .int (nI x) :: rest)) :=
  lv_icmp_lt X.1 X.2.1 hdg ht (fun h => kt ((nI_ltI hx hy).mp h)) (fun h => kf (Nat.le_of_not_lt fun q => h ((nI_ltI hx hy).mpr q)))
theorem pl_icmp_gt {x y : Nat} (X : CallFix p m c cc nL s args TG own) (hx : x < 2 ^ 31) (hy : y < 2 ^ 31) {off : Int} {tgt : Nat} (hdg : decode cc pc = .ok (.if_icmp .gt off, 3)) (ht : (pc : Int) + off = (tgt : Int)) (kt : y < x → W p l e R s m args below meth c H locs cells slots Q (F0 m tgt ls rest)) (kf : x ≤ y → W p l e R s m args below meth c H locs cells slots Q (F0 m (pc + 3) ls rest)) : W p l e R s m args below meth c H locs cells slots Q (F0 m pc ls (.int (nI y) :: .int (nI x) :: rest)) :=
  lv_icmp_gt X.1 X.2.1 hdg ht (fun h => kt ((nI_ltI hy hx).mp h)) (fun h => kf (Nat.le_of_not_lt fun q => h ((nI_ltI hy hx).mpr q)))
theorem pl_icmp_le {x y : Nat} (X : CallFix p m c cc nL s args TG own) (hx : x < 2 ^ 31) (hy : y < 2 ^ 31) {off : Int} {tgt : Nat} (hdg : decode cc pc = .ok (.if_icmp .le off, 3)) (ht : (pc : Int) + off = (tgt : Int)) (kt : x ≤ y → W p l e R s m args below meth c H locs cells slots Q (F0 m tgt ls rest)) (kf : y < x → W p l e R s m args below meth c H locs cells slots Q (F0 m (pc + 3) ls rest)) : W p l e R s m args below meth c H locs cells slots Q (F0 m pc ls (.int (nI y) :: .int (nI x) :: rest)) :=
  lv_icmp_le X.1 X.2.1 hdg ht (fun h => kt ((nI_leI hx hy).mp h)) (fun h => kf (Nat.lt_of_not_le fun q => h ((nI_leI hx hy).mpr q)))
end PLR
