/-! A static method of a nest mate that is its own; tables that nobody writes. -/
def ckN (y : MethodName) (b : ByteArray) (maxL : Nat) (ret : Option FieldType) (n : Nat) : Prop := Cond.static y ∈ TG ∧ Cond.initialized y.cls ∈ TG ∧ Cond.code y b maxL ret ∈ TG ∧ ckD y n
section PLS
variable {p : Program} {l : Launch} {e : Env} {R : Room} {s : State} {m : MethodId} {args : Array Value} {below : List Frame} {meth : Method} {c : Code} {H : Heap} {locs : List Loc} {cells slots : Nat} {Q : State → Prop}
variable {cc bytes : ByteArray} {pc nL maxL index n ci N b : Nat} {ls : Array Slot} {rest st0 As : List Value} {D : va_G} {cl : List vw_C} {A : Nat → Prop} {tys : List (ClassId × FieldType)} {ws wi wr : va_W} {own host : String} {y : MethodName} {rm : Room} {E : pl_Ev}
theorem ckN.w {ret : Option FieldType} (K : ckN y bytes maxL ret n) (X : CallFix p m c cc nL s args TG own) (hl : va_Nw (.methodLinkNest own index y host) s) (hR : rm.frames + 1 ≤ R.frames ∧ 8 + (maxL + 11) + rm.locals ≤ R.locals) : va_CN R s args own index y host bytes maxL ret (Cond.code y bytes maxL ret :: TG) rm rm.cells rm.slots n ∧ (Cond.static y).before args s = true ∧ True :=
  ⟨va_cnB n X.2.2.2.2 (tg_cons K.2.2.1) rfl rfl rfl hl (X.2.2.2.2 _ K.2.1) K.2.2.2 hR, X.2.2.2.2 _ K.1, trivial⟩
theorem pl_callNI {S : Type} {post : Int32 → S → Prop} {wo wf : S → va_W} {ret : FieldType} (X : CallFix p m c cc nL s args TG own) (hM : pl_I l y bytes maxL ret rm E D cl tys As wi post wo) (K : ckN y bytes maxL (some ret) n) (hl : va_Nw (.methodLinkNest own index y host) s) (hE : pl_Ok E) (hEc : E (va_A wi H.size) s H) (hK : va_K D cl tys s) (hP : va_P D cl ws H) (hD : va_D A ws) (hS : va_S A s.heap H locs) (hA : ∀ q, s.heap.size ≤ q → A q) (isC isR isF : List Nat) (hC : isC.map (fun i => ws[i]?) = wi.map some) (hnC : va_nd isC = true) (hR : isR.map (fun i => ws[i]?) = wr.map some) (hnR : va_nd isR = true) (hdis : ∀ i ∈ isR, i ∉ isC) (hF : ∀ u, isF.map (fun i => (wr ++ wo u)[i]?) = (wf u).map some) (hnF : va_nd isF = true) (hlen : As.length = n) (hsize : ls.size = nL) (hst : st0 = As.reverse ++ rest) (hcat : (rest.map fun v => v.category).sum ≤ 8) (hroom : rm.frames + 1 ≤ R.frames ∧ 8 + (maxL + 11) + rm.locals ≤ R.locals) (hf : cells + rm.cells ≤ R.cells ∧ slots + rm.slots ≤ R.slots) (hdg : decode cc pc = .ok (.invokestatic index, 3))
    (kk : ∀ (r : Int32) (u : S) (H1 : Heap) (locs1 : List Loc), post r u → va_P D cl (wf u) H1 → va_D A (wf u) → va_S A s.heap H1 locs1 → W p l e R s m args below meth c H1 locs1 (cells + rm.cells) (slots + rm.slots) Q (F0 m (pc + 3) ls (.int r :: rest))) : W p l e R s m args below meth c H locs cells slots Q (F0 m pc ls st0) := by
  have hFc := va_free (wc := wi) hD hS hA isC hC
  refine va_calli (va_runSN (As := As) (rest := rest) X (hM H.size) (K.w X hl hroom) (pl_pre hE (hP.sub isC (pl_fm hC)) (hD.sub isC hnC hC) hK hEc) rfl hlen hsize hst (lv_room hcat) hdg hf) hS (fun q _ h => hFc q h) hFc (fun r u t H1 locs1 ht hvm hpo hB hz1 hk1 hS1 => ?_)
  obtain ⟨hP1, hK1, hD1⟩ := hB
  rw [ht] at hP1
  obtain ⟨hP2, hD2⟩ := pl_back (wf := wf u) hP hD isC isR isF hC hR hnR hdis (hF u) hnF hk1 hFc hP1 hD1
  exact kk r u H1 locs1 hpo hP2 hD2 hS1
theorem pl_ti {t N : Nat} {f : Nat → Value} (X : CallFix p m c cc nL s args TG own) (hT : va_T .int t N f A s s.heap) (hS : va_S A s.heap H locs) (j : Nat) (hj : j < N) (hN : N < 2 ^ 31) {v : Value} (hv : f j = v) (hdg : decode cc pc = .ok (.iaload, 1))
    (kk : W p l e R s m args below meth c H locs cells slots Q (F0 m (pc + 1) ls (v :: rest))) : W p l e R s m args below meth c H locs cells slots Q (F0 m pc ls (.int (nI j) :: .ref t :: rest)) :=
  va_ti X.1 X.2.1 hT hS (pl_ix hj hN).1 (by rw [(pl_ix hj hN).2]; exact hv) hdg kk
end PLS
