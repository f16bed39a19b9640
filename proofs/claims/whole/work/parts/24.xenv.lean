/-! What a throw stands on: the words of its making, the two statics of Throwable, the texts. -/
abbrev iaeS : String := "java/lang/IllegalArgumentException"
abbrev iobS : String := "java/lang/IndexOutOfBoundsException"
abbrev iseS : String := "java/lang/IllegalStateException"
abbrev nmsX : List String := ["java/lang/RuntimeException", "java/lang/Exception"]
def badX : List Cond := [(Jvm.Cond.castable "java/lang/IllegalArgumentException" "java/lang/IllegalArgumentException"), (Jvm.Cond.declares ({ cls := "java/lang/RuntimeException", name := "<init>", desc := "()V" } : Jvm.MethodName)), (Jvm.Cond.declares ({ cls := "java/lang/RuntimeException", name := "<init>", desc := "(Ljava/lang/String;)V" } : Jvm.MethodName)), (Jvm.Cond.declares ({ cls := "java/lang/Exception", name := "<init>", desc := "()V" } : Jvm.MethodName)), (Jvm.Cond.declares ({ cls := "java/lang/Exception", name := "<init>", desc := "(Ljava/lang/String;)V" } : Jvm.MethodName)), (Jvm.Cond.declares ({ cls := "java/lang/Throwable", name := "<init>", desc := "()V" } : Jvm.MethodName)), (Jvm.Cond.declares ({ cls := "java/lang/Throwable", name := "<init>", desc := "(Ljava/lang/String;)V" } : Jvm.MethodName)), (Jvm.Cond.castable "java/lang/IndexOutOfBoundsException" "java/lang/IndexOutOfBoundsException"), (Jvm.Cond.castable "java/lang/IllegalStateException" "java/lang/IllegalStateException")]
def strX : List (Nat × String) := [(55, "no operation"), (66, "the program has all its instructions"), (76, "no such number of states"), (88, "no state"), (90, "no act"), (92, "highest is below lowest"), (181, "the program is not well formed"), (109, "no instruction"), (125, "no such run"), (135, "no run"), (138, "no such number of steps"), (147, "nothing to look at"), (161, "no such act was done"), (169, "no cell")]
def isCD : Cond → Bool
  | .castable .. => true
  | .declares .. => true
  | _ => false
theorem warmCD {w : Cond} (h : isCD w = true) {s U : State} (hW : s.WarmedH U.vm) (hZ : va_Nw w s) : va_Nw w U := by
  cases w <;> first | (simp [isCD] at h; done) | exact va_Nw.warmC hW hZ | exact va_Nw.warmD hW hZ
theorem badX_cd : ∀ w ∈ badX, isCD w = true := by decide +kernel
def EX (t1 t2 : Nat) : pl_Ev := fun A U H =>
  EV t1 t2 A U H ∧ vx_Zq Bundle.tN "UNASSIGNED_STACK" Bundle.steD A U H ∧ vx_Zq Bundle.tN "SUPPRESSED_SENTINEL" Bundle.listD A U H ∧ (∀ w ∈ badX, va_Nw w U) ∧ ∀ q ∈ strX, ∃ a, vk_R R_Loom q.1 q.2 a U
theorem EX_ok (t1 t2 : Nat) : pl_Ok (EX t1 t2) := by
  refine ⟨fun A U U' H hW h => ?_, fun A B U H H1 hk hAB h => ?_⟩
  · obtain ⟨h1, h2, h3, h4, h5⟩ := h
    exact ⟨(EV_ok t1 t2).1 A U U' H hW h1, h2.moved hW.alike, h3.moved hW.alike, fun w hw => warmCD (badX_cd w hw) hW (h4 w hw), fun q hq => (h5 q hq).elim fun a ha => ⟨a, vk_R.warm hW ha⟩⟩
  · obtain ⟨h1, h2, h3, h4, h5⟩ := h
    exact ⟨(EV_ok t1 t2).2 A B U H H1 hk hAB h1, (h2.kept hk).narrow hAB, (h3.kept hk).narrow hAB, h4, h5⟩
/-- one that is thrown, by its places in the pool -/
def xw (ik ic : Nat) (cls : String) : Prop := Cond.classLink R_Loom ik cls ∈ TG ∧ Cond.initialized cls ∈ TG ∧ (∀ w ∈ (vx_atS R_Loom ic cls nmsX).filter goodWord, w ∈ TG) ∧ (∀ w ∈ (vx_atS R_Loom ic cls nmsX).filter (fun w => !goodWord w), w ∈ badX) ∧ (∀ w ∈ Cond.classLink R_Loom ik cls :: Cond.initialized cls :: vx_atS R_Loom ic cls nmsX, vx_ot w = true) ∧ Bundle.fit cls = true
theorem xw_in {L : List Cond} (h : ∀ w ∈ L.filter goodWord, w ∈ lw_tbl) : ∀ w ∈ L.filter goodWord, w ∈ TG := fun w hw => List.mem_filter.mpr ⟨h w hw, (List.mem_filter.mp hw).2⟩
set_option maxRecDepth 20000 in
theorem xw_iaeS : xw 53 57 iaeS := ⟨tg_mem 275 rfl rfl, tg_mem 46 rfl rfl, xw_in (by decide +kernel), by decide +kernel, by decide +kernel, by decide +kernel⟩
set_option maxRecDepth 20000 in
theorem xw_iobS : xw 64 68 iobS := ⟨tg_mem 343 rfl rfl, tg_mem 47 rfl rfl, xw_in (by decide +kernel), by decide +kernel, by decide +kernel, by decide +kernel⟩
set_option maxRecDepth 20000 in
theorem xw_iseS : xw 133 137 iseS := ⟨tg_mem 405 rfl rfl, tg_mem 48 rfl rfl, xw_in (by decide +kernel), by decide +kernel, by decide +kernel, by decide +kernel⟩
theorem nmsX_fit : ∀ n ∈ nmsX, Bundle.fit n = true := by decide +kernel
section XT
variable {p : Program} {l : Launch} {e : Env} {R : Room} {s : State} {m : MethodId} {args : Array Value} {below : List Frame} {meth : Method} {c : Code} {H : Heap} {locs : List Loc} {cells slots : Nat} {Q : State → Prop}
variable {cc bytes : ByteArray} {pc nL maxL index n ci N b : Nat} {ls : Array Slot} {rest st0 As : List Value} {D : va_G} {cl : List vw_C} {A : Nat → Prop} {tys : List (ClassId × FieldType)} {ws wi wr : va_W} {own : String} {y : MethodName} {rm : Room} {E : pl_Ev} {T : u_T} {fs : List Value}
theorem pl_throw {SX : Type} {px : String → SX → Prop} {wx : SX → va_W} {Qc : Array Value → State → Outcome → State → Prop} {mc ms t1 t2 ik ic is : Nat} {cls text : String} (X : CallFix p m c cc nL s args TG R_Loom) (hl : l.stackTraces = false) (Kx : xw ik ic cls) (hE : EX t1 t2 A s s.heap) (hstr : (is, text) ∈ strX) (hno : ∀ x ∈ c.exceptionTable.toList, False) (hlocks : meth.locks = false) (hK : va_K D cl tys s) (u : SX) (hu : px cls u) (hP : va_P D cl (wx u) H) (hD : va_D A (wx u)) (hS : va_S A s.heap H locs) (hsize : ls.size = nL)
    (d0 : decode cc pc = .ok (.new ik, 3)) (d3 : decode cc (pc + 3) = .ok (.dup, 1)) (d4 : decode cc (pc + 4) = .ok (.ldc is, 2)) (d6 : decode cc (pc + 6) = .ok (.invokespecial ic, 3)) (d9 : decode cc (pc + 9) = .ok (.athrow, 1))
    (hRf : 5 < R.frames) (hRl : (rest.map fun v => v.category).sum + 82 ≤ R.locals) (hRc : cells + 1 ≤ R.cells) (hRs : slots + 6 ≤ R.slots) (hc : cells + 1 ≤ mc) (hs : slots + 6 ≤ ms) :
    W p l e R s m args below meth c H locs cells slots (vx_MQ below Qc (pl_XC px D cl tys A wx) args s mc ms A) (F0 m pc ls rest) := by
  obtain ⟨h1, h2, h3, h4, h5⟩ := hE
  obtain ⟨sa, hsa⟩ := h5 _ hstr
  refine vx_throwS X.1 X.2.1 hl X.2.2.2.1 Kx.2.2.2.2.2 nmsX_fit (X.2.2.2.2 _ Kx.1) (X.2.2.2.2 _ Kx.2.1) hsa (vx_hat (fun w hw => X.2.2.2.2 w (Kx.2.2.1 w hw)) Kx.2.2.2.1 (fun w hw => va_Nw.use (by have := badX_cd w hw; cases w <;> first | (simp [isCD] at this; done) | rfl) (h4 w hw))) Kx.2.2.2.2.1 h2 h3 hS (hsize.trans X.2.2.1.symm) d0 d3 d4 d6 d9 (fun x hx => (hno x hx).elim) hRf hRl hRc hRs hlocks (fun t hvm hz hk => ?_) hS.2.2 hc hs
  exact ⟨u, trivial, ⟨hu, hP.kept (fun k q hq => hk q.1 ((hP k q hq).lt)), va_K.moved hvm hK, hD⟩, Nat.le_trans hS.1 hz, fun q q1 q2 => (hk q (Nat.lt_of_lt_of_le q1 hS.1)).trans (hS.2.1 q q1 q2)⟩
end XT
