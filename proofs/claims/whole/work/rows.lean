section
def lw_okq (q : MethodName × Nat) : Prop := (q.1.cls ≠ "java/lang/invoke/MethodHandle" ∧ q.1.cls ≠ "java/lang/invoke/VarHandle") ∧ Cond.instantiable q.1.cls q.2 ∈ tables_1 ∧ Cond.privateMethod q.1 ∈ tables_1 ∧ Cond.instanceMethod q.1 ∈ tables_1
theorem lw_p0 : lw_okq (⟨"PolicyLoom", "forgetWhatHungOnProgram", "()V"⟩, 7) := ⟨⟨by decide +kernel, by decide +kernel⟩, List.mem_of_getElem? (i := 15) (by decide +kernel), List.mem_of_getElem? (i := 187) (by decide +kernel), List.mem_of_getElem? (i := 188) (by decide +kernel)⟩
theorem lw_p1 : lw_okq (⟨"PolicyLoom", "forgetWhatHungOnAutomaton", "()V"⟩, 7) := ⟨⟨by decide +kernel, by decide +kernel⟩, List.mem_of_getElem? (i := 15) (by decide +kernel), List.mem_of_getElem? (i := 191) (by decide +kernel), List.mem_of_getElem? (i := 192) (by decide +kernel)⟩
theorem lw_p2 : lw_okq (⟨"PolicyLoom", "isWellFormed", "()Z"⟩, 7) := ⟨⟨by decide +kernel, by decide +kernel⟩, List.mem_of_getElem? (i := 15) (by decide +kernel), List.mem_of_getElem? (i := 199) (by decide +kernel), List.mem_of_getElem? (i := 200) (by decide +kernel)⟩
theorem lw_p3 : lw_okq (⟨"PolicyLoom$Heights", "heightsFit", "(LPolicyLoom$Listing;)Z"⟩, 4) := ⟨⟨by decide +kernel, by decide +kernel⟩, List.mem_of_getElem? (i := 79) (by decide +kernel), List.mem_of_getElem? (i := 213) (by decide +kernel), List.mem_of_getElem? (i := 214) (by decide +kernel)⟩
theorem lw_p4 : lw_okq (⟨"PolicyLoom$Heights", "reach", "(LPolicyLoom$Listing;II)Z"⟩, 4) := ⟨⟨by decide +kernel, by decide +kernel⟩, List.mem_of_getElem? (i := 79) (by decide +kernel), List.mem_of_getElem? (i := 217) (by decide +kernel), List.mem_of_getElem? (i := 218) (by decide +kernel)⟩
theorem lw_p5 : lw_okq (⟨"PolicyLoom$Heights", "waysOnFit", "(LPolicyLoom$Listing;I)Z"⟩, 4) := ⟨⟨by decide +kernel, by decide +kernel⟩, List.mem_of_getElem? (i := 79) (by decide +kernel), List.mem_of_getElem? (i := 221) (by decide +kernel), List.mem_of_getElem? (i := 222) (by decide +kernel)⟩
theorem lw_p6 : lw_okq (⟨"java/lang/Throwable", "fillInStackTrace", "(I)Ljava/lang/Throwable;"⟩, 6) := ⟨⟨by decide +kernel, by decide +kernel⟩, List.mem_of_getElem? (i := 279) (by decide +kernel), List.mem_of_getElem? (i := 277) (by decide +kernel), List.mem_of_getElem? (i := 278) (by decide +kernel)⟩
theorem lw_p7 : lw_okq (⟨"PolicyLoom", "requireWellFormed", "()V"⟩, 7) := ⟨⟨by decide +kernel, by decide +kernel⟩, List.mem_of_getElem? (i := 15) (by decide +kernel), List.mem_of_getElem? (i := 367) (by decide +kernel), List.mem_of_getElem? (i := 368) (by decide +kernel)⟩
theorem lw_p8 : lw_okq (⟨"PolicyLoom", "wovenListing", "()LPolicyLoom$Listing;"⟩, 7) := ⟨⟨by decide +kernel, by decide +kernel⟩, List.mem_of_getElem? (i := 15) (by decide +kernel), List.mem_of_getElem? (i := 395) (by decide +kernel), List.mem_of_getElem? (i := 396) (by decide +kernel)⟩
theorem lw_p9 : lw_okq (⟨"PolicyLoom$Weaver", "findFirsts", "(LPolicyLoom$Listing;LPolicyLoom$Automaton;)V"⟩, 2) := ⟨⟨by decide +kernel, by decide +kernel⟩, List.mem_of_getElem? (i := 100) (by decide +kernel), List.mem_of_getElem? (i := 403) (by decide +kernel), List.mem_of_getElem? (i := 404) (by decide +kernel)⟩
theorem lw_p10 : lw_okq (⟨"PolicyLoom$Weaver", "appendGuard", "(LPolicyLoom$Automaton;I)V"⟩, 2) := ⟨⟨by decide +kernel, by decide +kernel⟩, List.mem_of_getElem? (i := 100) (by decide +kernel), List.mem_of_getElem? (i := 419) (by decide +kernel), List.mem_of_getElem? (i := 420) (by decide +kernel)⟩
theorem lw_p11 : lw_okq (⟨"PolicyLoom$Weaver", "appendStateCheck", "(II)V"⟩, 2) := ⟨⟨by decide +kernel, by decide +kernel⟩, List.mem_of_getElem? (i := 100) (by decide +kernel), List.mem_of_getElem? (i := 425) (by decide +kernel), List.mem_of_getElem? (i := 426) (by decide +kernel)⟩
theorem lw_p12 : lw_okq (⟨"PolicyLoom$Weaver", "appendRangeCheck", "(III)V"⟩, 2) := ⟨⟨by decide +kernel, by decide +kernel⟩, List.mem_of_getElem? (i := 100) (by decide +kernel), List.mem_of_getElem? (i := 430) (by decide +kernel), List.mem_of_getElem? (i := 431) (by decide +kernel)⟩
theorem lw_p13 : lw_okq (⟨"PolicyLoom$Weaver", "appendMove", "(II)V"⟩, 2) := ⟨⟨by decide +kernel, by decide +kernel⟩, List.mem_of_getElem? (i := 100) (by decide +kernel), List.mem_of_getElem? (i := 434) (by decide +kernel), List.mem_of_getElem? (i := 435) (by decide +kernel)⟩
theorem lw_p14 : lw_okq (⟨"PolicyLoom$Run", "pop", "()I"⟩, 10) := ⟨⟨by decide +kernel, by decide +kernel⟩, List.mem_of_getElem? (i := 116) (by decide +kernel), List.mem_of_getElem? (i := 471) (by decide +kernel), List.mem_of_getElem? (i := 472) (by decide +kernel)⟩
theorem lw_p15 : lw_okq (⟨"PolicyLoom$Run", "tryAct", "(LPolicyLoom$Automaton;I)V"⟩, 10) := ⟨⟨by decide +kernel, by decide +kernel⟩, List.mem_of_getElem? (i := 116) (by decide +kernel), List.mem_of_getElem? (i := 475) (by decide +kernel), List.mem_of_getElem? (i := 476) (by decide +kernel)⟩
def lw_privs_1 : List (MethodName × Nat) := [(⟨"PolicyLoom", "forgetWhatHungOnProgram", "()V"⟩, 7), (⟨"PolicyLoom", "forgetWhatHungOnAutomaton", "()V"⟩, 7), (⟨"PolicyLoom", "isWellFormed", "()Z"⟩, 7), (⟨"PolicyLoom$Heights", "heightsFit", "(LPolicyLoom$Listing;)Z"⟩, 4), (⟨"PolicyLoom$Heights", "reach", "(LPolicyLoom$Listing;II)Z"⟩, 4), (⟨"PolicyLoom$Heights", "waysOnFit", "(LPolicyLoom$Listing;I)Z"⟩, 4), (⟨"java/lang/Throwable", "fillInStackTrace", "(I)Ljava/lang/Throwable;"⟩, 6), (⟨"PolicyLoom", "requireWellFormed", "()V"⟩, 7), (⟨"PolicyLoom", "wovenListing", "()LPolicyLoom$Listing;"⟩, 7), (⟨"PolicyLoom$Weaver", "findFirsts", "(LPolicyLoom$Listing;LPolicyLoom$Automaton;)V"⟩, 2), (⟨"PolicyLoom$Weaver", "appendGuard", "(LPolicyLoom$Automaton;I)V"⟩, 2), (⟨"PolicyLoom$Weaver", "appendStateCheck", "(II)V"⟩, 2), (⟨"PolicyLoom$Weaver", "appendRangeCheck", "(III)V"⟩, 2), (⟨"PolicyLoom$Weaver", "appendMove", "(II)V"⟩, 2), (⟨"PolicyLoom$Run", "pop", "()I"⟩, 10), (⟨"PolicyLoom$Run", "tryAct", "(LPolicyLoom$Automaton;I)V"⟩, 10)]
theorem lw_r1 : ∀ q ∈ lw_privs_1, lw_okq q := List.forall_mem_cons.mpr ⟨lw_p0, List.forall_mem_cons.mpr ⟨lw_p1, List.forall_mem_cons.mpr ⟨lw_p2, List.forall_mem_cons.mpr ⟨lw_p3, List.forall_mem_cons.mpr ⟨lw_p4, List.forall_mem_cons.mpr ⟨lw_p5, List.forall_mem_cons.mpr ⟨lw_p6, List.forall_mem_cons.mpr ⟨lw_p7, List.forall_mem_cons.mpr ⟨lw_p8, List.forall_mem_cons.mpr ⟨lw_p9, List.forall_mem_cons.mpr ⟨lw_p10, List.forall_mem_cons.mpr ⟨lw_p11, List.forall_mem_cons.mpr ⟨lw_p12, List.forall_mem_cons.mpr ⟨lw_p13, List.forall_mem_cons.mpr ⟨lw_p14, List.forall_mem_cons.mpr ⟨lw_p15, fun _ h => absurd h List.not_mem_nil⟩⟩⟩⟩⟩⟩⟩⟩⟩⟩⟩⟩⟩⟩⟩⟩
theorem lw_p16 : lw_okq (⟨"PolicyLoom$Run", "work", "(II)V"⟩, 10) := ⟨⟨by decide +kernel, by decide +kernel⟩, List.mem_of_getElem? (i := 116) (by decide +kernel), List.mem_of_getElem? (i := 484) (by decide +kernel), List.mem_of_getElem? (i := 485) (by decide +kernel)⟩
theorem lw_p17 : lw_okq (⟨"PolicyLoom$Run", "push", "(I)V"⟩, 10) := ⟨⟨by decide +kernel, by decide +kernel⟩, List.mem_of_getElem? (i := 116) (by decide +kernel), List.mem_of_getElem? (i := 488) (by decide +kernel), List.mem_of_getElem? (i := 489) (by decide +kernel)⟩
theorem lw_p18 : lw_okq (⟨"PolicyLoom$Run", "workOnTwo", "(I)V"⟩, 10) := ⟨⟨by decide +kernel, by decide +kernel⟩, List.mem_of_getElem? (i := 116) (by decide +kernel), List.mem_of_getElem? (i := 492) (by decide +kernel), List.mem_of_getElem? (i := 493) (by decide +kernel)⟩
theorem lw_p19 : lw_okq (⟨"PolicyLoomModel", "refuse", "(I)I"⟩, 23) := ⟨⟨by decide +kernel, by decide +kernel⟩, List.mem_of_getElem? (i := 524) (by decide +kernel), List.mem_of_getElem? (i := 609) (by decide +kernel), List.mem_of_getElem? (i := 610) (by decide +kernel)⟩
theorem lw_p20 : lw_okq (⟨"PolicyLoomModel", "isState", "(I)Z"⟩, 23) := ⟨⟨by decide +kernel, by decide +kernel⟩, List.mem_of_getElem? (i := 524) (by decide +kernel), List.mem_of_getElem? (i := 625) (by decide +kernel), List.mem_of_getElem? (i := 626) (by decide +kernel)⟩
theorem lw_p21 : lw_okq (⟨"PolicyLoomModel", "isWell", "()Z"⟩, 23) := ⟨⟨by decide +kernel, by decide +kernel⟩, List.mem_of_getElem? (i := 524) (by decide +kernel), List.mem_of_getElem? (i := 633) (by decide +kernel), List.mem_of_getElem? (i := 634) (by decide +kernel)⟩
theorem lw_p22 : lw_okq (⟨"PolicyLoomModel", "isK", "(I)Z"⟩, 23) := ⟨⟨by decide +kernel, by decide +kernel⟩, List.mem_of_getElem? (i := 524) (by decide +kernel), List.mem_of_getElem? (i := 637) (by decide +kernel), List.mem_of_getElem? (i := 638) (by decide +kernel)⟩
theorem lw_p23 : lw_okq (⟨"PolicyLoomModel", "isPlace", "(I)Z"⟩, 23) := ⟨⟨by decide +kernel, by decide +kernel⟩, List.mem_of_getElem? (i := 524) (by decide +kernel), List.mem_of_getElem? (i := 641) (by decide +kernel), List.mem_of_getElem? (i := 642) (by decide +kernel)⟩
theorem lw_p24 : lw_okq (⟨"PolicyLoomModel", "reach", "(II)Z"⟩, 23) := ⟨⟨by decide +kernel, by decide +kernel⟩, List.mem_of_getElem? (i := 524) (by decide +kernel), List.mem_of_getElem? (i := 651) (by decide +kernel), List.mem_of_getElem? (i := 652) (by decide +kernel)⟩
theorem lw_p25 : lw_okq (⟨"PolicyLoomModel", "place", "(I)I"⟩, 23) := ⟨⟨by decide +kernel, by decide +kernel⟩, List.mem_of_getElem? (i := 524) (by decide +kernel), List.mem_of_getElem? (i := 663) (by decide +kernel), List.mem_of_getElem? (i := 664) (by decide +kernel)⟩
theorem lw_p26 : lw_okq (⟨"PolicyLoomModel", "aheadOf", "(I)I"⟩, 23) := ⟨⟨by decide +kernel, by decide +kernel⟩, List.mem_of_getElem? (i := 524) (by decide +kernel), List.mem_of_getElem? (i := 667) (by decide +kernel), List.mem_of_getElem? (i := 668) (by decide +kernel)⟩
theorem lw_p27 : lw_okq (⟨"PolicyLoomModel", "testsOf", "(I)I"⟩, 23) := ⟨⟨by decide +kernel, by decide +kernel⟩, List.mem_of_getElem? (i := 524) (by decide +kernel), List.mem_of_getElem? (i := 671) (by decide +kernel), List.mem_of_getElem? (i := 672) (by decide +kernel)⟩
theorem lw_p28 : lw_okq (⟨"PolicyLoomModel", "find", "(I)V"⟩, 23) := ⟨⟨by decide +kernel, by decide +kernel⟩, List.mem_of_getElem? (i := 524) (by decide +kernel), List.mem_of_getElem? (i := 679) (by decide +kernel), List.mem_of_getElem? (i := 680) (by decide +kernel)⟩
theorem lw_p29 : lw_okq (⟨"PolicyLoomModel", "set", "(II)V"⟩, 23) := ⟨⟨by decide +kernel, by decide +kernel⟩, List.mem_of_getElem? (i := 524) (by decide +kernel), List.mem_of_getElem? (i := 683) (by decide +kernel), List.mem_of_getElem? (i := 684) (by decide +kernel)⟩
theorem lw_p30 : lw_okq (⟨"PolicyLoomModel", "test", "(IIII)V"⟩, 23) := ⟨⟨by decide +kernel, by decide +kernel⟩, List.mem_of_getElem? (i := 524) (by decide +kernel), List.mem_of_getElem? (i := 687) (by decide +kernel), List.mem_of_getElem? (i := 688) (by decide +kernel)⟩
theorem lw_p31 : lw_okq (⟨"PolicyLoomModel", "one", "()V"⟩, 23) := ⟨⟨by decide +kernel, by decide +kernel⟩, List.mem_of_getElem? (i := 524) (by decide +kernel), List.mem_of_getElem? (i := 699) (by decide +kernel), List.mem_of_getElem? (i := 700) (by decide +kernel)⟩
def lw_privs_2 : List (MethodName × Nat) := [(⟨"PolicyLoom$Run", "work", "(II)V"⟩, 10), (⟨"PolicyLoom$Run", "push", "(I)V"⟩, 10), (⟨"PolicyLoom$Run", "workOnTwo", "(I)V"⟩, 10), (⟨"PolicyLoomModel", "refuse", "(I)I"⟩, 23), (⟨"PolicyLoomModel", "isState", "(I)Z"⟩, 23), (⟨"PolicyLoomModel", "isWell", "()Z"⟩, 23), (⟨"PolicyLoomModel", "isK", "(I)Z"⟩, 23), (⟨"PolicyLoomModel", "isPlace", "(I)Z"⟩, 23), (⟨"PolicyLoomModel", "reach", "(II)Z"⟩, 23), (⟨"PolicyLoomModel", "place", "(I)I"⟩, 23), (⟨"PolicyLoomModel", "aheadOf", "(I)I"⟩, 23), (⟨"PolicyLoomModel", "testsOf", "(I)I"⟩, 23), (⟨"PolicyLoomModel", "find", "(I)V"⟩, 23), (⟨"PolicyLoomModel", "set", "(II)V"⟩, 23), (⟨"PolicyLoomModel", "test", "(IIII)V"⟩, 23), (⟨"PolicyLoomModel", "one", "()V"⟩, 23)]
theorem lw_r2 : ∀ q ∈ lw_privs_2, lw_okq q := List.forall_mem_cons.mpr ⟨lw_p16, List.forall_mem_cons.mpr ⟨lw_p17, List.forall_mem_cons.mpr ⟨lw_p18, List.forall_mem_cons.mpr ⟨lw_p19, List.forall_mem_cons.mpr ⟨lw_p20, List.forall_mem_cons.mpr ⟨lw_p21, List.forall_mem_cons.mpr ⟨lw_p22, List.forall_mem_cons.mpr ⟨lw_p23, List.forall_mem_cons.mpr ⟨lw_p24, List.forall_mem_cons.mpr ⟨lw_p25, List.forall_mem_cons.mpr ⟨lw_p26, List.forall_mem_cons.mpr ⟨lw_p27, List.forall_mem_cons.mpr ⟨lw_p28, List.forall_mem_cons.mpr ⟨lw_p29, List.forall_mem_cons.mpr ⟨lw_p30, List.forall_mem_cons.mpr ⟨lw_p31, fun _ h => absurd h List.not_mem_nil⟩⟩⟩⟩⟩⟩⟩⟩⟩⟩⟩⟩⟩⟩⟩⟩
theorem lw_p32 : lw_okq (⟨"PolicyLoomModel", "pop", "()I"⟩, 23) := ⟨⟨by decide +kernel, by decide +kernel⟩, List.mem_of_getElem? (i := 524) (by decide +kernel), List.mem_of_getElem? (i := 703) (by decide +kernel), List.mem_of_getElem? (i := 704) (by decide +kernel)⟩
theorem lw_p33 : lw_okq (⟨"PolicyLoomModel", "push", "(I)V"⟩, 23) := ⟨⟨by decide +kernel, by decide +kernel⟩, List.mem_of_getElem? (i := 524) (by decide +kernel), List.mem_of_getElem? (i := 707) (by decide +kernel), List.mem_of_getElem? (i := 708) (by decide +kernel)⟩
theorem lw_p34 : lw_okq (⟨"PolicyLoomModel", "done", "(I)V"⟩, 23) := ⟨⟨by decide +kernel, by decide +kernel⟩, List.mem_of_getElem? (i := 524) (by decide +kernel), List.mem_of_getElem? (i := 711) (by decide +kernel), List.mem_of_getElem? (i := 712) (by decide +kernel)⟩
def lw_privs_3 : List (MethodName × Nat) := [(⟨"PolicyLoomModel", "pop", "()I"⟩, 23), (⟨"PolicyLoomModel", "push", "(I)V"⟩, 23), (⟨"PolicyLoomModel", "done", "(I)V"⟩, 23)]
theorem lw_r3 : ∀ q ∈ lw_privs_3, lw_okq q := List.forall_mem_cons.mpr ⟨lw_p32, List.forall_mem_cons.mpr ⟨lw_p33, List.forall_mem_cons.mpr ⟨lw_p34, fun _ h => absurd h List.not_mem_nil⟩⟩⟩
def lw_privs : List (MethodName × Nat) := lw_privs_1 ++ (lw_privs_2 ++ (lw_privs_3))
def lw_tbl : List Cond := k2_sels lw_privs ++ tables_1
theorem lw_privs_ok : ∀ q ∈ lw_privs, lw_okq q := by
  show ∀ q ∈ lw_privs_1 ++ (lw_privs_2 ++ (lw_privs_3)), lw_okq q
  exact List.forall_mem_append.mpr ⟨lw_r1, List.forall_mem_append.mpr ⟨lw_r2, lw_r3⟩⟩
end
section
/-! Words, contracts, rows: what every walk of this claim uses. -/
def TG : List Cond := lw_tbl.filter goodWord
theorem tg_mem {w : Cond} (i : Nat) (h : lw_tbl[i]? = some w) (g : goodWord w = true) : w ∈ TG := List.mem_filter.mpr ⟨List.mem_of_getElem? h, g⟩
theorem tg_ok {w : Cond} (h : w ∈ TG) : (w.onTables && w.keeps) = true ∨ ∃ ty, w = .arrayClass ty := good_of_word (List.mem_filter.mp h).2
theorem tg_in {ws : List Cond} (h : ∀ w ∈ ws, w ∈ TG) : GoodIn TG ws := fun w hw => ⟨h w hw, tg_ok (h w hw)⟩
theorem tg_cons {w : Cond} (h : w ∈ TG) : GoodIn TG (w :: TG) := tg_in (List.forall_mem_cons.mpr ⟨h, fun _ q => q⟩)
/-- what a method may know of the heap beside its world -/
abbrev pl_Ev : Type := (Nat → Prop) → State → Heap → Prop
def pl_Ok (E : pl_Ev) : Prop := (∀ A U U' H, U.WarmedH U'.vm → E A U H → E A U' H) ∧ ∀ A B U H H1, (∀ a : Nat, a < H.size → ¬ A a → H1[a]? = H[a]?) → (∀ q, B q → A q) → E A U H → E B U H1
def pl_E0 : pl_Ev := fun _ _ _ => True
theorem pl_E0_ok : pl_Ok pl_E0 := ⟨fun _ _ _ _ _ h => h, fun _ _ _ _ _ _ _ h => h⟩
def pl_in (E : pl_Ev) (D : va_G) (cl : List vw_C) (tys : List (ClassId × FieldType)) (ws : va_W) (sz : Nat) : State → Prop := fun U => U.heap.size = sz ∧ va_P D cl ws U.heap ∧ va_K D cl tys U ∧ va_D (fun _ => True) ws ∧ E (va_A ws sz) U U.heap
def pl_out (D : va_G) (cl : List vw_C) (tys : List (ClassId × FieldType)) (A : Nat → Prop) (ws : va_W) : State → Prop := fun t => va_P D cl ws t.heap ∧ va_K D cl tys t ∧ va_D A ws
/-- contracts: a method that answers nothing; an int; a cell that is known -/
def pl_V {S : Type} (l : Launch) (y : MethodName) (b : ByteArray) (n : Nat) (rm : Room) (E : pl_Ev) (D : va_G) (cl : List vw_C) (tys : List (ClassId × FieldType)) (av : List Value) (wi : va_W) (post : S → Prop) (wo : S → va_W) : Prop :=
  ∀ sz, Met l y (Cond.code y b n none :: TG) rm (va_Pc av (pl_in E D cl tys wi sz)) (va_Qv post (fun u => pl_out D cl tys (va_A wi sz) (wo u)) (va_A wi sz)) rm.cells rm.slots (va_A wi sz)
def pl_I {S : Type} (l : Launch) (y : MethodName) (b : ByteArray) (n : Nat) (ret : FieldType) (rm : Room) (E : pl_Ev) (D : va_G) (cl : List vw_C) (tys : List (ClassId × FieldType)) (av : List Value) (wi : va_W) (post : Int32 → S → Prop) (wo : S → va_W) : Prop :=
  ∀ sz, Met l y (Cond.code y b n (some ret) :: TG) rm (va_Pc av (pl_in E D cl tys wi sz)) (va_Qi post (fun u => pl_out D cl tys (va_A wi sz) (wo u)) (va_A wi sz)) rm.cells rm.slots (va_A wi sz)
def pl_R {S : Type} (l : Launch) (y : MethodName) (b : ByteArray) (n : Nat) (ret : FieldType) (rm : Room) (E : pl_Ev) (D : va_G) (cl : List vw_C) (tys : List (ClassId × FieldType)) (av : List Value) (wi : va_W) (a0 : Nat) (post : S → Prop) (wo : S → va_W) : Prop :=
  ∀ sz, Met l y (Cond.code y b n (some ret) :: TG) rm (va_Pc av (pl_in E D cl tys wi sz)) (va_Qr post (fun u a t => a = a0 ∧ pl_out D cl tys (va_A wi sz) (wo u) t) (va_A wi sz)) rm.cells rm.slots (va_A wi sz)
theorem pl_blind {E : pl_Ev} (hE : pl_Ok E) {D : va_G} {cl : List vw_C} {tys : List (ClassId × FieldType)} {ws : va_W} {sz : Nat} {av : List Value} : FrameBlind (va_Pc av (pl_in E D cl tys ws sz)) := by
  intro a U g mk q
  obtain ⟨q0, q1, qP, qK, qD, qE⟩ := q
  exact ⟨q0, q1, qP, va_K.moved (u := U) (U := U.calling g mk a) (Vm.Alike.refl U.vm) qK, qD, hE.1 _ U (U.calling g mk a) _ (State.WarmedH.refl U) qE⟩
theorem pl_pre {E : pl_Ev} (hE : pl_Ok E) {D : va_G} {cl : List vw_C} {tys : List (ClassId × FieldType)} {ws : va_W} {s : State} {H : Heap} {A : Nat → Prop} {av : List Value} (hP : va_P D cl ws H) (hD : va_D A ws) (hK : va_K D cl tys s) (h : E (va_A ws H.size) s H) : PreS s H (va_Pc av (pl_in E D cl tys ws H.size)) av :=
  ⟨pl_blind hE, fun U hU hW => ⟨rfl, by rw [hU], by rw [hU]; exact hP, va_K.moved hW.alike hK, hD.weaken (fun _ _ _ _ => trivial), by rw [hU]; exact hE.1 _ s U _ hW h⟩⟩
section PLB
variable {l : Launch} {y : MethodName} {b : ByteArray} {n : Nat} {rm : Room} {E : pl_Ev} {D : va_G} {cl : List vw_C} {tys : List (ClassId × FieldType)} {av : List Value} {wi : va_W}
/-- a body's start -/
theorem pl_startV {S : Type} {post : S → Prop} {wo : S → va_W} (hy : plainName y.cls = true) (hlen : (lg_sl av).length ≤ n)
    (body : ∀ (p : Program) (e : Env) (s : State) (m : MethodId) (args : Array Value) (below : List Frame) (meth : Method) (c : Code) (A : Nat → Prop) (ls : Array Slot), CallFix p m c b n s args TG y.cls → meth.sig.returnType = none → meth.locks = false → meth.name = y.name → va_K D cl tys s → va_P D cl wi s.heap → va_D A wi → va_S A s.heap s.heap [] → (∀ q, s.heap.size ≤ q → A q) → E A s s.heap → lv_has ls n (lv_args 0 av) →
      W p l e rm s m args below meth c s.heap [] 0 0 (MQ below (va_Qv post (fun u => pl_out D cl tys A (wo u)) A) args s rm.cells rm.slots A) (F0 m 0 ls [])) : pl_V l y b n rm E D cl tys av wi post wo := by
  intro sz
  refine Met.ofW (cc := b) (maxL := n) (ret := none) hy rfl ?_
  intro p e s m args below meth c s₁ B hml hv
  obtain ⟨rfl, hsz, hP, hK, hD0, hE⟩ := hv
  subst hsz
  rw [lg_entry_eq]
  exact body p e s m _ below meth c (va_A wi s.heap.size) _ ⟨B.exec, B.bytes, hml, findClass_of_methodNamed B.named, fun w hw => atoms_spec (ws := Cond.code y b n none :: TG) B.pre w (List.mem_cons_of_mem _ hw)⟩ B.returns B.notSynchronized (name_of_methodNamed B.named B.method).1 hK hP hD0.self va_S.rf (fun q h => Or.inr h) hE (lv_entry av hlen)
theorem pl_startI {S : Type} {ret : FieldType} {post : Int32 → S → Prop} {wo : S → va_W} (hy : plainName y.cls = true) (hlen : (lg_sl av).length ≤ n)
    (body : ∀ (p : Program) (e : Env) (s : State) (m : MethodId) (args : Array Value) (below : List Frame) (meth : Method) (c : Code) (A : Nat → Prop) (ls : Array Slot), CallFix p m c b n s args TG y.cls → meth.sig.returnType = some ret → meth.locks = false → meth.name = y.name → va_K D cl tys s → va_P D cl wi s.heap → va_D A wi → va_S A s.heap s.heap [] → (∀ q, s.heap.size ≤ q → A q) → E A s s.heap → lv_has ls n (lv_args 0 av) →
      W p l e rm s m args below meth c s.heap [] 0 0 (MQ below (va_Qi post (fun u => pl_out D cl tys A (wo u)) A) args s rm.cells rm.slots A) (F0 m 0 ls [])) : pl_I l y b n ret rm E D cl tys av wi post wo := by
  intro sz
  refine Met.ofW (cc := b) (maxL := n) (ret := some ret) hy rfl ?_
  intro p e s m args below meth c s₁ B hml hv
  obtain ⟨rfl, hsz, hP, hK, hD0, hE⟩ := hv
  subst hsz
  rw [lg_entry_eq]
  exact body p e s m _ below meth c (va_A wi s.heap.size) _ ⟨B.exec, B.bytes, hml, findClass_of_methodNamed B.named, fun w hw => atoms_spec (ws := Cond.code y b n (some ret) :: TG) B.pre w (List.mem_cons_of_mem _ hw)⟩ B.returns B.notSynchronized (name_of_methodNamed B.named B.method).1 hK hP hD0.self va_S.rf (fun q h => Or.inr h) hE (lv_entry av hlen)
theorem pl_startR {S : Type} {ret : FieldType} {a0 : Nat} {post : S → Prop} {wo : S → va_W} (hy : plainName y.cls = true) (hlen : (lg_sl av).length ≤ n)
    (body : ∀ (p : Program) (e : Env) (s : State) (m : MethodId) (args : Array Value) (below : List Frame) (meth : Method) (c : Code) (A : Nat → Prop) (ls : Array Slot), CallFix p m c b n s args TG y.cls → meth.sig.returnType = some ret → meth.locks = false → meth.name = y.name → va_K D cl tys s → va_P D cl wi s.heap → va_D A wi → va_S A s.heap s.heap [] → (∀ q, s.heap.size ≤ q → A q) → E A s s.heap → lv_has ls n (lv_args 0 av) →
      W p l e rm s m args below meth c s.heap [] 0 0 (MQ below (va_Qr post (fun u a t => a = a0 ∧ pl_out D cl tys A (wo u) t) A) args s rm.cells rm.slots A) (F0 m 0 ls [])) : pl_R l y b n ret rm E D cl tys av wi a0 post wo := by
  intro sz
  refine Met.ofW (cc := b) (maxL := n) (ret := some ret) hy rfl ?_
  intro p e s m args below meth c s₁ B hml hv
  obtain ⟨rfl, hsz, hP, hK, hD0, hE⟩ := hv
  subst hsz
  rw [lg_entry_eq]
  exact body p e s m _ below meth c (va_A wi s.heap.size) _ ⟨B.exec, B.bytes, hml, findClass_of_methodNamed B.named, fun w hw => atoms_spec (ws := Cond.code y b n (some ret) :: TG) B.pre w (List.mem_cons_of_mem _ hw)⟩ B.returns B.notSynchronized (name_of_methodNamed B.named B.method).1 hK hP hD0.self va_S.rf (fun q h => Or.inr h) hE (lv_entry av hlen)
end PLB
section PLR
variable {p : Program} {l : Launch} {e : Env} {R : Room} {s : State} {m : MethodId} {args : Array Value} {below : List Frame} {meth : Method} {c : Code} {H : Heap} {locs : List Loc} {cells slots : Nat} {Q : State → Prop}
variable {cc : ByteArray} {pc nL : Nat} {ls : Array Slot} {rest : List Value} {D : va_G} {cl : List vw_C} {A : Nat → Prop} {a : Nat} {tys : List (ClassId × FieldType)} {ws : va_W} {own : String}
/-- a body's end -/
theorem pl_vret {S : Type} {post : S → Prop} {wo : S → va_W} (X : CallFix p m c cc nL s args TG own) (hr : meth.sig.returnType = none) (hlocks : meth.locks = false) (hK : va_K D cl tys s) (u : S) (hu : post u) (hP : va_P D cl (wo u) H) (hD : va_D A (wo u)) (hS : va_S A s.heap H locs) (hdg : decode cc pc = .ok (.return_, 1)) :
    W p l e R s m args below meth c H locs cells slots (MQ below (va_Qv post (fun u => pl_out D cl tys A (wo u)) A) args s cells slots A) (F0 m pc ls []) :=
  W.vret X.1 X.2.1 hr (fun t ht hW => ⟨⟨u, rfl, hu, by rw [ht]; exact hP, va_K.moved hW.alike hK, hD⟩, hS.F ht⟩) hS.2.2 hdg hlocks
theorem pl_iret {S : Type} {post : Int32 → S → Prop} {wo : S → va_W} {v : Int32} {ty : FieldType} (X : CallFix p m c cc nL s args TG own) (hr : meth.sig.returnType = some ty) (hlocks : meth.locks = false) (hK : va_K D cl tys s) (hn : narrow ty (.int v) = .int v) (u : S) (hu : post v u) (hP : va_P D cl (wo u) H) (hD : va_D A (wo u)) (hS : va_S A s.heap H locs) (hdg : decode cc pc = .ok (.ireturn, 1)) :
    W p l e R s m args below meth c H locs cells slots (MQ below (va_Qi post (fun u => pl_out D cl tys A (wo u)) A) args s cells slots A) (F0 m pc ls [.int v]) :=
  W.zret X.1 X.2.1 hr hn (fun t ht hW => ⟨⟨v, u, rfl, hu, by rw [ht]; exact hP, va_K.moved hW.alike hK, hD⟩, hS.F ht⟩) hS.2.2 hdg hlocks
theorem pl_aret {S : Type} {a0 : Nat} {post : S → Prop} {wo : S → va_W} {C : String} (X : CallFix p m c cc nL s args TG own) (hr : meth.sig.returnType = some (.object C)) (hlocks : meth.locks = false) (hK : va_K D cl tys s) (u : S) (hu : post u) (hP : va_P D cl (wo u) H) (hD : va_D A (wo u)) (hS : va_S A s.heap H locs) (hdg : decode cc pc = .ok (.areturn, 1)) :
    W p l e R s m args below meth c H locs cells slots (MQ below (va_Qr post (fun u a t => a = a0 ∧ pl_out D cl tys A (wo u) t) A) args s cells slots A) (F0 m pc ls [.ref a0]) :=
  W.aret X.1 X.2.1 hr (Or.inl ⟨C, rfl⟩) (Or.inr ⟨a0, rfl⟩) (fun t ht hW => ⟨⟨u, a0, rfl, hu, rfl, by rw [ht]; exact hP, va_K.moved hW.alike hK, hD⟩, hS.F ht⟩) hS.2.2 hdg hlocks
/-- fields -/
def fw (cl : List vw_C) (own : String) (idx ci k : Nat) (C : String) (T : u_T) (N : Nat) : Prop := cl[ci]? = some (C, T, N) ∧ k < N ∧ (∀ w ∈ u_ws C T N, w ∈ TG) ∧ Cond.fieldLink own idx (T k).1 (T k).2.1 (T k).2.2.1 ∈ TG
def fp (T : u_T) (N : Nat) (ty : Nat → FieldType) : Prop := (∀ k, k < N → parseFieldDescriptor (T k).2.2.1 = some (ty k)) ∧ (∀ a, a < N → ∀ b, b < N → a ≠ b → (T a).2.1 ≠ (T b).2.1)
theorem pl_get {idx ci k N : Nat} {C : String} {T : u_T} (X : CallFix p m c cc nL s args TG own) (F : fw cl own idx ci k C T N) (hK : va_K D cl tys s) (hP : va_P D cl ws H) (q0 : Nat) {fs : List Value} (he : ws[q0]? = some (a, .inr (ci, fs))) {v : Value} (hv : fs[k]? = some v) (hdg : decode cc pc = .ok (.getfield idx, 3))
    (kk : W p l e R s m args below meth c H locs cells slots Q (F0 m (pc + 3) ls (v :: rest))) : W p l e R s m args below meth c H locs cells slots Q (F0 m pc ls (.ref a :: rest)) :=
  va_get X.1 X.2.1 (ref := (T k).1) X.2.2.2.2 F.2.2.1 X.2.2.2.1 hK hP q0 he F.1 k F.2.1 (X.2.2.2.2 _ F.2.2.2) (fun _ h => h) hv hdg kk
theorem pl_put {idx ci k N : Nat} {C : String} {T : u_T} {ty : Nat → FieldType} (X : CallFix p m c cc nL s args TG own) (F : fw cl own idx ci k C T N) (G : fp T N ty) (hfin : (T k).2.2.2 = false) (hK : va_K D cl tys s) (hP : va_P D cl ws H) (hD : va_D A ws) (hS : va_S A s.heap H locs) (q0 : Nat) {fs : List Value} (he : ws[q0]? = some (a, .inr (ci, fs))) {v : Value} (hn : narrow (ty k) v = v) (hfit : fits (ty k) v = true) (hl : k < fs.length) (hdg : decode cc pc = .ok (.putfield idx, 3)) {ws' : va_W} (hw : ws.set q0 (a, .inr (ci, fs.set k v)) = ws')
    (kk : ∀ (H1 : Heap) (locs1 : List Loc), va_P D cl ws' H1 → va_D A ws' → va_S A s.heap H1 locs1 → W p l e R s m args below meth c H1 locs1 cells slots Q (F0 m (pc + 3) ls rest)) : W p l e R s m args below meth c H locs cells slots Q (F0 m pc ls (v :: .ref a :: rest)) := by
  subst hw
  exact va_put X.1 X.2.1 (ref := (T k).1) X.2.2.2.2 F.2.2.1 ty G.1 G.2 X.2.2.2.1 hK hP hD hS q0 he F.1 k F.2.1 (X.2.2.2.2 _ F.2.2.2) (fun _ h => h) hfin (G.1 k F.2.1) hn hfit hl hdg kk
theorem pl_putF {idx ci k N : Nat} {C : String} {T : u_T} {ty : Nat → FieldType} (X : CallFix p m c cc nL s args TG own) (F : fw cl own idx ci k C T N) (G : fp T N ty) (hfin : (T k).2.2.2 = true) (hin : meth.name = "<init>") (hdecl : (T k).1 = own) (hK : va_K D cl tys s) (hP : va_P D cl ws H) (hD : va_D A ws) (hS : va_S A s.heap H locs) (q0 : Nat) {fs : List Value} (he : ws[q0]? = some (a, .inr (ci, fs))) {v : Value} (hn : narrow (ty k) v = v) (hfit : fits (ty k) v = true) (hl : k < fs.length) (hdg : decode cc pc = .ok (.putfield idx, 3)) {ws' : va_W} (hw : ws.set q0 (a, .inr (ci, fs.set k v)) = ws')
    (kk : ∀ (H1 : Heap) (locs1 : List Loc), va_P D cl ws' H1 → va_D A ws' → va_S A s.heap H1 locs1 → W p l e R s m args below meth c H1 locs1 cells slots Q (F0 m (pc + 3) ls rest)) : W p l e R s m args below meth c H locs cells slots Q (F0 m pc ls (v :: .ref a :: rest)) := by
  subst hw
  exact va_putF X.1 X.2.1 (ref := (T k).1) X.2.2.2.2 F.2.2.1 ty G.1 G.2 X.2.2.2.1 hK hP hD hS q0 he F.1 k F.2.1 (X.2.2.2.2 _ F.2.2.2) (fun _ h => h) hfin hin hdecl (G.1 k F.2.1) hn hfit hl hdg kk
/-- int arrays, at places that are natural numbers -/
theorem pl_ix {j n : Nat} (hj : j < n) (hn : n < 2 ^ 31) : vp_in (nI j) n ∧ (nI j).toNatClampNeg = j := ⟨vp_in_nI hj hn, nI_clamp (by omega)⟩
theorem pl_iald (X : CallFix p m c cc nL s args TG own) (hK : va_K D cl tys s) (hP : va_P D cl ws H) (q0 t0 : Nat) {cA : ClassId} {n : Nat} {f : Nat → Int32} (ha : ws[q0]? = some (a, .inl (cA, n, .inl f))) (ht : tys[t0]? = some (cA, .int)) (j : Nat) (hj : j < n) (hn : n < 2 ^ 31) {z : Int32} (hz : f j = z) (hdg : decode cc pc = .ok (.iaload, 1))
    (kk : W p l e R s m args below meth c H locs cells slots Q (F0 m (pc + 1) ls (.int z :: rest))) : W p l e R s m args below meth c H locs cells slots Q (F0 m pc ls (.int (nI j) :: .ref a :: rest)) := by
  subst hz
  refine va_iald X.1 X.2.1 hK hP q0 t0 ha ht (pl_ix hj hn).1 hdg ?_
  rw [(pl_ix hj hn).2]
  exact kk
theorem pl_zald (X : CallFix p m c cc nL s args TG own) (hK : va_K D cl tys s) (hP : va_P D cl ws H) (q0 t0 : Nat) {cA : ClassId} {n : Nat} {f : Nat → Int32} (ha : ws[q0]? = some (a, .inl (cA, n, .inl f))) (ht : tys[t0]? = some (cA, .boolean)) (j : Nat) (hj : j < n) (hn : n < 2 ^ 31) {z : Int32} (hz : f j = z) (hdg : decode cc pc = .ok (.baload, 1))
    (kk : W p l e R s m args below meth c H locs cells slots Q (F0 m (pc + 1) ls (.int z :: rest))) : W p l e R s m args below meth c H locs cells slots Q (F0 m pc ls (.int (nI j) :: .ref a :: rest)) := by
  subst hz
  refine va_zald X.1 X.2.1 hK hP q0 t0 ha ht (pl_ix hj hn).1 hdg ?_
  rw [(pl_ix hj hn).2]
  exact kk
theorem pl_iast (X : CallFix p m c cc nL s args TG own) (hK : va_K D cl tys s) (hP : va_P D cl ws H) (hD : va_D A ws) (hS : va_S A s.heap H locs) (q0 t0 : Nat) {cA : ClassId} {n : Nat} {f : Nat → Int32} (ha : ws[q0]? = some (a, .inl (cA, n, .inl f))) (ht : tys[t0]? = some (cA, .int)) (j : Nat) (hj : j < n) (hn : n < 2 ^ 31) {x : Int32} (hdg : decode cc pc = .ok (.iastore, 1)) {ws' : va_W} (hw : ws.set q0 (a, .inl (cA, n, .inl (upd f j x))) = ws')
    (kk : ∀ (H1 : Heap) (locs1 : List Loc), va_P D cl ws' H1 → va_D A ws' → va_S A s.heap H1 locs1 → W p l e R s m args below meth c H1 locs1 cells slots Q (F0 m (pc + 1) ls rest)) : W p l e R s m args below meth c H locs cells slots Q (F0 m pc ls (.int x :: .int (nI j) :: .ref a :: rest)) := by
  subst hw
  refine va_iast X.1 X.2.1 hK hP hD hS q0 t0 ha ht (pl_ix hj hn).1 hdg ?_
  rw [(pl_ix hj hn).2]
  exact kk
theorem pl_zast (X : CallFix p m c cc nL s args TG own) (hK : va_K D cl tys s) (hP : va_P D cl ws H) (hD : va_D A ws) (hS : va_S A s.heap H locs) (q0 t0 : Nat) {cA : ClassId} {n : Nat} {f : Nat → Int32} (ha : ws[q0]? = some (a, .inl (cA, n, .inl f))) (ht : tys[t0]? = some (cA, .boolean)) (j : Nat) (hj : j < n) (hn : n < 2 ^ 31) {x : Int32} (hx0 : vp_nar .boolean x = x) (hdg : decode cc pc = .ok (.bastore, 1)) {ws' : va_W} (hw : ws.set q0 (a, .inl (cA, n, .inl (upd f j x))) = ws')
    (kk : ∀ (H1 : Heap) (locs1 : List Loc), va_P D cl ws' H1 → va_D A ws' → va_S A s.heap H1 locs1 → W p l e R s m args below meth c H1 locs1 cells slots Q (F0 m (pc + 1) ls rest)) : W p l e R s m args below meth c H locs cells slots Q (F0 m pc ls (.int x :: .int (nI j) :: .ref a :: rest)) := by
  subst hw
  refine va_zast X.1 X.2.1 hK hP hD hS q0 t0 ha ht (pl_ix hj hn).1 hdg ?_
  rw [(pl_ix hj hn).2, hx0]
  exact kk
theorem pl_alen (X : CallFix p m c cc nL s args TG own) (hK : va_K D cl tys s) (hP : va_P D cl ws H) (q0 t0 : Nat) {cA : ClassId} {x : vp_A} (ha : ws[q0]? = some (a, .inl (cA, x))) {ty : FieldType} (ht : tys[t0]? = some (cA, ty)) {L : Nat} (hL : x.1 = L) (hdg : decode cc pc = .ok (.arraylength, 1))
    (kk : W p l e R s m args below meth c H locs cells slots Q (F0 m (pc + 1) ls (.int (nI L) :: rest))) : W p l e R s m args below meth c H locs cells slots Q (F0 m pc ls (.ref a :: rest)) :=
  va_alen X.1 X.2.1 hK hP q0 t0 ha ht (congrArg nI hL) hdg kk
/-- numbers with their value said -/
theorem pl_iadd {x y z : Int32} (X : CallFix p m c cc nL s args TG own) (hdg : decode cc pc = .ok (.iadd, 1)) (hz : x + y = z) (k : W p l e R s m args below meth c H locs cells slots Q (F0 m (pc + 1) ls (.int z :: rest))) : W p l e R s m args below meth c H locs cells slots Q (F0 m pc ls (.int y :: .int x :: rest)) := by
  subst hz; exact lv_iadd X.1 X.2.1 hdg k
theorem pl_isub {x y z : Int32} (X : CallFix p m c cc nL s args TG own) (hdg : decode cc pc = .ok (.isub, 1)) (hz : x - y = z) (k : W p l e R s m args below meth c H locs cells slots Q (F0 m (pc + 1) ls (.int z :: rest))) : W p l e R s m args below meth c H locs cells slots Q (F0 m pc ls (.int y :: .int x :: rest)) := by
  subst hz; exact lv_isub X.1 X.2.1 hdg k
theorem pl_imul {x y z : Int32} (X : CallFix p m c cc nL s args TG own) (hdg : decode cc pc = .ok (.imul, 1)) (hz : x * y = z) (k : W p l e R s m args below meth c H locs cells slots Q (F0 m (pc + 1) ls (.int z :: rest))) : W p l e R s m args below meth c H locs cells slots Q (F0 m pc ls (.int y :: .int x :: rest)) := by
  subst hz; exact lv_imul X.1 X.2.1 hdg k
/-- compares of natural numbers -/
theorem pl_icmp_eq {x y : Nat} (X : CallFix p m c cc nL s args TG own) (hx : x < 2 ^ 31) (hy : y < 2 ^ 31) {off : Int} {tgt : Nat} (hdg : decode cc pc = .ok (.if_icmp .eq off, 3)) (ht : (pc : Int) + off = (tgt : Int)) (kt : x = y → W p l e R s m args below meth c H locs cells slots Q (F0 m tgt ls rest)) (kf : ¬ x = y → W p l e R s m args below meth c H locs cells slots Q (F0 m (pc + 3) ls rest)) : W p l e R s m args below meth c H locs cells slots Q (F0 m pc ls (.int (nI y) :: .int (nI x) :: rest)) :=
  lv_icmp_eq X.1 X.2.1 hdg ht (fun h => kt ((nI_eq hx hy).mp h)) (fun h => kf (fun q => h (by rw [q])))
theorem pl_icmp_ne {x y : Nat} (X : CallFix p m c cc nL s args TG own) (hx : x < 2 ^ 31) (hy : y < 2 ^ 31) {off : Int} {tgt : Nat} (hdg : decode cc pc = .ok (.if_icmp .ne off, 3)) (ht : (pc : Int) + off = (tgt : Int)) (kt : ¬ x = y → W p l e R s m args below meth c H locs cells slots Q (F0 m tgt ls rest)) (kf : x = y → W p l e R s m args below meth c H locs cells slots Q (F0 m (pc + 3) ls rest)) : W p l e R s m args below meth c H locs cells slots Q (F0 m pc ls (.int (nI y) :: .int (nI x) :: rest)) :=
  lv_icmp_ne X.1 X.2.1 hdg ht (fun h => kt (fun q => h (by rw [q]))) (fun h => kf ((nI_eq hx hy).mp h))
theorem pl_icmp_ge {x y : Nat} (X : CallFix p m c cc nL s args TG own) (hx : x < 2 ^ 31) (hy : y < 2 ^ 31) {off : Int} {tgt : Nat} (hdg : decode cc pc = .ok (.if_icmp .ge off, 3)) (ht : (pc : Int) + off = (tgt : Int)) (kt : y ≤ x → W p l e R s m args below meth c H locs cells slots Q (F0 m tgt ls rest)) (kf : x < y → W p l e R s m args below meth c H locs cells slots Q (F0 m (pc + 3) ls rest)) : W p l e R s m args below meth c H locs cells slots Q (F0 m pc ls (.int (nI y) :: .int (nI x) :: rest)) :=
  lv_icmp_ge X.1 X.2.1 hdg ht (fun h => kt ((nI_leI hy hx).mp h)) (fun h => kf (Nat.lt_of_not_le fun q => h ((nI_leI hy hx).mpr q)))
theorem pl_icmp_lt {x y : Nat} (X : CallFix p m c cc nL s args TG own) (hx : x < 2 ^ 31) (hy : y < 2 ^ 31) {off : Int} {tgt : Nat} (hdg : decode cc pc = .ok (.if_icmp .lt off, 3)) (ht : (pc : Int) + off = (tgt : Int)) (kt : x < y → W p l e R s m args below meth c H locs cells slots Q (F0 m tgt ls rest)) (kf : y ≤ x → W p l e R s m args below meth c H locs cells slots Q (F0 m (pc + 3) ls rest)) : W p l e R s m args below meth c H locs cells slots Q (F0 m pc ls (.int (nI y) :: .int (nI x) :: rest)) :=
  lv_icmp_lt X.1 X.2.1 hdg ht (fun h => kt ((nI_ltI hx hy).mp h)) (fun h => kf (Nat.le_of_not_lt fun q => h ((nI_ltI hx hy).mpr q)))
theorem pl_icmp_gt {x y : Nat} (X : CallFix p m c cc nL s args TG own) (hx : x < 2 ^ 31) (hy : y < 2 ^ 31) {off : Int} {tgt : Nat} (hdg : decode cc pc = .ok (.if_icmp .gt off, 3)) (ht : (pc : Int) + off = (tgt : Int)) (kt : y < x → W p l e R s m args below meth c H locs cells slots Q (F0 m tgt ls rest)) (kf : x ≤ y → W p l e R s m args below meth c H locs cells slots Q (F0 m (pc + 3) ls rest)) : W p l e R s m args below meth c H locs cells slots Q (F0 m pc ls (.int (nI y) :: .int (nI x) :: rest)) :=
  lv_icmp_gt X.1 X.2.1 hdg ht (fun h => kt ((nI_ltI hy hx).mp h)) (fun h => kf (Nat.le_of_not_lt fun q => h ((nI_ltI hy hx).mpr q)))
theorem pl_icmp_le {x y : Nat} (X : CallFix p m c cc nL s args TG own) (hx : x < 2 ^ 31) (hy : y < 2 ^ 31) {off : Int} {tgt : Nat} (hdg : decode cc pc = .ok (.if_icmp .le off, 3)) (ht : (pc : Int) + off = (tgt : Int)) (kt : x ≤ y → W p l e R s m args below meth c H locs cells slots Q (F0 m tgt ls rest)) (kf : y < x → W p l e R s m args below meth c H locs cells slots Q (F0 m (pc + 3) ls rest)) : W p l e R s m args below meth c H locs cells slots Q (F0 m pc ls (.int (nI y) :: .int (nI x) :: rest)) :=
  lv_icmp_le X.1 X.2.1 hdg ht (fun h => kt ((nI_leI hx hy).mp h)) (fun h => kf (Nat.lt_of_not_le fun q => h ((nI_leI hx hy).mpr q)))
end PLR
end
section
/-! Calls: the callee's cells are cut out of the world, what comes back is laid into its place. -/
theorem pl_fm {is : List Nat} {ws wi : va_W} (h : is.map (fun i => ws[i]?) = wi.map some) : is.filterMap (fun i => ws[i]?) = wi := by
  have h1 : is.filterMap (fun i => ws[i]?) = (is.map (fun i => ws[i]?)).filterMap id := by rw [List.filterMap_map]; rfl
  rw [h1, h, List.filterMap_map]
  exact List.filterMap_some
theorem ck_app {hs ws : List Cond} (h1 : ∀ w ∈ hs, w ∈ TG) (h2 : ∀ w ∈ ws, w ∈ TG) : ∀ w ∈ hs ++ ws, w ∈ TG := fun w h => (List.mem_append.mp h).elim (h1 w) (h2 w)
theorem ck_c {w : Cond} {ws : List Cond} (h : w ∈ TG) (t : ∀ w ∈ ws, w ∈ TG) : ∀ w' ∈ w :: ws, w' ∈ TG := List.forall_mem_cons.mpr ⟨h, t⟩
theorem ck_n : ∀ w ∈ ([] : List Cond), w ∈ TG := fun _ h => nomatch h
def ckD (y : MethodName) (n : Nat) : Prop := y.cls ≠ "java/lang/invoke/MethodHandle" ∧ y.cls ≠ "java/lang/invoke/VarHandle" ∧ (parseMethodDescriptor y.desc).map (fun d => d.parameters.length) = some n
/-- what a call site knows of the tables -/
def ckV (own : String) (index : Nat) (y : MethodName) (b : ByteArray) (maxL : Nat) (ret : Option FieldType) (n : Nat) : Prop := Cond.methodLink own index y ∈ TG ∧ Cond.instanceMethod y ∈ TG ∧ Cond.selects y.cls y y ∈ TG ∧ Cond.initialized y.cls ∈ TG ∧ Cond.code y b maxL ret ∈ TG ∧ ckD y n
def ckS (own : String) (index : Nat) (y : MethodName) (b : ByteArray) (maxL : Nat) (ret : Option FieldType) (n : Nat) : Prop := Cond.methodLink own index y ∈ TG ∧ Cond.static y ∈ TG ∧ Cond.initialized y.cls ∈ TG ∧ Cond.code y b maxL ret ∈ TG ∧ ckD y n
def ckI (own : String) (index : Nat) (y : MethodName) (b : ByteArray) (maxL : Nat) (n : Nat) : Prop := Cond.methodLink own index y ∈ TG ∧ Cond.instanceMethod y ∈ TG ∧ Cond.initialized y.cls ∈ TG ∧ Cond.code y b maxL none ∈ TG ∧ y.name = "<init>" ∧ ckD y n
section PLC
variable {p : Program} {l : Launch} {e : Env} {R : Room} {s : State} {m : MethodId} {args : Array Value} {below : List Frame} {meth : Method} {c : Code} {H : Heap} {locs : List Loc} {cells slots : Nat} {Q : State → Prop}
variable {cc bytes : ByteArray} {pc nL maxL index n ci N b : Nat} {ls : Array Slot} {rest st0 As : List Value} {D : va_G} {cl : List vw_C} {A : Nat → Prop} {tys : List (ClassId × FieldType)} {ws wi wr : va_W} {own : String} {y : MethodName} {rm : Room} {E : pl_Ev} {T : u_T} {fs : List Value}
theorem ckV.w {ret : Option FieldType} (K : ckV own index y bytes maxL ret n) (X : CallFix p m c cc nL s args TG own) (hR : rm.frames + 1 ≤ R.frames ∧ 8 + (maxL + 11) + rm.locals ≤ R.locals) : CallW R s args own y.cls index y bytes maxL ret (Cond.code y bytes maxL ret :: TG) rm rm.cells rm.slots n :=
  cwV n X.2.2.2.2 (tg_in (ck_app (ck_c K.1 (ck_c K.2.1 (ck_c K.2.2.1 (ck_c K.2.2.2.1 ck_n)))) (ck_c K.2.2.2.2.1 (fun _ h => h)))) rfl rfl rfl ⟨rfl, K.2.2.2.2.2⟩ hR
theorem ckS.w {ret : Option FieldType} (K : ckS own index y bytes maxL ret n) (X : CallFix p m c cc nL s args TG own) (hR : rm.frames + 1 ≤ R.frames ∧ 8 + (maxL + 11) + rm.locals ≤ R.locals) : CallB R s args own index y bytes maxL ret (Cond.code y bytes maxL ret :: TG) rm rm.cells rm.slots n ∧ (Cond.static y).before args s = true :=
  va_cwS n X.2.2.2.2 (tg_in (ck_app (ck_c K.1 (ck_c K.2.1 (ck_c K.2.2.1 ck_n))) (ck_c K.2.2.2.1 (fun _ h => h)))) rfl rfl rfl K.2.2.2.2 hR
theorem ckI.w (K : ckI own index y bytes maxL n) (X : CallFix p m c cc nL s args TG own) (hR : rm.frames + 1 ≤ R.frames ∧ 8 + (maxL + 11) + rm.locals ≤ R.locals) : CallB R s args own index y bytes maxL none (Cond.code y bytes maxL none :: TG) rm rm.cells rm.slots n ∧ y.name = "<init>" ∧ (Cond.instanceMethod y).before args s = true :=
  cwI n X.2.2.2.2 (tg_cons K.2.2.2.1) rfl rfl rfl (X.2.2.2.2 _ K.2.2.1) (X.2.2.2.2 _ K.1) (X.2.2.2.2 _ K.2.1) K.2.2.2.2.1 K.2.2.2.2.2 hR
/-- the world behind a call, in its old order -/
theorem pl_back {wo1 wf : va_W} {H1 : Heap} (hP : va_P D cl ws H) (hD : va_D A ws) (isC isR isF : List Nat) (hC : isC.map (fun i => ws[i]?) = wi.map some) (hR : isR.map (fun i => ws[i]?) = wr.map some) (hnR : va_nd isR = true) (hdis : ∀ i ∈ isR, i ∉ isC) (hF : isF.map (fun i => (wr ++ wo1)[i]?) = wf.map some) (hnF : va_nd isF = true)
    (hk1 : ∀ q : Nat, q < H.size → ¬ va_A wi H.size q → H1[q]? = H[q]?) (hFc : ∀ q, va_A wi H.size q → A q) (hP1 : va_P D cl wo1 H1) (hD1 : va_D (va_A wi H.size) wo1) : va_P D cl wf H1 ∧ va_D A wf := by
  obtain ⟨hP2, hD2⟩ := va_join (wr := wr) (w1 := wo1) hP hD isC isR hC hR hnR hdis hk1 hFc hP1 hD1
  exact ⟨hP2.sub isF (pl_fm hF), hD2.sub isF hnF hF⟩
theorem pl_callVV {S : Type} {post : S → Prop} {wo wf : S → va_W} (X : CallFix p m c cc nL s args TG own) (hM : pl_V l y bytes maxL rm E D cl tys (.ref b :: As) wi post wo) (K : ckV own index y bytes maxL none n) (hE : pl_Ok E) (hEc : E (va_A wi H.size) s H) (hK : va_K D cl tys s) (hP : va_P D cl ws H) (hD : va_D A ws) (hS : va_S A s.heap H locs) (hA : ∀ q, s.heap.size ≤ q → A q) (hc : cl[ci]? = some (y.cls, T, N)) (q0 : Nat) (he : ws[q0]? = some (b, .inr (ci, fs))) (isC isR isF : List Nat) (hC : isC.map (fun i => ws[i]?) = wi.map some) (hnC : va_nd isC = true) (hR : isR.map (fun i => ws[i]?) = wr.map some) (hnR : va_nd isR = true) (hdis : ∀ i ∈ isR, i ∉ isC) (hF : ∀ u, isF.map (fun i => (wr ++ wo u)[i]?) = (wf u).map some) (hnF : va_nd isF = true) (hlen : As.length = n) (hsize : ls.size = nL) (hst : st0 = As.reverse ++ .ref b :: rest) (hcat : (rest.map fun v => v.category).sum ≤ 8) (hroom : rm.frames + 1 ≤ R.frames ∧ 8 + (maxL + 11) + rm.locals ≤ R.locals) (hf : cells + rm.cells ≤ R.cells ∧ slots + rm.slots ≤ R.slots) (hdg : decode cc pc = .ok (.invokevirtual index, 3))
    (kk : ∀ (u : S) (H1 : Heap) (locs1 : List Loc), post u → va_P D cl (wf u) H1 → va_D A (wf u) → va_S A s.heap H1 locs1 → W p l e R s m args below meth c H1 locs1 (cells + rm.cells) (slots + rm.slots) Q (F0 m (pc + 3) ls (rest))) : W p l e R s m args below meth c H locs cells slots Q (F0 m pc ls st0) := by
  have hFc := va_free (wc := wi) hD hS hA isC hC
  refine va_callv (va_runV (As := As) (rest := rest) X (hM H.size) (K.w X hroom) (⟨(pl_blind hE), va_recv hK hP hc he, (pl_pre (av := .ref b :: As) hE (hP.sub isC (pl_fm hC)) (hD.sub isC hnC hC) hK hEc).2⟩) rfl hlen hsize hst (lv_room hcat) hdg hf) hS (fun q _ h => hFc q h) hFc (fun u t H1 locs1 ht hvm hpo hB hz1 hk1 hS1 => ?_)
  obtain ⟨hP1, hK1, hD1⟩ := hB
  rw [ht] at hP1
  obtain ⟨hP2, hD2⟩ := pl_back (wf := wf u) hP hD isC isR isF hC hR hnR hdis (hF u) hnF hk1 hFc hP1 hD1
  exact kk u H1 locs1 hpo hP2 hD2 hS1
theorem pl_callVI {S : Type} {post : Int32 → S → Prop} {wo wf : S → va_W} {ret : FieldType} (X : CallFix p m c cc nL s args TG own) (hM : pl_I l y bytes maxL ret rm E D cl tys (.ref b :: As) wi post wo) (K : ckV own index y bytes maxL (some ret) n) (hE : pl_Ok E) (hEc : E (va_A wi H.size) s H) (hK : va_K D cl tys s) (hP : va_P D cl ws H) (hD : va_D A ws) (hS : va_S A s.heap H locs) (hA : ∀ q, s.heap.size ≤ q → A q) (hc : cl[ci]? = some (y.cls, T, N)) (q0 : Nat) (he : ws[q0]? = some (b, .inr (ci, fs))) (isC isR isF : List Nat) (hC : isC.map (fun i => ws[i]?) = wi.map some) (hnC : va_nd isC = true) (hR : isR.map (fun i => ws[i]?) = wr.map some) (hnR : va_nd isR = true) (hdis : ∀ i ∈ isR, i ∉ isC) (hF : ∀ u, isF.map (fun i => (wr ++ wo u)[i]?) = (wf u).map some) (hnF : va_nd isF = true) (hlen : As.length = n) (hsize : ls.size = nL) (hst : st0 = As.reverse ++ .ref b :: rest) (hcat : (rest.map fun v => v.category).sum ≤ 8) (hroom : rm.frames + 1 ≤ R.frames ∧ 8 + (maxL + 11) + rm.locals ≤ R.locals) (hf : cells + rm.cells ≤ R.cells ∧ slots + rm.slots ≤ R.slots) (hdg : decode cc pc = .ok (.invokevirtual index, 3))
    (kk : ∀ (r : Int32) (u : S) (H1 : Heap) (locs1 : List Loc), post r u → va_P D cl (wf u) H1 → va_D A (wf u) → va_S A s.heap H1 locs1 → W p l e R s m args below meth c H1 locs1 (cells + rm.cells) (slots + rm.slots) Q (F0 m (pc + 3) ls (.int r :: rest))) : W p l e R s m args below meth c H locs cells slots Q (F0 m pc ls st0) := by
  have hFc := va_free (wc := wi) hD hS hA isC hC
  refine va_calli (va_runV (As := As) (rest := rest) X (hM H.size) (K.w X hroom) (⟨(pl_blind hE), va_recv hK hP hc he, (pl_pre (av := .ref b :: As) hE (hP.sub isC (pl_fm hC)) (hD.sub isC hnC hC) hK hEc).2⟩) rfl hlen hsize hst (lv_room hcat) hdg hf) hS (fun q _ h => hFc q h) hFc (fun r u t H1 locs1 ht hvm hpo hB hz1 hk1 hS1 => ?_)
  obtain ⟨hP1, hK1, hD1⟩ := hB
  rw [ht] at hP1
  obtain ⟨hP2, hD2⟩ := pl_back (wf := wf u) hP hD isC isR isF hC hR hnR hdis (hF u) hnF hk1 hFc hP1 hD1
  exact kk r u H1 locs1 hpo hP2 hD2 hS1
theorem pl_callVR {S : Type} {post : S → Prop} {wo wf : S → va_W} {ret : FieldType} {a0 : Nat} (X : CallFix p m c cc nL s args TG own) (hM : pl_R l y bytes maxL ret rm E D cl tys (.ref b :: As) wi a0 post wo) (K : ckV own index y bytes maxL (some ret) n) (hE : pl_Ok E) (hEc : E (va_A wi H.size) s H) (hK : va_K D cl tys s) (hP : va_P D cl ws H) (hD : va_D A ws) (hS : va_S A s.heap H locs) (hA : ∀ q, s.heap.size ≤ q → A q) (hc : cl[ci]? = some (y.cls, T, N)) (q0 : Nat) (he : ws[q0]? = some (b, .inr (ci, fs))) (isC isR isF : List Nat) (hC : isC.map (fun i => ws[i]?) = wi.map some) (hnC : va_nd isC = true) (hR : isR.map (fun i => ws[i]?) = wr.map some) (hnR : va_nd isR = true) (hdis : ∀ i ∈ isR, i ∉ isC) (hF : ∀ u, isF.map (fun i => (wr ++ wo u)[i]?) = (wf u).map some) (hnF : va_nd isF = true) (hlen : As.length = n) (hsize : ls.size = nL) (hst : st0 = As.reverse ++ .ref b :: rest) (hcat : (rest.map fun v => v.category).sum ≤ 8) (hroom : rm.frames + 1 ≤ R.frames ∧ 8 + (maxL + 11) + rm.locals ≤ R.locals) (hf : cells + rm.cells ≤ R.cells ∧ slots + rm.slots ≤ R.slots) (hdg : decode cc pc = .ok (.invokevirtual index, 3))
    (kk : ∀ (u : S) (H1 : Heap) (locs1 : List Loc), post u → va_P D cl (wf u) H1 → va_D A (wf u) → va_S A s.heap H1 locs1 → W p l e R s m args below meth c H1 locs1 (cells + rm.cells) (slots + rm.slots) Q (F0 m (pc + 3) ls (.ref a0 :: rest))) : W p l e R s m args below meth c H locs cells slots Q (F0 m pc ls st0) := by
  have hFc := va_free (wc := wi) hD hS hA isC hC
  refine va_callr (va_runV (As := As) (rest := rest) X (hM H.size) (K.w X hroom) (⟨(pl_blind hE), va_recv hK hP hc he, (pl_pre (av := .ref b :: As) hE (hP.sub isC (pl_fm hC)) (hD.sub isC hnC hC) hK hEc).2⟩) rfl hlen hsize hst (lv_room hcat) hdg hf) hS (fun q _ h => hFc q h) hFc (fun u ra t H1 locs1 ht hvm hpo hB hz1 hk1 hS1 => ?_)
  obtain ⟨hra, hP1, hK1, hD1⟩ := hB
  subst hra
  rw [ht] at hP1
  obtain ⟨hP2, hD2⟩ := pl_back (wf := wf u) hP hD isC isR isF hC hR hnR hdis (hF u) hnF hk1 hFc hP1 hD1
  exact kk u H1 locs1 hpo hP2 hD2 hS1
theorem pl_callSI {S : Type} {post : Int32 → S → Prop} {wo wf : S → va_W} {ret : FieldType} (X : CallFix p m c cc nL s args TG own) (hM : pl_I l y bytes maxL ret rm E D cl tys As wi post wo) (K : ckS own index y bytes maxL (some ret) n) (hE : pl_Ok E) (hEc : E (va_A wi H.size) s H) (hK : va_K D cl tys s) (hP : va_P D cl ws H) (hD : va_D A ws) (hS : va_S A s.heap H locs) (hA : ∀ q, s.heap.size ≤ q → A q) (isC isR isF : List Nat) (hC : isC.map (fun i => ws[i]?) = wi.map some) (hnC : va_nd isC = true) (hR : isR.map (fun i => ws[i]?) = wr.map some) (hnR : va_nd isR = true) (hdis : ∀ i ∈ isR, i ∉ isC) (hF : ∀ u, isF.map (fun i => (wr ++ wo u)[i]?) = (wf u).map some) (hnF : va_nd isF = true) (hlen : As.length = n) (hsize : ls.size = nL) (hst : st0 = As.reverse ++ rest) (hcat : (rest.map fun v => v.category).sum ≤ 8) (hroom : rm.frames + 1 ≤ R.frames ∧ 8 + (maxL + 11) + rm.locals ≤ R.locals) (hf : cells + rm.cells ≤ R.cells ∧ slots + rm.slots ≤ R.slots) (hdg : decode cc pc = .ok (.invokestatic index, 3))
    (kk : ∀ (r : Int32) (u : S) (H1 : Heap) (locs1 : List Loc), post r u → va_P D cl (wf u) H1 → va_D A (wf u) → va_S A s.heap H1 locs1 → W p l e R s m args below meth c H1 locs1 (cells + rm.cells) (slots + rm.slots) Q (F0 m (pc + 3) ls (.int r :: rest))) : W p l e R s m args below meth c H locs cells slots Q (F0 m pc ls st0) := by
  have hFc := va_free (wc := wi) hD hS hA isC hC
  refine va_calli (va_runS (As := As) (rest := rest) X (hM H.size) (K.w X hroom) (pl_pre hE (hP.sub isC (pl_fm hC)) (hD.sub isC hnC hC) hK hEc) rfl hlen hsize hst (lv_room hcat) hdg hf) hS (fun q _ h => hFc q h) hFc (fun r u t H1 locs1 ht hvm hpo hB hz1 hk1 hS1 => ?_)
  obtain ⟨hP1, hK1, hD1⟩ := hB
  rw [ht] at hP1
  obtain ⟨hP2, hD2⟩ := pl_back (wf := wf u) hP hD isC isR isF hC hR hnR hdis (hF u) hnF hk1 hFc hP1 hD1
  exact kk r u H1 locs1 hpo hP2 hD2 hS1
theorem pl_callSV {S : Type} {post : S → Prop} {wo wf : S → va_W} (X : CallFix p m c cc nL s args TG own) (hM : pl_V l y bytes maxL rm E D cl tys As wi post wo) (K : ckS own index y bytes maxL none n) (hE : pl_Ok E) (hEc : E (va_A wi H.size) s H) (hK : va_K D cl tys s) (hP : va_P D cl ws H) (hD : va_D A ws) (hS : va_S A s.heap H locs) (hA : ∀ q, s.heap.size ≤ q → A q) (isC isR isF : List Nat) (hC : isC.map (fun i => ws[i]?) = wi.map some) (hnC : va_nd isC = true) (hR : isR.map (fun i => ws[i]?) = wr.map some) (hnR : va_nd isR = true) (hdis : ∀ i ∈ isR, i ∉ isC) (hF : ∀ u, isF.map (fun i => (wr ++ wo u)[i]?) = (wf u).map some) (hnF : va_nd isF = true) (hlen : As.length = n) (hsize : ls.size = nL) (hst : st0 = As.reverse ++ rest) (hcat : (rest.map fun v => v.category).sum ≤ 8) (hroom : rm.frames + 1 ≤ R.frames ∧ 8 + (maxL + 11) + rm.locals ≤ R.locals) (hf : cells + rm.cells ≤ R.cells ∧ slots + rm.slots ≤ R.slots) (hdg : decode cc pc = .ok (.invokestatic index, 3))
    (kk : ∀ (u : S) (H1 : Heap) (locs1 : List Loc), post u → va_P D cl (wf u) H1 → va_D A (wf u) → va_S A s.heap H1 locs1 → W p l e R s m args below meth c H1 locs1 (cells + rm.cells) (slots + rm.slots) Q (F0 m (pc + 3) ls (rest))) : W p l e R s m args below meth c H locs cells slots Q (F0 m pc ls st0) := by
  have hFc := va_free (wc := wi) hD hS hA isC hC
  refine va_callv (va_runS (As := As) (rest := rest) X (hM H.size) (K.w X hroom) (pl_pre hE (hP.sub isC (pl_fm hC)) (hD.sub isC hnC hC) hK hEc) rfl hlen hsize hst (lv_room hcat) hdg hf) hS (fun q _ h => hFc q h) hFc (fun u t H1 locs1 ht hvm hpo hB hz1 hk1 hS1 => ?_)
  obtain ⟨hP1, hK1, hD1⟩ := hB
  rw [ht] at hP1
  obtain ⟨hP2, hD2⟩ := pl_back (wf := wf u) hP hD isC isR isF hC hR hnR hdis (hF u) hnF hk1 hFc hP1 hD1
  exact kk u H1 locs1 hpo hP2 hD2 hS1
theorem pl_callIV {S : Type} {post : S → Prop} {wo wf : S → va_W} (X : CallFix p m c cc nL s args TG own) (hM : pl_V l y bytes maxL rm E D cl tys (.ref b :: As) wi post wo) (K : ckI own index y bytes maxL n) (hE : pl_Ok E) (hEc : E (va_A wi H.size) s H) (hK : va_K D cl tys s) (hP : va_P D cl ws H) (hD : va_D A ws) (hS : va_S A s.heap H locs) (hA : ∀ q, s.heap.size ≤ q → A q) (isC isR isF : List Nat) (hC : isC.map (fun i => ws[i]?) = wi.map some) (hnC : va_nd isC = true) (hR : isR.map (fun i => ws[i]?) = wr.map some) (hnR : va_nd isR = true) (hdis : ∀ i ∈ isR, i ∉ isC) (hF : ∀ u, isF.map (fun i => (wr ++ wo u)[i]?) = (wf u).map some) (hnF : va_nd isF = true) (hlen : As.length = n) (hsize : ls.size = nL) (hst : st0 = As.reverse ++ .ref b :: rest) (hcat : (rest.map fun v => v.category).sum ≤ 8) (hroom : rm.frames + 1 ≤ R.frames ∧ 8 + (maxL + 11) + rm.locals ≤ R.locals) (hf : cells + rm.cells ≤ R.cells ∧ slots + rm.slots ≤ R.slots) (hdg : decode cc pc = .ok (.invokespecial index, 3))
    (kk : ∀ (u : S) (H1 : Heap) (locs1 : List Loc), post u → va_P D cl (wf u) H1 → va_D A (wf u) → va_S A s.heap H1 locs1 → W p l e R s m args below meth c H1 locs1 (cells + rm.cells) (slots + rm.slots) Q (F0 m (pc + 3) ls (rest))) : W p l e R s m args below meth c H locs cells slots Q (F0 m pc ls st0) := by
  have hFc := va_free (wc := wi) hD hS hA isC hC
  refine va_callv (va_runI (As := As) (rest := rest) X (hM H.size) (K.w X hroom) (pl_pre hE (hP.sub isC (pl_fm hC)) (hD.sub isC hnC hC) hK hEc) rfl hlen hsize hst (lv_room hcat) hdg hf) hS (fun q _ h => hFc q h) hFc (fun u t H1 locs1 ht hvm hpo hB hz1 hk1 hS1 => ?_)
  obtain ⟨hP1, hK1, hD1⟩ := hB
  rw [ht] at hP1
  obtain ⟨hP2, hD2⟩ := pl_back (wf := wf u) hP hD isC isR isF hC hR hnR hdis (hF u) hnF hk1 hFc hP1 hD1
  exact kk u H1 locs1 hpo hP2 hD2 hS1
end PLC
end
section
/-! Truth values, numbers, arrays that agree. -/
def bI (b : Bool) : Int32 := cond b 1 0
theorem bI_t {b : Bool} (h : b = true) : nI 1 = bI b := by subst h; rfl
theorem bI_f {b : Bool} (h : b = false) : nI 0 = bI b := by subst h; rfl
theorem bI_nar (b : Bool) : narrow .boolean (.int (bI b)) = .int (bI b) := by cases b <;> rfl
theorem bI_fit (b : Bool) : fits .boolean (.int (bI b)) = true := by cases b <;> rfl
theorem bI_0 {b : Bool} : bI b = 0 ↔ b = false := by cases b <;> simp [bI] <;> decide
theorem nI_0iff {x : Nat} (hx : x < 2 ^ 31) : nI x = 0 ↔ x = 0 := by rw [← nI_0]; exact nI_eq hx (by decide)
theorem i_lt0 {x : Int32} : x < 0 ↔ x.toInt < 0 := by rw [Int32.lt_iff_toInt_lt]; rfl
theorem i_le {x y : Int32} : x ≤ y ↔ x.toInt ≤ y.toInt := Int32.le_iff_toInt_le
theorem i_lt {x y : Int32} : x < y ↔ x.toInt < y.toInt := Int32.lt_iff_toInt_lt
/-- an int that is a natural number below n -/
def inB (x : Int32) (n : Nat) : Bool := decide (0 ≤ x.toInt ∧ x.toInt < n)
theorem inB_lo {x : Int32} {n : Nat} (h : x < 0) : inB x n = false := by
  have := i_lt0.mp h
  simp only [inB, decide_eq_false_iff_not]; omega
theorem inB_hi {x : Int32} {n : Nat} (hn : n < 2 ^ 31) (h : nI n ≤ x) : inB x n = false := by
  have h1 := i_le.mp h
  rw [nI_toInt hn] at h1
  simp only [inB, decide_eq_false_iff_not]; omega
theorem inB_in {x : Int32} {n : Nat} (hn : n < 2 ^ 31) (h0 : ¬ x < 0) (h : ¬ nI n ≤ x) : inB x n = true := by
  have h1 : ¬ x.toInt < 0 := fun q => h0 (i_lt0.mpr q)
  have h2 : ¬ (n : Int) ≤ x.toInt := fun q => h (i_le.mpr (by rw [nI_toInt hn]; exact q))
  simp only [inB, decide_eq_true_eq]; omega
theorem inB_nI {j n : Nat} (hj : j < 2 ^ 31) : inB (nI j) n = decide (j < n) := by
  simp only [inB, nI_toInt hj]
  by_cases h : j < n
  · rw [decide_eq_true h, decide_eq_true]; omega
  · rw [decide_eq_false h, decide_eq_false]; omega
theorem inB_of {x : Int32} {n : Nat} (hn : n < 2 ^ 31) (h : inB x n = true) : ∃ j : Nat, j < n ∧ x = nI j := by
  simp only [inB, decide_eq_true_eq] at h
  exact vp_in_of (vp_in_iff.mpr h) hn
theorem nI_inc1 (a : Nat) : nI a + Int32.ofInt 1 = nI (a + 1) := by rw [lit1]; exact nI_1 a
theorem upd_s {f : Nat → Int32} {k : Nat} {x : Int32} : upd f k x k = x := by simp [upd]
theorem upd_n {f : Nat → Int32} {k j : Nat} {x : Int32} (h : j ≠ k) : upd f k x j = f j := by simp [upd, h]
theorem arrV_ext {cA : ClassId} {n : Nat} {f g : Nat → Int32} (h : ∀ j, j < n → f j = g j) : vp_cell cA (n, .inl f) = vp_cell cA (n, .inl g) := by
  rw [vp_cell_i, vp_cell_i]
  unfold arrV
  congr 1
  apply congrArg
  funext j
  show Value.int (f j.val) = Value.int (g j.val)
  rw [h j.val j.isLt]
/-- a world whose array agrees with another one -/
theorem pl_ext {D : va_G} {cl : List vw_C} {ws : va_W} {H : Heap} (hP : va_P D cl ws H) (q : Nat) {a : Nat} {cA : ClassId} {n : Nat} {f : Nat → Int32} (he : ws[q]? = some (a, .inl (cA, n, .inl f))) (g : Nat → Int32) (h : ∀ j, j < n → f j = g j) {ws' : va_W} (hw : ws.set q (a, .inl (cA, n, .inl g)) = ws') : va_P D cl ws' H := by
  subst hw
  intro k x hk
  have hl := (List.getElem?_eq_some_iff.mp he).1
  by_cases hkq : k = q
  · subst hkq
    rw [List.getElem?_set_self hl] at hk
    cases hk
    have h1 := hP k _ he
    show H[a]? = some (vp_cell cA (n, .inl g))
    rw [← arrV_ext h]
    exact h1
  · rw [List.getElem?_set_ne (Ne.symm hkq)] at hk
    exact hP k x hk
theorem pl_extD {A : Nat → Prop} {ws : va_W} (hD : va_D A ws) (q : Nat) {a : Nat} {e : va_E} (he : ws[q]? = some (a, e)) (e' : va_E) {ws' : va_W} (hw : ws.set q (a, e') = ws') : va_D A ws' := by
  subst hw
  exact hD.set he
section PLN
variable {p : Program} {l : Launch} {e : Env} {R : Room} {s : State} {m : MethodId} {args : Array Value} {below : List Frame} {meth : Method} {c : Code} {H : Heap} {locs : List Loc} {cells slots : Nat} {Q : State → Prop}
variable {cc : ByteArray} {pc nL : Nat} {ls : Array Slot} {rest : List Value} {own : String} {off : Int} {tgt x : Nat} {b : Bool}
theorem pl_if_eq (X : CallFix p m c cc nL s args TG own) (hx : x < 2 ^ 31) (hdg : decode cc pc = .ok (.ifCond .eq off, 3)) (ht : (pc : Int) + off = (tgt : Int)) (kt : x = 0 → W p l e R s m args below meth c H locs cells slots Q (F0 m tgt ls rest)) (kf : ¬ x = 0 → W p l e R s m args below meth c H locs cells slots Q (F0 m (pc + 3) ls rest)) : W p l e R s m args below meth c H locs cells slots Q (F0 m pc ls (.int (nI x) :: rest)) :=
  lv_if_eq X.1 X.2.1 hdg ht (fun h => kt ((nI_0iff hx).mp h)) (fun h => kf (fun q => h ((nI_0iff hx).mpr q)))
theorem pl_if_ne (X : CallFix p m c cc nL s args TG own) (hx : x < 2 ^ 31) (hdg : decode cc pc = .ok (.ifCond .ne off, 3)) (ht : (pc : Int) + off = (tgt : Int)) (kt : ¬ x = 0 → W p l e R s m args below meth c H locs cells slots Q (F0 m tgt ls rest)) (kf : x = 0 → W p l e R s m args below meth c H locs cells slots Q (F0 m (pc + 3) ls rest)) : W p l e R s m args below meth c H locs cells slots Q (F0 m pc ls (.int (nI x) :: rest)) :=
  lv_if_ne X.1 X.2.1 hdg ht (fun h => kt (fun q => h ((nI_0iff hx).mpr q))) (fun h => kf ((nI_0iff hx).mp h))
theorem pl_if_lt (X : CallFix p m c cc nL s args TG own) (hx : x < 2 ^ 31) (hdg : decode cc pc = .ok (.ifCond .lt off, 3)) (ht : (pc : Int) + off = (tgt : Int)) (kf : W p l e R s m args below meth c H locs cells slots Q (F0 m (pc + 3) ls rest)) : W p l e R s m args below meth c H locs cells slots Q (F0 m pc ls (.int (nI x) :: rest)) :=
  lv_if_lt X.1 X.2.1 hdg ht (fun h => absurd h (nI_pos hx)) (fun _ => kf)
theorem pl_if_ge (X : CallFix p m c cc nL s args TG own) (hx : x < 2 ^ 31) (hdg : decode cc pc = .ok (.ifCond .ge off, 3)) (ht : (pc : Int) + off = (tgt : Int)) (kt : W p l e R s m args below meth c H locs cells slots Q (F0 m tgt ls rest)) : W p l e R s m args below meth c H locs cells slots Q (F0 m pc ls (.int (nI x) :: rest)) :=
  lv_if_ge X.1 X.2.1 hdg ht (fun _ => kt) (fun h => absurd (nI_pos' hx) h)
theorem pl_if_le (X : CallFix p m c cc nL s args TG own) (hx : x < 2 ^ 31) (hdg : decode cc pc = .ok (.ifCond .le off, 3)) (ht : (pc : Int) + off = (tgt : Int)) (kt : x = 0 → W p l e R s m args below meth c H locs cells slots Q (F0 m tgt ls rest)) (kf : 0 < x → W p l e R s m args below meth c H locs cells slots Q (F0 m (pc + 3) ls rest)) : W p l e R s m args below meth c H locs cells slots Q (F0 m pc ls (.int (nI x) :: rest)) :=
  lv_if_le X.1 X.2.1 hdg ht (fun h => kt (by rcases Nat.eq_zero_or_pos x with q | q; exact q; exact absurd h (nI_nle q hx))) (fun h => kf (Nat.pos_of_ne_zero fun q => h (by rw [q]; decide)))
theorem pl_if_gt (X : CallFix p m c cc nL s args TG own) (hx : x < 2 ^ 31) (hdg : decode cc pc = .ok (.ifCond .gt off, 3)) (ht : (pc : Int) + off = (tgt : Int)) (kt : 0 < x → W p l e R s m args below meth c H locs cells slots Q (F0 m tgt ls rest)) (kf : x = 0 → W p l e R s m args below meth c H locs cells slots Q (F0 m (pc + 3) ls rest)) : W p l e R s m args below meth c H locs cells slots Q (F0 m pc ls (.int (nI x) :: rest)) :=
  lv_if_gt X.1 X.2.1 hdg ht (fun h => kt (Nat.pos_of_ne_zero fun q => by rw [q] at h; exact absurd h (by decide))) (fun h => kf (by rcases Nat.eq_zero_or_pos x with q | q; exact q; exact absurd (by rw [← nI_0]; exact nI_lt q hx) h))
theorem pl_ifB_eq (X : CallFix p m c cc nL s args TG own) (hdg : decode cc pc = .ok (.ifCond .eq off, 3)) (ht : (pc : Int) + off = (tgt : Int)) (kt : b = false → W p l e R s m args below meth c H locs cells slots Q (F0 m tgt ls rest)) (kf : b = true → W p l e R s m args below meth c H locs cells slots Q (F0 m (pc + 3) ls rest)) : W p l e R s m args below meth c H locs cells slots Q (F0 m pc ls (.int (bI b) :: rest)) :=
  lv_if_eq X.1 X.2.1 hdg ht (fun h => kt (bI_0.mp h)) (fun h => kf (by cases b; exact absurd rfl h; rfl))
theorem pl_ifB_ne (X : CallFix p m c cc nL s args TG own) (hdg : decode cc pc = .ok (.ifCond .ne off, 3)) (ht : (pc : Int) + off = (tgt : Int)) (kt : b = true → W p l e R s m args below meth c H locs cells slots Q (F0 m tgt ls rest)) (kf : b = false → W p l e R s m args below meth c H locs cells slots Q (F0 m (pc + 3) ls rest)) : W p l e R s m args below meth c H locs cells slots Q (F0 m pc ls (.int (bI b) :: rest)) :=
  lv_if_ne X.1 X.2.1 hdg ht (fun h => kt (by cases b; exact absurd rfl h; rfl)) (fun h => kf (bI_0.mp h))
def ckO (own : String) (idx : Nat) : Prop := Cond.methodLink own idx Lib.objectInit ∈ TG ∧ Cond.instanceMethod Lib.objectInit ∈ TG ∧ Cond.code Lib.objectInit ⟨#[0xb1]⟩ 1 none ∈ TG
theorem pl_objInit {idx a : Nat} (X : CallFix p m c cc nL s args TG own) (K : ckO own idx) (hsize : ls.size = c.maxLocals) (hframes : 1 ≤ R.frames) (hlocals : (rest.map fun v => v.category).sum + 12 ≤ R.locals) (hdg : decode cc pc = .ok (.invokespecial idx, 3))
    (kk : W p l e R s m args below meth c H locs cells slots Q (F0 m (pc + 3) ls rest)) : W p l e R s m args below meth c H locs cells slots Q (F0 m pc ls (.ref a :: rest)) :=
  W.objInit X.1 X.2.1 X.2.2.2.1 (X.2.2.2.2 _ K.1) (X.2.2.2.2 _ K.2.1) (X.2.2.2.2 _ K.2.2) rfl hsize rfl hdg hframes (by have : (F0 m pc ls (.ref a :: rest)).monitorRoom = 0 := rfl; omega) kk
end PLN
theorem i_nle {x y : Int32} : ¬ x ≤ y ↔ y < x := by rw [i_le, i_lt]; omega
theorem i_nlt {x y : Int32} : ¬ x < y ↔ y ≤ x := by rw [i_le, i_lt]; omega
/-- how many of the states below s have a rule for the act t -/
def cntR (th : Nat → Int32) (t : Nat) : Nat → Nat
  | 0 => 0
  | s + 1 => cntR th t s + (if th (s * 8 + t) = -1 then 0 else 1)
theorem cntR_le (th : Nat → Int32) (t : Nat) : ∀ s, cntR th t s ≤ s
  | 0 => Nat.le_refl _
  | s + 1 => by
    have := cntR_le th t s
    simp only [cntR]
    split <;> omega
theorem nI_dec (q : Nat) : nI (q + 1) - nI 1 = nI q := by rw [pk_sub (by omega)]; rfl
/-- what an act makes of status, place, height, state, how many were done, and the trace -/
abbrev RSa : Type := Nat × Nat × Nat × Nat × Nat × (Nat → Int32) × (Nat → Int32)
def actS (how : Nat) (ok : Bool) (pl q stt dn t j : Nat) (v : Int32) (ta tn : Nat → Int32) : RSa :=
  if how = 2 ∧ ok = false then (4, pl, q + 1, stt, dn, ta, tn) else if 60 ≤ dn then (3, pl, q + 1, stt, dn, ta, tn) else (1, pl + 1, q, (if how = 2 then t else stt), dn + 1, upd ta dn (nI j), upd tn dn v)
section ACT
variable {how pl q stt dn t j : Nat} {v : Int32} {ta tn : Nat → Int32} {ok : Bool}
theorem actS_4 (h : how = 2) (k : ok = false) : (4, pl, q + 1, stt, dn, ta, tn) = actS how ok pl q stt dn t j v ta tn := by simp [actS, h, k]
theorem actS_3w (k : ok = true) (d : 60 ≤ dn) : (3, pl, q + 1, stt, dn, ta, tn) = actS how ok pl q stt dn t j v ta tn := by simp [actS, k, d]
theorem actS_3n (h : ¬ how = 2) (d : 60 ≤ dn) : (3, pl, q + 1, stt, dn, ta, tn) = actS how ok pl q stt dn t j v ta tn := by simp [actS, h, d]
theorem actS_1w (h : how = 2) (k : ok = true) (d : dn < 60) : (1, pl + 1, q, t, dn + 1, upd ta dn (nI j), upd tn dn v) = actS how ok pl q stt dn t j v ta tn := by simp [actS, h, k, Nat.not_le.mpr d]
theorem actS_1n (h : ¬ how = 2) (d : dn < 60) : (1, pl + 1, q, stt, dn + 1, upd ta dn (nI j), upd tn dn v) = actS how ok pl q stt dn t j v ta tn := by simp [actS, h, Nat.not_le.mpr d]
end ACT
end
section
/-! Rows laid one behind another into an array; the tests ahead of an act. -/
def apd (f : Nat → Int32) (z : Nat) : List Int32 → (Nat → Int32)
  | [] => f
  | x :: l => apd (upd f z x) (z + 1) l
theorem apd_app (f : Nat → Int32) (z : Nat) (l1 l2 : List Int32) : apd f z (l1 ++ l2) = apd (apd f z l1) (z + l1.length) l2 := by
  induction l1 generalizing f z with
  | nil => rfl
  | cons x l ih =>
    simp only [List.cons_append, apd, List.length_cons]
    rw [ih, show z + (l.length + 1) = z + 1 + l.length by omega]
theorem apd_lo (l : List Int32) : ∀ (f : Nat → Int32) (z j : Nat), j < z → apd f z l j = f j := by
  induction l with
  | nil => intros; rfl
  | cons x l ih =>
    intro f z j hj
    simp only [apd]
    rw [ih _ _ _ (by omega), upd_n (by omega)]
theorem apd_at (l : List Int32) : ∀ (f : Nat → Int32) (z j : Nat), j < l.length → apd f z l (z + j) = l.getD j 0 := by
  induction l with
  | nil => intro f z j hj; exact absurd hj (Nat.not_lt_zero j)
  | cons x l ih =>
    intro f z j hj
    simp only [apd]
    cases j with
    | zero =>
      show apd (upd f z x) (z + 1) l z = x
      rw [apd_lo l _ _ _ (by omega), upd_s]
    | succ j =>
      rw [show z + (j + 1) = z + 1 + j by omega, ih _ _ _ (by simpa using hj)]
      rfl
abbrev l4o : List Int32 := [nI 5, nI 0, nI 3, nI 8]
abbrev l4k (i z : Nat) : List Int32 := [nI 7, nI i, nI 0, nI (z + 16)]
abbrev l9o : List Int32 := [nI 11, nI 0, nI 4, nI 8, nI 11, nI 0, nI 10, nI 4, nI 8]
abbrev l9k (a b : Int32) (stop : Nat) : List Int32 := [nI 0, a, nI 0, nI stop, nI 0, b, nI 0, nI 0, nI stop]
abbrev l3o : List Int32 := [nI 0, nI 6, nI 7]
abbrev l3k (a : Int32) (stop : Nat) : List Int32 := [a, nI 7, nI (stop + 1)]
/-- the tests of the states below s for the act t; they begin at z, the guard's end stands at stop -/
def gO (th : Nat → Int32) (t : Nat) : Nat → List Int32
  | 0 => []
  | s + 1 => gO th t s ++ (if th (s * 8 + t) = -1 then [] else l4o ++ l9o ++ l3o)
def gK (lo hi th : Nat → Int32) (t z stop : Nat) : Nat → List Int32
  | 0 => []
  | s + 1 => gK lo hi th t z stop s ++ (if th (s * 8 + t) = -1 then [] else l4k s (z + 16 * cntR th t s) ++ l9k (lo (s * 8 + t)) (hi (s * 8 + t)) stop ++ l3k (th (s * 8 + t)) stop)
theorem gO_len (th : Nat → Int32) (t : Nat) : ∀ s, (gO th t s).length = 16 * cntR th t s
  | 0 => rfl
  | s + 1 => by
    have := gO_len th t s
    simp only [gO, cntR]
    split <;> simp <;> omega
theorem gK_len (lo hi th : Nat → Int32) (t z stop : Nat) : ∀ s, (gK lo hi th t z stop s).length = 16 * cntR th t s
  | 0 => rfl
  | s + 1 => by
    have := gK_len lo hi th t z stop s
    simp only [gK, cntR]
    split <;> simp <;> omega
section GG
variable {th : Nat → Int32} {t s : Nat}
theorem rn_no (g : decide (¬ th (s * 8 + t) = -1) = false) : th (s * 8 + t) = -1 := by
  simpa using g
theorem rn_yes (g : decide (¬ th (s * 8 + t) = -1) = true) : ¬ th (s * 8 + t) = -1 := of_decide_eq_true g
theorem cntR_no (g : decide (¬ th (s * 8 + t) = -1) = false) : cntR th t (s + 1) = cntR th t s := by
  simp only [cntR]; rw [if_pos (rn_no g)]; rfl
theorem cntR_yes (g : decide (¬ th (s * 8 + t) = -1) = true) : cntR th t (s + 1) = cntR th t s + 1 := by
  simp only [cntR]; rw [if_neg (rn_yes g)]
theorem gO_no (g : decide (¬ th (s * 8 + t) = -1) = false) : gO th t (s + 1) = gO th t s := by
  simp only [gO]; rw [if_pos (rn_no g), List.append_nil]
theorem gK_no {lo hi : Nat → Int32} {z stop : Nat} (g : decide (¬ th (s * 8 + t) = -1) = false) : gK lo hi th t z stop (s + 1) = gK lo hi th t z stop s := by
  simp only [gK]; rw [if_pos (rn_no g), List.append_nil]
theorem gO_yes (f : Nat → Int32) (z : Nat) (g : decide (¬ th (s * 8 + t) = -1) = true) : apd f z (gO th t (s + 1)) = apd (apd (apd (apd f z (gO th t s)) (z + 16 * cntR th t s) l4o) (z + 16 * cntR th t s + 4) l9o) (z + 16 * cntR th t s + 4 + 9) l3o := by
  simp only [gO]
  rw [if_neg (rn_yes g), apd_app, apd_app, apd_app, gO_len]
  rfl
theorem gK_yes (lo hi f : Nat → Int32) (z stop : Nat) (g : decide (¬ th (s * 8 + t) = -1) = true) : apd f z (gK lo hi th t z stop (s + 1)) = apd (apd (apd (apd f z (gK lo hi th t z stop s)) (z + 16 * cntR th t s) (l4k s (z + 16 * cntR th t s))) (z + 16 * cntR th t s + 4) (l9k (lo (s * 8 + t)) (hi (s * 8 + t)) stop)) (z + 16 * cntR th t s + 4 + 9) (l3k (th (s * 8 + t)) stop) := by
  simp only [gK]
  rw [if_neg (rn_yes g), apd_app, apd_app, apd_app, gK_len]
  rfl
end GG
theorem gO_end (f : Nat → Int32) (z : Nat) (th : Nat → Int32) (t n : Nat) (x : Int32) : apd f z (gO th t n ++ [x]) = upd (apd f z (gO th t n)) (z + 16 * cntR th t n) x := by
  rw [apd_app, gO_len]; rfl
theorem gK_end (lo hi f : Nat → Int32) (z stop : Nat) (th : Nat → Int32) (t n : Nat) (x : Int32) : apd f z (gK lo hi th t z stop n ++ [x]) = upd (apd f z (gK lo hi th t z stop n)) (z + 16 * cntR th t n) x := by
  rw [apd_app, gK_len]; rfl
theorem cntR_mono (th : Nat → Int32) (t : Nat) {a b : Nat} (h : a ≤ b) : cntR th t a ≤ cntR th t b := by
  induction b with
  | zero => rw [Nat.le_zero.mp h]; exact Nat.le_refl _
  | succ b ih =>
    rcases Nat.lt_or_eq_of_le h with q | q
    · exact Nat.le_trans (ih (by omega)) (by simp only [cntR]; omega)
    · rw [q]; exact Nat.le_refl _
end
section
/-! Which heights a program has: labels of instructions (-1: none), closed ones, the least. -/
def opn (P : Nat → Int32) (i : Nat) : Nat := (P i).toNatClampNeg
def kn (K : Nat → Int32) (i : Nat) : Nat := (K i).toNatClampNeg
def tkN (o : Nat) : Nat := [0, 1, 2, 2, 2, 0, 1, 0, 1, 1, 2, 1, 0].getD o 0
def lvN (o : Nat) : Nat := [1, 0, 1, 1, 1, 1, 0, 0, 0, 0, 2, 2, 0].getD o 0
def okP (P : Nat → Int32) (n : Nat) : Prop := ∀ i, i < n → P i = nI (opn P i) ∧ opn P i ≤ 12
def numFit (o : Nat) (k : Int32) (n : Nat) : Bool := if o = 5 ∨ o = 6 then inB k 7 else if o = 7 ∨ o = 8 then inB k n else if o = 9 then inB k 8 else true
def okK (P K : Nat → Int32) (n : Nat) : Prop := ∀ i, i < n → numFit (opn P i) (K i) n = true
def aft (P : Nat → Int32) (i h : Nat) : Nat := h - tkN (opn P i) + lvN (opn P i)
def clo (P K : Nat → Int32) (n : Nat) (F : Nat → Int32) (i h : Nat) : Prop := tkN (opn P i) ≤ h ∧ aft P i h ≤ 12 ∧ ((opn P i = 7 ∨ opn P i = 8) → kn K i < n ∧ F (kn K i) = nI (aft P i h)) ∧ (opn P i ≠ 7 → opn P i ≠ 12 → i + 1 < n ∧ F (i + 1) = nI (aft P i h))
def closed (P K : Nat → Int32) (n : Nat) (F : Nat → Int32) : Prop := 0 < n ∧ F 0 = nI 0 ∧ ∀ i h, i < n → h ≤ 12 → F i = nI h → clo P K n F i h
def least (P K : Nat → Int32) (n : Nat) (F : Nat → Int32) : Prop := ∀ G, closed P K n G → ∀ i h, i < n → h ≤ 12 → F i = nI h → G i = nI h
def labs (n : Nat) (F : Nat → Int32) : Prop := ∀ i, i < n → F i = -1 ∨ ∃ h, h ≤ 12 ∧ F i = nI h
theorem nI_nm1 {h : Nat} (hh : h < 2 ^ 31) : ¬ nI h = -1 := by
  intro q
  have h1 := congrArg Int32.toInt q
  rw [nI_toInt hh] at h1
  have h2 : (-1 : Int32).toInt = -1 := by decide
  omega
theorem nI_inj {a b : Nat} (ha : a < 2 ^ 31) (hb : b < 2 ^ 31) (h : nI a = nI b) : a = b := (nI_eq ha hb).mp h
theorem lab_eq {P K : Nat → Int32} {n : Nat} {F G : Nat → Int32} (c1 : closed P K n F) (l1 : least P K n F) (a1 : labs n F) (c2 : closed P K n G) (l2 : least P K n G) (a2 : labs n G) : ∀ i, i < n → F i = G i := by
  intro i hi
  rcases a1 i hi with q | ⟨h, hh, q⟩
  · rcases a2 i hi with r | ⟨h, hh, r⟩
    · rw [q, r]
    · have := l2 F c1 i h hi hh r
      exact absurd (this.symm.trans q) (nI_nm1 (by omega))
  · rw [q, l1 G c2 i h hi hh q]
/-- how many are labelled -/
def cntL (F : Nat → Int32) : Nat → Nat
  | 0 => 0
  | i + 1 => cntL F i + (if F i = -1 then 0 else 1)
theorem cntL_le (F : Nat → Int32) : ∀ n, cntL F n ≤ n
  | 0 => Nat.le_refl _
  | n + 1 => by
    have := cntL_le F n
    simp only [cntL]
    split <;> omega
theorem cntL_lt {F : Nat → Int32} {i : Nat} (h : F i = -1) : ∀ n, i < n → cntL F n < n
  | 0, q => absurd q (Nat.not_lt_zero i)
  | n + 1, q => by
    simp only [cntL]
    rcases Nat.lt_succ_iff_lt_or_eq.mp q with r | r
    · have := cntL_lt h n r
      split <;> omega
    · subst r
      have := cntL_le F i
      rw [if_pos h]; omega
theorem cntL_out {F : Nat → Int32} {i : Nat} {x : Int32} : ∀ n, n ≤ i → cntL (upd F i x) n = cntL F n
  | 0, _ => rfl
  | n + 1, q => by
    simp only [cntL]
    rw [cntL_out n (by omega), upd_n (by omega)]
theorem cntL_upd {F : Nat → Int32} {i : Nat} {x : Int32} (h : F i = -1) (hx : ¬ x = -1) : ∀ n, i < n → cntL (upd F i x) n = cntL F n + 1
  | 0, q => absurd q (Nat.not_lt_zero i)
  | n + 1, q => by
    simp only [cntL]
    rcases Nat.lt_succ_iff_lt_or_eq.mp q with r | r
    · rw [cntL_upd h hx n r, upd_n (by omega)]; omega
    · subst r
      rw [cntL_out i (Nat.le_refl _), upd_s, if_neg hx, if_pos h]
/-- what holds while the queue is worked off -/
def hInv (P K : Nat → Int32) (n : Nat) (F Qu : Nat → Int32) (qd : Nat) : Prop :=
  F 0 = nI 0 ∧ labs n F ∧ qd = cntL F n ∧ (∀ a, a < qd → ∃ j, j < n ∧ Qu a = nI j ∧ ¬ F j = -1) ∧ (∀ j, j < n → ¬ F j = -1 → ∃ a, a < qd ∧ Qu a = nI j) ∧ least P K n F
/-- labels only come -/
def hExt (n : Nat) (F G : Nat → Int32) : Prop := ∀ i, i < n → ¬ F i = -1 → G i = F i
theorem hExt.refl {n : Nat} {F : Nat → Int32} : hExt n F F := fun _ _ _ => rfl
theorem hExt.trans {n : Nat} {F G I : Nat → Int32} (h1 : hExt n F G) (h2 : hExt n G I) : hExt n F I := fun i hi q => by
  have e := h1 i hi q
  rw [h2 i hi (by rw [e]; exact q), e]
theorem hExt.new {n i : Nat} {F : Nat → Int32} {x : Int32} (h : F i = -1) : hExt n F (upd F i x) := fun j _ q => upd_n (fun e => q (by rw [e]; exact h))
theorem hInv.new {P K : Nat → Int32} {n : Nat} {F Qu : Nat → Int32} {qd i h : Nat} (v : hInv P K n F Qu qd) (hi : i < n) (hh : h ≤ 12) (hF : F i = -1) (hG : ∀ G, closed P K n G → G i = nI h) : hInv P K n (upd F i (nI h)) (upd Qu qd (nI i)) (qd + 1) := by
  obtain ⟨v1, v2, v3, v4, v5, v6⟩ := v
  have hne : ¬ nI h = -1 := nI_nm1 (by omega)
  refine ⟨?_, ?_, ?_, ?_, ?_, ?_⟩
  · by_cases q : 0 = i
    · rw [← q, v1] at hF; exact absurd hF (nI_nm1 (by omega))
    · rw [upd_n q]; exact v1
  · intro j hj
    by_cases q : j = i
    · rw [q, upd_s]; exact Or.inr ⟨h, hh, rfl⟩
    · rw [upd_n q]; exact v2 j hj
  · rw [cntL_upd hF hne n hi, v3]
  · intro a ha
    rcases Nat.lt_succ_iff_lt_or_eq.mp ha with q | q
    · obtain ⟨j, h1, h2, h3⟩ := v4 a q
      refine ⟨j, h1, by rw [upd_n (by omega)]; exact h2, ?_⟩
      by_cases r : j = i
      · rw [r, upd_s]; exact hne
      · rw [upd_n r]; exact h3
    · exact ⟨i, hi, by rw [q, upd_s], by rw [upd_s]; exact hne⟩
  · intro j hj q
    by_cases r : j = i
    · exact ⟨qd, by omega, by rw [r, upd_s]⟩
    · rw [upd_n r] at q
      obtain ⟨a, h1, h2⟩ := v5 j hj q
      exact ⟨a, by omega, by rw [upd_n (by omega)]; exact h2⟩
  · intro G hG2 j g hj hg q
    by_cases r : j = i
    · rw [r, upd_s] at q
      rw [r, hG G hG2]; exact q
    · rw [upd_n r] at q
      exact v6 G hG2 j g hj hg q
theorem tkN_le (o : Nat) : tkN o ≤ 2 := by
  by_cases h : o < 13
  · exact (show ∀ o, o < 13 → tkN o ≤ 2 by decide) o h
  · unfold tkN; rw [List.getD_eq_getElem?_getD, List.getElem?_eq_none (by simp only [List.length_cons, List.length_nil]; omega)]; exact Nat.zero_le _
theorem lvN_le (o : Nat) : lvN o ≤ 2 := by
  by_cases h : o < 13
  · exact (show ∀ o, o < 13 → lvN o ≤ 2 by decide) o h
  · unfold lvN; rw [List.getD_eq_getElem?_getD, List.getElem?_eq_none (by simp only [List.length_cons, List.length_nil]; omega)]; exact Nat.zero_le _
section HH
variable {P K : Nat → Int32} {n : Nat} {F Qu G : Nat → Int32} {qd i h : Nat}
theorem hInv.lab (v : hInv P K n F Qu qd) (hi : i < n) (q : ¬ F i = -1) : ∃ h, h ≤ 12 ∧ F i = nI h := (v.2.1 i hi).resolve_left q
theorem hInv.cl (v : hInv P K n F Qu qd) (hi : i < n) (hh : h ≤ 12) (hF : F i = nI h) (hG : closed P K n G) : clo P K n G i h := hG.2.2 i h hi hh (v.2.2.2.2.2 G hG i h hi hh hF)
theorem no_lo (v : hInv P K n F Qu qd) (hi : i < n) (hh : h ≤ 12) (hF : F i = nI h) (c : ¬ tkN (opn P i) ≤ h) : ∀ G, ¬ closed P K n G := fun _ g => c (v.cl hi hh hF g).1
theorem no_hi (v : hInv P K n F Qu qd) (hi : i < n) (hh : h ≤ 12) (hF : F i = nI h) (c : ¬ aft P i h ≤ 12) : ∀ G, ¬ closed P K n G := fun _ g => c (v.cl hi hh hF g).2.1
theorem go_G (v : hInv P K n F Qu qd) (hi : i < n) (hh : h ≤ 12) (hF : F i = nI h) (o : opn P i = 7 ∨ opn P i = 8) : ∀ G, closed P K n G → G (kn K i) = nI (aft P i h) := fun _ g => ((v.cl hi hh hF g).2.2.1 o).2
theorem nx_G (v : hInv P K n F Qu qd) (hi : i < n) (hh : h ≤ 12) (hF : F i = nI h) (o : ¬ opn P i = 7) (o2 : ¬ opn P i = 12) : ∀ G, closed P K n G → G (i + 1) = nI (aft P i h) := fun _ g => ((v.cl hi hh hF g).2.2.2 o o2).2
/-- a label that stands already, and is another one -/
theorem no_old {j a : Nat} (v : hInv P K n F Qu qd) (hj : j < n) (q : ¬ F j = -1) (hG : ∀ G, closed P K n G → G j = nI a) (c : ¬ F j = nI a) : ∀ G, ¬ closed P K n G := fun G g => by
  obtain ⟨b, hb, e⟩ := v.lab hj q
  have e2 := v.2.2.2.2.2 G g j b hj hb e
  exact c (by rw [e, ← e2, hG G g])
theorem no_out (v : hInv P K n F Qu qd) (hi : i < n) (hh : h ≤ 12) (hF : F i = nI h) (o : ¬ opn P i = 7) (o2 : ¬ opn P i = 12) (c : ¬ i + 1 < n) : ∀ G, ¬ closed P K n G := fun _ g => c ((v.cl hi hh hF g).2.2.2 o o2).1
theorem clo.ext (c : clo P K n F i h) (e : hExt n F G) : clo P K n G i h := by
  obtain ⟨c1, c2, c3, c4⟩ := c
  refine ⟨c1, c2, fun o => ⟨(c3 o).1, ?_⟩, fun o o2 => ⟨(c4 o o2).1, ?_⟩⟩
  · rw [e _ (c3 o).1 (by rw [(c3 o).2]; exact nI_nm1 (by omega))]; exact (c3 o).2
  · rw [e _ (c4 o o2).1 (by rw [(c4 o o2).2]; exact nI_nm1 (by omega))]; exact (c4 o o2).2
theorem hInv.qn (v : hInv P K n F Qu qd) : qd ≤ n := by rw [v.2.2.1]; exact cntL_le F n
theorem hInv.ql (v : hInv P K n F Qu qd) (hi : i < n) (hF : F i = -1) : qd < n := by rw [v.2.2.1]; exact cntL_lt hF n hi
theorem cntL_0 : ∀ n, (∀ j, j < n → F j = -1) → cntL F n = 0
  | 0, _ => rfl
  | n + 1, h => by
    simp only [cntL]
    rw [cntL_0 n (fun j hj => h j (by omega)), if_pos (h n (by omega))]
theorem hInv.init (h0 : 0 < n) (hF : ∀ j, j < n → F j = -1) : hInv P K n (upd F 0 (nI 0)) (upd Qu 0 (nI 0)) (0 + 1) := by
  have hne : ¬ nI 0 = -1 := nI_nm1 (by omega)
  refine ⟨upd_s, ?_, ?_, ?_, ?_, ?_⟩
  · intro j hj
    by_cases q : j = 0
    · rw [q, upd_s]; exact Or.inr ⟨0, by omega, rfl⟩
    · rw [upd_n q]; exact Or.inl (hF j hj)
  · rw [cntL_upd (hF 0 h0) hne n h0, cntL_0 n hF]
  · intro a ha
    rw [show a = 0 by omega]
    exact ⟨0, h0, upd_s, by rw [upd_s]; exact hne⟩
  · intro j hj q
    by_cases r : j = 0
    · exact ⟨0, by omega, by rw [r, upd_s]⟩
    · rw [upd_n r] at q; exact absurd (hF j hj) q
  · intro G g j b hj hb q
    by_cases r : j = 0
    · rw [r, upd_s] at q; rw [r, g.2.1]; exact q
    · rw [upd_n r, hF j hj] at q; exact absurd q.symm (nI_nm1 (by omega))
/-- all queued ones are worked off: the labels are closed -/
theorem hInv.done (h0 : 0 < n) (v : hInv P K n F Qu qd) {k : Nat} (hk : qd ≤ k) (hp : ∀ a, a < k → ∀ j, j < n → Qu a = nI j → ∀ b, b ≤ 12 → F j = nI b → clo P K n F j b) : closed P K n F ∧ least P K n F ∧ labs n F := by
  refine ⟨⟨h0, v.1, fun j b hj hb e => ?_⟩, v.2.2.2.2.2, v.2.1⟩
  obtain ⟨a, ha, q⟩ := v.2.2.2.2.1 j hj (by rw [e]; exact nI_nm1 (by omega))
  exact hp a (by omega) j hj q b hb e
end HH
theorem nf5 {k : Int32} {n : Nat} : numFit 5 k n = inB k 7 := rfl
theorem nf6 {k : Int32} {n : Nat} : numFit 6 k n = inB k 7 := rfl
theorem nf7 {k : Int32} {n : Nat} : numFit 7 k n = inB k n := rfl
theorem nf8 {k : Int32} {n : Nat} : numFit 8 k n = inB k n := rfl
theorem nf9 {k : Int32} {n : Nat} : numFit 9 k n = inB k 8 := rfl
/-- what a step through the queue leaves: labels, queue, its length, whether all fits -/
abbrev HS : Type := (Nat → Int32) × (Nat → Int32) × Nat × Bool
/-- the answer of a look at instruction i, labelled h0 -/
def wayP (P K : Nat → Int32) (np i h0 : Nat) (F Qu : Nat → Int32) (qd : Nat) : Int32 → HS → Prop := fun r u =>
  r = bI u.2.2.2 ∧ hInv P K np u.1 u.2.1 u.2.2.1 ∧ hExt np F u.1 ∧ (qd ≤ u.2.2.1 ∧ ∀ a, a < qd → u.2.1 a = Qu a) ∧ (u.2.2.2 = true → clo P K np u.1 i h0) ∧ (u.2.2.2 = false → ∀ G, ¬ closed P K np G)
section WP
variable {P K : Nat → Int32} {np i h0 : Nat} {F Qu F1 Qu1 : Nat → Int32} {qd qd1 : Nat}
theorem wayP_t (v : hInv P K np F1 Qu1 qd1) (x : hExt np F F1) (q : qd ≤ qd1 ∧ ∀ a, a < qd → Qu1 a = Qu a) (c : clo P K np F1 i h0) : wayP P K np i h0 F Qu qd (nI 1) (F1, Qu1, qd1, true) := ⟨bI_t rfl, v, x, q, fun _ => c, (fun e => nomatch e)⟩
theorem wayP_f (v : hInv P K np F1 Qu1 qd1) (x : hExt np F F1) (q : qd ≤ qd1 ∧ ∀ a, a < qd → Qu1 a = Qu a) (c : ∀ G, ¬ closed P K np G) : wayP P K np i h0 F Qu qd (nI 0) (F1, Qu1, qd1, false) := ⟨bI_f rfl, v, x, q, (fun e => nomatch e), fun _ => c⟩
end WP
def fitP (P K : Nat → Int32) (np : Nat) : Int32 → HS → Prop := fun r u =>
  r = bI u.2.2.2 ∧ (u.2.2.2 = true → closed P K np u.1 ∧ least P K np u.1 ∧ labs np u.1) ∧ (u.2.2.2 = false → ∀ G, ¬ closed P K np G)
theorem fitP_t {P K : Nat → Int32} {np : Nat} {F1 Qu1 : Nat → Int32} {qd1 : Nat} (c : closed P K np F1 ∧ least P K np F1 ∧ labs np F1) : fitP P K np (nI 1) (F1, Qu1, qd1, true) := ⟨bI_t rfl, fun _ => c, (fun e => nomatch e)⟩
theorem fitP_f {P K : Nat → Int32} {np : Nat} {F1 Qu1 : Nat → Int32} {qd1 : Nat} (c : ∀ G, ¬ closed P K np G) : fitP P K np (nI 0) (F1, Qu1, qd1, false) := ⟨bI_f rfl, (fun e => nomatch e), fun _ => c⟩
/-- the answer of the whole look -/
def exaP (P K : Nat → Int32) (np : Nat) : HS → Prop := fun u =>
  (u.2.2.2 = true → okK P K np ∧ closed P K np u.1 ∧ least P K np u.1 ∧ labs np u.1) ∧ (u.2.2.2 = false → ¬ (okK P K np ∧ ∃ G, closed P K np G))
theorem exaP_t {P K : Nat → Int32} {np : Nat} {F1 Qu1 : Nat → Int32} {qd1 : Nat} (c : okK P K np ∧ closed P K np F1 ∧ least P K np F1 ∧ labs np F1) : exaP P K np (F1, Qu1, qd1, true) := ⟨fun _ => c, (fun e => nomatch e)⟩
theorem exaP_f {P K : Nat → Int32} {np : Nat} {F1 Qu1 : Nat → Int32} {qd1 : Nat} (c : ¬ (okK P K np ∧ ∃ G, closed P K np G)) : exaP P K np (F1, Qu1, qd1, false) := ⟨(fun e => nomatch e), fun _ => c⟩
section ST
variable {P K : Nat → Int32} {n : Nat} {F1 G Qu1 Qu2 : Nat → Int32} {qd i j b a j2 b2 : Nat}
theorem heights_old (hn : n < 2 ^ 31) (hd1 : ∀ a, a < i → ∀ j, j < n → Qu1 a = nI j → ∀ b, b ≤ 12 → F1 j = nI b → clo P K n F1 j b) (hv1 : hInv P K n F1 Qu1 qd) (x : hExt n F1 G) (hq : ∀ a, a < qd → Qu2 a = Qu1 a) (hiq : i ≤ qd) (ha : a < i) (hj : j2 < n) (q : Qu2 a = nI j2) (hb : b2 ≤ 12) (e : G j2 = nI b2) : clo P K n G j2 b2 := by
  have q1 : Qu1 a = nI j2 := by rw [← hq a (by omega)]; exact q
  obtain ⟨j3, h1, h2, h3⟩ := hv1.2.2.2.1 a (by omega)
  have e3 : j3 = j2 := nI_inj (by omega) (by omega) (h2.symm.trans q1)
  subst e3
  exact (hd1 a ha j3 hj q1 b2 hb (by rw [← x j3 hj h3]; exact e)).ext x
theorem heights_now (hn : n < 2 ^ 31) (hj : j < n) (hq1 : Qu1 i = nI j) (q2 : Qu1 i = nI j2) (hj2 : j2 < n) (hFj : F1 j = nI b) (x : hExt n F1 G) (hb : b ≤ 12) (hb2 : b2 ≤ 12) (e2 : G j2 = nI b2) (c : clo P K n G j b) : clo P K n G j2 b2 := by
  have e3 : j = j2 := nI_inj (by omega) (by omega) (hq1.symm.trans q2)
  subst e3
  have e4 : G j = nI b := by rw [x j hj (by rw [hFj]; exact nI_nm1 (by omega))]; exact hFj
  have e5 : b = b2 := nI_inj (by omega) (by omega) (e4.symm.trans e2)
  subst e5
  exact c
end ST
end
section
/-! A static method of a nest mate that is its own; tables that nobody writes. -/
def ckN (y : MethodName) (b : ByteArray) (maxL : Nat) (ret : Option FieldType) (n : Nat) : Prop := Cond.static y ∈ TG ∧ Cond.initialized y.cls ∈ TG ∧ Cond.code y b maxL ret ∈ TG ∧ ckD y n
section PLS
variable {p : Program} {l : Launch} {e : Env} {R : Room} {s : State} {m : MethodId} {args : Array Value} {below : List Frame} {meth : Method} {c : Code} {H : Heap} {locs : List Loc} {cells slots : Nat} {Q : State → Prop}
variable {cc bytes : ByteArray} {pc nL maxL index n ci N b : Nat} {ls : Array Slot} {rest st0 As : List Value} {D : va_G} {cl : List vw_C} {A : Nat → Prop} {tys : List (ClassId × FieldType)} {ws wi wr : va_W} {own host : String} {y : MethodName} {rm : Room} {E : pl_Ev}
theorem ckN.w {ret : Option FieldType} (K : ckN y bytes maxL ret n) (X : CallFix p m c cc nL s args TG own) (hl : va_Nw (.methodLinkNest own index y host) s) (hR : rm.frames + 1 ≤ R.frames ∧ 8 + (maxL + 11) + rm.locals ≤ R.locals) : va_CN R s args own index y host bytes maxL ret (Cond.code y bytes maxL ret :: TG) rm rm.cells rm.slots n ∧ (Cond.static y).before args s = true ∧ True :=
  ⟨va_cnB n X.2.2.2.2 (tg_cons K.2.2.1) rfl rfl rfl hl (X.2.2.2.2 _ K.2.1) K.2.2.2 hR, X.2.2.2.2 _ K.1, trivial⟩
theorem pl_callNI {S : Type} {post : Int32 → S → Prop} {wo wf : S → va_W} {ret : FieldType} (X : CallFix p m c cc nL s args TG own) (hM : pl_I l y bytes maxL ret rm E D cl tys As wi post wo) (K : ckN y bytes maxL (some ret) n) (hl : va_Nw (.methodLinkNest own index y host) s) (hE : pl_Ok E) (hEc : E (va_A wi H.size) s H) (hK : va_K D cl tys s) (hP : va_P D cl ws H) (hD : va_D A ws) (hS : va_S A s.heap H locs) (hA : ∀ q, s.heap.size ≤ q → A q) (isC isR isF : List Nat) (hC : isC.map (fun i => ws[i]?) = wi.map some) (hnC : va_nd isC = true) (hR : isR.map (fun i => ws[i]?) = wr.map some) (hnR : va_nd isR = true) (hdis : ∀ i ∈ isR, i ∉ isC) (hF : ∀ u, isF.map (fun i => (wr ++ wo u)[i]?) = (wf u).map some) (hnF : va_nd isF = true) (hlen : As.length = n) (hsize : ls.size = nL) (hst : st0 = As.reverse ++ rest) (hcat : (rest.map fun v => v.category).sum ≤ 8) (hroom : rm.frames + 1 ≤ R.frames ∧ 8 + (maxL + 11) + rm.locals ≤ R.locals) (hf : cells + rm.cells ≤ R.cells ∧ slots + rm.slots ≤ R.slots) (hdg : decode cc pc = .ok (.invokestatic index, 3))
    (kk : ∀ (r : Int32) (u : S) (H1 : Heap) (locs1 : List Loc), post r u → va_P D cl (wf u) H1 → va_D A (wf u) → va_S A s.heap H1 locs1 → W p l e R s m args below meth c H1 locs1 (cells + rm.cells) (slots + rm.slots) Q (F0 m (pc + 3) ls (.int r :: rest))) : W p l e R s m args below meth c H locs cells slots Q (F0 m pc ls st0) := by
  have hFc := va_free (wc := wi) hD hS hA isC hC
  refine va_calli (va_runSN (As := As) (rest := rest) X (hM H.size) (K.w X hl hroom) (pl_pre hE (hP.sub isC (pl_fm hC)) (hD.sub isC hnC hC) hK hEc) rfl hlen hsize hst (lv_room hcat) hdg hf) hS (fun q _ h => hFc q h) hFc (fun r u t H1 locs1 ht hvm hpo hB hz1 hk1 hS1 => ?_)
  obtain ⟨hP1, hK1, hD1⟩ := hB
  rw [ht] at hP1
  obtain ⟨hP2, hD2⟩ := pl_back (wf := wf u) hP hD isC isR isF hC hR hnR hdis (hF u) hnF hk1 hFc hP1 hD1
  exact kk r u H1 locs1 hpo hP2 hD2 hS1
theorem pl_ti {t N : Nat} {f : Nat → Value} (X : CallFix p m c cc nL s args TG own) (hT : va_T .int t N f A s s.heap) (hS : va_S A s.heap H locs) (j : Nat) (hj : j < N) (hN : N < 2 ^ 31) {v : Value} (hv : f j = v) (hdg : decode cc pc = .ok (.iaload, 1))
    (kk : W p l e R s m args below meth c H locs cells slots Q (F0 m (pc + 1) ls (v :: rest))) : W p l e R s m args below meth c H locs cells slots Q (F0 m pc ls (.int (nI j) :: .ref t :: rest)) :=
  va_ti X.1 X.2.1 hT hS (pl_ix hj hN).1 (by rw [(pl_ix hj hN).2]; exact hv) hdg kk
end PLS
end
section
/-! Where an instruction's rewritten one begins; the rewritten program as two rows of numbers. -/
theorem kn_of {K : Nat → Int32} {i m : Nat} (hm : m < 2 ^ 31) (h : inB (K i) m = true) : K i = nI (kn K i) ∧ kn K i < m := by
  obtain ⟨j, hj, e⟩ := inB_of hm h
  have h1 : kn K i = j := by unfold kn; rw [e]; exact nI_clamp (by omega)
  rw [h1]; exact ⟨e, hj⟩
theorem okK_9 {P K : Nat → Int32} {n i : Nat} (h : okK P K n) (hi : i < n) (o : opn P i = 9) : K i = nI (kn K i) ∧ kn K i < 8 := by
  have h1 := h i hi
  rw [o] at h1
  exact kn_of (by decide) h1
theorem okK_5 {P K : Nat → Int32} {n i : Nat} (h : okK P K n) (hi : i < n) (o : opn P i = 5 ∨ opn P i = 6) : K i = nI (kn K i) ∧ kn K i < 7 := by
  have h1 := h i hi
  unfold numFit at h1
  rw [if_pos o] at h1
  exact kn_of (by decide) h1
theorem okK_7 {P K : Nat → Int32} {n i : Nat} (hn : n < 2 ^ 31) (h : okK P K n) (hi : i < n) (o : opn P i = 7 ∨ opn P i = 8) : K i = nI (kn K i) ∧ kn K i < n := by
  have h1 := h i hi
  unfold numFit at h1
  rw [if_neg (by omega), if_pos o] at h1
  exact kn_of hn h1
def ahd (P K th : Nat → Int32) (ns i : Nat) : Nat := if opn P i = 9 then cntR th (kn K i) ns * 16 + 1 else 0
def plc (P K th : Nat → Int32) (ns : Nat) : Nat → Nat
  | 0 => 0
  | i + 1 => plc P K th ns i + ahd P K th ns i + 1
theorem ahd_le (P K th : Nat → Int32) {ns : Nat} (h : ns ≤ 4) (i : Nat) : ahd P K th ns i ≤ 65 := by
  have := cntR_le th (kn K i) ns
  unfold ahd; split <;> omega
theorem plc_le (P K th : Nat → Int32) {ns : Nat} (h : ns ≤ 4) : ∀ i, plc P K th ns i ≤ 66 * i
  | 0 => Nat.le_refl _
  | i + 1 => by
    have := plc_le P K th h i
    have := ahd_le P K th h i
    simp only [plc]; omega
theorem plc_mono (P K th : Nat → Int32) (ns : Nat) {a b : Nat} (h : a ≤ b) : plc P K th ns a + (b - a) ≤ plc P K th ns b := by
  induction b with
  | zero => rw [Nat.le_zero.mp h]; simp
  | succ b ih =>
    rcases Nat.lt_or_eq_of_le h with q | q
    · have := ih (by omega)
      simp only [plc]; omega
    · subst q; simp
def wO (P K th : Nat → Int32) (ns : Nat) : Nat → List Int32
  | 0 => []
  | i + 1 => wO P K th ns i ++ (if opn P i = 9 then gO th (kn K i) ns ++ [nI 12] else []) ++ [nI (opn P i)]
def tgt (P K th : Nat → Int32) (ns i : Nat) : Int32 := if opn P i = 7 ∨ opn P i = 8 then nI (plc P K th ns (kn K i)) else K i
def wK (P K lo hi th : Nat → Int32) (ns : Nat) : Nat → List Int32
  | 0 => []
  | i + 1 => wK P K lo hi th ns i ++ (if opn P i = 9 then gK lo hi th (kn K i) (plc P K th ns i) (plc P K th ns i + cntR th (kn K i) ns * 16) ns ++ [nI 0] else []) ++ [tgt P K th ns i]
theorem wO_len (P K th : Nat → Int32) (ns : Nat) : ∀ i, (wO P K th ns i).length = plc P K th ns i
  | 0 => rfl
  | i + 1 => by
    have := wO_len P K th ns i
    simp only [wO, plc, ahd, List.length_append, List.length_cons, List.length_nil]
    split <;> simp [gO_len] <;> omega
theorem wK_len (P K lo hi th : Nat → Int32) (ns : Nat) : ∀ i, (wK P K lo hi th ns i).length = plc P K th ns i
  | 0 => rfl
  | i + 1 => by
    have := wK_len P K lo hi th ns i
    simp only [wK, plc, ahd, List.length_append, List.length_cons, List.length_nil]
    split <;> simp [gK_len] <;> omega
section WW
variable {P K lo hi th : Nat → Int32} {ns i : Nat}
theorem plc_9 (o : opn P i = 9) : plc P K th ns (i + 1) = plc P K th ns i + 16 * cntR th (kn K i) ns + 1 + 1 := by
  simp only [plc, ahd]; rw [if_pos o]; omega
theorem plc_n (o : ¬ opn P i = 9) : plc P K th ns (i + 1) = plc P K th ns i + 1 := by
  simp only [plc, ahd]; rw [if_neg o]
theorem wO_9 (f : Nat → Int32) (o : opn P i = 9) : apd f 0 (wO P K th ns (i + 1)) = upd (apd (apd f 0 (wO P K th ns i)) (plc P K th ns i) (gO th (kn K i) ns ++ [nI 12])) (plc P K th ns i + 16 * cntR th (kn K i) ns + 1) (nI (opn P i)) := by
  simp only [wO]
  rw [if_pos o, apd_app, apd_app, List.length_append, wO_len, List.length_append, gO_len]
  simp only [Nat.zero_add, List.length_cons, List.length_nil, apd]
  rw [show plc P K th ns i + (16 * cntR th (kn K i) ns + 1) = plc P K th ns i + 16 * cntR th (kn K i) ns + 1 by omega]
theorem wO_n (f : Nat → Int32) (o : ¬ opn P i = 9) : apd f 0 (wO P K th ns (i + 1)) = upd (apd f 0 (wO P K th ns i)) (plc P K th ns i) (nI (opn P i)) := by
  simp only [wO]
  rw [if_neg o, List.append_nil, apd_app, wO_len, Nat.zero_add]
  rfl
theorem wK_9 (f : Nat → Int32) (o : opn P i = 9) : apd f 0 (wK P K lo hi th ns (i + 1)) = upd (apd (apd f 0 (wK P K lo hi th ns i)) (plc P K th ns i) (gK lo hi th (kn K i) (plc P K th ns i) (plc P K th ns i + cntR th (kn K i) ns * 16) ns ++ [nI 0])) (plc P K th ns i + 16 * cntR th (kn K i) ns + 1) (tgt P K th ns i) := by
  simp only [wK]
  rw [if_pos o, apd_app, apd_app, List.length_append, wK_len, List.length_append, gK_len]
  simp only [Nat.zero_add, List.length_cons, List.length_nil, apd]
  rw [show plc P K th ns i + (16 * cntR th (kn K i) ns + 1) = plc P K th ns i + 16 * cntR th (kn K i) ns + 1 by omega]
theorem wK_n (f : Nat → Int32) (o : ¬ opn P i = 9) : apd f 0 (wK P K lo hi th ns (i + 1)) = upd (apd f 0 (wK P K lo hi th ns i)) (plc P K th ns i) (tgt P K th ns i) := by
  simp only [wK]
  rw [if_neg o, List.append_nil, apd_app, wK_len, Nat.zero_add]
  rfl
theorem tgt_g (o : opn P i = 7 ∨ opn P i = 8) : tgt P K th ns i = nI (plc P K th ns (kn K i)) := if_pos o
theorem tgt_n (o : ¬ (opn P i = 7 ∨ opn P i = 8)) : tgt P K th ns i = K i := if_neg o
end WW
end
section
section VXA
def vx_T (XC : String → State → State → Prop) (st : State) (q : Addr) (t : State) (mc ms : Nat) (free : Addr → Prop) : Prop :=
  ∃ (E : String) (ce : Cell) (L : List Loc), XC E st t ∧ t.heap[q]? = some ce ∧ ce.vm = .none ∧ st.vm.findClass E = some ce.cls ∧ st.WarmedH t.vm ∧ st.sameButNew ({ t with vm := st.vm } : State) L mc ms ∧ ∀ z ∈ L, free z.base
def vx_Q (Qc : Array Value → State → Outcome → State → Prop) (XC : String → State → State → Prop) (mc ms : Nat) (free : Addr → Prop) : Array Value → State → Outcome → State → Prop := fun a st o t =>
  (Qc a st o t ∧ ∃ L, FrameEnd st o t L mc ms ∧ ∀ q ∈ L, free q.base) ∨ ∃ q, o = .threw q ∧ vx_T XC st q t mc ms free
def vx_Met (l : Launch) (y : MethodName) (ws : List Cond) (rm : Room) (Pc : Array Value → State → Prop) (Qc : Array Value → State → Outcome → State → Prop) (XC : String → State → State → Prop) (mc ms : Nat) (free : Addr → Prop) : Prop :=
  MetFree l y (headSpec ws rm) Pc (fun _ _ _ _ _ => True) (vx_Q Qc XC mc ms free)
def vx_Post (XC : String → State → State → Prop) (mc ms : Nat) (free : Addr → Prop) : Pt → Array Value → Addr → Pt → Prop := fun A a q B =>
  ∃ (g : JFrame) (mk : MethodId) (t : State) (L : List Loc) (E : String) (ce : Cell), B.U.heap = t.heap ∧ B.U.vm = t.vm ∧ XC E (A.U.calling g mk a) t ∧ t.heap[q]? = some ce ∧ ce.vm = .none ∧ A.U.vm.findClass E = some ce.cls ∧ B.locs = A.locs ++ L ∧ (∀ z ∈ L, free z.base) ∧ B.cells = A.cells + mc ∧ B.slots = A.slots + ms
def vx_Back (l : Launch) (R : Room) (p : Program) (e : Env) (below : List Frame) (s : State) (sargs : Array Value) (y : MethodName) (len W9 : Nat)
    (Pre : Pt → Array Value → Prop) (Post : Pt → Array Value → Option Value → Pt → Prop) (PostX : Pt → Array Value → Addr → Pt → Prop) : Prop :=
  ∀ (m : MethodId) (meth : Method) (c : Code) (A : Pt) (g : JFrame) (ig : Instr) (mk : MethodId) (a : Array Value),
    Stand p l e R s m sargs below meth c A.U A.locs A.cells A.slots → g.method = m → g.locals.size = c.maxLocals → decode c.code g.pc = .ok (ig, len) →
    2 * g.monitorRoom + (g.stack.map fun v => v.category).sum ≤ W9 → A.U.methodNamed? y = some mk → Pre A a →
    (∃ (v : Option Value) (B : Pt), Stand p l e R s m sargs below meth c B.U B.locs B.cells B.slots ∧ Post A a v B ∧
      Steps p.tables e below (doInvoke e (A.U.setTop g) [] mk a).1 (B.U.setTop { g with pc := g.pc + len, stack := v.toList ++ g.stack })) ∨
    (∃ (q : Addr) (B : Pt), Stand p l e R s m sargs below meth c B.U B.locs B.cells B.slots ∧ PostX A a q B ∧
      Steps p.tables e below (doInvoke e (A.U.setTop g) [] mk a).1 ((B.U.setTop g).pushFrame (.throwing q)))
section Payer
variable {l : Launch} {R : Room} {p : Program} {e : Env} {below : List Frame} {s : State} {sargs : Array Value} {y : MethodName} {len W9 : Nat}
theorem vx_back {ws : List Cond} {rm : Room} {Pc : Array Value → State → Prop} {Qc : Array Value → State → Outcome → State → Prop} {XC : String → State → State → Prop} {mc ms : Nat} {free : Addr → Prop} {bytes : ByteArray} {maxL : Nat} {ret : Option FieldType}
    (hM : vx_Met l y ws rm Pc Qc XC mc ms free) (hblind : FrameBlind Pc) (hrc : rm.cells = mc) (hrs : rm.slots = ms)
    (hframes : rm.frames + 1 ≤ R.frames) (hlocals : W9 + (maxL + 11) + rm.locals ≤ R.locals)
    (hws : ∀ w ∈ ws, ∀ a' U, s.WarmedH U.vm → w.before a' U = true) (hcode : Cond.code y bytes maxL ret ∈ ws) (hinit : ∀ a' U, s.WarmedH U.vm → (Cond.initialized y.cls).before a' U = true) :
    vx_Back l R p e below s sargs y len W9 (PreOf R mc ms Pc) (PostOf Qc mc ms free) (vx_Post XC mc ms free) := by
  intro m meth c A g ig mk a X hg hsize hdg hW hn hp
  have h1 : (headSpec ws rm).pre.before a A.U = true := atoms_intro fun w hw => hws w hw _ _ X.warmed
  have h2 : (Cond.code y bytes maxL ret).before a A.U = true := hws _ hcode _ _ X.warmed
  have h3 : (Cond.initialized y.cls).before a A.U = true := hinit _ _ X.warmed
  have h4 : A.cells + (headSpec ws rm).room.cells ≤ R.cells := by rw [show (headSpec ws rm).room.cells = mc from hrc]; exact hp.1
  have h5 : A.slots + (headSpec ws rm).room.slots ≤ R.slots := by rw [show (headSpec ws rm).room.slots = ms from hrs]; exact hp.2.1
  have hPc : Pc a (A.U.calling g mk a) := hblind _ _ _ _ hp.2.2
  obtain ⟨U, Ls, c0, s0⟩ := A
  dsimp only [Pt.U, Pt.locs, Pt.cells, Pt.slots] at h1 h2 h3 h4 h5 X hn hPc ⊢
  obtain ⟨methY, cY, hmY, hcY, -, hlY, -, -, -, -⟩ := Cond.code_spec hn h2
  obtain ⟨kY, hkY, -⟩ := className_of_methodNamed hn
  have hinitY : kY.init = .initialized := Cond.initialized_spec (findClass_of_methodNamed hn) hkY h3
  have h : At U g.method c below := by rw [hg]; exact X.here
  have hlocals9 : W9 + (maxL + 11) + (headSpec ws rm).room.locals ≤ R.locals := hlocals
  have happ : (headSpec ws rm).appliesLoose y e.platform (U.calling g mk a) = true :=
    Spec.appliesLoose_calling (g := g) h hdg hn hkY hinitY
      (X.room_calling (g := g) (R' := (headSpec ws rm).room) hsize hmY hcY hframes (by rw [hlY]; omega) h4 h5) h1
  obtain ⟨mid, hmid⟩ := h.above
  have hfr : (U.setTop g).frames = (.java g :: mid) ++ below := by rw [State.frames_setTop' g h.top, hmid]; rfl
  obtain ⟨o, s₂, hsteps, -, hend, hq⟩ := Steps.callFree hM p X.admits X.cas X.clock (acts := []) hfr happ hPc trivial
  have hq' : vx_Q Qc XC mc ms free a (U.calling g mk a) o s₂ := hq
  rw [State.frames_setTop' g h.top] at hend
  obtain ⟨g₀, hg0⟩ := Option.isSome_iff_exists.mp h.top
  obtain ⟨r, hr⟩ := State.topJava?_eq_some.mp hg0
  have hr' : (({ U with heap := s₂.heap, slotsUsed := s₂.slotsUsed } : State).setVm s₂.vm).frames = .java g₀ :: r := hr
  rcases hq' with ⟨hqc, L, hfe, hL⟩ | ⟨q, rfl, E, ce, L, hx, hce, hcv, hcl, hW₂, hsm, hL⟩
  · obtain ⟨⟨v, rfl⟩, hW₂, e2, q2, q3, q4, q5, q6⟩ := id hfe
    have e3 : s₂ = ({ (U.calling g mk a).setFrames s₂.frames with heap := s₂.heap, slotsUsed := s₂.slotsUsed } : State).setVm s₂.vm := by
      have : s₂ = ({ s₂ with vm := (U.calling g mk a).vm } : State).setVm s₂.vm := rfl
      rw [e2] at this
      exact this
    obtain ⟨c₂, i₂, len₂, hc₂, hd₂, hf₂⟩ := hend
    have hW' : U.WarmedH s₂.vm := hW₂
    have hcc : c₂ = c := by
      have h1 : s₂.code? g.method = U.code? g.method := by
        rw [State.code?_eq, State.code?_eq, hW'.alike.method?]
      exact Option.some.inj (hc₂.symm.trans (h1.trans h.code))
    subst hcc
    have hlen : len₂ = len := by rw [hdg] at hd₂; cases hd₂; rfl
    subst hlen
    have hs₂ : s₂ = (({ U with heap := s₂.heap, slotsUsed := s₂.slotsUsed } : State).setVm s₂.vm).setTop { g with pc := g.pc + len₂, stack := v.toList ++ g.stack } := by
      refine e3.trans ?_
      rw [hf₂, State.calling_eq h.top, State.setFrames_setFrames, State.setTop_of_frames _ hr', hr]
      rfl
    have hsame : U.sameButNew ({ U with heap := s₂.heap, slotsUsed := s₂.slotsUsed } : State) L mc ms := by
      refine ⟨?_, q2, q3, q4, q5, q6⟩
      obtain ⟨t, ht, -⟩ := State.frames_cons hr
      show ({ U with heap := s₂.heap, slotsUsed := s₂.slotsUsed } : State) = { U.setFrames U.frames with heap := s₂.heap, slotsUsed := s₂.slotsUsed }
      rw [State.setFrames_self ht]
    subst hg
    refine Or.inl ⟨v, ⟨(({ U with heap := s₂.heap, slotsUsed := s₂.slotsUsed } : State).setVm s₂.vm), Ls ++ L, c0 + mc, s0 + ms⟩,
      ⟨X.admits, X.cas, X.clock, X.frames, X.room, X.hears, X.method, X.code, (X.here.setHeapUsed s₂.heap s₂.slotsUsed).setVm hW'.alike, X.tail, State.WarmedH.trans X.warmed hW', X.limits, X.bytes, X.same.trans (hsame.setVm s.vm)⟩,
      ⟨g, mk, s₂, L, rfl, rfl, hqc, rfl, hL, rfl, rfl⟩, ?_⟩
    show Steps p.tables e below _ ((({ U with heap := s₂.heap, slotsUsed := s₂.slotsUsed } : State).setVm s₂.vm).setTop { g with pc := g.pc + len₂, stack := v.toList ++ g.stack })
    rw [← hs₂]
    exact hsteps
  · obtain ⟨e2, q2, q3, q4, q5, q6⟩ := id hsm
    have e3 : s₂ = ({ (U.calling g mk a).setFrames s₂.frames with heap := s₂.heap, slotsUsed := s₂.slotsUsed } : State).setVm s₂.vm := by
      have : s₂ = ({ s₂ with vm := (U.calling g mk a).vm } : State).setVm s₂.vm := rfl
      rw [e2] at this
      exact this
    have hf₂ : s₂.frames = .throwing q :: .java g :: U.frames.tail := hend
    have hW' : U.WarmedH s₂.vm := hW₂
    have hs₂ : s₂ = ((({ U with heap := s₂.heap, slotsUsed := s₂.slotsUsed } : State).setVm s₂.vm).setTop g).pushFrame (.throwing q) := by
      refine e3.trans ?_
      rw [hf₂, State.calling_eq h.top, State.setFrames_setFrames, State.pushFrame, State.frames_setTop _ hr', State.setTop_of_frames _ hr', State.setFrames_setFrames, hr]
      rfl
    have hsame : U.sameButNew ({ U with heap := s₂.heap, slotsUsed := s₂.slotsUsed } : State) L mc ms := by
      refine ⟨?_, q2, q3, q4, q5, q6⟩
      obtain ⟨t, ht, -⟩ := State.frames_cons hr
      show ({ U with heap := s₂.heap, slotsUsed := s₂.slotsUsed } : State) = { U.setFrames U.frames with heap := s₂.heap, slotsUsed := s₂.slotsUsed }
      rw [State.setFrames_self ht]
    subst hg
    refine Or.inr ⟨q, ⟨(({ U with heap := s₂.heap, slotsUsed := s₂.slotsUsed } : State).setVm s₂.vm), Ls ++ L, c0 + mc, s0 + ms⟩,
      ⟨X.admits, X.cas, X.clock, X.frames, X.room, X.hears, X.method, X.code, (X.here.setHeapUsed s₂.heap s₂.slotsUsed).setVm hW'.alike, X.tail, State.WarmedH.trans X.warmed hW', X.limits, X.bytes, X.same.trans (hsame.setVm s.vm)⟩,
      ⟨g, mk, s₂, L, E, ce, rfl, rfl, hx, hce, hcv, hcl, rfl, hL, rfl, rfl⟩, ?_⟩
    show Steps p.tables e below _ (((({ U with heap := s₂.heap, slotsUsed := s₂.slotsUsed } : State).setVm s₂.vm).setTop g).pushFrame (.throwing q))
    rw [← hs₂]
    exact hsteps
end Payer
section Calls
variable {p : Program} {l : Launch} {e : Env} {R : Room} {s : State} {m : MethodId} {args : Array Value} {below : List Frame} {meth : Method} {c : Code} {T : State} {locs : List Loc} {cells slots : Nat}
theorem vx_callV (X : Stand p l e R s m args below meth c T locs cells slots) (hexec : p.tables.exec = Jvm.exec) {own C : String} {index : Nat} {y : MethodName} {bytes : ByteArray} {maxL : Nat} {ret : Option FieldType}
    (hown : s.vm.findClass own = some m.cls) (hlink : (Cond.methodLink own index y).before args s = true) (hinst : (Cond.instanceMethod y).before args s = true) (hsel : (Cond.selects C y y).before args s = true)
    (hcode : (Cond.code y bytes maxL ret).before args s = true) (hy : y.cls ≠ "java/lang/invoke/MethodHandle" ∧ y.cls ≠ "java/lang/invoke/VarHandle")
    {W9 : Nat} {Pre : Pt → Array Value → Prop} {Post : Pt → Array Value → Option Value → Pt → Prop} {PostX : Pt → Array Value → Addr → Pt → Prop} (hK : vx_Back l R p e below s args y 3 W9 Pre Post PostX)
    {b : Addr} {cellB : Cell} (hcell : T.heap[b]? = some cellB) (hobj : cellB.vm.isStatics = false) (hcls : s.vm.findClass C = some cellB.cls)
    {g : JFrame} (hg : g.method = m) (hsize : g.locals.size = c.maxLocals) {argsL rest : List Value} (hlen : ∀ sig, parseMethodDescriptor y.desc = some sig → argsL.length = sig.parameters.length)
    (hstack : g.stack = argsL.reverse ++ .ref b :: rest) (hW : 2 * g.monitorRoom + (rest.map fun v => v.category).sum ≤ W9) (hdg : decode c.code g.pc = .ok (.invokevirtual index, 3))
    (hpre : ∀ vm₁, s.WarmedH vm₁ → Pre ⟨T.setVm vm₁, locs, cells, slots⟩ (Value.ref b :: argsL).toArray) :
    (∃ (v : Option Value) (vm₁ : Vm) (B : Pt), s.WarmedH vm₁ ∧ Stand p l e R s m args below meth c B.U B.locs B.cells B.slots ∧ Post ⟨T.setVm vm₁, locs, cells, slots⟩ (Value.ref b :: argsL).toArray v B ∧
      ∀ target, Steps p.tables e below (B.U.setTop { g with pc := g.pc + 3, stack := v.toList ++ rest }) target → Steps p.tables e below (T.setTop g) target) ∨
    (∃ (q : Addr) (vm₁ : Vm) (B : Pt), s.WarmedH vm₁ ∧ Stand p l e R s m args below meth c B.U B.locs B.cells B.slots ∧ PostX ⟨T.setVm vm₁, locs, cells, slots⟩ (Value.ref b :: argsL).toArray q B ∧
      Steps p.tables e below (T.setTop g) ((B.U.setTop { g with stack := rest }).pushFrame (.throwing q))) := by
  obtain ⟨mk, methM, hnamed, hmethM, hstM, habM⟩ := Cond.instanceMethod_spec hinst
  obtain ⟨methM', cM, hmethM', -, -, -, -, -, -, hsigM⟩ := Cond.code_spec hnamed hcode
  cases hmethM.symm.trans hmethM'
  obtain ⟨c2, r2, m2, q1, q2, q3, q4, kP, hkP, hkPi⟩ := Cond.selects_spec hsel
  cases hcls.symm.trans q1
  cases (State.methodFound?_of_named hnamed hy).symm.trans q2
  cases hnamed.symm.trans q3
  have hselP : selectMethod e.platform s.vm cellB.cls mk = .method mk := by rw [Launch.admits_selectMethod X.admits]; exact q4
  obtain ⟨vm₁, X₁, hstep₁⟩ := X.invokevirtual hexec hown hlink hnamed hmethM hstM hkP hkPi hy (a := b) (cell := cellB) hcell
    (fun z h => by rw [h] at hobj; cases hobj) hselP hmethM habM hkP hkPi (g := g) hg (argsL := argsL) (rest := rest) (hlen _ hsigM) hstack hdg
  rcases hK m meth c ⟨T.setVm vm₁, locs, cells, slots⟩ { g with stack := rest } (.invokevirtual index) mk (Value.ref b :: argsL).toArray X₁ hg hsize hdg hW (X₁.named hnamed) (hpre vm₁ X₁.warmed) with ⟨v, B, X', hpost, hsteps⟩ | ⟨q, B, X', hpost, hsteps⟩
  · exact Or.inl ⟨v, vm₁, B, X₁.warmed, X', hpost, fun target h => hstep₁ _ fun acts => by rw [doInvoke_state]; exact hsteps.trans h⟩
  · exact Or.inr ⟨q, vm₁, B, X₁.warmed, X', hpost, hstep₁ _ fun acts => by rw [doInvoke_state]; exact hsteps⟩
theorem vx_callS (X : Stand p l e R s m args below meth c T locs cells slots) (hexec : p.tables.exec = Jvm.exec) {own : String} {index : Nat} {y : MethodName} {bytes : ByteArray} {maxL : Nat} {ret : Option FieldType}
    (hown : s.vm.findClass own = some m.cls) (hlink : (Cond.methodLink own index y).before args s = true) (hstat : (Cond.static y).before args s = true) (hinit : (Cond.initialized y.cls).before args s = true)
    (hcode : (Cond.code y bytes maxL ret).before args s = true) (hy : y.cls ≠ "java/lang/invoke/MethodHandle" ∧ y.cls ≠ "java/lang/invoke/VarHandle")
    {W9 : Nat} {Pre : Pt → Array Value → Prop} {Post : Pt → Array Value → Option Value → Pt → Prop} {PostX : Pt → Array Value → Addr → Pt → Prop} (hK : vx_Back l R p e below s args y 3 W9 Pre Post PostX)
    {g : JFrame} (hg : g.method = m) (hsize : g.locals.size = c.maxLocals) {argsL rest : List Value} (hlen : ∀ sig, parseMethodDescriptor y.desc = some sig → argsL.length = sig.parameters.length)
    (hstack : g.stack = argsL.reverse ++ rest) (hW : 2 * g.monitorRoom + (rest.map fun v => v.category).sum ≤ W9) (hdg : decode c.code g.pc = .ok (.invokestatic index, 3))
    (hpre : ∀ vm₁, s.WarmedH vm₁ → Pre ⟨T.setVm vm₁, locs, cells, slots⟩ argsL.toArray) :
    (∃ (v : Option Value) (vm₁ : Vm) (B : Pt), s.WarmedH vm₁ ∧ Stand p l e R s m args below meth c B.U B.locs B.cells B.slots ∧ Post ⟨T.setVm vm₁, locs, cells, slots⟩ argsL.toArray v B ∧
      ∀ target, Steps p.tables e below (B.U.setTop { g with pc := g.pc + 3, stack := v.toList ++ rest }) target → Steps p.tables e below (T.setTop g) target) ∨
    (∃ (q : Addr) (vm₁ : Vm) (B : Pt), s.WarmedH vm₁ ∧ Stand p l e R s m args below meth c B.U B.locs B.cells B.slots ∧ PostX ⟨T.setVm vm₁, locs, cells, slots⟩ argsL.toArray q B ∧
      Steps p.tables e below (T.setTop g) ((B.U.setTop { g with stack := rest }).pushFrame (.throwing q))) := by
  obtain ⟨mk, hnamed⟩ := Cond.code_named hcode
  obtain ⟨methM, cM, hmethM, -, -, -, -, -, -, hsigM⟩ := Cond.code_spec hnamed hcode
  have hstatic : methM.isStatic = true := Cond.static_spec hnamed hmethM hstat
  obtain ⟨kP, hkP, -⟩ := className_of_methodNamed hnamed
  have hinitP : kP.init = .initialized := Cond.initialized_spec (findClass_of_methodNamed hnamed) hkP hinit
  obtain ⟨vm₁, X₁, hstep₁⟩ := X.invokestatic hexec hown hlink hnamed hmethM hstatic hkP hinitP hy (g := g) hg (argsL := argsL) (rest := rest) (hlen _ hsigM) hstack hdg
  rcases hK m meth c ⟨T.setVm vm₁, locs, cells, slots⟩ { g with stack := rest } (.invokestatic index) mk argsL.toArray X₁ hg hsize hdg hW (X₁.named hnamed) (hpre vm₁ X₁.warmed) with ⟨v, B, X', hpost, hsteps⟩ | ⟨q, B, X', hpost, hsteps⟩
  · exact Or.inl ⟨v, vm₁, B, X₁.warmed, X', hpost, fun target h => hstep₁ _ fun acts => by rw [doInvoke_state]; exact hsteps.trans h⟩
  · exact Or.inr ⟨q, vm₁, B, X₁.warmed, X', hpost, hstep₁ _ fun acts => by rw [doInvoke_state]; exact hsteps⟩
end Calls
theorem vx_cls {s : State} {T : State} {vm₁ : Vm} {E : String} {k : ClassId} (hW : s.WarmedH vm₁) (h : (T.setVm vm₁).vm.findClass E = some k) : s.vm.findClass E = some k := by
  have h1 : vm₁.findClass E = some k := h
  rw [hW.alike.findClass] at h1
  exact h1
def vx_W (p : Program) (l : Launch) (e : Env) (R : Room) (s : State) (m : MethodId) (args : Array Value) (below : List Frame) (meth : Method) (c : Code) (H : Heap) (locs : List Loc) (cells slots : Nat) (Q : State → Prop) (g : JFrame) (q : Addr) : Prop :=
  ∀ T : State, T.heap = H → Stand p l e R s m args below meth c T locs cells slots → ∃ t, Steps p.tables e below ((T.setTop g).pushFrame (.throwing q)) t ∧ Q t
def vx_Run (p : Program) (l : Launch) (e : Env) (R : Room) (s : State) (m : MethodId) (args : Array Value) (below : List Frame) (meth : Method) (c : Code) (H : Heap) (locs : List Loc) (cells slots mc ms : Nat) (g : JFrame) (rest : List Value) (Qa : State → Outcome → State → Prop) (XC : String → State → State → Prop) (free : Addr → Prop) : Prop :=
  ∀ T : State, T.heap = H → Stand p l e R s m args below meth c T locs cells slots →
    (∃ (v : Option Value) (st₀ t T' : State) (L : List Loc), st₀.heap = H ∧ Stand p l e R s m args below meth c T' (locs ++ L) (cells + mc) (slots + ms) ∧ (∀ q ∈ L, free q.base) ∧ T'.heap = t.heap ∧ T'.vm = t.vm ∧ Qa st₀ (.returned v) t ∧
      Goes p e below T g T' { g with pc := g.pc + 3, stack := v.toList ++ rest }) ∨
    (∃ (q : Addr) (st₀ t T' : State) (L : List Loc) (E : String) (ce : Cell), st₀.heap = H ∧ Stand p l e R s m args below meth c T' (locs ++ L) (cells + mc) (slots + ms) ∧ (∀ z ∈ L, free z.base) ∧ T'.heap = t.heap ∧ T'.vm = t.vm ∧ XC E st₀ t ∧ t.heap[q]? = some ce ∧ ce.vm = .none ∧ s.vm.findClass E = some ce.cls ∧
      Steps p.tables e below (T.setTop g) ((T'.setTop { g with stack := rest }).pushFrame (.throwing q)))
def vx_X {S : Type} (px : S → Prop) (B : String → S → State → Prop) (A : Nat → Prop) : String → State → State → Prop := fun E st t => ∃ u : S, px u ∧ B E u t ∧ va_F A st t
section Runs
variable {p : Program} {l : Launch} {e : Env} {R : Room} {s : State} {m : MethodId} {args : Array Value} {below : List Frame} {meth : Method} {c : Code} {H : Heap} {locs : List Loc} {cells slots : Nat}
variable {y : MethodName} {bytes cc : ByteArray} {maxL nL mc ms n index : Nat} {ret : Option FieldType} {ws : List Cond} {rm : Room} {Pc : Array Value → State → Prop} {Qc : Array Value → State → Outcome → State → Prop} {XC : String → State → State → Prop} {free : Addr → Prop} {Ts : List Cond} {own C : String} {b : Addr} {As rest : List Value} {g : JFrame}
theorem vx_callBack (cb : CallB R s args own index y bytes maxL ret ws rm mc ms n) (hM : vx_Met l y ws rm Pc Qc XC mc ms free) (hbl : FrameBlind Pc) : vx_Back l R p e below s args y 3 8 (PreOf R mc ms Pc) (PostOf Qc mc ms free) (vx_Post XC mc ms free) := by
  obtain ⟨hrc, hrs, hfr, hlo, hws, hcw, -, hini, -⟩ := cb
  exact vx_back (bytes := bytes) (maxL := maxL) (ret := ret) hM hbl hrc hrs hfr hlo hws hcw (fun a' U hW => word_at hW (Or.inl (by first | rfl | simp [Cond.onTables, Cond.keeps, Cond.steady])) hini)
theorem vx_runV (S : CallFix p m c cc nL s args Ts own) (hM : vx_Met l y ws rm Pc Qc XC mc ms free) (cw : CallW R s args own C index y bytes maxL ret ws rm mc ms n) (hp : PreV s H C b Pc As)
    (hg : g.method = m) (hn : As.length = n) (hsize : g.locals.size = nL) (hstack : g.stack = As.reverse ++ .ref b :: rest) (hW : 2 * g.monitorRoom + (rest.map fun v => v.category).sum ≤ 8) (hdg : decode cc g.pc = .ok (.invokevirtual index, 3)) (hf : cells + mc ≤ R.cells ∧ slots + ms ≤ R.slots) :
    vx_Run p l e R s m args below meth c H locs cells slots mc ms g rest (Qc (Value.ref b :: As).toArray) XC free := by
  have hK : vx_Back l R p e below s args y 3 8 (PreOf R mc ms Pc) (PostOf Qc mc ms free) (vx_Post XC mc ms free) := vx_callBack cw.1 hM hp.1
  obtain ⟨⟨-, -, -, -, -, -, hcode, -, hy, hlen, hl⟩, hin, hse⟩ := cw
  obtain ⟨hx, hb, hml, ho, -⟩ := S
  obtain ⟨-, ⟨cellB, hcB, hoB, hclB⟩, hPc⟩ := hp
  intro T hT X
  rcases vx_callV X hx (C := C) (bytes := bytes) (maxL := maxL) (ret := ret) ho hl hin hse hcode hy hK (by rw [hT]; exact hcB) hoB hclB hg (hsize.trans hml.symm) (argsL := As) (rest := rest) (fun sig h => hn.trans (hlen sig h)) hstack hW (by rw [hb]; exact hdg)
    (fun vm₁ hW₁ => ⟨hf.1, hf.2, hPc (T.setVm vm₁) hT hW₁⟩) with ⟨v, vm₁, ⟨U', l2, c2, s2⟩, hW₁, X', ⟨g', mk, t, L, e1, e2, hq, h1, hL, h2, h3⟩, st⟩ | ⟨q, vm₁, ⟨U', l2, c2, s2⟩, hW₁, X', ⟨g', mk, t, L, E, ce, e1, e2, hq, hce, hcv, hcl, h1, hL, h2, h3⟩, st⟩
  · dsimp only [Pt.U, Pt.locs, Pt.cells, Pt.slots] at X' e1 e2 h1 h2 h3 st
    subst h1; subst h2; subst h3
    exact Or.inl ⟨v, (T.setVm vm₁).calling g' mk (Value.ref b :: As).toArray, t, U', L, hT, X', hL, e1, e2, hq, st⟩
  · dsimp only [Pt.U, Pt.locs, Pt.cells, Pt.slots] at X' e1 e2 h1 h2 h3 st hcl
    subst h1; subst h2; subst h3
    exact Or.inr ⟨q, (T.setVm vm₁).calling g' mk (Value.ref b :: As).toArray, t, U', L, E, ce, hT, X', hL, e1, e2, hq, hce, hcv, vx_cls hW₁ hcl, st⟩
theorem vx_runS (S : CallFix p m c cc nL s args Ts own) (hM : vx_Met l y ws rm Pc Qc XC mc ms free) (cw : CallB R s args own index y bytes maxL ret ws rm mc ms n ∧ (Cond.static y).before args s = true) (hp : PreS s H Pc As)
    (hg : g.method = m) (hn : As.length = n) (hsize : g.locals.size = nL) (hstack : g.stack = As.reverse ++ rest) (hW : 2 * g.monitorRoom + (rest.map fun v => v.category).sum ≤ 8) (hdg : decode cc g.pc = .ok (.invokestatic index, 3)) (hf : cells + mc ≤ R.cells ∧ slots + ms ≤ R.slots) :
    vx_Run p l e R s m args below meth c H locs cells slots mc ms g rest (Qc As.toArray) XC free := by
  have hK : vx_Back l R p e below s args y 3 8 (PreOf R mc ms Pc) (PostOf Qc mc ms free) (vx_Post XC mc ms free) := vx_callBack cw.1 hM hp.1
  obtain ⟨⟨-, -, -, -, -, -, hcode, hini, hy, hlen, hl⟩, hstt⟩ := cw
  obtain ⟨hx, hb, hml, ho, -⟩ := S
  intro T hT X
  rcases vx_callS X hx (bytes := bytes) (maxL := maxL) (ret := ret) ho hl hstt hini hcode hy hK hg (hsize.trans hml.symm) (argsL := As) (rest := rest) (fun sig h => hn.trans (hlen sig h)) hstack hW (by rw [hb]; exact hdg)
    (fun vm₁ hW₁ => ⟨hf.1, hf.2, hp.2 (T.setVm vm₁) hT hW₁⟩) with ⟨v, vm₁, ⟨U', l2, c2, s2⟩, hW₁, X', ⟨g', mk, t, L, e1, e2, hq, h1, hL, h2, h3⟩, st⟩ | ⟨q, vm₁, ⟨U', l2, c2, s2⟩, hW₁, X', ⟨g', mk, t, L, E, ce, e1, e2, hq, hce, hcv, hcl, h1, hL, h2, h3⟩, st⟩
  · dsimp only [Pt.U, Pt.locs, Pt.cells, Pt.slots] at X' e1 e2 h1 h2 h3 st
    subst h1; subst h2; subst h3
    exact Or.inl ⟨v, (T.setVm vm₁).calling g' mk As.toArray, t, U', L, hT, X', hL, e1, e2, hq, st⟩
  · dsimp only [Pt.U, Pt.locs, Pt.cells, Pt.slots] at X' e1 e2 h1 h2 h3 st hcl
    subst h1; subst h2; subst h3
    exact Or.inr ⟨q, (T.setVm vm₁).calling g' mk As.toArray, t, U', L, E, ce, hT, X', hL, e1, e2, hq, hce, hcv, vx_cls hW₁ hcl, st⟩
end Runs
section Rows
variable {p : Program} {l : Launch} {e : Env} {R : Room} {s : State} {m : MethodId} {args : Array Value} {below : List Frame} {meth : Method} {c : Code} {H : Heap} {locs : List Loc} {cells slots : Nat} {Q : State → Prop}
variable {mc ms : Nat} {free : Addr → Prop} {A0 A1 : Nat → Prop} {H0 : Heap} {a : Array Value} {pc : Nat} {ls : Array Slot} {st0 rest : List Value}
theorem vx_keep {st₀ t T' : State} {L : List Loc} (h0 : st₀.heap = H) (e1 : T'.heap = t.heap) (hS : va_S A0 H0 H locs) (hA : ∀ q, q < H.size → A1 q → A0 q) (hf : ∀ q, free q → A0 q) (hL : ∀ q ∈ L, free q.base) (hF : va_F A1 st₀ t) :
    H.size ≤ T'.heap.size ∧ (∀ q : Nat, q < H.size → ¬ A1 q → T'.heap[q]? = H[q]?) ∧ va_S A0 H0 T'.heap (locs ++ L) := by
  obtain ⟨hz, hk⟩ := hF
  rw [h0] at hz hk
  exact ⟨by rw [e1]; exact hz, fun q h1 h2 => by rw [e1]; exact hk q h1 h2,
    ⟨Nat.le_trans hS.1 (by rw [e1]; exact hz), fun q h1 h2 => by rw [e1, hk q (Nat.lt_of_lt_of_le h1 hS.1) (fun z => h2 (hA q (Nat.lt_of_lt_of_le h1 hS.1) z))]; exact hS.2.1 q h1 h2, fun q hq => by
      rcases List.mem_append.mp hq with h | h
      · exact hS.2.2 q h
      · exact hf _ (hL q h)⟩⟩
theorem vx_calli {S SX : Type} {post : Int32 → S → Prop} {px : SX → Prop} {B : S → State → Prop} {BX : String → SX → State → Prop} {AX : Nat → Prop} (hr : vx_Run p l e R s m args below meth c H locs cells slots mc ms (F0 m pc ls st0) rest (va_Qi post B A1 a) (vx_X px BX AX) free) (hS : va_S A0 H0 H locs) (hA : ∀ q, q < H.size → A1 q → A0 q) (hf : ∀ q, free q → A0 q) (hAX : ∀ q, q < H.size → AX q → A0 q)
    (kx : ∀ (E : String) (ce : Cell) (q9 : Addr) (u : SX) (t : State) (H1 : Heap) (locs1 : List Loc), t.heap = H1 → s.vm.Alike t.vm → px u → BX E u t → H.size ≤ H1.size → (∀ q : Nat, q < H.size → ¬ AX q → H1[q]? = H[q]?) → va_S A0 H0 H1 locs1 → H1[q9]? = some ce → ce.vm = .none → s.vm.findClass E = some ce.cls → vx_W p l e R s m args below meth c H1 locs1 (cells + mc) (slots + ms) Q (F0 m pc ls rest) q9)
    (kk : ∀ (r : Int32) (u : S) (t : State) (H1 : Heap) (locs1 : List Loc), t.heap = H1 → s.vm.Alike t.vm → post r u → B u t → H.size ≤ H1.size → (∀ q : Nat, q < H.size → ¬ A1 q → H1[q]? = H[q]?) → va_S A0 H0 H1 locs1 → W p l e R s m args below meth c H1 locs1 (cells + mc) (slots + ms) Q (F0 m (pc + 3) ls (.int r :: rest))) : W p l e R s m args below meth c H locs cells slots Q (F0 m pc ls st0) := by
  intro T hT X
  rcases hr T hT X with ⟨v, st₀, t, T', L, h0, X', hL, e1, e2, ⟨⟨r, u, hv, hp, hb⟩, hF⟩, st⟩ | ⟨q, st₀, t, T', L, E, ce, h0, X', hL, e1, e2, ⟨u, hp, hb, hF⟩, hce, hcv, hcl, st⟩
  · cases hv
    obtain ⟨k1, k2, k3⟩ := vx_keep h0 e1 hS hA hf hL hF
    obtain ⟨t2, a1, b1⟩ := kk r u t T'.heap (locs ++ L) e1.symm (by rw [← e2]; exact X'.warmed.alike) hp hb k1 k2 k3 T' rfl X'
    exact ⟨t2, st t2 a1, b1⟩
  · obtain ⟨k1, k2, k3⟩ := vx_keep h0 e1 hS hAX hf hL hF
    obtain ⟨t2, a1, b1⟩ := kx E ce q u t T'.heap (locs ++ L) e1.symm (by rw [← e2]; exact X'.warmed.alike) hp hb k1 k2 k3 (by rw [e1]; exact hce) hcv hcl T' rfl X'
    exact ⟨t2, st.trans a1, b1⟩
theorem vx_calll {S SX : Type} {post : Int64 → S → Prop} {px : SX → Prop} {B : S → State → Prop} {BX : String → SX → State → Prop} {AX : Nat → Prop} (hr : vx_Run p l e R s m args below meth c H locs cells slots mc ms (F0 m pc ls st0) rest (va_Ql post B A1 a) (vx_X px BX AX) free) (hS : va_S A0 H0 H locs) (hA : ∀ q, q < H.size → A1 q → A0 q) (hf : ∀ q, free q → A0 q) (hAX : ∀ q, q < H.size → AX q → A0 q)
    (kx : ∀ (E : String) (ce : Cell) (q9 : Addr) (u : SX) (t : State) (H1 : Heap) (locs1 : List Loc), t.heap = H1 → s.vm.Alike t.vm → px u → BX E u t → H.size ≤ H1.size → (∀ q : Nat, q < H.size → ¬ AX q → H1[q]? = H[q]?) → va_S A0 H0 H1 locs1 → H1[q9]? = some ce → ce.vm = .none → s.vm.findClass E = some ce.cls → vx_W p l e R s m args below meth c H1 locs1 (cells + mc) (slots + ms) Q (F0 m pc ls rest) q9)
    (kk : ∀ (r : Int64) (u : S) (t : State) (H1 : Heap) (locs1 : List Loc), t.heap = H1 → s.vm.Alike t.vm → post r u → B u t → H.size ≤ H1.size → (∀ q : Nat, q < H.size → ¬ A1 q → H1[q]? = H[q]?) → va_S A0 H0 H1 locs1 → W p l e R s m args below meth c H1 locs1 (cells + mc) (slots + ms) Q (F0 m (pc + 3) ls (.long r :: rest))) : W p l e R s m args below meth c H locs cells slots Q (F0 m pc ls st0) := by
  intro T hT X
  rcases hr T hT X with ⟨v, st₀, t, T', L, h0, X', hL, e1, e2, ⟨⟨r, u, hv, hp, hb⟩, hF⟩, st⟩ | ⟨q, st₀, t, T', L, E, ce, h0, X', hL, e1, e2, ⟨u, hp, hb, hF⟩, hce, hcv, hcl, st⟩
  · cases hv
    obtain ⟨k1, k2, k3⟩ := vx_keep h0 e1 hS hA hf hL hF
    obtain ⟨t2, a1, b1⟩ := kk r u t T'.heap (locs ++ L) e1.symm (by rw [← e2]; exact X'.warmed.alike) hp hb k1 k2 k3 T' rfl X'
    exact ⟨t2, st t2 a1, b1⟩
  · obtain ⟨k1, k2, k3⟩ := vx_keep h0 e1 hS hAX hf hL hF
    obtain ⟨t2, a1, b1⟩ := kx E ce q u t T'.heap (locs ++ L) e1.symm (by rw [← e2]; exact X'.warmed.alike) hp hb k1 k2 k3 (by rw [e1]; exact hce) hcv hcl T' rfl X'
    exact ⟨t2, st.trans a1, b1⟩
theorem vx_callf {S SX : Type} {post : UInt32 → S → Prop} {px : SX → Prop} {B : S → State → Prop} {BX : String → SX → State → Prop} {AX : Nat → Prop} (hr : vx_Run p l e R s m args below meth c H locs cells slots mc ms (F0 m pc ls st0) rest (va_Qf post B A1 a) (vx_X px BX AX) free) (hS : va_S A0 H0 H locs) (hA : ∀ q, q < H.size → A1 q → A0 q) (hf : ∀ q, free q → A0 q) (hAX : ∀ q, q < H.size → AX q → A0 q)
    (kx : ∀ (E : String) (ce : Cell) (q9 : Addr) (u : SX) (t : State) (H1 : Heap) (locs1 : List Loc), t.heap = H1 → s.vm.Alike t.vm → px u → BX E u t → H.size ≤ H1.size → (∀ q : Nat, q < H.size → ¬ AX q → H1[q]? = H[q]?) → va_S A0 H0 H1 locs1 → H1[q9]? = some ce → ce.vm = .none → s.vm.findClass E = some ce.cls → vx_W p l e R s m args below meth c H1 locs1 (cells + mc) (slots + ms) Q (F0 m pc ls rest) q9)
    (kk : ∀ (r : UInt32) (u : S) (t : State) (H1 : Heap) (locs1 : List Loc), t.heap = H1 → s.vm.Alike t.vm → post r u → B u t → H.size ≤ H1.size → (∀ q : Nat, q < H.size → ¬ A1 q → H1[q]? = H[q]?) → va_S A0 H0 H1 locs1 → W p l e R s m args below meth c H1 locs1 (cells + mc) (slots + ms) Q (F0 m (pc + 3) ls (.float r :: rest))) : W p l e R s m args below meth c H locs cells slots Q (F0 m pc ls st0) := by
  intro T hT X
  rcases hr T hT X with ⟨v, st₀, t, T', L, h0, X', hL, e1, e2, ⟨⟨r, u, hv, hp, hb⟩, hF⟩, st⟩ | ⟨q, st₀, t, T', L, E, ce, h0, X', hL, e1, e2, ⟨u, hp, hb, hF⟩, hce, hcv, hcl, st⟩
  · cases hv
    obtain ⟨k1, k2, k3⟩ := vx_keep h0 e1 hS hA hf hL hF
    obtain ⟨t2, a1, b1⟩ := kk r u t T'.heap (locs ++ L) e1.symm (by rw [← e2]; exact X'.warmed.alike) hp hb k1 k2 k3 T' rfl X'
    exact ⟨t2, st t2 a1, b1⟩
  · obtain ⟨k1, k2, k3⟩ := vx_keep h0 e1 hS hAX hf hL hF
    obtain ⟨t2, a1, b1⟩ := kx E ce q u t T'.heap (locs ++ L) e1.symm (by rw [← e2]; exact X'.warmed.alike) hp hb k1 k2 k3 (by rw [e1]; exact hce) hcv hcl T' rfl X'
    exact ⟨t2, st.trans a1, b1⟩
theorem vx_calld {S SX : Type} {post : UInt64 → S → Prop} {px : SX → Prop} {B : S → State → Prop} {BX : String → SX → State → Prop} {AX : Nat → Prop} (hr : vx_Run p l e R s m args below meth c H locs cells slots mc ms (F0 m pc ls st0) rest (va_Qd post B A1 a) (vx_X px BX AX) free) (hS : va_S A0 H0 H locs) (hA : ∀ q, q < H.size → A1 q → A0 q) (hf : ∀ q, free q → A0 q) (hAX : ∀ q, q < H.size → AX q → A0 q)
    (kx : ∀ (E : String) (ce : Cell) (q9 : Addr) (u : SX) (t : State) (H1 : Heap) (locs1 : List Loc), t.heap = H1 → s.vm.Alike t.vm → px u → BX E u t → H.size ≤ H1.size → (∀ q : Nat, q < H.size → ¬ AX q → H1[q]? = H[q]?) → va_S A0 H0 H1 locs1 → H1[q9]? = some ce → ce.vm = .none → s.vm.findClass E = some ce.cls → vx_W p l e R s m args below meth c H1 locs1 (cells + mc) (slots + ms) Q (F0 m pc ls rest) q9)
    (kk : ∀ (r : UInt64) (u : S) (t : State) (H1 : Heap) (locs1 : List Loc), t.heap = H1 → s.vm.Alike t.vm → post r u → B u t → H.size ≤ H1.size → (∀ q : Nat, q < H.size → ¬ A1 q → H1[q]? = H[q]?) → va_S A0 H0 H1 locs1 → W p l e R s m args below meth c H1 locs1 (cells + mc) (slots + ms) Q (F0 m (pc + 3) ls (.double r :: rest))) : W p l e R s m args below meth c H locs cells slots Q (F0 m pc ls st0) := by
  intro T hT X
  rcases hr T hT X with ⟨v, st₀, t, T', L, h0, X', hL, e1, e2, ⟨⟨r, u, hv, hp, hb⟩, hF⟩, st⟩ | ⟨q, st₀, t, T', L, E, ce, h0, X', hL, e1, e2, ⟨u, hp, hb, hF⟩, hce, hcv, hcl, st⟩
  · cases hv
    obtain ⟨k1, k2, k3⟩ := vx_keep h0 e1 hS hA hf hL hF
    obtain ⟨t2, a1, b1⟩ := kk r u t T'.heap (locs ++ L) e1.symm (by rw [← e2]; exact X'.warmed.alike) hp hb k1 k2 k3 T' rfl X'
    exact ⟨t2, st t2 a1, b1⟩
  · obtain ⟨k1, k2, k3⟩ := vx_keep h0 e1 hS hAX hf hL hF
    obtain ⟨t2, a1, b1⟩ := kx E ce q u t T'.heap (locs ++ L) e1.symm (by rw [← e2]; exact X'.warmed.alike) hp hb k1 k2 k3 (by rw [e1]; exact hce) hcv hcl T' rfl X'
    exact ⟨t2, st.trans a1, b1⟩
theorem vx_callv {S SX : Type} {post : S → Prop} {px : SX → Prop} {B : S → State → Prop} {BX : String → SX → State → Prop} {AX : Nat → Prop} (hr : vx_Run p l e R s m args below meth c H locs cells slots mc ms (F0 m pc ls st0) rest (va_Qv post B A1 a) (vx_X px BX AX) free) (hS : va_S A0 H0 H locs) (hA : ∀ q, q < H.size → A1 q → A0 q) (hf : ∀ q, free q → A0 q) (hAX : ∀ q, q < H.size → AX q → A0 q)
    (kx : ∀ (E : String) (ce : Cell) (q9 : Addr) (u : SX) (t : State) (H1 : Heap) (locs1 : List Loc), t.heap = H1 → s.vm.Alike t.vm → px u → BX E u t → H.size ≤ H1.size → (∀ q : Nat, q < H.size → ¬ AX q → H1[q]? = H[q]?) → va_S A0 H0 H1 locs1 → H1[q9]? = some ce → ce.vm = .none → s.vm.findClass E = some ce.cls → vx_W p l e R s m args below meth c H1 locs1 (cells + mc) (slots + ms) Q (F0 m pc ls rest) q9)
    (kk : ∀ (u : S) (t : State) (H1 : Heap) (locs1 : List Loc), t.heap = H1 → s.vm.Alike t.vm → post u → B u t → H.size ≤ H1.size → (∀ q : Nat, q < H.size → ¬ A1 q → H1[q]? = H[q]?) → va_S A0 H0 H1 locs1 → W p l e R s m args below meth c H1 locs1 (cells + mc) (slots + ms) Q (F0 m (pc + 3) ls (rest))) : W p l e R s m args below meth c H locs cells slots Q (F0 m pc ls st0) := by
  intro T hT X
  rcases hr T hT X with ⟨v, st₀, t, T', L, h0, X', hL, e1, e2, ⟨⟨u, hv, hp, hb⟩, hF⟩, st⟩ | ⟨q, st₀, t, T', L, E, ce, h0, X', hL, e1, e2, ⟨u, hp, hb, hF⟩, hce, hcv, hcl, st⟩
  · cases hv
    obtain ⟨k1, k2, k3⟩ := vx_keep h0 e1 hS hA hf hL hF
    obtain ⟨t2, a1, b1⟩ := kk u t T'.heap (locs ++ L) e1.symm (by rw [← e2]; exact X'.warmed.alike) hp hb k1 k2 k3 T' rfl X'
    exact ⟨t2, st t2 a1, b1⟩
  · obtain ⟨k1, k2, k3⟩ := vx_keep h0 e1 hS hAX hf hL hF
    obtain ⟨t2, a1, b1⟩ := kx E ce q u t T'.heap (locs ++ L) e1.symm (by rw [← e2]; exact X'.warmed.alike) hp hb k1 k2 k3 (by rw [e1]; exact hce) hcv hcl T' rfl X'
    exact ⟨t2, st.trans a1, b1⟩
theorem vx_catch {own name : String} {E : String} {ce : Cell} {q : Addr} (hown : s.vm.findClass own = some m.cls) (pre : List ExceptionTableEntry) (x : ExceptionTableEntry) (suf : List ExceptionTableEntry) (hsplit : c.exceptionTable.toList = pre ++ x :: suf)
    (hpass : ∀ z ∈ pre, covers z pc = false ∨ (z.catchType ≠ 0 ∧ ∃ nm : String, (Cond.classLink own z.catchType nm).before args s = true ∧ va_Nc E nm s)) (hx : covers x pc = true) (h0 : x.catchType ≠ 0)
    (hlink : (Cond.classLink own x.catchType name).before args s = true) (hcast : (Cond.castable E name).before args s = true) (hcell : H[q]? = some ce) (hv : ce.vm = .none) (hcl : s.vm.findClass E = some ce.cls)
    (kk : W p l e R s m args below meth c H locs cells slots Q (F0 m x.handlerPc ls [.ref q])) : vx_W p l e R s m args below meth c H locs cells slots Q (F0 m pc ls rest) q := by
  intro T hT X
  have hpl : e.platform.magicAccessors = ({} : Platform).magicAccessors := by rw [X.admits.platform]
  obtain ⟨c3, c4, hc3, hc4, hasg⟩ := Cond.castable_spec hcast
  cases Option.some.inj (hc3.symm.trans hcl)
  obtain ⟨c5, hc5, hcl5⟩ := Cond.classLink_spec hown hlink e.platform hpl
  cases Option.some.inj (hc4.symm.trans hc5)
  obtain ⟨vm', X', st⟩ := X.thenCaughtThrough q (g := F0 m pc ls rest) rfl (Steps.refl _) (by rw [hT]; exact hcell) (by rw [hv]; rfl) (by obtain ⟨k9, h9, -⟩ := Vm.findClass_spec hcl; exact ⟨k9, h9⟩) pre x suf hsplit
    (fun z hz => by
      rcases hpass z hz with h | ⟨hz0, nm, hl1, hn1⟩
      · exact Or.inl h
      · obtain ⟨c6, hc6, hcl6⟩ := Cond.classLink_spec hown hl1 e.platform hpl
        obtain ⟨a8, b8, h1, h2, h3⟩ := hn1
        cases Option.some.inj (h1.symm.trans hcl)
        cases Option.some.inj (h2.symm.trans hc6)
        exact Or.inr ⟨hz0, _, hcl6, h3⟩) hx (Or.inr ⟨h0, c4, hcl5, hasg⟩)
  obtain ⟨t, a1, b1⟩ := kk (T.setVm vm') hT X'
  exact ⟨t, st.trans a1, b1⟩
end Rows
section Ends
variable {p : Program} {l : Launch} {e : Env} {R : Room} {s : State} {m : MethodId} {args : Array Value} {below : List Frame} {meth : Method} {c : Code} {H : Heap} {locs : List Loc} {cells slots : Nat} {Q : State → Prop}
variable {mc ms : Nat} {free : Addr → Prop} {A0 A1 : Nat → Prop} {H0 : Heap} {a : Array Value} {ls : Array Slot} {st0 rest : List Value}
variable {Qc : Array Value → State → Outcome → State → Prop} {XC : String → State → State → Prop}
def vx_MQ (below : List Frame) (Qc : Array Value → State → Outcome → State → Prop) (XC : String → State → State → Prop) (a : Array Value) (s : State) (mc ms : Nat) (free : Addr → Prop) : State → Prop := fun t =>
  ∃ o, t.status = .running ∧ Ended t below o ∧ vx_Q Qc XC mc ms free a s o t
theorem vx_ret {g : JFrame} {mc ms : Nat} (k : W p l e R s m args below meth c H locs cells slots (MQ below Qc args s mc ms free) g) : W p l e R s m args below meth c H locs cells slots (vx_MQ below Qc XC args s mc ms free) g := by
  intro T hT X
  obtain ⟨t, a1, o, b1, b2, b3, b4⟩ := k T hT X
  exact ⟨t, a1, o, b1, b2, Or.inl ⟨b3, b4⟩⟩
theorem vx_widen {g : JFrame} {q : Addr} {k n : Nat} (h1 : cells ≤ k) (h2 : slots ≤ n) (kk : vx_W p l e R s m args below meth c H locs k n Q g q) : vx_W p l e R s m args below meth c H locs cells slots Q g q := fun T hT X => kk T hT (stand_widen X h1 h2)
theorem vx_out {pc : Nat} {E : String} {ce : Cell} {q : Addr} {mc ms : Nat} (hout : ∀ x ∈ c.exceptionTable.toList, covers x pc = false) (hlocks : meth.locks = false) (hcell : H[q]? = some ce) (hv : ce.vm = .none) (hcl : s.vm.findClass E = some ce.cls)
    (hx : ∀ t : State, t.heap = H → s.vm.Alike t.vm → XC E s t) (hf : ∀ z ∈ locs, free z.base) (hc : cells ≤ mc) (hs : slots ≤ ms) :
    vx_W p l e R s m args below meth c H locs cells slots (vx_MQ below Qc XC args s mc ms free) (F0 m pc ls rest) q := by
  intro T hT X
  obtain ⟨st1, hrun, hend, hW, hsm⟩ := X.leaveThrown q (g := F0 m pc ls rest) rfl rfl rfl hout hlocks
  have hcell9 : (T.setFrames (.throwing q :: below)).heap[q]? = some ce := by
    show T.heap[q]? = some ce
    rw [hT]; exact hcell
  exact ⟨_, st1, .threw q, hrun, hend, Or.inr ⟨q, rfl, E, ce, locs, hx _ hT hW.alike, hcell9, hv, hcl, hW, hsm.mono hc hs, hf⟩⟩
theorem vx_frame {U : State} {k n : Nat} (h : s.sameButNew ({ U with vm := s.vm } : State) locs k n) : s.heap.size ≤ U.heap.size ∧ ∀ q : Nat, q < s.heap.size → (∀ z ∈ locs, z.base ≠ q) → U.heap[q]? = s.heap[q]? := by
  obtain ⟨-, h2, -, -, -, h6⟩ := h
  refine ⟨h2, fun q hq hz => ?_⟩
  obtain ⟨c9, e1, e2, e3, e4⟩ := h6 q _ (Array.getElem?_eq_getElem hq)
  have hs : c9.slots = (s.heap[q]).slots := Array.ext_getElem? fun i => e4 i fun hm => hz _ hm rfl
  have h9 : c9 = s.heap[q] := by
    rw [hs] at e2
    exact e2
  have e5 : U.heap[q]? = some c9 := e1
  rw [e5, h9, Array.getElem?_eq_getElem hq]
def vx_no (w : Cond) : Bool := decide (w ≠ .isRef (.static Bundle.tN "UNASSIGNED_STACK" Bundle.steD)) && decide (w ≠ .isRef (.static Bundle.tN "SUPPRESSED_SENTINEL" Bundle.listD)) && decide (w ≠ .laysStatic Bundle.tN "UNASSIGNED_STACK" Bundle.steD) && decide (w ≠ .laysStatic Bundle.tN "SUPPRESSED_SENTINEL" Bundle.listD)
def vx_at0 (own : String) (ic : Nat) (X : String) (names : List String) : List Cond := (Bundle.ownAtoms0 own ic X names).filter vx_no
def vx_atS (own : String) (ic : Nat) (X : String) (names : List String) : List Cond := (Bundle.ownAtoms own ic X names).filter vx_no
def vx_ot (w : Cond) : Bool := w.onTables || goodWord w
theorem vx_ot_at {args a' : Array Value} {s U : State} {w : Cond} (hW : s.WarmedH U.vm) (hvm : s.vm = U.vm) (hg : vx_ot w = true) (h : w.before args s = true) : w.before a' U = true := by
  simp only [vx_ot, Bool.or_eq_true] at hg
  rcases hg with hg | hg
  · exact va_tabs hg hvm h
  · exact word_at hW (good_of_word hg) h
theorem vx_hat {args : Array Value} {s : State} {L B : List Cond} (h1 : ∀ w ∈ L.filter goodWord, w.before args s = true) (h2 : ∀ w ∈ L.filter (fun w => !goodWord w), w ∈ B) (h3 : ∀ w ∈ B, w.before args s = true) : ∀ w ∈ L, w.before args s = true := by
  intro w hw
  by_cases g : goodWord w = true
  · exact h1 w (List.mem_filter.mpr ⟨hw, g⟩)
  · refine h3 w (h2 w (List.mem_filter.mpr ⟨hw, ?_⟩))
    show (!goodWord w) = true
    cases hgw : goodWord w
    · rfl
    · exact absurd hgw g
theorem vx_c {args : Array Value} {s : State} {w : Cond} {B : List Cond} (h : w.before args s = true) (t : ∀ w ∈ B, w.before args s = true) : ∀ w' ∈ w :: B, w'.before args s = true := fun w' h' => (List.mem_cons.mp h').elim (fun e => by rw [e]; exact h) (t w')
theorem vx_n {args : Array Value} {s : State} : ∀ w ∈ ([] : List Cond), w.before args s = true := fun _ h => nomatch h
theorem vx_own {args : Array Value} {s : State} {L : List Cond} (h1 : ∀ w ∈ L.filter vx_no, w.before args s = true)
    (hU : (Cond.isRef (.static Bundle.tN "UNASSIGNED_STACK" Bundle.steD)).before args s = true) (hN : (Cond.isRef (.static Bundle.tN "SUPPRESSED_SENTINEL" Bundle.listD)).before args s = true)
    (lU : (Cond.laysStatic Bundle.tN "UNASSIGNED_STACK" Bundle.steD).before args s = true) (lN : (Cond.laysStatic Bundle.tN "SUPPRESSED_SENTINEL" Bundle.listD).before args s = true) : ∀ w ∈ L, w.before args s = true := by
  intro w hw
  by_cases e1 : w = .isRef (.static Bundle.tN "UNASSIGNED_STACK" Bundle.steD)
  · rw [e1]; exact hU
  · by_cases e2 : w = .isRef (.static Bundle.tN "SUPPRESSED_SENTINEL" Bundle.listD)
    · rw [e2]; exact hN
    · by_cases e3 : w = .laysStatic Bundle.tN "UNASSIGNED_STACK" Bundle.steD
      · rw [e3]; exact lU
      · by_cases e4 : w = .laysStatic Bundle.tN "SUPPRESSED_SENTINEL" Bundle.listD
        · rw [e4]; exact lN
        · exact h1 w (List.mem_filter.mpr ⟨hw, by unfold vx_no; rw [decide_eq_true e1, decide_eq_true e2, decide_eq_true e3, decide_eq_true e4]; rfl⟩)
def vx_L (C n d : String) (A : Nat → Prop) (U : State) (H : Heap) : Prop := ∃ (c : ClassId) (k : Class) (i : Nat) (f : Field) (a : Nat) (cell : Cell), U.vm.findClass C = some c ∧ U.fieldFound? C n d = some (c, k, i, f) ∧ f.isStatic = true ∧ k.statics = some a ∧ H[a]? = some cell ∧ cell.vm.isStatics = true ∧ cell.cls = c ∧ f.slot < cell.slots.size ∧ k.staticTypes[f.slot]? = some f.type ∧ ¬ A a
theorem vx_L.moved {C n d : String} {A : Nat → Prop} {u U : State} {H : Heap} (hvm : u.vm.Alike U.vm) (h : vx_L C n d A u H) : vx_L C n d A U H := by
  obtain ⟨c, k, i, f, a, cell, h1, h2, h3, h4, h5, h6, h7, h8, h9, h10⟩ := h
  obtain ⟨k', hi', he⟩ := State.fieldFound?_setVm hvm h2
  exact ⟨c, k', i, f, a, cell, by rw [hvm.findClass]; exact h1, hi', h3, by rw [he]; exact h4, h5, h6, h7, h8, by rw [he]; exact h9, h10⟩
theorem vx_L.kept {C n d : String} {A : Nat → Prop} {U : State} {H H1 : Heap} (h : vx_L C n d A U H) (hq : ∀ a : Nat, a < H.size → ¬ A a → H1[a]? = H[a]?) : vx_L C n d A U H1 := by
  obtain ⟨c, k, i, f, a, cell, h1, h2, h3, h4, h5, h6, h7, h8, h9, h10⟩ := h
  exact ⟨c, k, i, f, a, cell, h1, h2, h3, h4, by rw [hq a (Array.getElem?_eq_some_iff.mp h5).1 h10]; exact h5, h6, h7, h8, h9, h10⟩
theorem vx_L.narrow {C n d : String} {A B : Nat → Prop} {U : State} {H : Heap} (h : vx_L C n d A U H) (hAB : ∀ q, B q → A q) : vx_L C n d B U H := by
  obtain ⟨c, k, i, f, a, cell, h1, h2, h3, h4, h5, h6, h7, h8, h9, h10⟩ := h
  exact ⟨c, k, i, f, a, cell, h1, h2, h3, h4, h5, h6, h7, h8, h9, fun z => h10 (hAB _ z)⟩
theorem vx_L.word {C n d : String} {A : Nat → Prop} {s : State} {args : Array Value} (h : vx_L C n d A s s.heap) : (Cond.laysStatic C n d).before args s = true := by
  obtain ⟨c, k, i, f, a, cell, h1, h2, h3, h4, h5, h6, h7, h8, h9, -⟩ := h
  show (Cond.laysStatic C n d).holds args s none s [] = true
  exact Cond.laysStatic_of h1 h2 h3 h4 h5 h6 h7 h8 h9
def vx_Zq (C n d : String) (A : Nat → Prop) (U : State) (H : Heap) : Prop := va_Zq C n d A U H ∧ vx_L C n d A U H
theorem vx_Zq.moved {C n d : String} {A : Nat → Prop} {u U : State} {H : Heap} (hvm : u.vm.Alike U.vm) (h : vx_Zq C n d A u H) : vx_Zq C n d A U H := ⟨va_Zq.moved hvm h.1, vx_L.moved hvm h.2⟩
theorem vx_Zq.kept {C n d : String} {A : Nat → Prop} {U : State} {H H1 : Heap} (h : vx_Zq C n d A U H) (hq : ∀ a : Nat, a < H.size → ¬ A a → H1[a]? = H[a]?) : vx_Zq C n d A U H1 := ⟨va_Zq.kept h.1 hq, vx_L.kept h.2 hq⟩
theorem vx_Zq.narrow {C n d : String} {A B : Nat → Prop} {U : State} {H : Heap} (h : vx_Zq C n d A U H) (hAB : ∀ q, B q → A q) : vx_Zq C n d B U H := ⟨va_Zq.narrow h.1 hAB, vx_L.narrow h.2 hAB⟩
theorem vx_Zqof {args : Array Value} {s : State} {C n d : String} {A : Nat → Prop} (hl : (Cond.laysStatic C n d).before args s = true) (hini : (Cond.initialized C).before args s = true) (h : (Cond.isRef (.static C n d)).before args s = true) (hA : ∀ a : Nat, a < s.heap.size → ¬ A a) : vx_Zq C n d A s s.heap := by
  refine ⟨va_Zqof hl hini h hA, ?_⟩
  obtain ⟨c, k, i, f, a, cell, h1, h2, h3, h4, h5, h6, h7, h8, h9⟩ := Cond.laysStatic_spec hl
  exact ⟨c, k, i, f, a, cell, h1, h2, h3, h4, h5, h6, h7, h8, h9, hA a (Array.getElem?_eq_some_iff.mp h5).1⟩
theorem vx_isRef {C n d : String} {v : Value} {A : Nat → Prop} {s : State} {args : Array Value} (h : va_Z C n d v A s s.heap) (hv : v.isRef = true) : (Cond.isRef (.static C n d)).before args s = true := by
  obtain ⟨cf, kf, fi, f, a, cell, h1, h2, h3, h4, h5, h6, h7, -⟩ := h
  have he : (Term.static C n d).eval args s none [] s = some v := by
    simp [Term.eval, State.fieldNamed?, h1, h2, h4, h5, h6, h7]
  simp only [Cond.before, Cond.holds, Cond.value, he]
  cases v <;> simp_all [Value.isRef]
theorem vx_isRefq {C n d : String} {A : Nat → Prop} {s : State} {args : Array Value} (h : va_Zq C n d A s s.heap) : (Cond.isRef (.static C n d)).before args s = true := by
  rcases h with h | ⟨t, h⟩
  · exact vx_isRef h rfl
  · exact vx_isRef h rfl
theorem vx_rebase {T : State} (X : Stand p l e R s m args below meth c T locs cells slots) {R' : Room} (hf : R'.frames ≤ R.frames) (hl : R'.locals ≤ R.locals) (hc : cells + R'.cells ≤ R.cells) (hs : slots + R'.slots ≤ R.slots) :
    Stand p l e R' ((T.setVm s.vm).setFrames (.invoking m args :: below)) m args below meth c T [] 0 0 := by
  have htop : (T.setVm s.vm).topJava?.isSome := X.here.top
  have hF : ((T.setVm s.vm).setFrames (.invoking m args :: below)).frames = .invoking m args :: below := State.frames_setFrames _ (State.cur_lt_of_top htop)
  obtain ⟨g₀, hg0⟩ := Option.isSome_iff_exists.mp htop
  obtain ⟨r, hr⟩ := State.topJava?_eq_some.mp hg0
  have hl9 : e.platform.stackLimits (T.setVm s.vm).me = e.platform.stackLimits s.me := X.limits
  have hb9 : (T.setVm s.vm).me.stackBytes = s.me.stackBytes := X.bytes
  refine ⟨X.admits, X.cas, X.clock, hF, ?_, X.hears, X.method, X.code, X.here, X.tail, X.warmed, ?_, ?_, ?_⟩
  · have h := X.room
    have hU : ((T.setVm s.vm).setFrames (.invoking m args :: below)).localsInUse = s.localsInUse := by
      rw [State.localsInUse_invoking hF (meth := meth) (c := c) X.method X.code, State.localsInUse_invoking X.frames X.method X.code]
    simp only [State.hasRoom, Bool.and_eq_true, decide_eq_true_eq] at h ⊢
    obtain ⟨⟨⟨⟨h1, h2, h3, h4, h5, h6⟩, h7⟩, h8⟩, h9⟩ := h
    rw [X.frames, List.length_cons] at h2 h3
    have q1 := X.heapSize
    have q2 := X.used
    simp only [hF, hU, List.length_cons, State.stackLimits_setFrames, State.stackBytes_setFrames, hl9, hb9]
    refine ⟨⟨⟨⟨by omega, by omega, by omega, by omega, by omega, h6⟩, ?_⟩, ?_⟩, X.book⟩
    · show T.heap.size + R'.cells ≤ e.platform.maxCells
      omega
    · show T.slotsUsed + R'.slots ≤ e.platform.maxSlots
      omega
  · rw [State.stackLimits_setFrames]; rfl
  · rw [State.stackBytes_setFrames]; rfl
  · refine ⟨?_, Nat.le_refl _, Nat.le_refl _, ?_, ?_, fun a c9 h9 => ⟨c9, h9, rfl, rfl, fun _ _ => rfl⟩⟩
    · obtain ⟨t, ht, -⟩ := State.frames_cons hr
      show T.setVm s.vm = { ((T.setVm s.vm).setFrames (.invoking m args :: below)).setFrames (T.setVm s.vm).frames with heap := T.heap, slotsUsed := T.slotsUsed }
      rw [State.setFrames_setFrames, State.setFrames_self ht]
      rfl
    · show T.slotsUsed = T.slotsUsed + ((T.heap.toList.drop T.heap.size).map (·.slots.size)).sum
      rw [List.drop_eq_nil_of_le (Nat.le_of_eq Array.length_toList)]
      rfl
    · show ((T.heap.toList.drop T.heap.size).map (·.slots.size)).sum ≤ 0
      rw [List.drop_eq_nil_of_le (Nat.le_of_eq Array.length_toList)]
      exact Nat.le_refl _
theorem vx_throw0 {cc : ByteArray} {pc : Nat} (hexec : p.tables.exec = Jvm.exec) (hb : c.code = cc) (hl : l.stackTraces = false) {own cls : String} {names : List String} {ik ic mc ms : Nat} {A : Nat → Prop}
    (hown : s.vm.findClass own = some m.cls) (hcls : Bundle.fit cls = true) (hnames : ∀ n ∈ names, Bundle.fit n = true)
    (hk : (Cond.classLink own ik cls).before args s = true) (hini : (Cond.initialized cls).before args s = true) (hat : ∀ w ∈ vx_at0 own ic cls names, w.before args s = true)
    (hgood : ∀ w ∈ Cond.classLink own ik cls :: Cond.initialized cls :: vx_at0 own ic cls names, vx_ot w = true)
    (hU : vx_Zq Bundle.tN "UNASSIGNED_STACK" Bundle.steD A s s.heap) (hN : vx_Zq Bundle.tN "SUPPRESSED_SENTINEL" Bundle.listD A s s.heap) (hS : va_S A s.heap H locs) (hsize : ls.size = c.maxLocals)
    (d0 : decode cc pc = .ok (.new ik, 3)) (d3 : decode cc (pc + 3) = .ok (.dup, 1)) (d4 : decode cc (pc + 4) = .ok (.invokespecial ic, 3)) (d7 : decode cc (pc + 7) = .ok (.athrow, 1))
    (hout : ∀ x ∈ c.exceptionTable.toList, covers x (pc + 7) = false)
    (hRframes : names.length + 3 < R.frames) (hRlocals : (rest.map fun v => v.category).sum + (13 * (names.length + 1) + 42) ≤ R.locals) (hRcells : cells + 1 ≤ R.cells) (hRslots : slots + 6 ≤ R.slots) (hlocks : meth.locks = false)
    (hx : ∀ t : State, s.vm.Alike t.vm → H.size ≤ t.heap.size → (∀ q : Nat, q < H.size → t.heap[q]? = H[q]?) → XC cls s t)
    (hf : ∀ z ∈ locs, free z.base) (hc : cells + 1 ≤ mc) (hs : slots + 6 ≤ ms) :
    W p l e R s m args below meth c H locs cells slots (vx_MQ below Qc XC args s mc ms free) (F0 m pc ls rest) := by
  intro T hT X
  have htr : e.platform.stackTraces = false := (show e.platform.stackTraces = l.stackTraces by rw [X.admits.platform]).trans hl
  have Y := vx_rebase X (R' := { frames := R.frames, locals := R.locals, cells := 1, slots := 6 }) (Nat.le_refl _) (Nat.le_refl _) hRcells hRslots
  obtain ⟨s', hA⟩ : ∃ z, z = (T.setVm s.vm).setFrames (.invoking m args :: below) := ⟨_, rfl⟩
  rw [← hA] at Y
  have hvm : s'.vm = s.vm := by rw [hA]; rfl
  have hhp : s'.heap = H := by rw [hA]; exact hT
  have hW0 : s.WarmedH s'.vm := by rw [hvm]; exact State.WarmedH.refl s
  have hat' : ∀ w ∈ vx_at0 own ic cls names, w.before args s' = true := fun w hw => vx_ot_at hW0 hvm.symm (hgood w (List.mem_cons_of_mem _ (List.mem_cons_of_mem _ hw))) (hat w hw)
  have hk' : (Cond.classLink own ik cls).before args s' = true := vx_ot_at hW0 hvm.symm (hgood _ List.mem_cons_self) hk
  have hini' : (Cond.initialized cls).before args s' = true := vx_ot_at hW0 hvm.symm (hgood _ (List.mem_cons_of_mem _ List.mem_cons_self)) hini
  have hU' : vx_Zq Bundle.tN "UNASSIGNED_STACK" Bundle.steD A s' s'.heap := by rw [hhp]; exact vx_Zq.moved hW0.alike (hU.kept hS.2.1)
  have hN' : vx_Zq Bundle.tN "SUPPRESSED_SENTINEL" Bundle.listD A s' s'.heap := by rw [hhp]; exact vx_Zq.moved hW0.alike (hN.kept hS.2.1)
  have h : ∀ w ∈ Bundle.ownAtoms0 own ic cls names, w.before args s' = true := vx_own hat' (vx_isRefq hU'.1) (vx_isRefq hN'.1) hU'.2.word hN'.2.word
  have hown' : s'.vm.findClass own = some m.cls := by rw [hvm]; exact hown
  have hins : (Cond.instantiable cls 6).before args s' = true := h _ (by simp [Bundle.ownAtoms0])
  obtain ⟨vm₁, cX, kX, hfX, hkX, -, -, X₁, st1⟩ := Y.newCold hexec (own := own) (C := cls) (index := ik) (n := 6) hown' hk' hins hini'
    (g := F0 m pc ls rest) rfl (by rw [hb]; exact d0) (Nat.le_refl _) (Nat.le_refl _)
  generalize hT1 : (T.setVm vm₁).pushCell { cls := cX, slots := kX.instanceTypes.map defaultValue, vm := .none } = T1 at X₁ st1
  have hcat : (Value.ref T.heap.size).category = 1 := rfl
  have hcellA : T1.heap[T.heap.size]? = some (freshCell cX kX) := by rw [← hT1]; exact State.heap_pushCell_size _ _
  have d3' : decode c.code (pc + 3) = .ok (.dup, 1) := by rw [hb]; exact d3
  obtain ⟨U, hsteps, hrun, hend, hW, hsame, ce, hce, hO⟩ := X₁.ctorThrow0 hexec htr (own := own) (cls := cls) (names := names) (ic := ic) hown' hcls hnames h (fun x hx => nomatch hx) hfX hkX hcellA (by rw [hhp, hT]; exact Nat.le_refl _)
    (g := { method := m, pc := pc + 4, locals := ls, stack := .ref T.heap.size :: .ref T.heap.size :: rest, locked := none }) rfl hsize rfl rfl (rest := rest) rfl
    (by rw [hb]; exact d4) (by rw [hb]; exact d7) hout hRframes (by simp only [List.map_cons, List.sum_cons, hcat]; omega) hlocks
  obtain ⟨f1, f2⟩ := vx_frame hsame
  rw [hhp] at f1 f2
  have hWs : s.WarmedH U.vm := State.WarmedH.trans hW0 hW
  have hcl : s.vm.findClass cls = some ce.cls := by
    have h9 := hO.cls
    rw [hvm] at h9
    exact h9
  have hall : s.sameButNew ({ U with vm := s.vm } : State) locs mc ms := by
    subst hA
    obtain ⟨e1, e2⟩ := hsame
    rw [State.setFrames_setFrames] at e1
    have h2 : (T.setVm s.vm).sameButNew ({ U with vm := s.vm } : State) [] (0 + 1) (0 + 6) := ⟨e1, e2⟩
    have h3 := X.same.trans h2
    rw [List.append_nil] at h3
    exact h3.mono hc hs
  refine ⟨U, ?_, .threw T.heap.size, hrun, hend, Or.inr ⟨T.heap.size, rfl, cls, ce, locs, hx U hWs.alike f1 (fun q hq => f2 q hq (fun z hz => nomatch hz)), hce, hO.vm, hcl, hWs, hall, hf⟩⟩
  refine st1 _ ?_
  show Steps p.tables e below (T1.setTop { method := m, pc := pc + 3, locals := ls, stack := .ref T.heap.size :: rest, locked := none }) _
  jvm_step X₁.here [X₁.here.top, hexec, d3', Value.category]
  exact hsteps
theorem vx_throwS {cc : ByteArray} {pc : Nat} (hexec : p.tables.exec = Jvm.exec) (hb : c.code = cc) (hl : l.stackTraces = false) {own cls text : String} {names : List String} {ik is ic mc ms sa : Nat} {A : Nat → Prop}
    (hown : s.vm.findClass own = some m.cls) (hcls : Bundle.fit cls = true) (hnames : ∀ n ∈ names, Bundle.fit n = true)
    (hk : (Cond.classLink own ik cls).before args s = true) (hini : (Cond.initialized cls).before args s = true) (hstr : vk_R own is text sa s) (hat : ∀ w ∈ vx_atS own ic cls names, w.before args s = true)
    (hgood : ∀ w ∈ Cond.classLink own ik cls :: Cond.initialized cls :: vx_atS own ic cls names, vx_ot w = true)
    (hU : vx_Zq Bundle.tN "UNASSIGNED_STACK" Bundle.steD A s s.heap) (hN : vx_Zq Bundle.tN "SUPPRESSED_SENTINEL" Bundle.listD A s s.heap) (hS : va_S A s.heap H locs) (hsize : ls.size = c.maxLocals)
    (d0 : decode cc pc = .ok (.new ik, 3)) (d3 : decode cc (pc + 3) = .ok (.dup, 1)) (d4 : decode cc (pc + 4) = .ok (.ldc is, 2)) (d6 : decode cc (pc + 6) = .ok (.invokespecial ic, 3)) (d9 : decode cc (pc + 9) = .ok (.athrow, 1))
    (hout : ∀ x ∈ c.exceptionTable.toList, covers x (pc + 9) = false)
    (hRframes : names.length + 3 < R.frames) (hRlocals : (rest.map fun v => v.category).sum + (13 * (names.length + 1) + 43) ≤ R.locals) (hRcells : cells + 1 ≤ R.cells) (hRslots : slots + 6 ≤ R.slots) (hlocks : meth.locks = false)
    (hx : ∀ t : State, s.vm.Alike t.vm → H.size ≤ t.heap.size → (∀ q : Nat, q < H.size → t.heap[q]? = H[q]?) → XC cls s t)
    (hf : ∀ z ∈ locs, free z.base) (hc : cells + 1 ≤ mc) (hs : slots + 6 ≤ ms) :
    W p l e R s m args below meth c H locs cells slots (vx_MQ below Qc XC args s mc ms free) (F0 m pc ls rest) := by
  intro T hT X
  have htr : e.platform.stackTraces = false := (show e.platform.stackTraces = l.stackTraces by rw [X.admits.platform]).trans hl
  have Y := vx_rebase X (R' := { frames := R.frames, locals := R.locals, cells := 1, slots := 6 }) (Nat.le_refl _) (Nat.le_refl _) hRcells hRslots
  obtain ⟨s', hA⟩ : ∃ z, z = (T.setVm s.vm).setFrames (.invoking m args :: below) := ⟨_, rfl⟩
  rw [← hA] at Y
  have hvm : s'.vm = s.vm := by rw [hA]; rfl
  have hhp : s'.heap = H := by rw [hA]; exact hT
  have hW0 : s.WarmedH s'.vm := by rw [hvm]; exact State.WarmedH.refl s
  have hat' : ∀ w ∈ vx_atS own ic cls names, w.before args s' = true := fun w hw => vx_ot_at hW0 hvm.symm (hgood w (List.mem_cons_of_mem _ (List.mem_cons_of_mem _ hw))) (hat w hw)
  have hk' : (Cond.classLink own ik cls).before args s' = true := vx_ot_at hW0 hvm.symm (hgood _ List.mem_cons_self) hk
  have hini' : (Cond.initialized cls).before args s' = true := vx_ot_at hW0 hvm.symm (hgood _ (List.mem_cons_of_mem _ List.mem_cons_self)) hini
  have hU' : vx_Zq Bundle.tN "UNASSIGNED_STACK" Bundle.steD A s' s'.heap := by rw [hhp]; exact vx_Zq.moved hW0.alike (hU.kept hS.2.1)
  have hN' : vx_Zq Bundle.tN "SUPPRESSED_SENTINEL" Bundle.listD A s' s'.heap := by rw [hhp]; exact vx_Zq.moved hW0.alike (hN.kept hS.2.1)
  have h : ∀ w ∈ Bundle.ownAtoms own ic cls names, w.before args s' = true := vx_own hat' (vx_isRefq hU'.1) (vx_isRefq hN'.1) hU'.2.word hN'.2.word
  have hown' : s'.vm.findClass own = some m.cls := by rw [hvm]; exact hown
  have hins : (Cond.instantiable cls 6).before args s' = true := h _ (by simp [Bundle.ownAtoms])
  obtain ⟨vm₁, cX, kX, hfX, hkX, -, -, X₁, st1⟩ := Y.newCold hexec (own := own) (C := cls) (index := ik) (n := 6) hown' hk' hins hini'
    (g := F0 m pc ls rest) rfl (by rw [hb]; exact d0) (Nat.le_refl _) (Nat.le_refl _)
  generalize hT1 : (T.setVm vm₁).pushCell { cls := cX, slots := kX.instanceTypes.map defaultValue, vm := .none } = T1 at X₁ st1
  have hcat : (Value.ref T.heap.size).category = 1 := rfl
  have hcellA : T1.heap[T.heap.size]? = some (freshCell cX kX) := by rw [← hT1]; exact State.heap_pushCell_size _ _
  have d3' : decode c.code (pc + 3) = .ok (.dup, 1) := by rw [hb]; exact d3
  have d4' : decode c.code (pc + 4) = .ok (.ldc is, 2) := by rw [hb]; exact d4
  have hstr' : vk_R own is text sa s' := vk_R.warm hW0 hstr
  obtain ⟨U, hsteps, hrun, hend, hW, hsame, ce, hce, hO⟩ := X₁.ctorThrowS hexec htr (own := own) (cls := cls) (names := names) (ic := ic) hown' hcls hnames h (fun x hx => nomatch hx) hfX hkX hcellA (by rw [hhp, hT]; exact Nat.le_refl _) (msg := .ref sa) rfl
    (g := { method := m, pc := pc + 6, locals := ls, stack := .ref sa :: .ref T.heap.size :: .ref T.heap.size :: rest, locked := none }) rfl hsize rfl rfl (rest := rest) rfl
    (by rw [hb]; exact d6) (by rw [hb]; exact d9) hout hRframes (by simp only [List.map_cons, List.sum_cons, hcat]; omega) hlocks
  obtain ⟨f1, f2⟩ := vx_frame hsame
  rw [hhp] at f1 f2
  have hWs : s.WarmedH U.vm := State.WarmedH.trans hW0 hW
  have hcl : s.vm.findClass cls = some ce.cls := by
    have h9 := hO.cls
    rw [hvm] at h9
    exact h9
  have hall : s.sameButNew ({ U with vm := s.vm } : State) locs mc ms := by
    subst hA
    obtain ⟨e1, e2⟩ := hsame
    rw [State.setFrames_setFrames] at e1
    have h2 : (T.setVm s.vm).sameButNew ({ U with vm := s.vm } : State) [] (0 + 1) (0 + 6) := ⟨e1, e2⟩
    have h3 := X.same.trans h2
    rw [List.append_nil] at h3
    exact h3.mono hc hs
  refine ⟨U, ?_, .threw T.heap.size, hrun, hend, Or.inr ⟨T.heap.size, rfl, cls, ce, locs, hx U hWs.alike f1 (fun q hq => f2 q hq (fun z hz => nomatch hz)), hce, hO.vm, hcl, hWs, hall, hf⟩⟩
  refine st1 _ ?_
  show Steps p.tables e below (T1.setTop { method := m, pc := pc + 3, locals := ls, stack := .ref T.heap.size :: rest, locked := none }) _
  jvm_step X₁.here [X₁.here.top, hexec, d3', Value.category]
  exact X₁.ldcString hexec (own := own) (text := text) (index := is) (a := sa) hown' hstr'.1 hstr'.2
    (g := { method := m, pc := pc + 4, locals := ls, stack := .ref T.heap.size :: .ref T.heap.size :: rest, locked := none }) rfl d4' _ hsteps
theorem vx_throwSW {cc : ByteArray} {pc : Nat} (hexec : p.tables.exec = Jvm.exec) (hb : c.code = cc) (hl : l.stackTraces = false) {own cls text : String} {names : List String} {ik is ic mc ms sa : Nat} {A : Nat → Prop}
    (hown : s.vm.findClass own = some m.cls) (hcls : Bundle.fit cls = true) (hnames : ∀ n ∈ names, Bundle.fit n = true)
    (hk : (Cond.classLink own ik cls).before args s = true) (hini : (Cond.initialized cls).before args s = true) (hstr : vk_R own is text sa s) (hat : ∀ w ∈ vx_atS own ic cls names, w.before args s = true)
    (hgood : ∀ w ∈ Cond.classLink own ik cls :: Cond.initialized cls :: vx_atS own ic cls names, vx_ot w = true)
    (hU : vx_Zq Bundle.tN "UNASSIGNED_STACK" Bundle.steD A s s.heap) (hN : vx_Zq Bundle.tN "SUPPRESSED_SENTINEL" Bundle.listD A s s.heap) (hS : va_S A s.heap H locs) (hsize : ls.size = c.maxLocals)
    (d0 : decode cc pc = .ok (.new ik, 3)) (d3 : decode cc (pc + 3) = .ok (.dup, 1)) (d4 : decode cc (pc + 4) = .ok (.ldc_w is, 3)) (d7 : decode cc (pc + 7) = .ok (.invokespecial ic, 3)) (d10 : decode cc (pc + 10) = .ok (.athrow, 1))
    (hout : ∀ x ∈ c.exceptionTable.toList, covers x (pc + 10) = false)
    (hRframes : names.length + 3 < R.frames) (hRlocals : (rest.map fun v => v.category).sum + (13 * (names.length + 1) + 43) ≤ R.locals) (hRcells : cells + 1 ≤ R.cells) (hRslots : slots + 6 ≤ R.slots) (hlocks : meth.locks = false)
    (hx : ∀ t : State, s.vm.Alike t.vm → H.size ≤ t.heap.size → (∀ q : Nat, q < H.size → t.heap[q]? = H[q]?) → XC cls s t)
    (hf : ∀ z ∈ locs, free z.base) (hc : cells + 1 ≤ mc) (hs : slots + 6 ≤ ms) :
    W p l e R s m args below meth c H locs cells slots (vx_MQ below Qc XC args s mc ms free) (F0 m pc ls rest) := by
  intro T hT X
  have htr : e.platform.stackTraces = false := (show e.platform.stackTraces = l.stackTraces by rw [X.admits.platform]).trans hl
  have Y := vx_rebase X (R' := { frames := R.frames, locals := R.locals, cells := 1, slots := 6 }) (Nat.le_refl _) (Nat.le_refl _) hRcells hRslots
  obtain ⟨s', hA⟩ : ∃ z, z = (T.setVm s.vm).setFrames (.invoking m args :: below) := ⟨_, rfl⟩
  rw [← hA] at Y
  have hvm : s'.vm = s.vm := by rw [hA]; rfl
  have hhp : s'.heap = H := by rw [hA]; exact hT
  have hW0 : s.WarmedH s'.vm := by rw [hvm]; exact State.WarmedH.refl s
  have hat' : ∀ w ∈ vx_atS own ic cls names, w.before args s' = true := fun w hw => vx_ot_at hW0 hvm.symm (hgood w (List.mem_cons_of_mem _ (List.mem_cons_of_mem _ hw))) (hat w hw)
  have hk' : (Cond.classLink own ik cls).before args s' = true := vx_ot_at hW0 hvm.symm (hgood _ List.mem_cons_self) hk
  have hini' : (Cond.initialized cls).before args s' = true := vx_ot_at hW0 hvm.symm (hgood _ (List.mem_cons_of_mem _ List.mem_cons_self)) hini
  have hU' : vx_Zq Bundle.tN "UNASSIGNED_STACK" Bundle.steD A s' s'.heap := by rw [hhp]; exact vx_Zq.moved hW0.alike (hU.kept hS.2.1)
  have hN' : vx_Zq Bundle.tN "SUPPRESSED_SENTINEL" Bundle.listD A s' s'.heap := by rw [hhp]; exact vx_Zq.moved hW0.alike (hN.kept hS.2.1)
  have h : ∀ w ∈ Bundle.ownAtoms own ic cls names, w.before args s' = true := vx_own hat' (vx_isRefq hU'.1) (vx_isRefq hN'.1) hU'.2.word hN'.2.word
  have hown' : s'.vm.findClass own = some m.cls := by rw [hvm]; exact hown
  have hins : (Cond.instantiable cls 6).before args s' = true := h _ (by simp [Bundle.ownAtoms])
  obtain ⟨vm₁, cX, kX, hfX, hkX, -, -, X₁, st1⟩ := Y.newCold hexec (own := own) (C := cls) (index := ik) (n := 6) hown' hk' hins hini'
    (g := F0 m pc ls rest) rfl (by rw [hb]; exact d0) (Nat.le_refl _) (Nat.le_refl _)
  generalize hT1 : (T.setVm vm₁).pushCell { cls := cX, slots := kX.instanceTypes.map defaultValue, vm := .none } = T1 at X₁ st1
  have hcat : (Value.ref T.heap.size).category = 1 := rfl
  have hcellA : T1.heap[T.heap.size]? = some (freshCell cX kX) := by rw [← hT1]; exact State.heap_pushCell_size _ _
  have d3' : decode c.code (pc + 3) = .ok (.dup, 1) := by rw [hb]; exact d3
  have d4' : decode c.code (pc + 4) = .ok (.ldc_w is, 3) := by rw [hb]; exact d4
  have hstr' : vk_R own is text sa s' := vk_R.warm hW0 hstr
  obtain ⟨U, hsteps, hrun, hend, hW, hsame, ce, hce, hO⟩ := X₁.ctorThrowS hexec htr (own := own) (cls := cls) (names := names) (ic := ic) hown' hcls hnames h (fun x hx => nomatch hx) hfX hkX hcellA (by rw [hhp, hT]; exact Nat.le_refl _) (msg := .ref sa) rfl
    (g := { method := m, pc := pc + 7, locals := ls, stack := .ref sa :: .ref T.heap.size :: .ref T.heap.size :: rest, locked := none }) rfl hsize rfl rfl (rest := rest) rfl
    (by rw [hb]; exact d7) (by rw [hb]; exact d10) hout hRframes (by simp only [List.map_cons, List.sum_cons, hcat]; omega) hlocks
  obtain ⟨f1, f2⟩ := vx_frame hsame
  rw [hhp] at f1 f2
  have hWs : s.WarmedH U.vm := State.WarmedH.trans hW0 hW
  have hcl : s.vm.findClass cls = some ce.cls := by
    have h9 := hO.cls
    rw [hvm] at h9
    exact h9
  have hall : s.sameButNew ({ U with vm := s.vm } : State) locs mc ms := by
    subst hA
    obtain ⟨e1, e2⟩ := hsame
    rw [State.setFrames_setFrames] at e1
    have h2 : (T.setVm s.vm).sameButNew ({ U with vm := s.vm } : State) [] (0 + 1) (0 + 6) := ⟨e1, e2⟩
    have h3 := X.same.trans h2
    rw [List.append_nil] at h3
    exact h3.mono hc hs
  refine ⟨U, ?_, .threw T.heap.size, hrun, hend, Or.inr ⟨T.heap.size, rfl, cls, ce, locs, hx U hWs.alike f1 (fun q hq => f2 q hq (fun z hz => nomatch hz)), hce, hO.vm, hcl, hWs, hall, hf⟩⟩
  refine st1 _ ?_
  show Steps p.tables e below (T1.setTop { method := m, pc := pc + 3, locals := ls, stack := .ref T.heap.size :: rest, locked := none }) _
  jvm_step X₁.here [X₁.here.top, hexec, d3', Value.category]
  exact X₁.ldcStringW hexec (own := own) (text := text) (index := is) (a := sa) hown' hstr'.1 hstr'.2
    (g := { method := m, pc := pc + 4, locals := ls, stack := .ref T.heap.size :: .ref T.heap.size :: rest, locked := none }) rfl d4' _ hsteps
end Ends
section Bodies
variable {l : Launch}
theorem vx_ofW {y : MethodName} {ws ws' : List Cond} {rm : Room} {Pc : Array Value → State → Prop} {Qc : Array Value → State → Outcome → State → Prop} {XC : String → State → State → Prop} {mc ms : Nat} {free : Addr → Prop} {cc : ByteArray} {maxL : Nat} {ret : Option FieldType}
    (hy : plainName y.cls = true) (hw : ws = Cond.code y cc maxL ret :: ws')
    (body : ∀ p e s m args below meth c s₁, BodyLoose p l y (headSpec ws rm) cc maxL ret e s m args below meth c s₁ → c.maxLocals = maxL → (∀ x ∈ c.exceptionTable.toList, False) → Pc args s →
      W p l e (headSpec ws rm).room s m args below meth c s.heap [] 0 0 (vx_MQ below Qc XC args s mc ms free) (entryFrame m args maxL)) : vx_Met l y ws rm Pc Qc XC mc ms free := by
  refine MetFree.of_bodyS (code := cc) (maxLocals := maxL) (ret := ret) hy ?_ ?_
  · intro args s m h hn
    obtain ⟨meth, c, h1, h2, h3, h4, h5, h6, -, -⟩ := Cond.code_spec hn (atoms_spec (ws := ws) h _ (by rw [hw]; exact List.mem_cons_self))
    exact ⟨meth, c, h1, h2, h3, h4, h5, h6⟩
  · intro p e s m args below meth c s₁ B hml hP _
    have hh0 : s₁.heap = s.heap := by rw [B.state]; rfl
    have ht : ∀ x ∈ c.exceptionTable.toList, False := by
      obtain ⟨meth9, c9, h1, h2, -, -, -, -, h7, -⟩ := Cond.code_spec B.named (atoms_spec (ws := ws) B.pre _ (by rw [hw]; exact List.mem_cons_self))
      cases Option.some.inj (h1.symm.trans B.method)
      cases Option.some.inj (h2.symm.trans (Stand.of_body B).code)
      intro x hx
      rw [Array.isEmpty_iff.mp h7] at hx
      cases hx
    obtain ⟨t, a1, o, b1, b2, b3⟩ := body p e s m args below meth c s₁ B hml ht hP s₁ hh0 (Stand.of_body B)
    exact ⟨t, o, a1, b1, b2, b3⟩
theorem vx_table {p : Program} {x y : MethodName} {S : Spec} {cc bytes : ByteArray} {maxL maxL' : Nat} {ret ret' : Option FieldType} {e : Env} {s s₁ : State} {m : MethodId} {args : Array Value} {below : List Frame} {meth : Method} {c : Code} {hh : List (Nat × Nat × Nat × Nat)}
    (B : BodyLoose p l y S cc maxL ret e s m args below meth c s₁) (h : (Cond.codeWith y bytes maxL' ret' hh).before args s = true) : c.exceptionTable.toList = tableOf hh := by
  obtain ⟨m9, meth9, c9, hn9, h1, h2, -, -, h6, -⟩ := Cond.codeWith_spec h
  cases Option.some.inj (hn9.symm.trans B.named)
  cases Option.some.inj (h1.symm.trans B.method)
  cases Option.some.inj (h2.symm.trans (Stand.of_body B).code)
  rw [← h6, table_eq]
end Bodies
end VXA
section VXS
variable {p : Program} {l : Launch} {e : Env} {R : Room} {s : State} {m : MethodId} {args : Array Value} {below : List Frame} {meth : Method} {c : Code} {T : State} {H : Heap} {locs : List Loc} {cells slots : Nat}
abbrev vx_CSW (R : Room) (s : State) (args : Array Value) (own : String) (index : Nat) (y : MethodName) (bytes : ByteArray) (maxL : Nat) (ret : Option FieldType) (hh : List (Nat × Nat × Nat × Nat)) (ws : List Cond) (rm : Room) (mc ms n : Nat) : Prop :=
  (rm.cells = mc ∧ rm.slots = ms ∧ rm.frames + 1 ≤ R.frames ∧ 8 + (maxL + 11) + rm.locals ≤ R.locals ∧ (∀ w ∈ ws, ∀ (a' : Array Value) (U : State), s.WarmedH U.vm → w.before a' U = true) ∧ Cond.codeWith y bytes maxL ret hh ∈ ws) ∧
  (Cond.codeWith y bytes maxL ret hh).before args s = true ∧ (Cond.initialized y.cls).before args s = true ∧ (y.cls ≠ "java/lang/invoke/MethodHandle" ∧ y.cls ≠ "java/lang/invoke/VarHandle") ∧
  (∀ sig, parseMethodDescriptor y.desc = some sig → n = sig.parameters.length) ∧ (Cond.methodLink own index y).before args s = true ∧ (Cond.static y).before args s = true
theorem vx_cwSW {own : String} {index maxL mc ms : Nat} {y : MethodName} {bytes : ByteArray} {ret : Option FieldType} {hh : List (Nat × Nat × Nat × Nat)} {Ts ws ws' : List Cond} {rm : Room} (n : Nat) (ht : ∀ w ∈ Ts, w.before args s = true) (hT : GoodIn Ts (va_wsS own index y ws)) (hw : ws = Cond.codeWith y bytes maxL ret hh :: ws') (hrc : rm.cells = mc) (hrs : rm.slots = ms)
    (hd : y.cls ≠ "java/lang/invoke/MethodHandle" ∧ y.cls ≠ "java/lang/invoke/VarHandle" ∧ (parseMethodDescriptor y.desc).map (fun d => d.parameters.length) = some n) (hR : rm.frames + 1 ≤ R.frames ∧ 8 + (maxL + 11) + rm.locals ≤ R.locals) :
    vx_CSW R s args own index y bytes maxL ret hh ws rm mc ms n := by
  have ok : ∀ w ∈ va_wsS own index y ws, w.before args s = true := fun w h => ht w (hT w h).1
  have hG : GoodIn Ts ws := fun w h => hT w (by unfold va_wsS; exact List.mem_append_right _ h)
  have hc : Cond.codeWith y bytes maxL ret hh ∈ ws := by rw [hw]; exact List.mem_cons_self
  refine ⟨⟨hrc, hrs, hR.1, hR.2, pay_in ht hG, hc⟩, ht _ (hG _ hc).1, ok _ (by simp [va_wsS]), ⟨hd.1, hd.2.1⟩, fun sig h => ?_, ok _ (by simp [va_wsS]), ok _ (by simp [va_wsS])⟩
  have h2 := hd.2.2
  rw [h] at h2
  exact (Option.some.inj h2).symm
theorem vx_callSW (X : Stand p l e R s m args below meth c T locs cells slots) (hexec : p.tables.exec = Jvm.exec) {own : String} {index : Nat} {y : MethodName} {bytes : ByteArray} {maxL : Nat} {ret : Option FieldType} {hh : List (Nat × Nat × Nat × Nat)}
    (hown : s.vm.findClass own = some m.cls) (hlink : (Cond.methodLink own index y).before args s = true) (hstat : (Cond.static y).before args s = true) (hinit : (Cond.initialized y.cls).before args s = true)
    (hcode : (Cond.codeWith y bytes maxL ret hh).before args s = true) (hy : y.cls ≠ "java/lang/invoke/MethodHandle" ∧ y.cls ≠ "java/lang/invoke/VarHandle")
    {W9 : Nat} {Pre : Pt → Array Value → Prop} {Post : Pt → Array Value → Option Value → Pt → Prop} (hK : Back l R p e below s args y 3 W9 Pre Post)
    {g : JFrame} (hg : g.method = m) (hsize : g.locals.size = c.maxLocals) {argsL rest : List Value} (hlen : ∀ sig, parseMethodDescriptor y.desc = some sig → argsL.length = sig.parameters.length)
    (hstack : g.stack = argsL.reverse ++ rest) (hW : 2 * g.monitorRoom + (rest.map fun v => v.category).sum ≤ W9) (hdg : decode c.code g.pc = .ok (.invokestatic index, 3))
    (hpre : ∀ vm₁, s.WarmedH vm₁ → Pre ⟨T.setVm vm₁, locs, cells, slots⟩ argsL.toArray) :
    ∃ (v : Option Value) (vm₁ : Vm) (B : Pt), s.WarmedH vm₁ ∧ Stand p l e R s m args below meth c B.U B.locs B.cells B.slots ∧ Post ⟨T.setVm vm₁, locs, cells, slots⟩ argsL.toArray v B ∧
      ∀ target, Steps p.tables e below (B.U.setTop { g with pc := g.pc + 3, stack := v.toList ++ rest }) target → Steps p.tables e below (T.setTop g) target := by
  obtain ⟨mk, methM, cM, hnamed, hmethM, -, -, -, -, -, -, hsigM⟩ := Cond.codeWith_spec hcode
  have hstatic : methM.isStatic = true := Cond.static_spec hnamed hmethM hstat
  obtain ⟨kP, hkP, -⟩ := className_of_methodNamed hnamed
  have hinitP : kP.init = .initialized := Cond.initialized_spec (findClass_of_methodNamed hnamed) hkP hinit
  obtain ⟨vm₁, X₁, hstep₁⟩ := X.invokestatic hexec hown hlink hnamed hmethM hstatic hkP hinitP hy (g := g) hg (argsL := argsL) (rest := rest) (hlen _ hsigM) hstack hdg
  obtain ⟨v, B, X', hpost, hsteps⟩ := hK m meth c ⟨T.setVm vm₁, locs, cells, slots⟩ { g with stack := rest } (.invokestatic index) mk argsL.toArray X₁ hg hsize hdg hW (X₁.named hnamed) (hpre vm₁ X₁.warmed)
  exact ⟨v, vm₁, B, X₁.warmed, X', hpost, fun target h => hstep₁ _ fun acts => by rw [doInvoke_state]; exact hsteps.trans h⟩
theorem vx_runSW {y : MethodName} {bytes cc : ByteArray} {maxL nL mc ms n index : Nat} {ret : Option FieldType} {hh : List (Nat × Nat × Nat × Nat)} {ws : List Cond} {rm : Room} {Pc : Array Value → State → Prop} {Qc : Array Value → State → Outcome → State → Prop} {free : Addr → Prop} {Ts : List Cond} {own : String} {As rest : List Value} {g : JFrame}
    (S : CallFix p m c cc nL s args Ts own) (hM : Met l y ws rm Pc Qc mc ms free) (cw : vx_CSW R s args own index y bytes maxL ret hh ws rm mc ms n) (hp : PreS s H Pc As)
    (hg : g.method = m) (hn : As.length = n) (hsize : g.locals.size = nL) (hstack : g.stack = As.reverse ++ rest) (hW : 2 * g.monitorRoom + (rest.map fun v => v.category).sum ≤ 8) (hdg : decode cc g.pc = .ok (.invokestatic index, 3)) (hf : cells + mc ≤ R.cells ∧ slots + ms ≤ R.slots) :
    va_Run p l e R s m args below meth c H locs cells slots mc ms g rest (Qc As.toArray) (free) := by
  obtain ⟨⟨hrc, hrs, hfr, hlo, hws, hcw⟩, hcode, hini, hy, hlen, hl, hstt⟩ := cw
  have hK : Back l R p e below s args y 3 8 (PreOf R mc ms Pc) (PostOf Qc mc ms free) := va_backW (hh := hh) (bytes := bytes) (maxL := maxL) (ret := ret) hM hp.1 hrc hrs hfr hlo hws hcw (fun a' U hW => word_at hW (Or.inl (by first | rfl | simp [Cond.onTables, Cond.keeps, Cond.steady])) hini)
  obtain ⟨hx, hb, hml, ho, -⟩ := S
  intro T hT X
  obtain ⟨v, vm₁, ⟨U', l2, c2, s2⟩, hW₁, X', ⟨g', mk, t, L, e1, e2, hq, h1, hL, h2, h3⟩, st⟩ := vx_callSW X hx (hh := hh) (bytes := bytes) (maxL := maxL) (ret := ret) ho hl hstt hini hcode hy hK hg (hsize.trans hml.symm) (argsL := As) (rest := rest) (fun sig h => hn.trans (hlen sig h)) hstack hW (by rw [hb]; exact hdg)
    (fun vm₁ hW₁ => ⟨hf.1, hf.2, hp.2 (T.setVm vm₁) hT hW₁⟩)
  dsimp only [Pt.U, Pt.locs, Pt.cells, Pt.slots] at X' e1 e2 h1 h2 h3 st
  subst h1; subst h2; subst h3
  exact ⟨v, (T.setVm vm₁).calling g' mk As.toArray, t, U', L, hT, X', hL, e1, e2, hq, st⟩
theorem vx_outP {p : Program} {l : Launch} {e : Env} {R : Room} {s : State} {m : MethodId} {args : Array Value} {below : List Frame} {meth : Method} {c : Code} {H : Heap} {locs : List Loc} {cells slots : Nat} {free : Addr → Prop} {ls : Array Slot} {rest : List Value} {Qc : Array Value → State → Outcome → State → Prop} {XC : String → State → State → Prop}
    {pc : Nat} {own E : String} {ce : Cell} {q : Addr} {mc ms : Nat} (hown : s.vm.findClass own = some m.cls) (hlocks : meth.locks = false)
    (hpass : ∀ z ∈ c.exceptionTable.toList, covers z pc = false ∨ (z.catchType ≠ 0 ∧ ∃ nm : String, (Cond.classLink own z.catchType nm).before args s = true ∧ va_Nc E nm s)) (hcell : H[q]? = some ce) (hv : ce.vm = .none) (hcl : s.vm.findClass E = some ce.cls)
    (hx : ∀ t : State, t.heap = H → s.vm.Alike t.vm → XC E s t) (hf : ∀ z ∈ locs, free z.base) (hc : cells ≤ mc) (hs : slots ≤ ms) :
    vx_W p l e R s m args below meth c H locs cells slots (vx_MQ below Qc XC args s mc ms free) (F0 m pc ls rest) q := by
  intro T hT X
  have hpl : e.platform.magicAccessors = ({} : Platform).magicAccessors := by rw [X.admits.platform]
  obtain ⟨vm', hW', X', st⟩ := X.outThrough hlocks q (g := F0 m pc ls rest) rfl rfl rfl (cell := ce) (by rw [hT]; exact hcell) (by rw [hv]; rfl)
    (by obtain ⟨k9, h9, -⟩ := Vm.findClass_spec hcl; exact ⟨k9, h9⟩) (fun z hz => by
      rcases hpass z hz with h | ⟨hz0, nm, hl1, hn1⟩
      · exact Or.inl h
      · obtain ⟨c6, hc6, hcl6⟩ := Cond.classLink_spec hown hl1 e.platform hpl
        obtain ⟨a8, b8, h1, h2, h3⟩ := hn1
        cases Option.some.inj (h1.symm.trans hcl)
        cases Option.some.inj (h2.symm.trans hc6)
        exact Or.inr ⟨hz0, _, hcl6, h3⟩)
  obtain ⟨g₀, hfr⟩ := X'.frames_eq
  have hcell9 : ((T.setVm vm').setFrames (.throwing q :: below)).heap[q]? = some ce := by
    show T.heap[q]? = some ce
    rw [hT]; exact hcell
  have hend : Ended ((T.setVm vm').setFrames (.throwing q :: below)) below (.threw q) := State.frames_setFrames _ (State.cur_lt_of_frames hfr)
  refine ⟨(T.setVm vm').setFrames (.throwing q :: below), ?_, .threw q, X'.here.running, hend, Or.inr ⟨q, rfl, E, ce, locs, hx _ hT (X'.ends _).1.alike, hcell9, hv, hcl, (X'.ends _).1, (X'.ends _).2.mono hc hs, hf⟩⟩
  rw [X.pushThrowing_eq]
  exact st
theorem vx_lt {D : va_G} {cl : List vw_C} {ws : va_W} {H1 : Heap} (h : va_P D cl ws H1) {k : Nat} {q : Nat × va_E} (hk : ws[k]? = some q) : q.1 < H1.size := (h k q hk).lt
end VXS
section VXH
section
variable {l : Launch} {R : Room} {p : Program} {e : Env} {below : List Frame} {s : State} {sargs : Array Value} {y : MethodName} {len W9 : Nat}
theorem vx_backW {ws : List Cond} {rm : Room} {Pc : Array Value → State → Prop} {Qc : Array Value → State → Outcome → State → Prop} {XC : String → State → State → Prop} {mc ms : Nat} {free : Addr → Prop} {bytes : ByteArray} {maxL : Nat} {ret : Option FieldType} {hh : List (Nat × Nat × Nat × Nat)}
    (hM : vx_Met l y ws rm Pc Qc XC mc ms free) (hblind : FrameBlind Pc) (hrc : rm.cells = mc) (hrs : rm.slots = ms)
    (hframes : rm.frames + 1 ≤ R.frames) (hlocals : W9 + (maxL + 11) + rm.locals ≤ R.locals)
    (hws : ∀ w ∈ ws, ∀ a' U, s.WarmedH U.vm → w.before a' U = true) (hcode : Cond.codeWith y bytes maxL ret hh ∈ ws) (hinit : ∀ a' U, s.WarmedH U.vm → (Cond.initialized y.cls).before a' U = true) :
    vx_Back l R p e below s sargs y len W9 (PreOf R mc ms Pc) (PostOf Qc mc ms free) (vx_Post XC mc ms free) := by
  intro m meth c A g ig mk a X hg hsize hdg hW hn hp
  have h1 : (headSpec ws rm).pre.before a A.U = true := atoms_intro fun w hw => hws w hw _ _ X.warmed
  have h2 : (Cond.codeWith y bytes maxL ret hh).before a A.U = true := hws _ hcode _ _ X.warmed
  have h3 : (Cond.initialized y.cls).before a A.U = true := hinit _ _ X.warmed
  have h4 : A.cells + (headSpec ws rm).room.cells ≤ R.cells := by rw [show (headSpec ws rm).room.cells = mc from hrc]; exact hp.1
  have h5 : A.slots + (headSpec ws rm).room.slots ≤ R.slots := by rw [show (headSpec ws rm).room.slots = ms from hrs]; exact hp.2.1
  have hPc : Pc a (A.U.calling g mk a) := hblind _ _ _ _ hp.2.2
  obtain ⟨U, Ls, c0, s0⟩ := A
  dsimp only [Pt.U, Pt.locs, Pt.cells, Pt.slots] at h1 h2 h3 h4 h5 X hn hPc ⊢
  obtain ⟨m9, methY, cY, hn9, hmY, hcY, -, hlY, -⟩ := Cond.codeWith_spec h2
  cases Option.some.inj (hn9.symm.trans hn)
  obtain ⟨kY, hkY, -⟩ := className_of_methodNamed hn
  have hinitY : kY.init = .initialized := Cond.initialized_spec (findClass_of_methodNamed hn) hkY h3
  have h : At U g.method c below := by rw [hg]; exact X.here
  have hlocals9 : W9 + (maxL + 11) + (headSpec ws rm).room.locals ≤ R.locals := hlocals
  have happ : (headSpec ws rm).appliesLoose y e.platform (U.calling g mk a) = true :=
    Spec.appliesLoose_calling (g := g) h hdg hn hkY hinitY
      (X.room_calling (g := g) (R' := (headSpec ws rm).room) hsize hmY hcY hframes (by rw [hlY]; omega) h4 h5) h1
  obtain ⟨mid, hmid⟩ := h.above
  have hfr : (U.setTop g).frames = (.java g :: mid) ++ below := by rw [State.frames_setTop' g h.top, hmid]; rfl
  obtain ⟨o, s₂, hsteps, -, hend, hq⟩ := Steps.callFree hM p X.admits X.cas X.clock (acts := []) hfr happ hPc trivial
  have hq' : vx_Q Qc XC mc ms free a (U.calling g mk a) o s₂ := hq
  rw [State.frames_setTop' g h.top] at hend
  obtain ⟨g₀, hg0⟩ := Option.isSome_iff_exists.mp h.top
  obtain ⟨r, hr⟩ := State.topJava?_eq_some.mp hg0
  have hr' : (({ U with heap := s₂.heap, slotsUsed := s₂.slotsUsed } : State).setVm s₂.vm).frames = .java g₀ :: r := hr
  rcases hq' with ⟨hqc, L, hfe, hL⟩ | ⟨q, rfl, E, ce, L, hx, hce, hcv, hcl, hW₂, hsm, hL⟩
  · obtain ⟨⟨v, rfl⟩, hW₂, e2, q2, q3, q4, q5, q6⟩ := id hfe
    have e3 : s₂ = ({ (U.calling g mk a).setFrames s₂.frames with heap := s₂.heap, slotsUsed := s₂.slotsUsed } : State).setVm s₂.vm := by
      have : s₂ = ({ s₂ with vm := (U.calling g mk a).vm } : State).setVm s₂.vm := rfl
      rw [e2] at this
      exact this
    obtain ⟨c₂, i₂, len₂, hc₂, hd₂, hf₂⟩ := hend
    have hW' : U.WarmedH s₂.vm := hW₂
    have hcc : c₂ = c := by
      have h1 : s₂.code? g.method = U.code? g.method := by
        rw [State.code?_eq, State.code?_eq, hW'.alike.method?]
      exact Option.some.inj (hc₂.symm.trans (h1.trans h.code))
    subst hcc
    have hlen : len₂ = len := by rw [hdg] at hd₂; cases hd₂; rfl
    subst hlen
    have hs₂ : s₂ = (({ U with heap := s₂.heap, slotsUsed := s₂.slotsUsed } : State).setVm s₂.vm).setTop { g with pc := g.pc + len₂, stack := v.toList ++ g.stack } := by
      refine e3.trans ?_
      rw [hf₂, State.calling_eq h.top, State.setFrames_setFrames, State.setTop_of_frames _ hr', hr]
      rfl
    have hsame : U.sameButNew ({ U with heap := s₂.heap, slotsUsed := s₂.slotsUsed } : State) L mc ms := by
      refine ⟨?_, q2, q3, q4, q5, q6⟩
      obtain ⟨t, ht, -⟩ := State.frames_cons hr
      show ({ U with heap := s₂.heap, slotsUsed := s₂.slotsUsed } : State) = { U.setFrames U.frames with heap := s₂.heap, slotsUsed := s₂.slotsUsed }
      rw [State.setFrames_self ht]
    subst hg
    refine Or.inl ⟨v, ⟨(({ U with heap := s₂.heap, slotsUsed := s₂.slotsUsed } : State).setVm s₂.vm), Ls ++ L, c0 + mc, s0 + ms⟩,
      ⟨X.admits, X.cas, X.clock, X.frames, X.room, X.hears, X.method, X.code, (X.here.setHeapUsed s₂.heap s₂.slotsUsed).setVm hW'.alike, X.tail, State.WarmedH.trans X.warmed hW', X.limits, X.bytes, X.same.trans (hsame.setVm s.vm)⟩,
      ⟨g, mk, s₂, L, rfl, rfl, hqc, rfl, hL, rfl, rfl⟩, ?_⟩
    show Steps p.tables e below _ ((({ U with heap := s₂.heap, slotsUsed := s₂.slotsUsed } : State).setVm s₂.vm).setTop { g with pc := g.pc + len₂, stack := v.toList ++ g.stack })
    rw [← hs₂]
    exact hsteps
  · obtain ⟨e2, q2, q3, q4, q5, q6⟩ := id hsm
    have e3 : s₂ = ({ (U.calling g mk a).setFrames s₂.frames with heap := s₂.heap, slotsUsed := s₂.slotsUsed } : State).setVm s₂.vm := by
      have : s₂ = ({ s₂ with vm := (U.calling g mk a).vm } : State).setVm s₂.vm := rfl
      rw [e2] at this
      exact this
    have hf₂ : s₂.frames = .throwing q :: .java g :: U.frames.tail := hend
    have hW' : U.WarmedH s₂.vm := hW₂
    have hs₂ : s₂ = ((({ U with heap := s₂.heap, slotsUsed := s₂.slotsUsed } : State).setVm s₂.vm).setTop g).pushFrame (.throwing q) := by
      refine e3.trans ?_
      rw [hf₂, State.calling_eq h.top, State.setFrames_setFrames, State.pushFrame, State.frames_setTop _ hr', State.setTop_of_frames _ hr', State.setFrames_setFrames, hr]
      rfl
    have hsame : U.sameButNew ({ U with heap := s₂.heap, slotsUsed := s₂.slotsUsed } : State) L mc ms := by
      refine ⟨?_, q2, q3, q4, q5, q6⟩
      obtain ⟨t, ht, -⟩ := State.frames_cons hr
      show ({ U with heap := s₂.heap, slotsUsed := s₂.slotsUsed } : State) = { U.setFrames U.frames with heap := s₂.heap, slotsUsed := s₂.slotsUsed }
      rw [State.setFrames_self ht]
    subst hg
    refine Or.inr ⟨q, ⟨(({ U with heap := s₂.heap, slotsUsed := s₂.slotsUsed } : State).setVm s₂.vm), Ls ++ L, c0 + mc, s0 + ms⟩,
      ⟨X.admits, X.cas, X.clock, X.frames, X.room, X.hears, X.method, X.code, (X.here.setHeapUsed s₂.heap s₂.slotsUsed).setVm hW'.alike, X.tail, State.WarmedH.trans X.warmed hW', X.limits, X.bytes, X.same.trans (hsame.setVm s.vm)⟩,
      ⟨g, mk, s₂, L, E, ce, rfl, rfl, hx, hce, hcv, hcl, rfl, hL, rfl, rfl⟩, ?_⟩
    show Steps p.tables e below _ (((({ U with heap := s₂.heap, slotsUsed := s₂.slotsUsed } : State).setVm s₂.vm).setTop g).pushFrame (.throwing q))
    rw [← hs₂]
    exact hsteps
end
variable {p : Program} {l : Launch} {e : Env} {R : Room} {s : State} {m : MethodId} {args : Array Value} {below : List Frame} {meth : Method} {c : Code} {T : State} {H : Heap} {locs : List Loc} {cells slots : Nat}
theorem vx_callVX (X : Stand p l e R s m args below meth c T locs cells slots) (hexec : p.tables.exec = Jvm.exec) {own C : String} {index : Nat} {y : MethodName} {bytes : ByteArray} {maxL : Nat} {ret : Option FieldType} {hh : List (Nat × Nat × Nat × Nat)}
    (hown : s.vm.findClass own = some m.cls) (hlink : (Cond.methodLink own index y).before args s = true) (hinst : (Cond.instanceMethod y).before args s = true) (hsel : (Cond.selects C y y).before args s = true)
    (hcode : (Cond.codeWith y bytes maxL ret hh).before args s = true) (hy : y.cls ≠ "java/lang/invoke/MethodHandle" ∧ y.cls ≠ "java/lang/invoke/VarHandle")
    {W9 : Nat} {Pre : Pt → Array Value → Prop} {Post : Pt → Array Value → Option Value → Pt → Prop} {PostX : Pt → Array Value → Addr → Pt → Prop} (hK : vx_Back l R p e below s args y 3 W9 Pre Post PostX)
    {b : Addr} {cellB : Cell} (hcell : T.heap[b]? = some cellB) (hobj : cellB.vm.isStatics = false) (hcls : s.vm.findClass C = some cellB.cls)
    {g : JFrame} (hg : g.method = m) (hsize : g.locals.size = c.maxLocals) {argsL rest : List Value} (hlen : ∀ sig, parseMethodDescriptor y.desc = some sig → argsL.length = sig.parameters.length)
    (hstack : g.stack = argsL.reverse ++ .ref b :: rest) (hW : 2 * g.monitorRoom + (rest.map fun v => v.category).sum ≤ W9) (hdg : decode c.code g.pc = .ok (.invokevirtual index, 3))
    (hpre : ∀ vm₁, s.WarmedH vm₁ → Pre ⟨T.setVm vm₁, locs, cells, slots⟩ (Value.ref b :: argsL).toArray) :
    (∃ (v : Option Value) (vm₁ : Vm) (B : Pt), s.WarmedH vm₁ ∧ Stand p l e R s m args below meth c B.U B.locs B.cells B.slots ∧ Post ⟨T.setVm vm₁, locs, cells, slots⟩ (Value.ref b :: argsL).toArray v B ∧
      ∀ target, Steps p.tables e below (B.U.setTop { g with pc := g.pc + 3, stack := v.toList ++ rest }) target → Steps p.tables e below (T.setTop g) target) ∨
    (∃ (q : Addr) (vm₁ : Vm) (B : Pt), s.WarmedH vm₁ ∧ Stand p l e R s m args below meth c B.U B.locs B.cells B.slots ∧ PostX ⟨T.setVm vm₁, locs, cells, slots⟩ (Value.ref b :: argsL).toArray q B ∧
      Steps p.tables e below (T.setTop g) ((B.U.setTop { g with stack := rest }).pushFrame (.throwing q))) := by
  obtain ⟨mk, methM, hnamed, hmethM, hstM, habM⟩ := Cond.instanceMethod_spec hinst
  obtain ⟨m8, methM', cM, hn8, hmethM', -, -, -, -, -, -, hsigM⟩ := Cond.codeWith_spec hcode
  cases Option.some.inj (hn8.symm.trans hnamed)
  cases hmethM.symm.trans hmethM'
  obtain ⟨c2, r2, m2, q1, q2, q3, q4, kP, hkP, hkPi⟩ := Cond.selects_spec hsel
  cases hcls.symm.trans q1
  cases (State.methodFound?_of_named hnamed hy).symm.trans q2
  cases hnamed.symm.trans q3
  have hselP : selectMethod e.platform s.vm cellB.cls mk = .method mk := by rw [Launch.admits_selectMethod X.admits]; exact q4
  obtain ⟨vm₁, X₁, hstep₁⟩ := X.invokevirtual hexec hown hlink hnamed hmethM hstM hkP hkPi hy (a := b) (cell := cellB) hcell
    (fun z h => by rw [h] at hobj; cases hobj) hselP hmethM habM hkP hkPi (g := g) hg (argsL := argsL) (rest := rest) (hlen _ hsigM) hstack hdg
  rcases hK m meth c ⟨T.setVm vm₁, locs, cells, slots⟩ { g with stack := rest } (.invokevirtual index) mk (Value.ref b :: argsL).toArray X₁ hg hsize hdg hW (X₁.named hnamed) (hpre vm₁ X₁.warmed) with ⟨v, B, X', hpost, hsteps⟩ | ⟨q, B, X', hpost, hsteps⟩
  · exact Or.inl ⟨v, vm₁, B, X₁.warmed, X', hpost, fun target h => hstep₁ _ fun acts => by rw [doInvoke_state]; exact hsteps.trans h⟩
  · exact Or.inr ⟨q, vm₁, B, X₁.warmed, X', hpost, hstep₁ _ fun acts => by rw [doInvoke_state]; exact hsteps⟩
theorem vx_callSX (X : Stand p l e R s m args below meth c T locs cells slots) (hexec : p.tables.exec = Jvm.exec) {own : String} {index : Nat} {y : MethodName} {bytes : ByteArray} {maxL : Nat} {ret : Option FieldType} {hh : List (Nat × Nat × Nat × Nat)}
    (hown : s.vm.findClass own = some m.cls) (hlink : (Cond.methodLink own index y).before args s = true) (hstat : (Cond.static y).before args s = true) (hinit : (Cond.initialized y.cls).before args s = true)
    (hcode : (Cond.codeWith y bytes maxL ret hh).before args s = true) (hy : y.cls ≠ "java/lang/invoke/MethodHandle" ∧ y.cls ≠ "java/lang/invoke/VarHandle")
    {W9 : Nat} {Pre : Pt → Array Value → Prop} {Post : Pt → Array Value → Option Value → Pt → Prop} {PostX : Pt → Array Value → Addr → Pt → Prop} (hK : vx_Back l R p e below s args y 3 W9 Pre Post PostX)
    {g : JFrame} (hg : g.method = m) (hsize : g.locals.size = c.maxLocals) {argsL rest : List Value} (hlen : ∀ sig, parseMethodDescriptor y.desc = some sig → argsL.length = sig.parameters.length)
    (hstack : g.stack = argsL.reverse ++ rest) (hW : 2 * g.monitorRoom + (rest.map fun v => v.category).sum ≤ W9) (hdg : decode c.code g.pc = .ok (.invokestatic index, 3))
    (hpre : ∀ vm₁, s.WarmedH vm₁ → Pre ⟨T.setVm vm₁, locs, cells, slots⟩ argsL.toArray) :
    (∃ (v : Option Value) (vm₁ : Vm) (B : Pt), s.WarmedH vm₁ ∧ Stand p l e R s m args below meth c B.U B.locs B.cells B.slots ∧ Post ⟨T.setVm vm₁, locs, cells, slots⟩ argsL.toArray v B ∧
      ∀ target, Steps p.tables e below (B.U.setTop { g with pc := g.pc + 3, stack := v.toList ++ rest }) target → Steps p.tables e below (T.setTop g) target) ∨
    (∃ (q : Addr) (vm₁ : Vm) (B : Pt), s.WarmedH vm₁ ∧ Stand p l e R s m args below meth c B.U B.locs B.cells B.slots ∧ PostX ⟨T.setVm vm₁, locs, cells, slots⟩ argsL.toArray q B ∧
      Steps p.tables e below (T.setTop g) ((B.U.setTop { g with stack := rest }).pushFrame (.throwing q))) := by
  obtain ⟨mk, methM, cM, hnamed, hmethM, -, -, -, -, -, -, hsigM⟩ := Cond.codeWith_spec hcode
  have hstatic : methM.isStatic = true := Cond.static_spec hnamed hmethM hstat
  obtain ⟨kP, hkP, -⟩ := className_of_methodNamed hnamed
  have hinitP : kP.init = .initialized := Cond.initialized_spec (findClass_of_methodNamed hnamed) hkP hinit
  obtain ⟨vm₁, X₁, hstep₁⟩ := X.invokestatic hexec hown hlink hnamed hmethM hstatic hkP hinitP hy (g := g) hg (argsL := argsL) (rest := rest) (hlen _ hsigM) hstack hdg
  rcases hK m meth c ⟨T.setVm vm₁, locs, cells, slots⟩ { g with stack := rest } (.invokestatic index) mk argsL.toArray X₁ hg hsize hdg hW (X₁.named hnamed) (hpre vm₁ X₁.warmed) with ⟨v, B, X', hpost, hsteps⟩ | ⟨q, B, X', hpost, hsteps⟩
  · exact Or.inl ⟨v, vm₁, B, X₁.warmed, X', hpost, fun target h => hstep₁ _ fun acts => by rw [doInvoke_state]; exact hsteps.trans h⟩
  · exact Or.inr ⟨q, vm₁, B, X₁.warmed, X', hpost, hstep₁ _ fun acts => by rw [doInvoke_state]; exact hsteps⟩
theorem vx_callVW (X : Stand p l e R s m args below meth c T locs cells slots) (hexec : p.tables.exec = Jvm.exec) {own C : String} {index : Nat} {y : MethodName} {bytes : ByteArray} {maxL : Nat} {ret : Option FieldType} {hh : List (Nat × Nat × Nat × Nat)}
    (hown : s.vm.findClass own = some m.cls) (hlink : (Cond.methodLink own index y).before args s = true) (hinst : (Cond.instanceMethod y).before args s = true) (hsel : (Cond.selects C y y).before args s = true)
    (hcode : (Cond.codeWith y bytes maxL ret hh).before args s = true) (hy : y.cls ≠ "java/lang/invoke/MethodHandle" ∧ y.cls ≠ "java/lang/invoke/VarHandle")
    {W9 : Nat} {Pre : Pt → Array Value → Prop} {Post : Pt → Array Value → Option Value → Pt → Prop} (hK : Back l R p e below s args y 3 W9 Pre Post)
    {b : Addr} {cellB : Cell} (hcell : T.heap[b]? = some cellB) (hobj : cellB.vm.isStatics = false) (hcls : s.vm.findClass C = some cellB.cls)
    {g : JFrame} (hg : g.method = m) (hsize : g.locals.size = c.maxLocals) {argsL rest : List Value} (hlen : ∀ sig, parseMethodDescriptor y.desc = some sig → argsL.length = sig.parameters.length)
    (hstack : g.stack = argsL.reverse ++ .ref b :: rest) (hW : 2 * g.monitorRoom + (rest.map fun v => v.category).sum ≤ W9) (hdg : decode c.code g.pc = .ok (.invokevirtual index, 3))
    (hpre : ∀ vm₁, s.WarmedH vm₁ → Pre ⟨T.setVm vm₁, locs, cells, slots⟩ (Value.ref b :: argsL).toArray) :
    ∃ (v : Option Value) (vm₁ : Vm) (B : Pt), s.WarmedH vm₁ ∧ Stand p l e R s m args below meth c B.U B.locs B.cells B.slots ∧ Post ⟨T.setVm vm₁, locs, cells, slots⟩ (Value.ref b :: argsL).toArray v B ∧
      ∀ target, Steps p.tables e below (B.U.setTop { g with pc := g.pc + 3, stack := v.toList ++ rest }) target → Steps p.tables e below (T.setTop g) target := by
  obtain ⟨mk, methM, hnamed, hmethM, hstM, habM⟩ := Cond.instanceMethod_spec hinst
  obtain ⟨m8, methM', cM, hn8, hmethM', -, -, -, -, -, -, hsigM⟩ := Cond.codeWith_spec hcode
  cases Option.some.inj (hn8.symm.trans hnamed)
  cases hmethM.symm.trans hmethM'
  obtain ⟨c2, r2, m2, q1, q2, q3, q4, kP, hkP, hkPi⟩ := Cond.selects_spec hsel
  cases hcls.symm.trans q1
  cases (State.methodFound?_of_named hnamed hy).symm.trans q2
  cases hnamed.symm.trans q3
  have hselP : selectMethod e.platform s.vm cellB.cls mk = .method mk := by rw [Launch.admits_selectMethod X.admits]; exact q4
  obtain ⟨vm₁, X₁, hstep₁⟩ := X.invokevirtual hexec hown hlink hnamed hmethM hstM hkP hkPi hy (a := b) (cell := cellB) hcell
    (fun z h => by rw [h] at hobj; cases hobj) hselP hmethM habM hkP hkPi (g := g) hg (argsL := argsL) (rest := rest) (hlen _ hsigM) hstack hdg
  obtain ⟨v, B, X', hpost, hsteps⟩ := hK m meth c ⟨T.setVm vm₁, locs, cells, slots⟩ { g with stack := rest } (.invokevirtual index) mk (Value.ref b :: argsL).toArray X₁ hg hsize hdg hW (X₁.named hnamed) (hpre vm₁ X₁.warmed)
  exact ⟨v, vm₁, B, X₁.warmed, X', hpost, fun target h => hstep₁ _ fun acts => by rw [doInvoke_state]; exact hsteps.trans h⟩
abbrev vx_CVW (R : Room) (s : State) (args : Array Value) (own C : String) (index : Nat) (y : MethodName) (bytes : ByteArray) (maxL : Nat) (ret : Option FieldType) (hh : List (Nat × Nat × Nat × Nat)) (ws : List Cond) (rm : Room) (mc ms n : Nat) : Prop :=
  (rm.cells = mc ∧ rm.slots = ms ∧ rm.frames + 1 ≤ R.frames ∧ 8 + (maxL + 11) + rm.locals ≤ R.locals ∧ (∀ w ∈ ws, ∀ (a' : Array Value) (U : State), s.WarmedH U.vm → w.before a' U = true) ∧ Cond.codeWith y bytes maxL ret hh ∈ ws) ∧
  (Cond.codeWith y bytes maxL ret hh).before args s = true ∧ (Cond.initialized y.cls).before args s = true ∧ (y.cls ≠ "java/lang/invoke/MethodHandle" ∧ y.cls ≠ "java/lang/invoke/VarHandle") ∧
  (∀ sig, parseMethodDescriptor y.desc = some sig → n = sig.parameters.length) ∧ (Cond.methodLink own index y).before args s = true ∧ (Cond.instanceMethod y).before args s = true ∧ (Cond.selects C y y).before args s = true
theorem vx_cwVW {own C : String} {index maxL mc ms : Nat} {y : MethodName} {bytes : ByteArray} {ret : Option FieldType} {hh : List (Nat × Nat × Nat × Nat)} {Ts ws ws' : List Cond} {rm : Room} (n : Nat) (ht : ∀ w ∈ Ts, w.before args s = true) (hT : GoodIn Ts (wsV own index C y ws)) (hw : ws = Cond.codeWith y bytes maxL ret hh :: ws') (hrc : rm.cells = mc) (hrs : rm.slots = ms)
    (hd : y.cls = C ∧ y.cls ≠ "java/lang/invoke/MethodHandle" ∧ y.cls ≠ "java/lang/invoke/VarHandle" ∧ (parseMethodDescriptor y.desc).map (fun d => d.parameters.length) = some n) (hR : rm.frames + 1 ≤ R.frames ∧ 8 + (maxL + 11) + rm.locals ≤ R.locals) :
    vx_CVW R s args own C index y bytes maxL ret hh ws rm mc ms n := by
  obtain ⟨hC, hd⟩ := hd
  subst hC
  have ok : ∀ w ∈ wsV own index y.cls y ws, w.before args s = true := fun w h => ht w (hT w h).1
  have hG : GoodIn Ts ws := fun w h => hT w (by unfold wsV; exact List.mem_append_right _ h)
  have hc : Cond.codeWith y bytes maxL ret hh ∈ ws := by rw [hw]; exact List.mem_cons_self
  refine ⟨⟨hrc, hrs, hR.1, hR.2, pay_in ht hG, hc⟩, ht _ (hG _ hc).1, ok _ (by simp [wsV]), ⟨hd.1, hd.2.1⟩, fun sig h => ?_, ok _ (by simp [wsV]), ok _ (by simp [wsV]), ok _ (by simp [wsV])⟩
  have h2 := hd.2.2
  rw [h] at h2
  exact (Option.some.inj h2).symm
theorem vx_runVW {y : MethodName} {bytes cc : ByteArray} {maxL nL mc ms n index : Nat} {ret : Option FieldType} {hh : List (Nat × Nat × Nat × Nat)} {ws : List Cond} {rm : Room} {Pc : Array Value → State → Prop} {Qc : Array Value → State → Outcome → State → Prop} {free : Addr → Prop} {Ts : List Cond} {own C : String} {b : Addr} {As rest : List Value} {g : JFrame}
    (S : CallFix p m c cc nL s args Ts own) (hM : Met l y ws rm Pc Qc mc ms free) (cw : vx_CVW R s args own C index y bytes maxL ret hh ws rm mc ms n) (hp : PreV s H C b Pc As)
    (hg : g.method = m) (hn : As.length = n) (hsize : g.locals.size = nL) (hstack : g.stack = As.reverse ++ .ref b :: rest) (hW : 2 * g.monitorRoom + (rest.map fun v => v.category).sum ≤ 8) (hdg : decode cc g.pc = .ok (.invokevirtual index, 3)) (hf : cells + mc ≤ R.cells ∧ slots + ms ≤ R.slots) :
    va_Run p l e R s m args below meth c H locs cells slots mc ms g rest (Qc (Value.ref b :: As).toArray) free := by
  obtain ⟨⟨hrc, hrs, hfr, hlo, hws, hcw⟩, hcode, hini, hy, hlen, hl, hin, hse⟩ := cw
  have hK : Back l R p e below s args y 3 8 (PreOf R mc ms Pc) (PostOf Qc mc ms free) := va_backW (hh := hh) (bytes := bytes) (maxL := maxL) (ret := ret) hM hp.1 hrc hrs hfr hlo hws hcw (fun a' U hW => word_at hW (Or.inl (by first | rfl | simp [Cond.onTables, Cond.keeps, Cond.steady])) hini)
  obtain ⟨hx, hb, hml, ho, -⟩ := S
  obtain ⟨-, ⟨cellB, hcB, hoB, hclB⟩, hPc⟩ := hp
  intro T hT X
  obtain ⟨v, vm₁, ⟨U', l2, c2, s2⟩, hW₁, X', ⟨g', mk, t, L, e1, e2, hq, h1, hL, h2, h3⟩, st⟩ := vx_callVW X hx (C := C) (hh := hh) (bytes := bytes) (maxL := maxL) (ret := ret) ho hl hin hse hcode hy hK (by rw [hT]; exact hcB) hoB hclB hg (hsize.trans hml.symm) (argsL := As) (rest := rest) (fun sig h => hn.trans (hlen sig h)) hstack hW (by rw [hb]; exact hdg)
    (fun vm₁ hW₁ => ⟨hf.1, hf.2, hPc (T.setVm vm₁) hT hW₁⟩)
  dsimp only [Pt.U, Pt.locs, Pt.cells, Pt.slots] at X' e1 e2 h1 h2 h3 st
  subst h1; subst h2; subst h3
  exact ⟨v, (T.setVm vm₁).calling g' mk (Value.ref b :: As).toArray, t, U', L, hT, X', hL, e1, e2, hq, st⟩
section
variable {y : MethodName} {bytes cc : ByteArray} {maxL nL mc ms n index : Nat} {ret : Option FieldType} {ws : List Cond} {rm : Room} {Pc : Array Value → State → Prop} {Qc : Array Value → State → Outcome → State → Prop} {XC : String → State → State → Prop} {free : Addr → Prop} {Ts : List Cond} {own C : String} {b : Addr} {As rest : List Value} {g : JFrame}
theorem vx_runVX {hh : List (Nat × Nat × Nat × Nat)} (S : CallFix p m c cc nL s args Ts own) (hM : vx_Met l y ws rm Pc Qc XC mc ms free) (cw : vx_CVW R s args own C index y bytes maxL ret hh ws rm mc ms n) (hp : PreV s H C b Pc As)
    (hg : g.method = m) (hn : As.length = n) (hsize : g.locals.size = nL) (hstack : g.stack = As.reverse ++ .ref b :: rest) (hW : 2 * g.monitorRoom + (rest.map fun v => v.category).sum ≤ 8) (hdg : decode cc g.pc = .ok (.invokevirtual index, 3)) (hf : cells + mc ≤ R.cells ∧ slots + ms ≤ R.slots) :
    vx_Run p l e R s m args below meth c H locs cells slots mc ms g rest (Qc (Value.ref b :: As).toArray) XC free := by
  obtain ⟨⟨hrc, hrs, hfr, hlo, hws, hcw⟩, hcode, hini, hy, hlen, hl, hin, hse⟩ := cw
  have hK : vx_Back l R p e below s args y 3 8 (PreOf R mc ms Pc) (PostOf Qc mc ms free) (vx_Post XC mc ms free) := vx_backW (hh := hh) (bytes := bytes) (maxL := maxL) (ret := ret) hM hp.1 hrc hrs hfr hlo hws hcw (fun a' U hW => word_at hW (Or.inl (by first | rfl | simp [Cond.onTables, Cond.keeps, Cond.steady])) hini)
  obtain ⟨hx, hb, hml, ho, -⟩ := S
  obtain ⟨-, ⟨cellB, hcB, hoB, hclB⟩, hPc⟩ := hp
  intro T hT X
  rcases vx_callVX X hx (C := C) (hh := hh) (bytes := bytes) (maxL := maxL) (ret := ret) ho hl hin hse hcode hy hK (by rw [hT]; exact hcB) hoB hclB hg (hsize.trans hml.symm) (argsL := As) (rest := rest) (fun sig h => hn.trans (hlen sig h)) hstack hW (by rw [hb]; exact hdg)
    (fun vm₁ hW₁ => ⟨hf.1, hf.2, hPc (T.setVm vm₁) hT hW₁⟩) with ⟨v, vm₁, ⟨U', l2, c2, s2⟩, hW₁, X', ⟨g', mk, t, L, e1, e2, hq, h1, hL, h2, h3⟩, st⟩ | ⟨q, vm₁, ⟨U', l2, c2, s2⟩, hW₁, X', ⟨g', mk, t, L, E, ce, e1, e2, hq, hce, hcv, hcl, h1, hL, h2, h3⟩, st⟩
  · dsimp only [Pt.U, Pt.locs, Pt.cells, Pt.slots] at X' e1 e2 h1 h2 h3 st
    subst h1; subst h2; subst h3
    exact Or.inl ⟨v, (T.setVm vm₁).calling g' mk (Value.ref b :: As).toArray, t, U', L, hT, X', hL, e1, e2, hq, st⟩
  · dsimp only [Pt.U, Pt.locs, Pt.cells, Pt.slots] at X' e1 e2 h1 h2 h3 st hcl
    subst h1; subst h2; subst h3
    exact Or.inr ⟨q, (T.setVm vm₁).calling g' mk (Value.ref b :: As).toArray, t, U', L, E, ce, hT, X', hL, e1, e2, hq, hce, hcv, vx_cls hW₁ hcl, st⟩
theorem vx_runSX {hh : List (Nat × Nat × Nat × Nat)} (S : CallFix p m c cc nL s args Ts own) (hM : vx_Met l y ws rm Pc Qc XC mc ms free) (cw : vx_CSW R s args own index y bytes maxL ret hh ws rm mc ms n) (hp : PreS s H Pc As)
    (hg : g.method = m) (hn : As.length = n) (hsize : g.locals.size = nL) (hstack : g.stack = As.reverse ++ rest) (hW : 2 * g.monitorRoom + (rest.map fun v => v.category).sum ≤ 8) (hdg : decode cc g.pc = .ok (.invokestatic index, 3)) (hf : cells + mc ≤ R.cells ∧ slots + ms ≤ R.slots) :
    vx_Run p l e R s m args below meth c H locs cells slots mc ms g rest (Qc As.toArray) XC free := by
  obtain ⟨⟨hrc, hrs, hfr, hlo, hws, hcw⟩, hcode, hini, hy, hlen, hl, hstt⟩ := cw
  have hK : vx_Back l R p e below s args y 3 8 (PreOf R mc ms Pc) (PostOf Qc mc ms free) (vx_Post XC mc ms free) := vx_backW (hh := hh) (bytes := bytes) (maxL := maxL) (ret := ret) hM hp.1 hrc hrs hfr hlo hws hcw (fun a' U hW => word_at hW (Or.inl (by first | rfl | simp [Cond.onTables, Cond.keeps, Cond.steady])) hini)
  obtain ⟨hx, hb, hml, ho, -⟩ := S
  intro T hT X
  rcases vx_callSX X hx (hh := hh) (bytes := bytes) (maxL := maxL) (ret := ret) ho hl hstt hini hcode hy hK hg (hsize.trans hml.symm) (argsL := As) (rest := rest) (fun sig h => hn.trans (hlen sig h)) hstack hW (by rw [hb]; exact hdg)
    (fun vm₁ hW₁ => ⟨hf.1, hf.2, hp.2 (T.setVm vm₁) hT hW₁⟩) with ⟨v, vm₁, ⟨U', l2, c2, s2⟩, hW₁, X', ⟨g', mk, t, L, e1, e2, hq, h1, hL, h2, h3⟩, st⟩ | ⟨q, vm₁, ⟨U', l2, c2, s2⟩, hW₁, X', ⟨g', mk, t, L, E, ce, e1, e2, hq, hce, hcv, hcl, h1, hL, h2, h3⟩, st⟩
  · dsimp only [Pt.U, Pt.locs, Pt.cells, Pt.slots] at X' e1 e2 h1 h2 h3 st
    subst h1; subst h2; subst h3
    exact Or.inl ⟨v, (T.setVm vm₁).calling g' mk As.toArray, t, U', L, hT, X', hL, e1, e2, hq, st⟩
  · dsimp only [Pt.U, Pt.locs, Pt.cells, Pt.slots] at X' e1 e2 h1 h2 h3 st hcl
    subst h1; subst h2; subst h3
    exact Or.inr ⟨q, (T.setVm vm₁).calling g' mk As.toArray, t, U', L, E, ce, hT, X', hL, e1, e2, hq, hce, hcv, vx_cls hW₁ hcl, st⟩
end
end VXH
theorem vx_ofWH {l : Launch} {y : MethodName} {ws ws' : List Cond} {rm : Room} {Pc : Array Value → State → Prop} {Qc : Array Value → State → Outcome → State → Prop} {XC : String → State → State → Prop} {mc ms : Nat} {free : Addr → Prop} {cc : ByteArray} {maxL : Nat} {ret : Option FieldType} {hh : List (Nat × Nat × Nat × Nat)}
    (hy : plainName y.cls = true) (hw : ws = Cond.codeWith y cc maxL ret hh :: ws')
    (body : ∀ p e s m args below meth c s₁, BodyLoose p l y (headSpec ws rm) cc maxL ret e s m args below meth c s₁ → c.maxLocals = maxL → Pc args s →
      W p l e (headSpec ws rm).room s m args below meth c s.heap [] 0 0 (vx_MQ below Qc XC args s mc ms free) (entryFrame m args maxL)) : vx_Met l y ws rm Pc Qc XC mc ms free := by
  refine MetFree.of_bodyS (code := cc) (maxLocals := maxL) (ret := ret) hy ?_ ?_
  · intro args s m h hn
    obtain ⟨m9, meth, c, hn9, h1, h2, h3, h4, -, h5, h6, -⟩ := Cond.codeWith_spec (atoms_spec (ws := ws) h _ (by rw [hw]; exact List.mem_cons_self))
    cases hn.symm.trans hn9
    exact ⟨meth, c, h1, h2, h3, h4, h5, h6⟩
  · intro p e s m args below meth c s₁ B hml hP _
    have hh0 : s₁.heap = s.heap := by rw [B.state]; rfl
    obtain ⟨t, a1, o, b1, b2, b3⟩ := body p e s m args below meth c s₁ B hml hP s₁ hh0 (Stand.of_body B)
    exact ⟨t, o, a1, b1, b2, b3⟩
end
section
/-! Methods that may throw: contracts, starts, ends, calls. -/
def pl_XC {SX : Type} (px : String → SX → Prop) (D : va_G) (cl : List vw_C) (tys : List (ClassId × FieldType)) (A : Nat → Prop) (wx : SX → va_W) : String → State → State → Prop := vx_X (fun _ : SX => True) (fun N u t => px N u ∧ pl_out D cl tys A (wx u) t) A
def pl_TV {S SX : Type} (l : Launch) (y : MethodName) (b : ByteArray) (n : Nat) (rm : Room) (E : pl_Ev) (D : va_G) (cl : List vw_C) (tys : List (ClassId × FieldType)) (av : List Value) (wi : va_W) (post : S → Prop) (wo : S → va_W) (px : String → SX → Prop) (wx : SX → va_W) : Prop :=
  ∀ sz, vx_Met l y (Cond.code y b n none :: TG) rm (va_Pc av (pl_in E D cl tys wi sz)) (va_Qv post (fun u => pl_out D cl tys (va_A wi sz) (wo u)) (va_A wi sz)) (pl_XC px D cl tys (va_A wi sz) wx) rm.cells rm.slots (va_A wi sz)
def pl_TI {S SX : Type} (l : Launch) (y : MethodName) (b : ByteArray) (n : Nat) (ret : FieldType) (rm : Room) (E : pl_Ev) (D : va_G) (cl : List vw_C) (tys : List (ClassId × FieldType)) (av : List Value) (wi : va_W) (post : Int32 → S → Prop) (wo : S → va_W) (px : String → SX → Prop) (wx : SX → va_W) : Prop :=
  ∀ sz, vx_Met l y (Cond.code y b n (some ret) :: TG) rm (va_Pc av (pl_in E D cl tys wi sz)) (va_Qi post (fun u => pl_out D cl tys (va_A wi sz) (wo u)) (va_A wi sz)) (pl_XC px D cl tys (va_A wi sz) wx) rm.cells rm.slots (va_A wi sz)
section XB
variable {l : Launch} {y : MethodName} {b : ByteArray} {n : Nat} {rm : Room} {E : pl_Ev} {D : va_G} {cl : List vw_C} {tys : List (ClassId × FieldType)} {av : List Value} {wi : va_W}
theorem pl_startTV {S SX : Type} {post : S → Prop} {wo : S → va_W} {px : String → SX → Prop} {wx : SX → va_W} (hy : plainName y.cls = true) (hlen : (lg_sl av).length ≤ n)
    (body : ∀ (p : Program) (e : Env) (s : State) (m : MethodId) (args : Array Value) (below : List Frame) (meth : Method) (c : Code) (A : Nat → Prop) (ls : Array Slot), CallFix p m c b n s args TG y.cls → meth.sig.returnType = none → meth.locks = false → (∀ x ∈ c.exceptionTable.toList, False) → va_K D cl tys s → va_P D cl wi s.heap → va_D A wi → va_S A s.heap s.heap [] → (∀ q, s.heap.size ≤ q → A q) → E A s s.heap → lv_has ls n (lv_args 0 av) →
      W p l e rm s m args below meth c s.heap [] 0 0 (vx_MQ below (va_Qv post (fun u => pl_out D cl tys A (wo u)) A) (pl_XC px D cl tys A wx) args s rm.cells rm.slots A) (F0 m 0 ls [])) : pl_TV l y b n rm E D cl tys av wi post wo px wx := by
  intro sz
  refine vx_ofW (cc := b) (maxL := n) (ret := none) hy rfl ?_
  intro p e s m args below meth c s₁ B hml hno hv
  obtain ⟨rfl, hsz, hP, hK, hD0, hE⟩ := hv
  subst hsz
  rw [lg_entry_eq]
  exact body p e s m _ below meth c (va_A wi s.heap.size) _ ⟨B.exec, B.bytes, hml, findClass_of_methodNamed B.named, fun w hw => atoms_spec (ws := Cond.code y b n none :: TG) B.pre w (List.mem_cons_of_mem _ hw)⟩ B.returns B.notSynchronized hno hK hP hD0.self va_S.rf (fun q h => Or.inr h) hE (lv_entry av hlen)
theorem pl_startTI {S SX : Type} {ret : FieldType} {post : Int32 → S → Prop} {wo : S → va_W} {px : String → SX → Prop} {wx : SX → va_W} (hy : plainName y.cls = true) (hlen : (lg_sl av).length ≤ n)
    (body : ∀ (p : Program) (e : Env) (s : State) (m : MethodId) (args : Array Value) (below : List Frame) (meth : Method) (c : Code) (A : Nat → Prop) (ls : Array Slot), CallFix p m c b n s args TG y.cls → meth.sig.returnType = (some ret) → meth.locks = false → (∀ x ∈ c.exceptionTable.toList, False) → va_K D cl tys s → va_P D cl wi s.heap → va_D A wi → va_S A s.heap s.heap [] → (∀ q, s.heap.size ≤ q → A q) → E A s s.heap → lv_has ls n (lv_args 0 av) →
      W p l e rm s m args below meth c s.heap [] 0 0 (vx_MQ below (va_Qi post (fun u => pl_out D cl tys A (wo u)) A) (pl_XC px D cl tys A wx) args s rm.cells rm.slots A) (F0 m 0 ls [])) : pl_TI l y b n ret rm E D cl tys av wi post wo px wx := by
  intro sz
  refine vx_ofW (cc := b) (maxL := n) (ret := (some ret)) hy rfl ?_
  intro p e s m args below meth c s₁ B hml hno hv
  obtain ⟨rfl, hsz, hP, hK, hD0, hE⟩ := hv
  subst hsz
  rw [lg_entry_eq]
  exact body p e s m _ below meth c (va_A wi s.heap.size) _ ⟨B.exec, B.bytes, hml, findClass_of_methodNamed B.named, fun w hw => atoms_spec (ws := Cond.code y b n (some ret) :: TG) B.pre w (List.mem_cons_of_mem _ hw)⟩ B.returns B.notSynchronized hno hK hP hD0.self va_S.rf (fun q h => Or.inr h) hE (lv_entry av hlen)
end XB
section XR
variable {p : Program} {l : Launch} {e : Env} {R : Room} {s : State} {m : MethodId} {args : Array Value} {below : List Frame} {meth : Method} {c : Code} {H : Heap} {locs : List Loc} {cells slots : Nat} {Q : State → Prop}
variable {cc bytes : ByteArray} {pc nL maxL index n ci N b : Nat} {ls : Array Slot} {rest st0 As : List Value} {D : va_G} {cl : List vw_C} {A : Nat → Prop} {tys : List (ClassId × FieldType)} {ws wi wr : va_W} {own : String} {y : MethodName} {rm : Room} {E : pl_Ev} {T : u_T} {fs : List Value}
theorem pl_vretT {S : Type} {post : S → Prop} {wo : S → va_W} {XC : String → State → State → Prop} {mc ms : Nat} (X : CallFix p m c cc nL s args TG own) (hr : meth.sig.returnType = none) (hlocks : meth.locks = false) (hK : va_K D cl tys s) (u : S) (hu : post u) (hP : va_P D cl (wo u) H) (hD : va_D A (wo u)) (hS : va_S A s.heap H locs) (hc : cells ≤ mc) (hs : slots ≤ ms) (hdg : decode cc pc = .ok (.return_, 1)) :
    W p l e R s m args below meth c H locs cells slots (vx_MQ below (va_Qv post (fun u => pl_out D cl tys A (wo u)) A) XC args s mc ms A) (F0 m pc ls []) :=
  W.widen hc hs (vx_ret (pl_vret X hr hlocks hK u hu hP hD hS hdg))
theorem pl_iretT {S : Type} {post : Int32 → S → Prop} {wo : S → va_W} {XC : String → State → State → Prop} {mc ms : Nat} {v : Int32} {ty : FieldType} (X : CallFix p m c cc nL s args TG own) (hr : meth.sig.returnType = some ty) (hlocks : meth.locks = false) (hK : va_K D cl tys s) (hn : narrow ty (.int v) = .int v) (u : S) (hu : post v u) (hP : va_P D cl (wo u) H) (hD : va_D A (wo u)) (hS : va_S A s.heap H locs) (hc : cells ≤ mc) (hs : slots ≤ ms) (hdg : decode cc pc = .ok (.ireturn, 1)) :
    W p l e R s m args below meth c H locs cells slots (vx_MQ below (va_Qi post (fun u => pl_out D cl tys A (wo u)) A) XC args s mc ms A) (F0 m pc ls [.int v]) :=
  W.widen hc hs (vx_ret (pl_iret X hr hlocks hK hn u hu hP hD hS hdg))
/-- not caught here -/
theorem pl_outT {SX : Type} {px : String → SX → Prop} {wx : SX → va_W} {Qc : Array Value → State → Outcome → State → Prop} {mc ms : Nat} {Nm : String} {ce : Cell} {q : Addr} (hno : ∀ x ∈ c.exceptionTable.toList, False) (hlocks : meth.locks = false) (hK : va_K D cl tys s) (hcell : H[q]? = some ce) (hv : ce.vm = .none) (hcl : s.vm.findClass Nm = some ce.cls) (u : SX) (hu : px Nm u) (hP : va_P D cl (wx u) H) (hD : va_D A (wx u)) (hS : va_S A s.heap H locs) (hc : cells ≤ mc) (hs : slots ≤ ms) :
    vx_W p l e R s m args below meth c H locs cells slots (vx_MQ below Qc (pl_XC px D cl tys A wx) args s mc ms A) (F0 m pc ls rest) q :=
  vx_out (fun x hx => (hno x hx).elim) hlocks hcell hv hcl (fun t ht hvm => ⟨u, trivial, ⟨hu, by rw [ht]; exact hP, va_K.moved hvm hK, hD⟩, hS.F ht⟩) hS.2.2 hc hs
theorem pl_callTV {S SX : Type} {post : S → Prop} {wo wf : S → va_W} {px : String → SX → Prop} {wx wfx : SX → va_W} (X : CallFix p m c cc nL s args TG own) (hM : pl_TV l y bytes maxL rm E D cl tys (.ref b :: As) wi post wo px wx) (K : ckV own index y bytes maxL none n) (hE : pl_Ok E) (hEc : E (va_A wi H.size) s H) (hK : va_K D cl tys s) (hP : va_P D cl ws H) (hD : va_D A ws) (hS : va_S A s.heap H locs) (hA : ∀ q, s.heap.size ≤ q → A q) (hc : cl[ci]? = some (y.cls, T, N)) (q0 : Nat) (he : ws[q0]? = some (b, .inr (ci, fs))) (isC isR isF isX : List Nat) (hC : isC.map (fun i => ws[i]?) = wi.map some) (hnC : va_nd isC = true) (hR : isR.map (fun i => ws[i]?) = wr.map some) (hnR : va_nd isR = true) (hdis : ∀ i ∈ isR, i ∉ isC) (hF : ∀ u, isF.map (fun i => (wr ++ wo u)[i]?) = (wf u).map some) (hnF : va_nd isF = true) (hX : ∀ u, isX.map (fun i => (wr ++ wx u)[i]?) = (wfx u).map some) (hnX : va_nd isX = true) (hlen : As.length = n) (hsize : ls.size = nL) (hst : st0 = As.reverse ++ .ref b :: rest) (hcat : (rest.map fun v => v.category).sum ≤ 8) (hroom : rm.frames + 1 ≤ R.frames ∧ 8 + (maxL + 11) + rm.locals ≤ R.locals) (hf : cells + rm.cells ≤ R.cells ∧ slots + rm.slots ≤ R.slots) (hdg : decode cc pc = .ok (.invokevirtual index, 3))
    (kx : ∀ (Nm : String) (ce : Cell) (q : Addr) (u : SX) (H1 : Heap) (locs1 : List Loc), px Nm u → va_P D cl (wfx u) H1 → va_D A (wfx u) → va_S A s.heap H1 locs1 → H1[q]? = some ce → ce.vm = .none → s.vm.findClass Nm = some ce.cls → vx_W p l e R s m args below meth c H1 locs1 (cells + rm.cells) (slots + rm.slots) Q (F0 m pc ls rest) q)
    (kk : ∀ (u : S) (H1 : Heap) (locs1 : List Loc), post u → va_P D cl (wf u) H1 → va_D A (wf u) → va_S A s.heap H1 locs1 → W p l e R s m args below meth c H1 locs1 (cells + rm.cells) (slots + rm.slots) Q (F0 m (pc + 3) ls (rest))) : W p l e R s m args below meth c H locs cells slots Q (F0 m pc ls st0) := by
  have hFc := va_free (wc := wi) hD hS hA isC hC
  refine vx_callv (vx_runV (As := As) (rest := rest) X (hM H.size) (K.w X hroom) (⟨(pl_blind hE), va_recv hK hP hc he, (pl_pre (av := .ref b :: As) hE (hP.sub isC (pl_fm hC)) (hD.sub isC hnC hC) hK hEc).2⟩) rfl hlen hsize hst (lv_room hcat) hdg hf) hS (fun q _ h => hFc q h) hFc (fun q _ h => hFc q h) (fun Nm ce q u t H1 locs1 ht hvm _ hB hz1 hk1 hS1 hce hcv hcl => ?_) (fun u t H1 locs1 ht hvm hpo hB hz1 hk1 hS1 => ?_)
  · obtain ⟨hpx, hP1, hK1, hD1⟩ := hB
    rw [ht] at hP1
    obtain ⟨hP2, hD2⟩ := pl_back (wf := wfx u) hP hD isC isR isX hC hR hnR hdis (hX u) hnX hk1 hFc hP1 hD1
    exact kx Nm ce q u H1 locs1 hpx hP2 hD2 hS1 hce hcv hcl
  · obtain ⟨hP1, hK1, hD1⟩ := hB
    rw [ht] at hP1
    obtain ⟨hP2, hD2⟩ := pl_back (wf := wf u) hP hD isC isR isF hC hR hnR hdis (hF u) hnF hk1 hFc hP1 hD1
    exact kk u H1 locs1 hpo hP2 hD2 hS1
theorem pl_callTI {S SX : Type} {ret : FieldType} {post : Int32 → S → Prop} {wo wf : S → va_W} {px : String → SX → Prop} {wx wfx : SX → va_W} (X : CallFix p m c cc nL s args TG own) (hM : pl_TI l y bytes maxL ret rm E D cl tys (.ref b :: As) wi post wo px wx) (K : ckV own index y bytes maxL (some ret) n) (hE : pl_Ok E) (hEc : E (va_A wi H.size) s H) (hK : va_K D cl tys s) (hP : va_P D cl ws H) (hD : va_D A ws) (hS : va_S A s.heap H locs) (hA : ∀ q, s.heap.size ≤ q → A q) (hc : cl[ci]? = some (y.cls, T, N)) (q0 : Nat) (he : ws[q0]? = some (b, .inr (ci, fs))) (isC isR isF isX : List Nat) (hC : isC.map (fun i => ws[i]?) = wi.map some) (hnC : va_nd isC = true) (hR : isR.map (fun i => ws[i]?) = wr.map some) (hnR : va_nd isR = true) (hdis : ∀ i ∈ isR, i ∉ isC) (hF : ∀ u, isF.map (fun i => (wr ++ wo u)[i]?) = (wf u).map some) (hnF : va_nd isF = true) (hX : ∀ u, isX.map (fun i => (wr ++ wx u)[i]?) = (wfx u).map some) (hnX : va_nd isX = true) (hlen : As.length = n) (hsize : ls.size = nL) (hst : st0 = As.reverse ++ .ref b :: rest) (hcat : (rest.map fun v => v.category).sum ≤ 8) (hroom : rm.frames + 1 ≤ R.frames ∧ 8 + (maxL + 11) + rm.locals ≤ R.locals) (hf : cells + rm.cells ≤ R.cells ∧ slots + rm.slots ≤ R.slots) (hdg : decode cc pc = .ok (.invokevirtual index, 3))
    (kx : ∀ (Nm : String) (ce : Cell) (q : Addr) (u : SX) (H1 : Heap) (locs1 : List Loc), px Nm u → va_P D cl (wfx u) H1 → va_D A (wfx u) → va_S A s.heap H1 locs1 → H1[q]? = some ce → ce.vm = .none → s.vm.findClass Nm = some ce.cls → vx_W p l e R s m args below meth c H1 locs1 (cells + rm.cells) (slots + rm.slots) Q (F0 m pc ls rest) q)
    (kk : ∀ (r : Int32) (u : S) (H1 : Heap) (locs1 : List Loc), post r u → va_P D cl (wf u) H1 → va_D A (wf u) → va_S A s.heap H1 locs1 → W p l e R s m args below meth c H1 locs1 (cells + rm.cells) (slots + rm.slots) Q (F0 m (pc + 3) ls (.int r :: rest))) : W p l e R s m args below meth c H locs cells slots Q (F0 m pc ls st0) := by
  have hFc := va_free (wc := wi) hD hS hA isC hC
  refine vx_calli (vx_runV (As := As) (rest := rest) X (hM H.size) (K.w X hroom) (⟨(pl_blind hE), va_recv hK hP hc he, (pl_pre (av := .ref b :: As) hE (hP.sub isC (pl_fm hC)) (hD.sub isC hnC hC) hK hEc).2⟩) rfl hlen hsize hst (lv_room hcat) hdg hf) hS (fun q _ h => hFc q h) hFc (fun q _ h => hFc q h) (fun Nm ce q u t H1 locs1 ht hvm _ hB hz1 hk1 hS1 hce hcv hcl => ?_) (fun r u t H1 locs1 ht hvm hpo hB hz1 hk1 hS1 => ?_)
  · obtain ⟨hpx, hP1, hK1, hD1⟩ := hB
    rw [ht] at hP1
    obtain ⟨hP2, hD2⟩ := pl_back (wf := wfx u) hP hD isC isR isX hC hR hnR hdis (hX u) hnX hk1 hFc hP1 hD1
    exact kx Nm ce q u H1 locs1 hpx hP2 hD2 hS1 hce hcv hcl
  · obtain ⟨hP1, hK1, hD1⟩ := hB
    rw [ht] at hP1
    obtain ⟨hP2, hD2⟩ := pl_back (wf := wf u) hP hD isC isR isF hC hR hnR hdis (hF u) hnF hk1 hFc hP1 hD1
    exact kk r u H1 locs1 hpo hP2 hD2 hS1
end XR
end
section
/-! The rewritten program as the object keeps it. -/
abbrev WS : Type := (Nat → Int32) × (Nat → Int32) × (Nat → Int32) × Nat
def woP (P K lo hi th : Nat → Int32) (n np : Nat) (f g : Nat → Int32) (z : Nat) : Prop := z = plc P K th n np ∧ ∀ j, j < z → f j = (wO P K th n np).getD j 0 ∧ g j = (wK P K lo hi th n np).getD j 0
theorem woP_new (P K lo hi th : Nat → Int32) (n np : Nat) (f g : Nat → Int32) : woP P K lo hi th n np (apd f 0 (wO P K th n np)) (apd g 0 (wK P K lo hi th n np)) (plc P K th n np) := by
  refine ⟨rfl, fun j hj => ⟨?_, ?_⟩⟩
  · have := apd_at (wO P K th n np) f 0 j (by rw [wO_len]; exact hj)
    rwa [Nat.zero_add] at this
  · have := apd_at (wK P K lo hi th n np) g 0 j (by rw [wK_len]; exact hj)
    rwa [Nat.zero_add] at this
theorem inB_le_t {x : Int32} {m : Nat} (hm : m + 1 < 2 ^ 31) (h0 : ¬ x < 0) (h : x ≤ nI m) : inB x (m + 1) = true := inB_in hm h0 (i_nle.mpr (by
  rw [i_lt, nI_toInt hm]; have h1 := i_le.mp h; rw [nI_toInt (by omega)] at h1; omega))
theorem inB_le_f {x : Int32} {m : Nat} (hm : m + 1 < 2 ^ 31) (h : ¬ x ≤ nI m) : inB x (m + 1) = false := inB_hi hm (by
  rw [i_le, nI_toInt hm]; have h1 := i_lt.mp (i_nle.mp h); rw [nI_toInt (by omega)] at h1; omega)
/-- a number of states -/
def in14 (x : Int32) : Bool := decide (1 ≤ x.toInt ∧ x.toInt ≤ 4)
theorem in14_lo {x : Int32} (h : x < nI 1) : in14 x = false := by
  have h1 := i_lt.mp h
  rw [nI_toInt (by omega)] at h1
  simp only [in14, decide_eq_false_iff_not]; omega
theorem in14_hi {x : Int32} (h : ¬ x ≤ nI 4) : in14 x = false := by
  have h1 := i_lt.mp (i_nle.mp h)
  rw [nI_toInt (by omega)] at h1
  simp only [in14, decide_eq_false_iff_not]; omega
theorem in14_in {x : Int32} (h0 : ¬ x < nI 1) (h : x ≤ nI 4) : in14 x = true := by
  have h1 := i_le.mp (i_nlt.mp h0)
  have h2 := i_le.mp h
  rw [nI_toInt (by omega)] at h1 h2
  simp only [in14, decide_eq_true_eq]; omega
theorem in14_of {x : Int32} (h : in14 x = true) : ∃ k : Nat, 1 ≤ k ∧ k ≤ 4 ∧ x = nI k := by
  simp only [in14, decide_eq_true_eq] at h
  obtain ⟨j, hj, e⟩ := inB_of (n := 5) (by omega) (x := x) (by simp only [inB, decide_eq_true_eq]; omega)
  subst e
  rw [nI_toInt (by omega)] at h
  exact ⟨j, by omega, by omega, rfl⟩
def ruleOk (n : Nat) (x1 x2 x3 x4 x5 : Int32) : Bool := inB x1 n && (inB x5 n && (inB x2 8 && decide (x3 ≤ x4)))
theorem lk5 {x : Int32} (h0 : ¬ x < 0) (h : x ≤ nI 4) : x = nI 0 ∨ x = nI 1 ∨ x = nI 2 ∨ x = nI 3 ∨ x = nI 4 := by
  obtain ⟨j, hj, e⟩ := inB_of (by omega) (inB_le_t (m := 4) (by omega) h0 h)
  rcases (show j = 0 ∨ j = 1 ∨ j = 2 ∨ j = 3 ∨ j = 4 by omega) with q | q | q | q | q <;> subst q <;> simp [e]
/-- what a look answers -/
def lookV (j how stat pl q stt dn : Nat) (ca : Nat → Int32) : Int32 := if stat = 0 then nI 0 else match j with
  | 0 => nI stat
  | 1 => nI pl
  | 2 => nI q
  | 3 => if how = 1 then ca 7 else nI stt
  | _ => nI dn
end
section
/-! New objects and arrays. -/
def cwN (cl : List vw_C) (own : String) (idx ci : Nat) (C : String) (T : u_T) (N : Nat) (ty : Nat → FieldType) : Prop := cl[ci]? = some (C, T, N) ∧ (∀ w ∈ u_ws C T N, w ∈ TG) ∧ (∀ k, k < N → parseFieldDescriptor (T k).2.2.1 = some (ty k)) ∧ Cond.classLink own idx C ∈ TG ∧ Cond.instantiable C N ∈ TG ∧ Cond.initialized C ∈ TG
section MK
variable {p : Program} {l : Launch} {e : Env} {R : Room} {s : State} {m : MethodId} {args : Array Value} {below : List Frame} {meth : Method} {c : Code} {H : Heap} {locs : List Loc} {cells slots : Nat} {Q : State → Prop}
variable {cc : ByteArray} {pc nL : Nat} {ls : Array Slot} {rest : List Value} {D : va_G} {cl : List vw_C} {A : Nat → Prop} {a : Nat} {tys : List (ClassId × FieldType)} {ws : va_W} {own : String}
theorem pl_new {idx ci N : Nat} {C : String} {T : u_T} {ty : Nat → FieldType} (X : CallFix p m c cc nL s args TG own) (Kn : cwN cl own idx ci C T N ty) (hK : va_K D cl tys s) (hP : va_P D cl ws H) (hD : va_D A ws) (hS : va_S A s.heap H locs) (hA : ∀ q, s.heap.size ≤ q → A q) {fs : List Value} (hfs : ∀ j, j < N → defaultValue (ty j) = vp_V fs j) (hc : cells + 1 ≤ R.cells) (hs : slots + N ≤ R.slots) (hdg : decode cc pc = .ok (.new idx, 3))
    {ws' : Nat → va_W} (hw : ∀ q, ws ++ [(q, .inr (ci, fs))] = ws' q) (kk : ∀ (q : Nat) (H1 : Heap), va_P D cl (ws' q) H1 → va_D A (ws' q) → va_S A s.heap H1 locs → W p l e R s m args below meth c H1 locs (cells + 1) (slots + N) Q (F0 m (pc + 3) ls (.ref q :: rest))) : W p l e R s m args below meth c H locs cells slots Q (F0 m pc ls rest) :=
  va_new X.1 X.2.1 X.2.2.2.2 Kn.2.1 ty Kn.2.2.1 X.2.2.2.1 (X.2.2.2.2 _ Kn.2.2.2.1) (X.2.2.2.2 _ Kn.2.2.2.2.1) (X.2.2.2.2 _ Kn.2.2.2.2.2) hK hP hD hS hA Kn.1 hfs hc hs hdg (fun q H1 h1 h2 h3 => kk q H1 (hw q ▸ h1) (hw q ▸ h2) h3)
theorem pl_newaI {cI : ClassId} {N : Nat} (X : CallFix p m c cc nL s args TG own) (hw0 : Cond.arrayClass .int ∈ TG) (hK : va_K D cl tys s) (t0 : Nat) (ht : tys[t0]? = some (cI, .int)) (hP : va_P D cl ws H) (hD : va_D A ws) (hS : va_S A s.heap H locs) (hA : ∀ q, s.heap.size ≤ q → A q) (hN : N ≤ 100000) (hc : cells + 1 ≤ R.cells) (hs : slots + N ≤ R.slots) (hdg : decode cc pc = .ok (.newarray .int, 2))
    {ws' : Nat → va_W} (hw : ∀ q, ws ++ [(q, .inl (cI, N, .inl (fun _ => nI 0)))] = ws' q) (kk : ∀ (q : Nat) (H1 : Heap), va_P D cl (ws' q) H1 → va_D A (ws' q) → va_S A s.heap H1 locs → W p l e R s m args below meth c H1 locs (cells + 1) (slots + N) Q (F0 m (pc + 2) ls (.ref q :: rest))) : W p l e R s m args below meth c H locs cells slots Q (F0 m pc ls (.int (nI N) :: rest)) := by
  refine va_newa (atype := .int) (ty := .int) (a0 := (N, .inl (fun _ => nI 0))) X.1 X.2.1 (X.2.2.2.2 _ hw0) rfl hK hP hD hS hA (fun cA => rfl) (nI_pos (by omega)) (nI_clamp (by omega)) (by show N * 4 ≤ _; omega) hc hs hdg ?_
  intro q cA H1 hK1 h1 h2 h3
  have e1 : s.vm.findClass ("[" ++ FieldType.int.toString) = some cA := (hK1.2 tys.length (cA, .int) (by rw [List.getElem?_append_right (Nat.le_refl _), Nat.sub_self]; rfl)).2
  have e2 : s.vm.findClass ("[" ++ FieldType.int.toString) = some cI := (hK.2 t0 _ ht).2
  have e3 : cA = cI := Option.some.inj (e1.symm.trans e2)
  subst e3
  exact kk q H1 (hw q ▸ h1) (hw q ▸ h2) h3
theorem pl_newaZ {cI : ClassId} {N : Nat} (X : CallFix p m c cc nL s args TG own) (hw0 : Cond.arrayClass .boolean ∈ TG) (hK : va_K D cl tys s) (t0 : Nat) (ht : tys[t0]? = some (cI, .boolean)) (hP : va_P D cl ws H) (hD : va_D A ws) (hS : va_S A s.heap H locs) (hA : ∀ q, s.heap.size ≤ q → A q) (hN : N ≤ 100000) (hc : cells + 1 ≤ R.cells) (hs : slots + N ≤ R.slots) (hdg : decode cc pc = .ok (.newarray .boolean, 2))
    {ws' : Nat → va_W} (hw : ∀ q, ws ++ [(q, .inl (cI, N, .inl (fun _ => nI 0)))] = ws' q) (kk : ∀ (q : Nat) (H1 : Heap), va_P D cl (ws' q) H1 → va_D A (ws' q) → va_S A s.heap H1 locs → W p l e R s m args below meth c H1 locs (cells + 1) (slots + N) Q (F0 m (pc + 2) ls (.ref q :: rest))) : W p l e R s m args below meth c H locs cells slots Q (F0 m pc ls (.int (nI N) :: rest)) := by
  refine va_newa (atype := .boolean) (ty := .boolean) (a0 := (N, .inl (fun _ => nI 0))) X.1 X.2.1 (X.2.2.2.2 _ hw0) rfl hK hP hD hS hA (fun cA => rfl) (nI_pos (by omega)) (nI_clamp (by omega)) (by show N * 1 ≤ _; omega) hc hs hdg ?_
  intro q cA H1 hK1 h1 h2 h3
  have e1 : s.vm.findClass ("[" ++ FieldType.boolean.toString) = some cA := (hK1.2 tys.length (cA, .boolean) (by rw [List.getElem?_append_right (Nat.le_refl _), Nat.sub_self]; rfl)).2
  have e2 : s.vm.findClass ("[" ++ FieldType.boolean.toString) = some cI := (hK.2 t0 _ ht).2
  have e3 : cA = cI := Option.some.inj (e1.symm.trans e2)
  subst e3
  exact kk q H1 (hw q ▸ h1) (hw q ▸ h2) h3
end MK
end
section
/-! Names: classes, fields, methods; which words the tables have. -/
def R_Listing : String := "PolicyLoom$Listing"
def F_Listing : u_T := fun k => match k with
  | 0 => ("PolicyLoom$Listing", "operations", "[I", true)
  | 1 => ("PolicyLoom$Listing", "numbers", "[I", true)
  | _ => ("PolicyLoom$Listing", "size", "I", false)
def t_Listing : Nat → FieldType := fun k => match k with
  | 0 => .array .int
  | 1 => .array .int
  | _ => .int
abbrev N_Listing : Nat := 3
def R_Automaton : String := "PolicyLoom$Automaton"
def F_Automaton : u_T := fun k => match k with
  | 0 => ("PolicyLoom$Automaton", "lowest", "[I", true)
  | 1 => ("PolicyLoom$Automaton", "highest", "[I", true)
  | 2 => ("PolicyLoom$Automaton", "then", "[I", true)
  | _ => ("PolicyLoom$Automaton", "size", "I", false)
def t_Automaton : Nat → FieldType := fun k => match k with
  | 0 => .array .int
  | 1 => .array .int
  | 2 => .array .int
  | _ => .int
abbrev N_Automaton : Nat := 4
def R_Heights : String := "PolicyLoom$Heights"
def F_Heights : u_T := fun k => match k with
  | 0 => ("PolicyLoom$Heights", "found", "[I", true)
  | 1 => ("PolicyLoom$Heights", "queue", "[I", true)
  | 2 => ("PolicyLoom$Heights", "queued", "I", false)
  | _ => ("PolicyLoom$Heights", "wellFormed", "Z", false)
def t_Heights : Nat → FieldType := fun k => match k with
  | 0 => .array .int
  | 1 => .array .int
  | 2 => .int
  | _ => .boolean
abbrev N_Heights : Nat := 4
def R_Weaver : String := "PolicyLoom$Weaver"
def F_Weaver : u_T := fun k => match k with
  | 0 => ("PolicyLoom$Weaver", "listing", "LPolicyLoom$Listing;", true)
  | _ => ("PolicyLoom$Weaver", "firstOf", "[I", true)
def t_Weaver : Nat → FieldType := fun k => match k with
  | 0 => .object "PolicyLoom$Listing"
  | _ => .array .int
abbrev N_Weaver : Nat := 2
def R_Run : String := "PolicyLoom$Run"
def F_Run : u_T := fun k => match k with
  | 0 => ("PolicyLoom$Run", "stack", "[I", true)
  | 1 => ("PolicyLoom$Run", "cells", "[I", true)
  | 2 => ("PolicyLoom$Run", "traceActs", "[I", true)
  | 3 => ("PolicyLoom$Run", "traceNumbers", "[I", true)
  | 4 => ("PolicyLoom$Run", "how", "I", false)
  | 5 => ("PolicyLoom$Run", "status", "I", false)
  | 6 => ("PolicyLoom$Run", "place", "I", false)
  | 7 => ("PolicyLoom$Run", "stacked", "I", false)
  | 8 => ("PolicyLoom$Run", "state", "I", false)
  | _ => ("PolicyLoom$Run", "done", "I", false)
def t_Run : Nat → FieldType := fun k => match k with
  | 0 => .array .int
  | 1 => .array .int
  | 2 => .array .int
  | 3 => .array .int
  | 4 => .int
  | 5 => .int
  | 6 => .int
  | 7 => .int
  | 8 => .int
  | _ => .int
abbrev N_Run : Nat := 10
def R_Loom : String := "PolicyLoom"
def F_Loom : u_T := fun k => match k with
  | 0 => ("PolicyLoom", "program", "LPolicyLoom$Listing;", true)
  | 1 => ("PolicyLoom", "automaton", "LPolicyLoom$Automaton;", true)
  | 2 => ("PolicyLoom", "heights", "LPolicyLoom$Heights;", true)
  | 3 => ("PolicyLoom", "weaver", "LPolicyLoom$Weaver;", true)
  | 4 => ("PolicyLoom", "run", "LPolicyLoom$Run;", true)
  | 5 => ("PolicyLoom", "examined", "Z", false)
  | _ => ("PolicyLoom", "woven", "Z", false)
def t_Loom : Nat → FieldType := fun k => match k with
  | 0 => .object "PolicyLoom$Listing"
  | 1 => .object "PolicyLoom$Automaton"
  | 2 => .object "PolicyLoom$Heights"
  | 3 => .object "PolicyLoom$Weaver"
  | 4 => .object "PolicyLoom$Run"
  | 5 => .boolean
  | _ => .boolean
abbrev N_Loom : Nat := 7
def R_Model : String := "PolicyLoomModel"
def F_Model : u_T := fun k => match k with
  | 0 => ("PolicyLoomModel", "code", "I", false)
  | 1 => ("PolicyLoomModel", "count", "I", false)
  | 2 => ("PolicyLoomModel", "operation", "[I", true)
  | 3 => ("PolicyLoomModel", "ks", "[I", true)
  | 4 => ("PolicyLoomModel", "heights", "[I", true)
  | 5 => ("PolicyLoomModel", "states", "I", false)
  | 6 => ("PolicyLoomModel", "rules", "[Z", true)
  | 7 => ("PolicyLoomModel", "lowest", "[I", true)
  | 8 => ("PolicyLoomModel", "highest", "[I", true)
  | 9 => ("PolicyLoomModel", "then", "[I", true)
  | 10 => ("PolicyLoomModel", "foundOperation", "I", false)
  | 11 => ("PolicyLoomModel", "foundK", "I", false)
  | 12 => ("PolicyLoomModel", "state", "I", false)
  | 13 => ("PolicyLoomModel", "how", "I", false)
  | 14 => ("PolicyLoomModel", "at", "I", false)
  | 15 => ("PolicyLoomModel", "last", "I", false)
  | 16 => ("PolicyLoomModel", "automaton", "I", false)
  | 17 => ("PolicyLoomModel", "height", "I", false)
  | 18 => ("PolicyLoomModel", "stack", "[I", true)
  | 19 => ("PolicyLoomModel", "cells", "[I", true)
  | 20 => ("PolicyLoomModel", "acts", "I", false)
  | 21 => ("PolicyLoomModel", "acted", "[I", true)
  | _ => ("PolicyLoomModel", "numbers", "[I", true)
def t_Model : Nat → FieldType := fun k => match k with
  | 0 => .int
  | 1 => .int
  | 2 => .array .int
  | 3 => .array .int
  | 4 => .array .int
  | 5 => .int
  | 6 => .array .boolean
  | 7 => .array .int
  | 8 => .array .int
  | 9 => .array .int
  | 10 => .int
  | 11 => .int
  | 12 => .int
  | 13 => .int
  | 14 => .int
  | 15 => .int
  | 16 => .int
  | 17 => .int
  | 18 => .array .int
  | 19 => .array .int
  | 20 => .int
  | 21 => .array .int
  | _ => .array .int
abbrev N_Model : Nat := 23
def R_Law : String := "PolicyLoomLaw"
abbrev classes : List vw_C := [(R_Listing, F_Listing, 3), (R_Automaton, F_Automaton, 4), (R_Heights, F_Heights, 4), (R_Weaver, F_Weaver, 2), (R_Run, F_Run, 10), (R_Loom, F_Loom, 7), (R_Model, F_Model, 23)]
abbrev TY (cI cZ cL : ClassId) : List (ClassId × FieldType) := [(cI, .int), (cZ, .boolean), (cL, .long)]
theorem fp_Listing : fp F_Listing 3 t_Listing := ⟨by decide +kernel, by decide +kernel⟩
set_option maxRecDepth 20000 in
theorem uw_Listing : ∀ w ∈ u_ws R_Listing F_Listing 3, w ∈ TG := ck_c (tg_mem 77 rfl rfl) (ck_c (tg_mem 79 rfl rfl) (ck_c (tg_mem 81 rfl rfl) (ck_n)))
theorem fp_Automaton : fp F_Automaton 4 t_Automaton := ⟨by decide +kernel, by decide +kernel⟩
set_option maxRecDepth 20000 in
theorem uw_Automaton : ∀ w ∈ u_ws R_Automaton F_Automaton 4, w ∈ TG := ck_c (tg_mem 104 rfl rfl) (ck_c (tg_mem 106 rfl rfl) (ck_c (tg_mem 108 rfl rfl) (ck_c (tg_mem 110 rfl rfl) (ck_n))))
theorem fp_Heights : fp F_Heights 4 t_Heights := ⟨by decide +kernel, by decide +kernel⟩
set_option maxRecDepth 20000 in
theorem uw_Heights : ∀ w ∈ u_ws R_Heights F_Heights 4, w ∈ TG := ck_c (tg_mem 125 rfl rfl) (ck_c (tg_mem 127 rfl rfl) (ck_c (tg_mem 129 rfl rfl) (ck_c (tg_mem 131 rfl rfl) (ck_n))))
theorem fp_Weaver : fp F_Weaver 2 t_Weaver := ⟨by decide +kernel, by decide +kernel⟩
set_option maxRecDepth 20000 in
theorem uw_Weaver : ∀ w ∈ u_ws R_Weaver F_Weaver 2, w ∈ TG := ck_c (tg_mem 145 rfl rfl) (ck_c (tg_mem 147 rfl rfl) (ck_n))
theorem fp_Run : fp F_Run 10 t_Run := ⟨by decide +kernel, by decide +kernel⟩
set_option maxRecDepth 20000 in
theorem uw_Run : ∀ w ∈ u_ws R_Run F_Run 10, w ∈ TG := ck_c (tg_mem 174 rfl rfl) (ck_c (tg_mem 176 rfl rfl) (ck_c (tg_mem 178 rfl rfl) (ck_c (tg_mem 180 rfl rfl) (ck_c (tg_mem 182 rfl rfl) (ck_c (tg_mem 184 rfl rfl) (ck_c (tg_mem 186 rfl rfl) (ck_c (tg_mem 188 rfl rfl) (ck_c (tg_mem 190 rfl rfl) (ck_c (tg_mem 192 rfl rfl) (ck_n))))))))))
theorem fp_Loom : fp F_Loom 7 t_Loom := ⟨by decide +kernel, by decide +kernel⟩
set_option maxRecDepth 20000 in
theorem uw_Loom : ∀ w ∈ u_ws R_Loom F_Loom 7, w ∈ TG := ck_c (tg_mem 202 rfl rfl) (ck_c (tg_mem 204 rfl rfl) (ck_c (tg_mem 206 rfl rfl) (ck_c (tg_mem 208 rfl rfl) (ck_c (tg_mem 210 rfl rfl) (ck_c (tg_mem 212 rfl rfl) (ck_c (tg_mem 214 rfl rfl) (ck_n)))))))
theorem fp_Model : fp F_Model 23 t_Model := ⟨by decide +kernel, by decide +kernel⟩
set_option maxRecDepth 20000 in
theorem uw_Model : ∀ w ∈ u_ws R_Model F_Model 23, w ∈ TG := ck_c (tg_mem 587 rfl rfl) (ck_c (tg_mem 589 rfl rfl) (ck_c (tg_mem 591 rfl rfl) (ck_c (tg_mem 593 rfl rfl) (ck_c (tg_mem 595 rfl rfl) (ck_c (tg_mem 597 rfl rfl) (ck_c (tg_mem 599 rfl rfl) (ck_c (tg_mem 601 rfl rfl) (ck_c (tg_mem 603 rfl rfl) (ck_c (tg_mem 605 rfl rfl) (ck_c (tg_mem 607 rfl rfl) (ck_c (tg_mem 609 rfl rfl) (ck_c (tg_mem 611 rfl rfl) (ck_c (tg_mem 613 rfl rfl) (ck_c (tg_mem 615 rfl rfl) (ck_c (tg_mem 617 rfl rfl) (ck_c (tg_mem 619 rfl rfl) (ck_c (tg_mem 621 rfl rfl) (ck_c (tg_mem 623 rfl rfl) (ck_c (tg_mem 625 rfl rfl) (ck_c (tg_mem 627 rfl rfl) (ck_c (tg_mem 629 rfl rfl) (ck_c (tg_mem 631 rfl rfl) (ck_n)))))))))))))))))))))))
abbrev b_Loom_init : ByteArray := prog_1_method_1_code
def y_Loom_init : MethodName := ⟨R_Loom, "<init>", "()V"⟩
abbrev b_Listing_init : ByteArray := prog_4_method_1_code
def y_Listing_init : MethodName := ⟨R_Listing, "<init>", "(I)V"⟩
abbrev b_Automaton_init : ByteArray := prog_2_method_1_code
def y_Automaton_init : MethodName := ⟨R_Automaton, "<init>", "()V"⟩
abbrev b_Automaton_reset : ByteArray := prog_2_method_3_code
def y_Automaton_reset : MethodName := ⟨R_Automaton, "reset", "(I)V"⟩
abbrev b_Heights_init : ByteArray := prog_3_method_1_code
def y_Heights_init : MethodName := ⟨R_Heights, "<init>", "()V"⟩
abbrev b_Weaver_init : ByteArray := prog_6_method_1_code
def y_Weaver_init : MethodName := ⟨R_Weaver, "<init>", "()V"⟩
abbrev b_Run_init : ByteArray := prog_5_method_1_code
def y_Run_init : MethodName := ⟨R_Run, "<init>", "()V"⟩
abbrev b_Loom_clear : ByteArray := prog_1_method_3_code
def y_Loom_clear : MethodName := ⟨R_Loom, "clear", "()V"⟩
abbrev b_Loom_forgetWhatHungOnProgram : ByteArray := prog_1_method_15_code
def y_Loom_forgetWhatHungOnProgram : MethodName := ⟨R_Loom, "forgetWhatHungOnProgram", "()V"⟩
abbrev b_Loom_forgetWhatHungOnAutomaton : ByteArray := prog_1_method_16_code
def y_Loom_forgetWhatHungOnAutomaton : MethodName := ⟨R_Loom, "forgetWhatHungOnAutomaton", "()V"⟩
abbrev b_Loom_well : ByteArray := prog_1_method_6_code
def y_Loom_well : MethodName := ⟨R_Loom, "well", "()Z"⟩
abbrev b_Loom_isWellFormed : ByteArray := prog_1_method_17_code
def y_Loom_isWellFormed : MethodName := ⟨R_Loom, "isWellFormed", "()Z"⟩
abbrev b_Heights_examine : ByteArray := prog_3_method_2_code
def y_Heights_examine : MethodName := ⟨R_Heights, "examine", "(LPolicyLoom$Listing;)V"⟩
abbrev b_Heights_numbersFit : ByteArray := prog_3_method_3_code
def y_Heights_numbersFit : MethodName := ⟨R_Heights, "numbersFit", "(LPolicyLoom$Listing;)Z"⟩
abbrev b_Heights_numberFits : ByteArray := prog_3_method_4_code
def y_Heights_numberFits : MethodName := ⟨R_Heights, "numberFits", "(III)Z"⟩
abbrev b_Heights_heightsFit : ByteArray := prog_3_method_5_code
def y_Heights_heightsFit : MethodName := ⟨R_Heights, "heightsFit", "(LPolicyLoom$Listing;)Z"⟩
abbrev b_Heights_reach : ByteArray := prog_3_method_7_code
def y_Heights_reach : MethodName := ⟨R_Heights, "reach", "(LPolicyLoom$Listing;II)Z"⟩
abbrev b_Heights_waysOnFit : ByteArray := prog_3_method_6_code
def y_Heights_waysOnFit : MethodName := ⟨R_Heights, "waysOnFit", "(LPolicyLoom$Listing;I)Z"⟩
abbrev b_Loom_goesElsewhere : ByteArray := prog_1_method_20_code
def y_Loom_goesElsewhere : MethodName := ⟨R_Loom, "goesElsewhere", "(I)Z"⟩
abbrev b_Law_code : ByteArray := method_3_code
def y_Law_code : MethodName := ⟨R_Law, "code", "(LPolicyLoom;II[J)I"⟩
abbrev b_Loom_code : ByteArray := prog_1_method_2_code
def y_Loom_code : MethodName := ⟨R_Loom, "code", "(II)I"⟩
abbrev b_Listing_append : ByteArray := prog_4_method_2_code
def y_Listing_append : MethodName := ⟨R_Listing, "append", "(II)V"⟩
abbrev b_Law_states : ByteArray := method_4_code
def y_Law_states : MethodName := ⟨R_Law, "states", "(LPolicyLoom;I)I"⟩
abbrev b_Loom_states : ByteArray := prog_1_method_4_code
def y_Loom_states : MethodName := ⟨R_Loom, "states", "(I)V"⟩
abbrev b_Law_rule : ByteArray := method_5_code
def y_Law_rule : MethodName := ⟨R_Law, "rule", "(LPolicyLoom;IIIII)I"⟩
abbrev b_Loom_rule : ByteArray := prog_1_method_5_code
def y_Loom_rule : MethodName := ⟨R_Loom, "rule", "(IIIII)V"⟩
abbrev b_Automaton_hasState : ByteArray := prog_2_method_4_code
def y_Automaton_hasState : MethodName := ⟨R_Automaton, "hasState", "(I)Z"⟩
abbrev b_Automaton_place : ByteArray := prog_2_method_2_code
def y_Automaton_place : MethodName := ⟨R_Automaton, "place", "(II)I"⟩
abbrev b_Automaton_setRule : ByteArray := prog_2_method_5_code
def y_Automaton_setRule : MethodName := ⟨R_Automaton, "setRule", "(IIII)V"⟩
abbrev b_Law_height : ByteArray := method_6_code
def y_Law_height : MethodName := ⟨R_Law, "height", "(LPolicyLoom;I[J)I"⟩
abbrev b_Loom_height : ByteArray := prog_1_method_7_code
def y_Loom_height : MethodName := ⟨R_Loom, "height", "(I)I"⟩
abbrev b_Loom_requireWellFormed : ByteArray := prog_1_method_18_code
def y_Loom_requireWellFormed : MethodName := ⟨R_Loom, "requireWellFormed", "()V"⟩
abbrev b_Law_enforce : ByteArray := method_7_code
def y_Law_enforce : MethodName := ⟨R_Law, "enforce", "(LPolicyLoom;[J)I"⟩
abbrev b_Loom_enforce : ByteArray := prog_1_method_8_code
def y_Loom_enforce : MethodName := ⟨R_Loom, "enforce", "()I"⟩
abbrev b_Loom_wovenListing : ByteArray := prog_1_method_19_code
def y_Loom_wovenListing : MethodName := ⟨R_Loom, "wovenListing", "()LPolicyLoom$Listing;"⟩
abbrev b_Weaver_weave : ByteArray := prog_6_method_2_code
def y_Weaver_weave : MethodName := ⟨R_Weaver, "weave", "(LPolicyLoom$Listing;LPolicyLoom$Automaton;)V"⟩
abbrev b_Weaver_findFirsts : ByteArray := prog_6_method_3_code
def y_Weaver_findFirsts : MethodName := ⟨R_Weaver, "findFirsts", "(LPolicyLoom$Listing;LPolicyLoom$Automaton;)V"⟩
abbrev b_Weaver_guardLength : ByteArray := prog_6_method_4_code
def y_Weaver_guardLength : MethodName := ⟨R_Weaver, "guardLength", "(LPolicyLoom$Automaton;I)I"⟩
abbrev b_Automaton_countRules : ByteArray := prog_2_method_8_code
def y_Automaton_countRules : MethodName := ⟨R_Automaton, "countRules", "(I)I"⟩
abbrev b_Automaton_hasRule : ByteArray := prog_2_method_6_code
def y_Automaton_hasRule : MethodName := ⟨R_Automaton, "hasRule", "(I)Z"⟩
abbrev b_Weaver_appendGuard : ByteArray := prog_6_method_5_code
def y_Weaver_appendGuard : MethodName := ⟨R_Weaver, "appendGuard", "(LPolicyLoom$Automaton;I)V"⟩
abbrev b_Weaver_appendStateCheck : ByteArray := prog_6_method_6_code
def y_Weaver_appendStateCheck : MethodName := ⟨R_Weaver, "appendStateCheck", "(II)V"⟩
abbrev b_Weaver_appendRangeCheck : ByteArray := prog_6_method_7_code
def y_Weaver_appendRangeCheck : MethodName := ⟨R_Weaver, "appendRangeCheck", "(III)V"⟩
abbrev b_Weaver_appendMove : ByteArray := prog_6_method_8_code
def y_Weaver_appendMove : MethodName := ⟨R_Weaver, "appendMove", "(II)V"⟩
abbrev b_Law_enforced : ByteArray := method_8_code
def y_Law_enforced : MethodName := ⟨R_Law, "enforced", "(LPolicyLoom;IZ[J)I"⟩
abbrev b_Loom_enforced : ByteArray := prog_1_method_9_code
def y_Loom_enforced : MethodName := ⟨R_Loom, "enforced", "(IZ)I"⟩
abbrev b_Law_start : ByteArray := method_9_code
def y_Law_start : MethodName := ⟨R_Law, "start", "(LPolicyLoom;II)I"⟩
abbrev b_Loom_start : ByteArray := prog_1_method_10_code
def y_Loom_start : MethodName := ⟨R_Loom, "start", "(II)V"⟩
abbrev b_Run_begin : ByteArray := prog_5_method_2_code
def y_Run_begin : MethodName := ⟨R_Run, "begin", "(II)V"⟩
abbrev b_Law_step : ByteArray := method_10_code
def y_Law_step : MethodName := ⟨R_Law, "step", "(LPolicyLoom;I[J)I"⟩
abbrev b_Loom_step : ByteArray := prog_1_method_11_code
def y_Loom_step : MethodName := ⟨R_Loom, "step", "(I)I"⟩
abbrev b_Run_advance : ByteArray := prog_5_method_4_code
def y_Run_advance : MethodName := ⟨R_Run, "advance", "(LPolicyLoom$Listing;LPolicyLoom$Automaton;)V"⟩
abbrev b_Run_pop : ByteArray := prog_5_method_9_code
def y_Run_pop : MethodName := ⟨R_Run, "pop", "()I"⟩
abbrev b_Run_tryAct : ByteArray := prog_5_method_5_code
def y_Run_tryAct : MethodName := ⟨R_Run, "tryAct", "(LPolicyLoom$Automaton;I)V"⟩
abbrev b_Automaton_allows : ByteArray := prog_2_method_7_code
def y_Automaton_allows : MethodName := ⟨R_Automaton, "allows", "(II)Z"⟩
abbrev b_Run_work : ByteArray := prog_5_method_6_code
def y_Run_work : MethodName := ⟨R_Run, "work", "(II)V"⟩
abbrev b_Run_push : ByteArray := prog_5_method_8_code
def y_Run_push : MethodName := ⟨R_Run, "push", "(I)V"⟩
abbrev b_Run_workOnTwo : ByteArray := prog_5_method_7_code
def y_Run_workOnTwo : MethodName := ⟨R_Run, "workOnTwo", "(I)V"⟩
abbrev b_Law_look : ByteArray := method_11_code
def y_Law_look : MethodName := ⟨R_Law, "look", "(LPolicyLoom;I[J)I"⟩
abbrev b_Loom_look : ByteArray := prog_1_method_12_code
def y_Loom_look : MethodName := ⟨R_Loom, "look", "(I)I"⟩
abbrev b_Run_policyState : ByteArray := prog_5_method_3_code
def y_Run_policyState : MethodName := ⟨R_Run, "policyState", "()I"⟩
abbrev b_Law_act : ByteArray := method_12_code
def y_Law_act : MethodName := ⟨R_Law, "act", "(LPolicyLoom;IZ[J)I"⟩
abbrev b_Loom_act : ByteArray := prog_1_method_13_code
def y_Loom_act : MethodName := ⟨R_Loom, "act", "(IZ)I"⟩
abbrev b_Law_cell1 : ByteArray := method_13_code
def y_Law_cell1 : MethodName := ⟨R_Law, "cell", "(LPolicyLoom;I[J)I"⟩
abbrev b_Loom_cell : ByteArray := prog_1_method_14_code
def y_Loom_cell : MethodName := ⟨R_Loom, "cell", "(I)I"⟩
abbrev b_Model_init : ByteArray := prog_8_method_1_code
def y_Model_init : MethodName := ⟨R_Model, "<init>", "()V"⟩
abbrev b_Model_thrown : ByteArray := prog_8_method_2_code
def y_Model_thrown : MethodName := ⟨R_Model, "thrown", "()I"⟩
abbrev b_Model_code : ByteArray := prog_8_method_4_code
def y_Model_code : MethodName := ⟨R_Model, "code", "(II)I"⟩
abbrev b_Model_refuse : ByteArray := prog_8_method_3_code
def y_Model_refuse : MethodName := ⟨R_Model, "refuse", "(I)I"⟩
abbrev b_Model_clear : ByteArray := prog_8_method_5_code
def y_Model_clear : MethodName := ⟨R_Model, "clear", "()V"⟩
abbrev b_Model_states : ByteArray := prog_8_method_6_code
def y_Model_states : MethodName := ⟨R_Model, "states", "(I)V"⟩
abbrev b_Model_rule : ByteArray := prog_8_method_8_code
def y_Model_rule : MethodName := ⟨R_Model, "rule", "(IIIII)V"⟩
abbrev b_Model_isState : ByteArray := prog_8_method_7_code
def y_Model_isState : MethodName := ⟨R_Model, "isState", "(I)Z"⟩
abbrev b_Model_well : ByteArray := prog_8_method_15_code
def y_Model_well : MethodName := ⟨R_Model, "well", "()Z"⟩
abbrev b_Model_isWell : ByteArray := prog_8_method_14_code
def y_Model_isWell : MethodName := ⟨R_Model, "isWell", "()Z"⟩
abbrev b_Model_isK : ByteArray := prog_8_method_12_code
def y_Model_isK : MethodName := ⟨R_Model, "isK", "(I)Z"⟩
abbrev b_Model_isPlace : ByteArray := prog_8_method_11_code
def y_Model_isPlace : MethodName := ⟨R_Model, "isPlace", "(I)Z"⟩
abbrev b_Model_takes : ByteArray := prog_8_method_9_code
def y_Model_takes : MethodName := ⟨R_Model, "takes", "(I)I"⟩
abbrev b_Model_gives : ByteArray := prog_8_method_10_code
def y_Model_gives : MethodName := ⟨R_Model, "gives", "(I)I"⟩
abbrev b_Model_reach : ByteArray := prog_8_method_13_code
def y_Model_reach : MethodName := ⟨R_Model, "reach", "(II)Z"⟩
abbrev b_Model_height : ByteArray := prog_8_method_16_code
def y_Model_height : MethodName := ⟨R_Model, "height", "(I)I"⟩
abbrev b_Model_enforce : ByteArray := prog_8_method_23_code
def y_Model_enforce : MethodName := ⟨R_Model, "enforce", "()I"⟩
abbrev b_Model_place : ByteArray := prog_8_method_19_code
def y_Model_place : MethodName := ⟨R_Model, "place", "(I)I"⟩
abbrev b_Model_aheadOf : ByteArray := prog_8_method_18_code
def y_Model_aheadOf : MethodName := ⟨R_Model, "aheadOf", "(I)I"⟩
abbrev b_Model_testsOf : ByteArray := prog_8_method_17_code
def y_Model_testsOf : MethodName := ⟨R_Model, "testsOf", "(I)I"⟩
abbrev b_Model_enforced : ByteArray := prog_8_method_24_code
def y_Model_enforced : MethodName := ⟨R_Model, "enforced", "(IZ)I"⟩
abbrev b_Model_find : ByteArray := prog_8_method_21_code
def y_Model_find : MethodName := ⟨R_Model, "find", "(I)V"⟩
abbrev b_Model_set : ByteArray := prog_8_method_20_code
def y_Model_set : MethodName := ⟨R_Model, "set", "(II)V"⟩
abbrev b_Model_test : ByteArray := prog_8_method_22_code
def y_Model_test : MethodName := ⟨R_Model, "test", "(IIII)V"⟩
abbrev b_Model_start : ByteArray := prog_8_method_25_code
def y_Model_start : MethodName := ⟨R_Model, "start", "(II)V"⟩
abbrev b_Model_step : ByteArray := prog_8_method_30_code
def y_Model_step : MethodName := ⟨R_Model, "step", "(I)I"⟩
abbrev b_Model_one : ByteArray := prog_8_method_29_code
def y_Model_one : MethodName := ⟨R_Model, "one", "()V"⟩
abbrev b_Model_pop : ByteArray := prog_8_method_26_code
def y_Model_pop : MethodName := ⟨R_Model, "pop", "()I"⟩
abbrev b_Model_push : ByteArray := prog_8_method_27_code
def y_Model_push : MethodName := ⟨R_Model, "push", "(I)V"⟩
abbrev b_Model_done : ByteArray := prog_8_method_28_code
def y_Model_done : MethodName := ⟨R_Model, "done", "(I)V"⟩
abbrev b_Model_look : ByteArray := prog_8_method_31_code
def y_Model_look : MethodName := ⟨R_Model, "look", "(I)I"⟩
abbrev b_Model_act : ByteArray := prog_8_method_32_code
def y_Model_act : MethodName := ⟨R_Model, "act", "(IZ)I"⟩
abbrev b_Model_cell : ByteArray := prog_8_method_33_code
def y_Model_cell : MethodName := ⟨R_Model, "cell", "(I)I"⟩
end
section
/-! What the fields and calls of Listing, Automaton, Run, Weaver, Heights, Loom, Model, Law stand on. -/
set_option maxRecDepth 20000 in
theorem fw_Loom_14 : fw classes R_Loom 14 5 0 R_Loom F_Loom 7 := ⟨rfl, by decide, uw_Loom, tg_mem 195 rfl rfl⟩
set_option maxRecDepth 20000 in
theorem fw_Loom_21 : fw classes R_Loom 21 5 1 R_Loom F_Loom 7 := ⟨rfl, by decide, uw_Loom, tg_mem 196 rfl rfl⟩
set_option maxRecDepth 20000 in
theorem fw_Loom_28 : fw classes R_Loom 28 5 2 R_Loom F_Loom 7 := ⟨rfl, by decide, uw_Loom, tg_mem 197 rfl rfl⟩
set_option maxRecDepth 20000 in
theorem fw_Loom_35 : fw classes R_Loom 35 5 3 R_Loom F_Loom 7 := ⟨rfl, by decide, uw_Loom, tg_mem 198 rfl rfl⟩
set_option maxRecDepth 20000 in
theorem fw_Loom_42 : fw classes R_Loom 42 5 4 R_Loom F_Loom 7 := ⟨rfl, by decide, uw_Loom, tg_mem 199 rfl rfl⟩
set_option maxRecDepth 20000 in
theorem fw_Loom_46 : fw classes R_Loom 46 5 5 R_Loom F_Loom 7 := ⟨rfl, by decide, uw_Loom, tg_mem 200 rfl rfl⟩
set_option maxRecDepth 20000 in
theorem fw_Loom_50 : fw classes R_Loom 50 5 6 R_Loom F_Loom 7 := ⟨rfl, by decide, uw_Loom, tg_mem 201 rfl rfl⟩
set_option maxRecDepth 20000 in
theorem fw_Loom_60 : fw classes R_Loom 60 0 2 R_Listing F_Listing 3 := ⟨rfl, by decide, uw_Listing, tg_mem 76 rfl rfl⟩
set_option maxRecDepth 20000 in
theorem fw_Loom_111 : fw classes R_Loom 111 2 0 R_Heights F_Heights 4 := ⟨rfl, by decide, uw_Heights, tg_mem 120 rfl rfl⟩
set_option maxRecDepth 20000 in
theorem fw_Loom_119 : fw classes R_Loom 119 0 1 R_Listing F_Listing 3 := ⟨rfl, by decide, uw_Listing, tg_mem 72 rfl rfl⟩
set_option maxRecDepth 20000 in
theorem fw_Loom_122 : fw classes R_Loom 122 0 0 R_Listing F_Listing 3 := ⟨rfl, by decide, uw_Listing, tg_mem 67 rfl rfl⟩
set_option maxRecDepth 20000 in
theorem fw_Loom_130 : fw classes R_Loom 130 4 5 R_Run F_Run 10 := ⟨rfl, by decide, uw_Run, tg_mem 166 rfl rfl⟩
set_option maxRecDepth 20000 in
theorem fw_Loom_140 : fw classes R_Loom 140 4 4 R_Run F_Run 10 := ⟨rfl, by decide, uw_Run, tg_mem 164 rfl rfl⟩
set_option maxRecDepth 20000 in
theorem fw_Loom_149 : fw classes R_Loom 149 4 6 R_Run F_Run 10 := ⟨rfl, by decide, uw_Run, tg_mem 168 rfl rfl⟩
set_option maxRecDepth 20000 in
theorem fw_Loom_151 : fw classes R_Loom 151 4 7 R_Run F_Run 10 := ⟨rfl, by decide, uw_Run, tg_mem 170 rfl rfl⟩
set_option maxRecDepth 20000 in
theorem fw_Loom_158 : fw classes R_Loom 158 4 9 R_Run F_Run 10 := ⟨rfl, by decide, uw_Run, tg_mem 173 rfl rfl⟩
set_option maxRecDepth 20000 in
theorem fw_Loom_163 : fw classes R_Loom 163 4 3 R_Run F_Run 10 := ⟨rfl, by decide, uw_Run, tg_mem 162 rfl rfl⟩
set_option maxRecDepth 20000 in
theorem fw_Loom_166 : fw classes R_Loom 166 4 2 R_Run F_Run 10 := ⟨rfl, by decide, uw_Run, tg_mem 160 rfl rfl⟩
set_option maxRecDepth 20000 in
theorem fw_Loom_171 : fw classes R_Loom 171 4 1 R_Run F_Run 10 := ⟨rfl, by decide, uw_Run, tg_mem 158 rfl rfl⟩
set_option maxRecDepth 20000 in
theorem fw_Loom_178 : fw classes R_Loom 178 2 3 R_Heights F_Heights 4 := ⟨rfl, by decide, uw_Heights, tg_mem 124 rfl rfl⟩
set_option maxRecDepth 20000 in
theorem fw_Loom_186 : fw classes R_Loom 186 3 0 R_Weaver F_Weaver 2 := ⟨rfl, by decide, uw_Weaver, tg_mem 143 rfl rfl⟩
set_option maxRecDepth 20000 in
theorem fw_Automaton_9 : fw classes R_Automaton 9 1 0 R_Automaton F_Automaton 4 := ⟨rfl, by decide, uw_Automaton, tg_mem 95 rfl rfl⟩
set_option maxRecDepth 20000 in
theorem fw_Automaton_15 : fw classes R_Automaton 15 1 1 R_Automaton F_Automaton 4 := ⟨rfl, by decide, uw_Automaton, tg_mem 97 rfl rfl⟩
set_option maxRecDepth 20000 in
theorem fw_Automaton_18 : fw classes R_Automaton 18 1 2 R_Automaton F_Automaton 4 := ⟨rfl, by decide, uw_Automaton, tg_mem 99 rfl rfl⟩
set_option maxRecDepth 20000 in
theorem fw_Automaton_25 : fw classes R_Automaton 25 1 3 R_Automaton F_Automaton 4 := ⟨rfl, by decide, uw_Automaton, tg_mem 102 rfl rfl⟩
set_option maxRecDepth 20000 in
theorem fw_Heights_9 : fw classes R_Heights 9 2 0 R_Heights F_Heights 4 := ⟨rfl, by decide, uw_Heights, tg_mem 119 rfl rfl⟩
set_option maxRecDepth 20000 in
theorem fw_Heights_15 : fw classes R_Heights 15 2 1 R_Heights F_Heights 4 := ⟨rfl, by decide, uw_Heights, tg_mem 121 rfl rfl⟩
set_option maxRecDepth 20000 in
theorem fw_Heights_18 : fw classes R_Heights 18 2 2 R_Heights F_Heights 4 := ⟨rfl, by decide, uw_Heights, tg_mem 122 rfl rfl⟩
set_option maxRecDepth 20000 in
theorem fw_Heights_22 : fw classes R_Heights 22 2 3 R_Heights F_Heights 4 := ⟨rfl, by decide, uw_Heights, tg_mem 123 rfl rfl⟩
set_option maxRecDepth 20000 in
theorem fw_Heights_26 : fw classes R_Heights 26 0 2 R_Listing F_Listing 3 := ⟨rfl, by decide, uw_Listing, tg_mem 74 rfl rfl⟩
set_option maxRecDepth 20000 in
theorem fw_Heights_38 : fw classes R_Heights 38 0 0 R_Listing F_Listing 3 := ⟨rfl, by decide, uw_Listing, tg_mem 65 rfl rfl⟩
set_option maxRecDepth 20000 in
theorem fw_Heights_41 : fw classes R_Heights 41 0 1 R_Listing F_Listing 3 := ⟨rfl, by decide, uw_Listing, tg_mem 70 rfl rfl⟩
set_option maxRecDepth 20000 in
theorem fs_Heights_56 : Cond.fieldLink R_Heights 56 "PolicyLoom$Heights" "TAKES" "[I" ∈ TG := tg_mem 259 rfl rfl
set_option maxRecDepth 20000 in
theorem fs_Heights_59 : Cond.fieldLink R_Heights 59 "PolicyLoom$Heights" "LEAVES" "[I" ∈ TG := tg_mem 261 rfl rfl
set_option maxRecDepth 20000 in
theorem fw_Listing_7 : fw classes R_Listing 7 0 0 R_Listing F_Listing 3 := ⟨rfl, by decide, uw_Listing, tg_mem 63 rfl rfl⟩
set_option maxRecDepth 20000 in
theorem fw_Listing_13 : fw classes R_Listing 13 0 1 R_Listing F_Listing 3 := ⟨rfl, by decide, uw_Listing, tg_mem 68 rfl rfl⟩
set_option maxRecDepth 20000 in
theorem fw_Listing_16 : fw classes R_Listing 16 0 2 R_Listing F_Listing 3 := ⟨rfl, by decide, uw_Listing, tg_mem 73 rfl rfl⟩
set_option maxRecDepth 20000 in
theorem fw_Run_9 : fw classes R_Run 9 4 0 R_Run F_Run 10 := ⟨rfl, by decide, uw_Run, tg_mem 156 rfl rfl⟩
set_option maxRecDepth 20000 in
theorem fw_Run_15 : fw classes R_Run 15 4 1 R_Run F_Run 10 := ⟨rfl, by decide, uw_Run, tg_mem 157 rfl rfl⟩
set_option maxRecDepth 20000 in
theorem fw_Run_18 : fw classes R_Run 18 4 2 R_Run F_Run 10 := ⟨rfl, by decide, uw_Run, tg_mem 159 rfl rfl⟩
set_option maxRecDepth 20000 in
theorem fw_Run_21 : fw classes R_Run 21 4 3 R_Run F_Run 10 := ⟨rfl, by decide, uw_Run, tg_mem 161 rfl rfl⟩
set_option maxRecDepth 20000 in
theorem fw_Run_24 : fw classes R_Run 24 4 5 R_Run F_Run 10 := ⟨rfl, by decide, uw_Run, tg_mem 165 rfl rfl⟩
set_option maxRecDepth 20000 in
theorem fw_Run_28 : fw classes R_Run 28 4 4 R_Run F_Run 10 := ⟨rfl, by decide, uw_Run, tg_mem 163 rfl rfl⟩
set_option maxRecDepth 20000 in
theorem fw_Run_31 : fw classes R_Run 31 4 6 R_Run F_Run 10 := ⟨rfl, by decide, uw_Run, tg_mem 167 rfl rfl⟩
set_option maxRecDepth 20000 in
theorem fw_Run_34 : fw classes R_Run 34 4 7 R_Run F_Run 10 := ⟨rfl, by decide, uw_Run, tg_mem 169 rfl rfl⟩
set_option maxRecDepth 20000 in
theorem fw_Run_37 : fw classes R_Run 37 4 8 R_Run F_Run 10 := ⟨rfl, by decide, uw_Run, tg_mem 171 rfl rfl⟩
set_option maxRecDepth 20000 in
theorem fw_Run_40 : fw classes R_Run 40 4 9 R_Run F_Run 10 := ⟨rfl, by decide, uw_Run, tg_mem 172 rfl rfl⟩
set_option maxRecDepth 20000 in
theorem fw_Run_43 : fw classes R_Run 43 0 0 R_Listing F_Listing 3 := ⟨rfl, by decide, uw_Listing, tg_mem 66 rfl rfl⟩
set_option maxRecDepth 20000 in
theorem fw_Run_48 : fw classes R_Run 48 0 1 R_Listing F_Listing 3 := ⟨rfl, by decide, uw_Listing, tg_mem 71 rfl rfl⟩
set_option maxRecDepth 20000 in
theorem fw_Run_72 : fw classes R_Run 72 1 2 R_Automaton F_Automaton 4 := ⟨rfl, by decide, uw_Automaton, tg_mem 100 rfl rfl⟩
set_option maxRecDepth 20000 in
theorem fw_Weaver_14 : fw classes R_Weaver 14 3 0 R_Weaver F_Weaver 2 := ⟨rfl, by decide, uw_Weaver, tg_mem 142 rfl rfl⟩
set_option maxRecDepth 20000 in
theorem fw_Weaver_20 : fw classes R_Weaver 20 3 1 R_Weaver F_Weaver 2 := ⟨rfl, by decide, uw_Weaver, tg_mem 144 rfl rfl⟩
set_option maxRecDepth 20000 in
theorem fw_Weaver_28 : fw classes R_Weaver 28 0 2 R_Listing F_Listing 3 := ⟨rfl, by decide, uw_Listing, tg_mem 75 rfl rfl⟩
set_option maxRecDepth 20000 in
theorem fw_Weaver_32 : fw classes R_Weaver 32 0 0 R_Listing F_Listing 3 := ⟨rfl, by decide, uw_Listing, tg_mem 64 rfl rfl⟩
set_option maxRecDepth 20000 in
theorem fw_Weaver_35 : fw classes R_Weaver 35 0 1 R_Listing F_Listing 3 := ⟨rfl, by decide, uw_Listing, tg_mem 69 rfl rfl⟩
set_option maxRecDepth 20000 in
theorem fw_Weaver_60 : fw classes R_Weaver 60 1 3 R_Automaton F_Automaton 4 := ⟨rfl, by decide, uw_Automaton, tg_mem 103 rfl rfl⟩
set_option maxRecDepth 20000 in
theorem fw_Weaver_71 : fw classes R_Weaver 71 1 0 R_Automaton F_Automaton 4 := ⟨rfl, by decide, uw_Automaton, tg_mem 96 rfl rfl⟩
set_option maxRecDepth 20000 in
theorem fw_Weaver_74 : fw classes R_Weaver 74 1 1 R_Automaton F_Automaton 4 := ⟨rfl, by decide, uw_Automaton, tg_mem 98 rfl rfl⟩
set_option maxRecDepth 20000 in
theorem fw_Weaver_81 : fw classes R_Weaver 81 1 2 R_Automaton F_Automaton 4 := ⟨rfl, by decide, uw_Automaton, tg_mem 101 rfl rfl⟩
set_option maxRecDepth 20000 in
theorem fw_Model_7 : fw classes R_Model 7 6 2 R_Model F_Model 23 := ⟨rfl, by decide, uw_Model, tg_mem 566 rfl rfl⟩
set_option maxRecDepth 20000 in
theorem fw_Model_13 : fw classes R_Model 13 6 3 R_Model F_Model 23 := ⟨rfl, by decide, uw_Model, tg_mem 567 rfl rfl⟩
set_option maxRecDepth 20000 in
theorem fw_Model_16 : fw classes R_Model 16 6 4 R_Model F_Model 23 := ⟨rfl, by decide, uw_Model, tg_mem 568 rfl rfl⟩
set_option maxRecDepth 20000 in
theorem fw_Model_19 : fw classes R_Model 19 6 5 R_Model F_Model 23 := ⟨rfl, by decide, uw_Model, tg_mem 569 rfl rfl⟩
set_option maxRecDepth 20000 in
theorem fw_Model_23 : fw classes R_Model 23 6 6 R_Model F_Model 23 := ⟨rfl, by decide, uw_Model, tg_mem 570 rfl rfl⟩
set_option maxRecDepth 20000 in
theorem fw_Model_27 : fw classes R_Model 27 6 7 R_Model F_Model 23 := ⟨rfl, by decide, uw_Model, tg_mem 571 rfl rfl⟩
set_option maxRecDepth 20000 in
theorem fw_Model_30 : fw classes R_Model 30 6 8 R_Model F_Model 23 := ⟨rfl, by decide, uw_Model, tg_mem 572 rfl rfl⟩
set_option maxRecDepth 20000 in
theorem fw_Model_33 : fw classes R_Model 33 6 9 R_Model F_Model 23 := ⟨rfl, by decide, uw_Model, tg_mem 573 rfl rfl⟩
set_option maxRecDepth 20000 in
theorem fw_Model_36 : fw classes R_Model 36 6 18 R_Model F_Model 23 := ⟨rfl, by decide, uw_Model, tg_mem 582 rfl rfl⟩
set_option maxRecDepth 20000 in
theorem fw_Model_39 : fw classes R_Model 39 6 19 R_Model F_Model 23 := ⟨rfl, by decide, uw_Model, tg_mem 583 rfl rfl⟩
set_option maxRecDepth 20000 in
theorem fw_Model_42 : fw classes R_Model 42 6 21 R_Model F_Model 23 := ⟨rfl, by decide, uw_Model, tg_mem 585 rfl rfl⟩
set_option maxRecDepth 20000 in
theorem fw_Model_45 : fw classes R_Model 45 6 22 R_Model F_Model 23 := ⟨rfl, by decide, uw_Model, tg_mem 586 rfl rfl⟩
set_option maxRecDepth 20000 in
theorem fw_Model_48 : fw classes R_Model 48 6 0 R_Model F_Model 23 := ⟨rfl, by decide, uw_Model, tg_mem 564 rfl rfl⟩
set_option maxRecDepth 20000 in
theorem fw_Model_55 : fw classes R_Model 55 6 1 R_Model F_Model 23 := ⟨rfl, by decide, uw_Model, tg_mem 565 rfl rfl⟩
set_option maxRecDepth 20000 in
theorem fw_Model_58 : fw classes R_Model 58 6 12 R_Model F_Model 23 := ⟨rfl, by decide, uw_Model, tg_mem 576 rfl rfl⟩
set_option maxRecDepth 20000 in
theorem fw_Model_91 : fw classes R_Model 91 6 10 R_Model F_Model 23 := ⟨rfl, by decide, uw_Model, tg_mem 574 rfl rfl⟩
set_option maxRecDepth 20000 in
theorem fw_Model_94 : fw classes R_Model 94 6 11 R_Model F_Model 23 := ⟨rfl, by decide, uw_Model, tg_mem 575 rfl rfl⟩
set_option maxRecDepth 20000 in
theorem fw_Model_112 : fw classes R_Model 112 6 13 R_Model F_Model 23 := ⟨rfl, by decide, uw_Model, tg_mem 577 rfl rfl⟩
set_option maxRecDepth 20000 in
theorem fw_Model_115 : fw classes R_Model 115 6 14 R_Model F_Model 23 := ⟨rfl, by decide, uw_Model, tg_mem 578 rfl rfl⟩
set_option maxRecDepth 20000 in
theorem fw_Model_118 : fw classes R_Model 118 6 15 R_Model F_Model 23 := ⟨rfl, by decide, uw_Model, tg_mem 579 rfl rfl⟩
set_option maxRecDepth 20000 in
theorem fw_Model_121 : fw classes R_Model 121 6 16 R_Model F_Model 23 := ⟨rfl, by decide, uw_Model, tg_mem 580 rfl rfl⟩
set_option maxRecDepth 20000 in
theorem fw_Model_124 : fw classes R_Model 124 6 17 R_Model F_Model 23 := ⟨rfl, by decide, uw_Model, tg_mem 581 rfl rfl⟩
set_option maxRecDepth 20000 in
theorem fw_Model_127 : fw classes R_Model 127 6 20 R_Model F_Model 23 := ⟨rfl, by decide, uw_Model, tg_mem 584 rfl rfl⟩
set_option maxRecDepth 20000 in
theorem ob_Loom_3 : ckO R_Loom 3 := ⟨tg_mem 54 rfl rfl, tg_mem 55 rfl rfl, tg_mem 56 rfl rfl⟩
set_option maxRecDepth 20000 in
theorem ck_Loom_11 : ckI R_Loom 11 y_Listing_init b_Listing_init 2 1 := ⟨tg_mem 59 rfl rfl, tg_mem 60 rfl rfl, tg_mem 37 rfl rfl, tg_mem 61 rfl rfl, rfl, ⟨by decide, by decide, by decide +kernel⟩⟩
set_option maxRecDepth 20000 in
theorem ck_Loom_20 : ckI R_Loom 20 y_Automaton_init b_Automaton_init 1 0 := ⟨tg_mem 87 rfl rfl, tg_mem 88 rfl rfl, tg_mem 38 rfl rfl, tg_mem 89 rfl rfl, rfl, ⟨by decide, by decide, by decide +kernel⟩⟩
set_option maxRecDepth 20000 in
theorem ck_Loom_27 : ckI R_Loom 27 y_Heights_init b_Heights_init 1 0 := ⟨tg_mem 115 rfl rfl, tg_mem 116 rfl rfl, tg_mem 39 rfl rfl, tg_mem 117 rfl rfl, rfl, ⟨by decide, by decide, by decide +kernel⟩⟩
set_option maxRecDepth 20000 in
theorem ck_Loom_34 : ckI R_Loom 34 y_Weaver_init b_Weaver_init 1 0 := ⟨tg_mem 136 rfl rfl, tg_mem 137 rfl rfl, tg_mem 40 rfl rfl, tg_mem 138 rfl rfl, rfl, ⟨by decide, by decide, by decide +kernel⟩⟩
set_option maxRecDepth 20000 in
theorem ck_Loom_41 : ckI R_Loom 41 y_Run_init b_Run_init 1 0 := ⟨tg_mem 152 rfl rfl, tg_mem 153 rfl rfl, tg_mem 41 rfl rfl, tg_mem 154 rfl rfl, rfl, ⟨by decide, by decide, by decide +kernel⟩⟩
set_option maxRecDepth 20000 in
theorem ck_Loom_69 : ckV R_Loom 69 y_Loom_forgetWhatHungOnProgram b_Loom_forgetWhatHungOnProgram 1 none 0 := ⟨tg_mem 221 rfl rfl, tg_mem 223 rfl rfl, tg_mem 0 rfl rfl, tg_mem 36 rfl rfl, tg_mem 224 rfl rfl, ⟨by decide, by decide, by decide +kernel⟩⟩
set_option maxRecDepth 20000 in
theorem ck_Loom_72 : ckV R_Loom 72 y_Listing_append b_Listing_append 3 none 2 := ⟨tg_mem 359 rfl rfl, tg_mem 360 rfl rfl, tg_mem 361 rfl rfl, tg_mem 37 rfl rfl, tg_mem 362 rfl rfl, ⟨by decide, by decide, by decide +kernel⟩⟩
set_option maxRecDepth 20000 in
theorem ck_Loom_78 : ckV R_Loom 78 y_Loom_forgetWhatHungOnAutomaton b_Loom_forgetWhatHungOnAutomaton 1 none 0 := ⟨tg_mem 225 rfl rfl, tg_mem 227 rfl rfl, tg_mem 1 rfl rfl, tg_mem 36 rfl rfl, tg_mem 228 rfl rfl, ⟨by decide, by decide, by decide +kernel⟩⟩
set_option maxRecDepth 20000 in
theorem ck_Loom_81 : ckV R_Loom 81 y_Automaton_reset b_Automaton_reset 3 none 1 := ⟨tg_mem 371 rfl rfl, tg_mem 92 rfl rfl, tg_mem 93 rfl rfl, tg_mem 38 rfl rfl, tg_mem 94 rfl rfl, ⟨by decide, by decide, by decide +kernel⟩⟩
set_option maxRecDepth 20000 in
theorem ck_Loom_84 : ckV R_Loom 84 y_Automaton_hasState b_Automaton_hasState 2 (some (Jvm.ClassFile.FieldType.boolean)) 1 := ⟨tg_mem 379 rfl rfl, tg_mem 380 rfl rfl, tg_mem 381 rfl rfl, tg_mem 38 rfl rfl, tg_mem 382 rfl rfl, ⟨by decide, by decide, by decide +kernel⟩⟩
set_option maxRecDepth 20000 in
theorem ck_Loom_94 : ckS R_Loom 94 y_Automaton_place b_Automaton_place 2 (some (Jvm.ClassFile.FieldType.int)) 2 := ⟨tg_mem 386 rfl rfl, tg_mem 387 rfl rfl, tg_mem 38 rfl rfl, tg_mem 388 rfl rfl, ⟨by decide, by decide, by decide +kernel⟩⟩
set_option maxRecDepth 20000 in
theorem ck_Loom_98 : ckV R_Loom 98 y_Automaton_setRule b_Automaton_setRule 5 none 4 := ⟨tg_mem 389 rfl rfl, tg_mem 390 rfl rfl, tg_mem 391 rfl rfl, tg_mem 38 rfl rfl, tg_mem 392 rfl rfl, ⟨by decide, by decide, by decide +kernel⟩⟩
set_option maxRecDepth 20000 in
theorem ck_Loom_102 : ckV R_Loom 102 y_Loom_isWellFormed b_Loom_isWellFormed 1 (some (Jvm.ClassFile.FieldType.boolean)) 0 := ⟨tg_mem 233 rfl rfl, tg_mem 235 rfl rfl, tg_mem 2 rfl rfl, tg_mem 36 rfl rfl, tg_mem 236 rfl rfl, ⟨by decide, by decide, by decide +kernel⟩⟩
set_option maxRecDepth 20000 in
theorem ck_Loom_106 : ckV R_Loom 106 y_Loom_requireWellFormed b_Loom_requireWellFormed 1 none 0 := ⟨tg_mem 401 rfl rfl, tg_mem 403 rfl rfl, tg_mem 7 rfl rfl, tg_mem 36 rfl rfl, tg_mem 404 rfl rfl, ⟨by decide, by decide, by decide +kernel⟩⟩
set_option maxRecDepth 20000 in
theorem ck_Loom_115 : ckV R_Loom 115 y_Loom_wovenListing b_Loom_wovenListing 1 (some ((Jvm.ClassFile.FieldType.object "PolicyLoom$Listing"))) 0 := ⟨tg_mem 429 rfl rfl, tg_mem 431 rfl rfl, tg_mem 8 rfl rfl, tg_mem 36 rfl rfl, tg_mem 432 rfl rfl, ⟨by decide, by decide, by decide +kernel⟩⟩
set_option maxRecDepth 20000 in
theorem ck_Loom_127 : ckV R_Loom 127 y_Run_begin b_Run_begin 4 none 2 := ⟨tg_mem 488 rfl rfl, tg_mem 489 rfl rfl, tg_mem 490 rfl rfl, tg_mem 41 rfl rfl, tg_mem 491 rfl rfl, ⟨by decide, by decide, by decide +kernel⟩⟩
set_option maxRecDepth 20000 in
theorem ck_Loom_143 : ckV R_Loom 143 y_Run_advance b_Run_advance 5 none 2 := ⟨tg_mem 501 rfl rfl, tg_mem 502 rfl rfl, tg_mem 503 rfl rfl, tg_mem 41 rfl rfl, tg_mem 504 rfl rfl, ⟨by decide, by decide, by decide +kernel⟩⟩
set_option maxRecDepth 20000 in
theorem ck_Loom_154 : ckV R_Loom 154 y_Run_policyState b_Run_policyState 1 (some (Jvm.ClassFile.FieldType.int)) 0 := ⟨tg_mem 538 rfl rfl, tg_mem 539 rfl rfl, tg_mem 540 rfl rfl, tg_mem 41 rfl rfl, tg_mem 541 rfl rfl, ⟨by decide, by decide, by decide +kernel⟩⟩
set_option maxRecDepth 20000 in
theorem ck_Loom_174 : ckV R_Loom 174 y_Heights_examine b_Heights_examine 2 none 1 := ⟨tg_mem 237 rfl rfl, tg_mem 238 rfl rfl, tg_mem 239 rfl rfl, tg_mem 39 rfl rfl, tg_mem 240 rfl rfl, ⟨by decide, by decide, by decide +kernel⟩⟩
set_option maxRecDepth 20000 in
theorem ck_Loom_183 : ckV R_Loom 183 y_Weaver_weave b_Weaver_weave 6 none 2 := ⟨tg_mem 433 rfl rfl, tg_mem 434 rfl rfl, tg_mem 435 rfl rfl, tg_mem 40 rfl rfl, tg_mem 436 rfl rfl, ⟨by decide, by decide, by decide +kernel⟩⟩
set_option maxRecDepth 20000 in
theorem ob_Automaton_3 : ckO R_Automaton 3 := ⟨tg_mem 90 rfl rfl, tg_mem 55 rfl rfl, tg_mem 56 rfl rfl⟩
set_option maxRecDepth 20000 in
theorem ck_Automaton_21 : ckV R_Automaton 21 y_Automaton_reset b_Automaton_reset 3 none 1 := ⟨tg_mem 91 rfl rfl, tg_mem 92 rfl rfl, tg_mem 93 rfl rfl, tg_mem 38 rfl rfl, tg_mem 94 rfl rfl, ⟨by decide, by decide, by decide +kernel⟩⟩
set_option maxRecDepth 20000 in
theorem ck_Automaton_29 : ckV R_Automaton 29 y_Automaton_hasRule b_Automaton_hasRule 2 (some (Jvm.ClassFile.FieldType.boolean)) 1 := ⟨tg_mem 449 rfl rfl, tg_mem 450 rfl rfl, tg_mem 451 rfl rfl, tg_mem 38 rfl rfl, tg_mem 452 rfl rfl, ⟨by decide, by decide, by decide +kernel⟩⟩
set_option maxRecDepth 20000 in
theorem ck_Automaton_33 : ckS R_Automaton 33 y_Automaton_place b_Automaton_place 2 (some (Jvm.ClassFile.FieldType.int)) 2 := ⟨tg_mem 448 rfl rfl, tg_mem 387 rfl rfl, tg_mem 38 rfl rfl, tg_mem 388 rfl rfl, ⟨by decide, by decide, by decide +kernel⟩⟩
set_option maxRecDepth 20000 in
theorem ob_Heights_3 : ckO R_Heights 3 := ⟨tg_mem 118 rfl rfl, tg_mem 55 rfl rfl, tg_mem 56 rfl rfl⟩
set_option maxRecDepth 20000 in
theorem ck_Heights_31 : ckS R_Heights 31 y_Heights_numbersFit b_Heights_numbersFit 2 (some (Jvm.ClassFile.FieldType.boolean)) 1 := ⟨tg_mem 241 rfl rfl, tg_mem 242 rfl rfl, tg_mem 39 rfl rfl, tg_mem 243 rfl rfl, ⟨by decide, by decide, by decide +kernel⟩⟩
set_option maxRecDepth 20000 in
theorem ck_Heights_35 : ckV R_Heights 35 y_Heights_heightsFit b_Heights_heightsFit 3 (some (Jvm.ClassFile.FieldType.boolean)) 1 := ⟨tg_mem 247 rfl rfl, tg_mem 249 rfl rfl, tg_mem 3 rfl rfl, tg_mem 39 rfl rfl, tg_mem 250 rfl rfl, ⟨by decide, by decide, by decide +kernel⟩⟩
set_option maxRecDepth 20000 in
theorem ck_Heights_44 : ckS R_Heights 44 y_Heights_numberFits b_Heights_numberFits 3 (some (Jvm.ClassFile.FieldType.boolean)) 3 := ⟨tg_mem 244 rfl rfl, tg_mem 245 rfl rfl, tg_mem 39 rfl rfl, tg_mem 246 rfl rfl, ⟨by decide, by decide, by decide +kernel⟩⟩
set_option maxRecDepth 20000 in
theorem ck_Heights_48 : ckV R_Heights 48 y_Heights_reach b_Heights_reach 4 (some (Jvm.ClassFile.FieldType.boolean)) 3 := ⟨tg_mem 251 rfl rfl, tg_mem 253 rfl rfl, tg_mem 4 rfl rfl, tg_mem 39 rfl rfl, tg_mem 254 rfl rfl, ⟨by decide, by decide, by decide +kernel⟩⟩
set_option maxRecDepth 20000 in
theorem ck_Heights_52 : ckV R_Heights 52 y_Heights_waysOnFit b_Heights_waysOnFit 6 (some (Jvm.ClassFile.FieldType.boolean)) 2 := ⟨tg_mem 255 rfl rfl, tg_mem 257 rfl rfl, tg_mem 5 rfl rfl, tg_mem 39 rfl rfl, tg_mem 258 rfl rfl, ⟨by decide, by decide, by decide +kernel⟩⟩
set_option maxRecDepth 20000 in
theorem ob_Listing_1 : ckO R_Listing 1 := ⟨tg_mem 62 rfl rfl, tg_mem 55 rfl rfl, tg_mem 56 rfl rfl⟩
set_option maxRecDepth 20000 in
theorem ob_Run_3 : ckO R_Run 3 := ⟨tg_mem 155 rfl rfl, tg_mem 55 rfl rfl, tg_mem 56 rfl rfl⟩
set_option maxRecDepth 20000 in
theorem ck_Run_51 : ckV R_Run 51 y_Run_pop b_Run_pop 1 (some (Jvm.ClassFile.FieldType.int)) 0 := ⟨tg_mem 505 rfl rfl, tg_mem 507 rfl rfl, tg_mem 14 rfl rfl, tg_mem 41 rfl rfl, tg_mem 508 rfl rfl, ⟨by decide, by decide, by decide +kernel⟩⟩
set_option maxRecDepth 20000 in
theorem ck_Run_55 : ckV R_Run 55 y_Run_tryAct b_Run_tryAct 5 none 2 := ⟨tg_mem 509 rfl rfl, tg_mem 511 rfl rfl, tg_mem 15 rfl rfl, tg_mem 41 rfl rfl, tg_mem 512 rfl rfl, ⟨by decide, by decide, by decide +kernel⟩⟩
set_option maxRecDepth 20000 in
theorem ck_Run_59 : ckV R_Run 59 y_Run_work b_Run_work 3 none 2 := ⟨tg_mem 518 rfl rfl, tg_mem 520 rfl rfl, tg_mem 16 rfl rfl, tg_mem 41 rfl rfl, tg_mem 521 rfl rfl, ⟨by decide, by decide, by decide +kernel⟩⟩
set_option maxRecDepth 20000 in
theorem ck_Run_63 : ckS R_Run 63 y_Automaton_place b_Automaton_place 2 (some (Jvm.ClassFile.FieldType.int)) 2 := ⟨tg_mem 513 rfl rfl, tg_mem 387 rfl rfl, tg_mem 38 rfl rfl, tg_mem 388 rfl rfl, ⟨by decide, by decide, by decide +kernel⟩⟩
set_option maxRecDepth 20000 in
theorem ck_Run_68 : ckV R_Run 68 y_Automaton_allows b_Automaton_allows 3 (some (Jvm.ClassFile.FieldType.boolean)) 2 := ⟨tg_mem 514 rfl rfl, tg_mem 515 rfl rfl, tg_mem 516 rfl rfl, tg_mem 38 rfl rfl, tg_mem 517 rfl rfl, ⟨by decide, by decide, by decide +kernel⟩⟩
set_option maxRecDepth 20000 in
theorem ck_Run_75 : ckV R_Run 75 y_Run_push b_Run_push 2 none 1 := ⟨tg_mem 522 rfl rfl, tg_mem 524 rfl rfl, tg_mem 17 rfl rfl, tg_mem 41 rfl rfl, tg_mem 525 rfl rfl, ⟨by decide, by decide, by decide +kernel⟩⟩
set_option maxRecDepth 20000 in
theorem ck_Run_79 : ckV R_Run 79 y_Run_workOnTwo b_Run_workOnTwo 4 none 1 := ⟨tg_mem 526 rfl rfl, tg_mem 528 rfl rfl, tg_mem 18 rfl rfl, tg_mem 41 rfl rfl, tg_mem 529 rfl rfl, ⟨by decide, by decide, by decide +kernel⟩⟩
set_option maxRecDepth 20000 in
theorem ob_Weaver_3 : ckO R_Weaver 3 := ⟨tg_mem 139 rfl rfl, tg_mem 55 rfl rfl, tg_mem 56 rfl rfl⟩
set_option maxRecDepth 20000 in
theorem ck_Weaver_11 : ckI R_Weaver 11 y_Listing_init b_Listing_init 2 1 := ⟨tg_mem 141 rfl rfl, tg_mem 60 rfl rfl, tg_mem 37 rfl rfl, tg_mem 61 rfl rfl, rfl, ⟨by decide, by decide, by decide +kernel⟩⟩
set_option maxRecDepth 20000 in
theorem ck_Weaver_24 : ckV R_Weaver 24 y_Weaver_findFirsts b_Weaver_findFirsts 5 none 2 := ⟨tg_mem 437 rfl rfl, tg_mem 439 rfl rfl, tg_mem 9 rfl rfl, tg_mem 40 rfl rfl, tg_mem 440 rfl rfl, ⟨by decide, by decide, by decide +kernel⟩⟩
set_option maxRecDepth 20000 in
theorem ck_Weaver_38 : ckV R_Weaver 38 y_Weaver_appendGuard b_Weaver_appendGuard 6 none 2 := ⟨tg_mem 453 rfl rfl, tg_mem 455 rfl rfl, tg_mem 10 rfl rfl, tg_mem 40 rfl rfl, tg_mem 456 rfl rfl, ⟨by decide, by decide, by decide +kernel⟩⟩
set_option maxRecDepth 20000 in
theorem ck_Weaver_46 : ckV R_Weaver 46 y_Listing_append b_Listing_append 3 none 2 := ⟨tg_mem 463 rfl rfl, tg_mem 360 rfl rfl, tg_mem 361 rfl rfl, tg_mem 37 rfl rfl, tg_mem 362 rfl rfl, ⟨by decide, by decide, by decide +kernel⟩⟩
set_option maxRecDepth 20000 in
theorem ck_Weaver_50 : ckS R_Weaver 50 y_Weaver_guardLength b_Weaver_guardLength 2 (some (Jvm.ClassFile.FieldType.int)) 2 := ⟨tg_mem 441 rfl rfl, tg_mem 442 rfl rfl, tg_mem 40 rfl rfl, tg_mem 443 rfl rfl, ⟨by decide, by decide, by decide +kernel⟩⟩
set_option maxRecDepth 20000 in
theorem ck_Weaver_54 : ckV R_Weaver 54 y_Automaton_countRules b_Automaton_countRules 4 (some (Jvm.ClassFile.FieldType.int)) 1 := ⟨tg_mem 444 rfl rfl, tg_mem 445 rfl rfl, tg_mem 446 rfl rfl, tg_mem 38 rfl rfl, tg_mem 447 rfl rfl, ⟨by decide, by decide, by decide +kernel⟩⟩
set_option maxRecDepth 20000 in
theorem ck_Weaver_61 : ckS R_Weaver 61 y_Automaton_place b_Automaton_place 2 (some (Jvm.ClassFile.FieldType.int)) 2 := ⟨tg_mem 457 rfl rfl, tg_mem 387 rfl rfl, tg_mem 38 rfl rfl, tg_mem 388 rfl rfl, ⟨by decide, by decide, by decide +kernel⟩⟩
set_option maxRecDepth 20000 in
theorem ck_Weaver_65 : ckV R_Weaver 65 y_Automaton_hasRule b_Automaton_hasRule 2 (some (Jvm.ClassFile.FieldType.boolean)) 1 := ⟨tg_mem 458 rfl rfl, tg_mem 450 rfl rfl, tg_mem 451 rfl rfl, tg_mem 38 rfl rfl, tg_mem 452 rfl rfl, ⟨by decide, by decide, by decide +kernel⟩⟩
set_option maxRecDepth 20000 in
theorem ck_Weaver_68 : ckV R_Weaver 68 y_Weaver_appendStateCheck b_Weaver_appendStateCheck 3 none 2 := ⟨tg_mem 459 rfl rfl, tg_mem 461 rfl rfl, tg_mem 11 rfl rfl, tg_mem 40 rfl rfl, tg_mem 462 rfl rfl, ⟨by decide, by decide, by decide +kernel⟩⟩
set_option maxRecDepth 20000 in
theorem ck_Weaver_77 : ckV R_Weaver 77 y_Weaver_appendRangeCheck b_Weaver_appendRangeCheck 4 none 3 := ⟨tg_mem 464 rfl rfl, tg_mem 466 rfl rfl, tg_mem 12 rfl rfl, tg_mem 40 rfl rfl, tg_mem 467 rfl rfl, ⟨by decide, by decide, by decide +kernel⟩⟩
set_option maxRecDepth 20000 in
theorem ck_Weaver_84 : ckV R_Weaver 84 y_Weaver_appendMove b_Weaver_appendMove 3 none 2 := ⟨tg_mem 468 rfl rfl, tg_mem 470 rfl rfl, tg_mem 13 rfl rfl, tg_mem 40 rfl rfl, tg_mem 471 rfl rfl, ⟨by decide, by decide, by decide +kernel⟩⟩
set_option maxRecDepth 20000 in
theorem ck_Law_7 : ckV R_Law 7 y_Loom_code b_Loom_code 3 (some (Jvm.ClassFile.FieldType.int)) 2 := ⟨tg_mem 271 rfl rfl, tg_mem 272 rfl rfl, tg_mem 273 rfl rfl, tg_mem 36 rfl rfl, tg_mem 274 rfl rfl, ⟨by decide, by decide, by decide +kernel⟩⟩
set_option maxRecDepth 20000 in
theorem ck_Law_17 : ckV R_Law 17 y_Loom_states b_Loom_states 2 none 1 := ⟨tg_mem 366 rfl rfl, tg_mem 367 rfl rfl, tg_mem 368 rfl rfl, tg_mem 36 rfl rfl, tg_mem 369 rfl rfl, ⟨by decide, by decide, by decide +kernel⟩⟩
set_option maxRecDepth 20000 in
theorem ck_Law_21 : ckV R_Law 21 y_Loom_rule b_Loom_rule 6 none 5 := ⟨tg_mem 375 rfl rfl, tg_mem 376 rfl rfl, tg_mem 377 rfl rfl, tg_mem 36 rfl rfl, tg_mem 378 rfl rfl, ⟨by decide, by decide, by decide +kernel⟩⟩
set_option maxRecDepth 20000 in
theorem ck_Law_25 : ckV R_Law 25 y_Loom_height b_Loom_height 2 (some (Jvm.ClassFile.FieldType.int)) 1 := ⟨tg_mem 397 rfl rfl, tg_mem 398 rfl rfl, tg_mem 399 rfl rfl, tg_mem 36 rfl rfl, tg_mem 400 rfl rfl, ⟨by decide, by decide, by decide +kernel⟩⟩
set_option maxRecDepth 20000 in
theorem ck_Law_31 : ckV R_Law 31 y_Loom_enforce b_Loom_enforce 1 (some (Jvm.ClassFile.FieldType.int)) 0 := ⟨tg_mem 425 rfl rfl, tg_mem 426 rfl rfl, tg_mem 427 rfl rfl, tg_mem 36 rfl rfl, tg_mem 428 rfl rfl, ⟨by decide, by decide, by decide +kernel⟩⟩
set_option maxRecDepth 20000 in
theorem ck_Law_35 : ckV R_Law 35 y_Loom_enforced b_Loom_enforced 4 (some (Jvm.ClassFile.FieldType.int)) 2 := ⟨tg_mem 476 rfl rfl, tg_mem 477 rfl rfl, tg_mem 478 rfl rfl, tg_mem 36 rfl rfl, tg_mem 479 rfl rfl, ⟨by decide, by decide, by decide +kernel⟩⟩
set_option maxRecDepth 20000 in
theorem ck_Law_39 : ckV R_Law 39 y_Loom_start b_Loom_start 3 none 2 := ⟨tg_mem 483 rfl rfl, tg_mem 484 rfl rfl, tg_mem 485 rfl rfl, tg_mem 36 rfl rfl, tg_mem 486 rfl rfl, ⟨by decide, by decide, by decide +kernel⟩⟩
set_option maxRecDepth 20000 in
theorem ck_Law_43 : ckV R_Law 43 y_Loom_step b_Loom_step 4 (some (Jvm.ClassFile.FieldType.int)) 1 := ⟨tg_mem 495 rfl rfl, tg_mem 496 rfl rfl, tg_mem 497 rfl rfl, tg_mem 36 rfl rfl, tg_mem 498 rfl rfl, ⟨by decide, by decide, by decide +kernel⟩⟩
set_option maxRecDepth 20000 in
theorem ck_Law_46 : ckV R_Law 46 y_Loom_look b_Loom_look 2 (some (Jvm.ClassFile.FieldType.int)) 1 := ⟨tg_mem 533 rfl rfl, tg_mem 534 rfl rfl, tg_mem 535 rfl rfl, tg_mem 36 rfl rfl, tg_mem 536 rfl rfl, ⟨by decide, by decide, by decide +kernel⟩⟩
set_option maxRecDepth 20000 in
theorem ck_Law_49 : ckV R_Law 49 y_Loom_act b_Loom_act 3 (some (Jvm.ClassFile.FieldType.int)) 2 := ⟨tg_mem 545 rfl rfl, tg_mem 546 rfl rfl, tg_mem 547 rfl rfl, tg_mem 36 rfl rfl, tg_mem 548 rfl rfl, ⟨by decide, by decide, by decide +kernel⟩⟩
set_option maxRecDepth 20000 in
theorem ck_Law_52 : ckV R_Law 52 y_Loom_cell b_Loom_cell 2 (some (Jvm.ClassFile.FieldType.int)) 1 := ⟨tg_mem 553 rfl rfl, tg_mem 554 rfl rfl, tg_mem 555 rfl rfl, tg_mem 36 rfl rfl, tg_mem 556 rfl rfl, ⟨by decide, by decide, by decide +kernel⟩⟩
set_option maxRecDepth 20000 in
theorem ck_Law_55 : ckI R_Law 55 y_Loom_init b_Loom_init 1 0 := ⟨tg_mem 51 rfl rfl, tg_mem 52 rfl rfl, tg_mem 36 rfl rfl, tg_mem 53 rfl rfl, rfl, ⟨by decide, by decide, by decide +kernel⟩⟩
set_option maxRecDepth 20000 in
theorem ck_Law_58 : ckI R_Law 58 y_Model_init b_Model_init 1 0 := ⟨tg_mem 560 rfl rfl, tg_mem 561 rfl rfl, tg_mem 42 rfl rfl, tg_mem 562 rfl rfl, rfl, ⟨by decide, by decide, by decide +kernel⟩⟩
set_option maxRecDepth 20000 in
theorem ck_Law_64 : ckV R_Law 64 y_Model_code b_Model_code 3 (some (Jvm.ClassFile.FieldType.int)) 2 := ⟨tg_mem 639 rfl rfl, tg_mem 640 rfl rfl, tg_mem 641 rfl rfl, tg_mem 42 rfl rfl, tg_mem 642 rfl rfl, ⟨by decide, by decide, by decide +kernel⟩⟩
set_option maxRecDepth 20000 in
theorem ck_Law_65 : ckV R_Law 65 y_Model_thrown b_Model_thrown 1 (some (Jvm.ClassFile.FieldType.int)) 0 := ⟨tg_mem 635 rfl rfl, tg_mem 636 rfl rfl, tg_mem 637 rfl rfl, tg_mem 42 rfl rfl, tg_mem 638 rfl rfl, ⟨by decide, by decide, by decide +kernel⟩⟩
set_option maxRecDepth 20000 in
theorem ck_Law_68 : ckV R_Law 68 y_Loom_clear b_Loom_clear 1 none 0 := ⟨tg_mem 217 rfl rfl, tg_mem 218 rfl rfl, tg_mem 219 rfl rfl, tg_mem 36 rfl rfl, tg_mem 220 rfl rfl, ⟨by decide, by decide, by decide +kernel⟩⟩
set_option maxRecDepth 20000 in
theorem ck_Law_71 : ckV R_Law 71 y_Model_clear b_Model_clear 1 none 0 := ⟨tg_mem 647 rfl rfl, tg_mem 648 rfl rfl, tg_mem 649 rfl rfl, tg_mem 42 rfl rfl, tg_mem 650 rfl rfl, ⟨by decide, by decide, by decide +kernel⟩⟩
set_option maxRecDepth 20000 in
theorem ck_Law_75 : ckV R_Law 75 y_Model_states b_Model_states 3 none 1 := ⟨tg_mem 651 rfl rfl, tg_mem 652 rfl rfl, tg_mem 653 rfl rfl, tg_mem 42 rfl rfl, tg_mem 654 rfl rfl, ⟨by decide, by decide, by decide +kernel⟩⟩
set_option maxRecDepth 20000 in
theorem ck_Law_79 : ckV R_Law 79 y_Model_rule b_Model_rule 7 none 5 := ⟨tg_mem 655 rfl rfl, tg_mem 656 rfl rfl, tg_mem 657 rfl rfl, tg_mem 42 rfl rfl, tg_mem 658 rfl rfl, ⟨by decide, by decide, by decide +kernel⟩⟩
set_option maxRecDepth 20000 in
theorem ck_Law_80 : ckV R_Law 80 y_Loom_well b_Loom_well 1 (some (Jvm.ClassFile.FieldType.boolean)) 0 := ⟨tg_mem 229 rfl rfl, tg_mem 230 rfl rfl, tg_mem 231 rfl rfl, tg_mem 36 rfl rfl, tg_mem 232 rfl rfl, ⟨by decide, by decide, by decide +kernel⟩⟩
set_option maxRecDepth 20000 in
theorem ck_Law_84 : ckV R_Law 84 y_Model_well b_Model_well 1 (some (Jvm.ClassFile.FieldType.boolean)) 0 := ⟨tg_mem 663 rfl rfl, tg_mem 664 rfl rfl, tg_mem 665 rfl rfl, tg_mem 42 rfl rfl, tg_mem 666 rfl rfl, ⟨by decide, by decide, by decide +kernel⟩⟩
set_option maxRecDepth 20000 in
theorem ck_Law_88 : ckV R_Law 88 y_Model_height b_Model_height 2 (some (Jvm.ClassFile.FieldType.int)) 1 := ⟨tg_mem 689 rfl rfl, tg_mem 690 rfl rfl, tg_mem 691 rfl rfl, tg_mem 42 rfl rfl, tg_mem 692 rfl rfl, ⟨by decide, by decide, by decide +kernel⟩⟩
set_option maxRecDepth 20000 in
theorem ck_Law_92 : ckV R_Law 92 y_Model_enforce b_Model_enforce 1 (some (Jvm.ClassFile.FieldType.int)) 0 := ⟨tg_mem 693 rfl rfl, tg_mem 694 rfl rfl, tg_mem 695 rfl rfl, tg_mem 42 rfl rfl, tg_mem 696 rfl rfl, ⟨by decide, by decide, by decide +kernel⟩⟩
set_option maxRecDepth 20000 in
theorem ck_Law_96 : ckV R_Law 96 y_Model_enforced b_Model_enforced 3 (some (Jvm.ClassFile.FieldType.int)) 2 := ⟨tg_mem 709 rfl rfl, tg_mem 710 rfl rfl, tg_mem 711 rfl rfl, tg_mem 42 rfl rfl, tg_mem 712 rfl rfl, ⟨by decide, by decide, by decide +kernel⟩⟩
set_option maxRecDepth 20000 in
theorem ck_Law_100 : ckV R_Law 100 y_Model_start b_Model_start 4 none 2 := ⟨tg_mem 725 rfl rfl, tg_mem 726 rfl rfl, tg_mem 727 rfl rfl, tg_mem 42 rfl rfl, tg_mem 728 rfl rfl, ⟨by decide, by decide, by decide +kernel⟩⟩
set_option maxRecDepth 20000 in
theorem ck_Law_103 : ckV R_Law 103 y_Model_step b_Model_step 3 (some (Jvm.ClassFile.FieldType.int)) 1 := ⟨tg_mem 729 rfl rfl, tg_mem 730 rfl rfl, tg_mem 731 rfl rfl, tg_mem 42 rfl rfl, tg_mem 732 rfl rfl, ⟨by decide, by decide, by decide +kernel⟩⟩
set_option maxRecDepth 20000 in
theorem ck_Law_106 : ckV R_Law 106 y_Model_look b_Model_look 2 (some (Jvm.ClassFile.FieldType.int)) 1 := ⟨tg_mem 749 rfl rfl, tg_mem 750 rfl rfl, tg_mem 751 rfl rfl, tg_mem 42 rfl rfl, tg_mem 752 rfl rfl, ⟨by decide, by decide, by decide +kernel⟩⟩
set_option maxRecDepth 20000 in
theorem ck_Law_109 : ckV R_Law 109 y_Model_act b_Model_act 3 (some (Jvm.ClassFile.FieldType.int)) 2 := ⟨tg_mem 753 rfl rfl, tg_mem 754 rfl rfl, tg_mem 755 rfl rfl, tg_mem 42 rfl rfl, tg_mem 756 rfl rfl, ⟨by decide, by decide, by decide +kernel⟩⟩
set_option maxRecDepth 20000 in
theorem ck_Law_112 : ckV R_Law 112 y_Model_cell b_Model_cell 2 (some (Jvm.ClassFile.FieldType.int)) 1 := ⟨tg_mem 757 rfl rfl, tg_mem 758 rfl rfl, tg_mem 759 rfl rfl, tg_mem 42 rfl rfl, tg_mem 760 rfl rfl, ⟨by decide, by decide, by decide +kernel⟩⟩
set_option maxRecDepth 20000 in
theorem ob_Model_1 : ckO R_Model 1 := ⟨tg_mem 563 rfl rfl, tg_mem 55 rfl rfl, tg_mem 56 rfl rfl⟩
set_option maxRecDepth 20000 in
theorem ck_Model_51 : ckV R_Model 51 y_Model_refuse b_Model_refuse 2 (some (Jvm.ClassFile.FieldType.int)) 1 := ⟨tg_mem 643 rfl rfl, tg_mem 645 rfl rfl, tg_mem 19 rfl rfl, tg_mem 42 rfl rfl, tg_mem 646 rfl rfl, ⟨by decide, by decide, by decide +kernel⟩⟩
set_option maxRecDepth 20000 in
theorem ck_Model_61 : ckV R_Model 61 y_Model_isState b_Model_isState 2 (some (Jvm.ClassFile.FieldType.boolean)) 1 := ⟨tg_mem 659 rfl rfl, tg_mem 661 rfl rfl, tg_mem 20 rfl rfl, tg_mem 42 rfl rfl, tg_mem 662 rfl rfl, ⟨by decide, by decide, by decide +kernel⟩⟩
set_option maxRecDepth 20000 in
theorem ck_Model_65 : ckV R_Model 65 y_Model_isPlace b_Model_isPlace 2 (some (Jvm.ClassFile.FieldType.boolean)) 1 := ⟨tg_mem 675 rfl rfl, tg_mem 677 rfl rfl, tg_mem 23 rfl rfl, tg_mem 42 rfl rfl, tg_mem 678 rfl rfl, ⟨by decide, by decide, by decide +kernel⟩⟩
set_option maxRecDepth 20000 in
theorem ck_Model_68 : ckV R_Model 68 y_Model_isK b_Model_isK 4 (some (Jvm.ClassFile.FieldType.boolean)) 1 := ⟨tg_mem 671 rfl rfl, tg_mem 673 rfl rfl, tg_mem 22 rfl rfl, tg_mem 42 rfl rfl, tg_mem 674 rfl rfl, ⟨by decide, by decide, by decide +kernel⟩⟩
set_option maxRecDepth 20000 in
theorem ck_Model_71 : ckS R_Model 71 y_Model_takes b_Model_takes 1 (some (Jvm.ClassFile.FieldType.int)) 1 := ⟨tg_mem 679 rfl rfl, tg_mem 680 rfl rfl, tg_mem 42 rfl rfl, tg_mem 681 rfl rfl, ⟨by decide, by decide, by decide +kernel⟩⟩
set_option maxRecDepth 20000 in
theorem ck_Model_74 : ckS R_Model 74 y_Model_gives b_Model_gives 1 (some (Jvm.ClassFile.FieldType.int)) 1 := ⟨tg_mem 682 rfl rfl, tg_mem 683 rfl rfl, tg_mem 42 rfl rfl, tg_mem 684 rfl rfl, ⟨by decide, by decide, by decide +kernel⟩⟩
set_option maxRecDepth 20000 in
theorem ck_Model_77 : ckV R_Model 77 y_Model_reach b_Model_reach 3 (some (Jvm.ClassFile.FieldType.boolean)) 2 := ⟨tg_mem 685 rfl rfl, tg_mem 687 rfl rfl, tg_mem 24 rfl rfl, tg_mem 42 rfl rfl, tg_mem 688 rfl rfl, ⟨by decide, by decide, by decide +kernel⟩⟩
set_option maxRecDepth 20000 in
theorem ck_Model_81 : ckV R_Model 81 y_Model_isWell b_Model_isWell 7 (some (Jvm.ClassFile.FieldType.boolean)) 0 := ⟨tg_mem 667 rfl rfl, tg_mem 669 rfl rfl, tg_mem 21 rfl rfl, tg_mem 42 rfl rfl, tg_mem 670 rfl rfl, ⟨by decide, by decide, by decide +kernel⟩⟩
set_option maxRecDepth 20000 in
theorem ck_Model_85 : ckV R_Model 85 y_Model_testsOf b_Model_testsOf 4 (some (Jvm.ClassFile.FieldType.int)) 1 := ⟨tg_mem 705 rfl rfl, tg_mem 707 rfl rfl, tg_mem 27 rfl rfl, tg_mem 42 rfl rfl, tg_mem 708 rfl rfl, ⟨by decide, by decide, by decide +kernel⟩⟩
set_option maxRecDepth 20000 in
theorem ck_Model_88 : ckV R_Model 88 y_Model_aheadOf b_Model_aheadOf 2 (some (Jvm.ClassFile.FieldType.int)) 1 := ⟨tg_mem 701 rfl rfl, tg_mem 703 rfl rfl, tg_mem 26 rfl rfl, tg_mem 42 rfl rfl, tg_mem 704 rfl rfl, ⟨by decide, by decide, by decide +kernel⟩⟩
set_option maxRecDepth 20000 in
theorem ck_Model_97 : ckV R_Model 97 y_Model_place b_Model_place 4 (some (Jvm.ClassFile.FieldType.int)) 1 := ⟨tg_mem 697 rfl rfl, tg_mem 699 rfl rfl, tg_mem 25 rfl rfl, tg_mem 42 rfl rfl, tg_mem 700 rfl rfl, ⟨by decide, by decide, by decide +kernel⟩⟩
set_option maxRecDepth 20000 in
theorem ck_Model_100 : ckV R_Model 100 y_Model_set b_Model_set 3 none 2 := ⟨tg_mem 717 rfl rfl, tg_mem 719 rfl rfl, tg_mem 29 rfl rfl, tg_mem 42 rfl rfl, tg_mem 720 rfl rfl, ⟨by decide, by decide, by decide +kernel⟩⟩
set_option maxRecDepth 20000 in
theorem ck_Model_104 : ckV R_Model 104 y_Model_test b_Model_test 9 none 4 := ⟨tg_mem 721 rfl rfl, tg_mem 723 rfl rfl, tg_mem 30 rfl rfl, tg_mem 42 rfl rfl, tg_mem 724 rfl rfl, ⟨by decide, by decide, by decide +kernel⟩⟩
set_option maxRecDepth 20000 in
theorem ck_Model_108 : ckV R_Model 108 y_Model_find b_Model_find 5 none 1 := ⟨tg_mem 713 rfl rfl, tg_mem 715 rfl rfl, tg_mem 28 rfl rfl, tg_mem 42 rfl rfl, tg_mem 716 rfl rfl, ⟨by decide, by decide, by decide +kernel⟩⟩
set_option maxRecDepth 20000 in
theorem ck_Model_130 : ckV R_Model 130 y_Model_pop b_Model_pop 1 (some (Jvm.ClassFile.FieldType.int)) 0 := ⟨tg_mem 737 rfl rfl, tg_mem 739 rfl rfl, tg_mem 32 rfl rfl, tg_mem 42 rfl rfl, tg_mem 740 rfl rfl, ⟨by decide, by decide, by decide +kernel⟩⟩
set_option maxRecDepth 20000 in
theorem ck_Model_134 : ckV R_Model 134 y_Model_push b_Model_push 2 none 1 := ⟨tg_mem 741 rfl rfl, tg_mem 743 rfl rfl, tg_mem 33 rfl rfl, tg_mem 42 rfl rfl, tg_mem 744 rfl rfl, ⟨by decide, by decide, by decide +kernel⟩⟩
set_option maxRecDepth 20000 in
theorem ck_Model_137 : ckV R_Model 137 y_Model_done b_Model_done 4 none 1 := ⟨tg_mem 745 rfl rfl, tg_mem 747 rfl rfl, tg_mem 34 rfl rfl, tg_mem 42 rfl rfl, tg_mem 748 rfl rfl, ⟨by decide, by decide, by decide +kernel⟩⟩
set_option maxRecDepth 20000 in
theorem ck_Model_140 : ckV R_Model 140 y_Model_one b_Model_one 5 none 0 := ⟨tg_mem 733 rfl rfl, tg_mem 735 rfl rfl, tg_mem 31 rfl rfl, tg_mem 42 rfl rfl, tg_mem 736 rfl rfl, ⟨by decide, by decide, by decide +kernel⟩⟩
set_option maxRecDepth 20000 in
theorem cn_Law_8 : cwN classes R_Law 8 5 R_Loom F_Loom 7 t_Loom := ⟨rfl, uw_Loom, fp_Loom.1, tg_mem 49 rfl rfl, tg_mem 50 rfl rfl, tg_mem 36 rfl rfl⟩
set_option maxRecDepth 20000 in
theorem cn_Loom_9 : cwN classes R_Loom 9 0 R_Listing F_Listing 3 t_Listing := ⟨rfl, uw_Listing, fp_Listing.1, tg_mem 57 rfl rfl, tg_mem 58 rfl rfl, tg_mem 37 rfl rfl⟩
set_option maxRecDepth 20000 in
theorem cn_Loom_18 : cwN classes R_Loom 18 1 R_Automaton F_Automaton 4 t_Automaton := ⟨rfl, uw_Automaton, fp_Automaton.1, tg_mem 85 rfl rfl, tg_mem 86 rfl rfl, tg_mem 38 rfl rfl⟩
set_option maxRecDepth 20000 in
theorem cn_Loom_25 : cwN classes R_Loom 25 2 R_Heights F_Heights 4 t_Heights := ⟨rfl, uw_Heights, fp_Heights.1, tg_mem 113 rfl rfl, tg_mem 114 rfl rfl, tg_mem 39 rfl rfl⟩
set_option maxRecDepth 20000 in
theorem cn_Loom_32 : cwN classes R_Loom 32 3 R_Weaver F_Weaver 2 t_Weaver := ⟨rfl, uw_Weaver, fp_Weaver.1, tg_mem 134 rfl rfl, tg_mem 135 rfl rfl, tg_mem 40 rfl rfl⟩
set_option maxRecDepth 20000 in
theorem cn_Weaver_9 : cwN classes R_Weaver 9 0 R_Listing F_Listing 3 t_Listing := ⟨rfl, uw_Listing, fp_Listing.1, tg_mem 140 rfl rfl, tg_mem 58 rfl rfl, tg_mem 37 rfl rfl⟩
set_option maxRecDepth 20000 in
theorem cn_Loom_39 : cwN classes R_Loom 39 4 R_Run F_Run 10 t_Run := ⟨rfl, uw_Run, fp_Run.1, tg_mem 150 rfl rfl, tg_mem 151 rfl rfl, tg_mem 41 rfl rfl⟩
set_option maxRecDepth 20000 in
theorem cn_Law_56 : cwN classes R_Law 56 6 R_Model F_Model 23 t_Model := ⟨rfl, uw_Model, fp_Model.1, tg_mem 558 rfl rfl, tg_mem 559 rfl rfl, tg_mem 42 rfl rfl⟩
set_option maxRecDepth 20000 in
theorem ar_I : Cond.arrayClass .int ∈ TG := tg_mem 84 rfl rfl
set_option maxRecDepth 20000 in
theorem ar_Z : Cond.arrayClass .boolean ∈ TG := tg_mem 634 rfl rfl
set_option maxRecDepth 20000 in
theorem ar_L : Cond.arrayClass .long ∈ TG := tg_mem 761 rfl rfl
end
section
/-! Decode rows of Listing, Automaton. -/
theorem d_Listing_append_0 : decode b_Listing_append 0 = .ok (.aload_n 0, 1) := by decide +kernel
theorem d_Listing_append_1 : decode b_Listing_append 1 = .ok (.getfield 16, 3) := by decide +kernel
theorem d_Listing_append_4 : decode b_Listing_append 4 = .ok (.aload_n 0, 1) := by decide +kernel
theorem d_Listing_append_5 : decode b_Listing_append 5 = .ok (.getfield 7, 3) := by decide +kernel
theorem d_Listing_append_8 : decode b_Listing_append 8 = .ok (.arraylength, 1) := by decide +kernel
theorem d_Listing_append_9 : decode b_Listing_append 9 = .ok (.if_icmp .ge 33, 3) := by decide +kernel
theorem d_Listing_append_12 : decode b_Listing_append 12 = .ok (.aload_n 0, 1) := by decide +kernel
theorem d_Listing_append_13 : decode b_Listing_append 13 = .ok (.getfield 7, 3) := by decide +kernel
theorem d_Listing_append_16 : decode b_Listing_append 16 = .ok (.aload_n 0, 1) := by decide +kernel
theorem d_Listing_append_17 : decode b_Listing_append 17 = .ok (.getfield 16, 3) := by decide +kernel
theorem d_Listing_append_20 : decode b_Listing_append 20 = .ok (.iload_n 1, 1) := by decide +kernel
theorem d_Listing_append_21 : decode b_Listing_append 21 = .ok (.iastore, 1) := by decide +kernel
theorem d_Listing_append_22 : decode b_Listing_append 22 = .ok (.aload_n 0, 1) := by decide +kernel
theorem d_Listing_append_23 : decode b_Listing_append 23 = .ok (.getfield 13, 3) := by decide +kernel
theorem d_Listing_append_26 : decode b_Listing_append 26 = .ok (.aload_n 0, 1) := by decide +kernel
theorem d_Listing_append_27 : decode b_Listing_append 27 = .ok (.getfield 16, 3) := by decide +kernel
theorem d_Listing_append_30 : decode b_Listing_append 30 = .ok (.iload_n 2, 1) := by decide +kernel
theorem d_Listing_append_31 : decode b_Listing_append 31 = .ok (.iastore, 1) := by decide +kernel
theorem d_Listing_append_32 : decode b_Listing_append 32 = .ok (.aload_n 0, 1) := by decide +kernel
theorem d_Listing_append_33 : decode b_Listing_append 33 = .ok (.dup, 1) := by decide +kernel
theorem d_Listing_append_34 : decode b_Listing_append 34 = .ok (.getfield 16, 3) := by decide +kernel
theorem d_Listing_append_37 : decode b_Listing_append 37 = .ok (.iconst 1, 1) := by decide +kernel
theorem d_Listing_append_38 : decode b_Listing_append 38 = .ok (.iadd, 1) := by decide +kernel
theorem d_Listing_append_39 : decode b_Listing_append 39 = .ok (.putfield 16, 3) := by decide +kernel
theorem d_Listing_append_42 : decode b_Listing_append 42 = .ok (.return_, 1) := by decide +kernel
theorem d_Automaton_place_0 : decode b_Automaton_place 0 = .ok (.iload_n 0, 1) := by decide +kernel
theorem d_Automaton_place_1 : decode b_Automaton_place 1 = .ok (.bipush 8, 2) := by decide +kernel
theorem d_Automaton_place_3 : decode b_Automaton_place 3 = .ok (.imul, 1) := by decide +kernel
theorem d_Automaton_place_4 : decode b_Automaton_place 4 = .ok (.iload_n 1, 1) := by decide +kernel
theorem d_Automaton_place_5 : decode b_Automaton_place 5 = .ok (.iadd, 1) := by decide +kernel
theorem d_Automaton_place_6 : decode b_Automaton_place 6 = .ok (.ireturn, 1) := by decide +kernel
theorem d_Automaton_reset_0 : decode b_Automaton_reset 0 = .ok (.aload_n 0, 1) := by decide +kernel
theorem d_Automaton_reset_1 : decode b_Automaton_reset 1 = .ok (.iload_n 1, 1) := by decide +kernel
theorem d_Automaton_reset_2 : decode b_Automaton_reset 2 = .ok (.putfield 25, 3) := by decide +kernel
theorem d_Automaton_reset_5 : decode b_Automaton_reset 5 = .ok (.iconst 0, 1) := by decide +kernel
theorem d_Automaton_reset_6 : decode b_Automaton_reset 6 = .ok (.istore_n 2, 1) := by decide +kernel
theorem d_Automaton_reset_7 : decode b_Automaton_reset 7 = .ok (.iload_n 2, 1) := by decide +kernel
theorem d_Automaton_reset_8 : decode b_Automaton_reset 8 = .ok (.aload_n 0, 1) := by decide +kernel
theorem d_Automaton_reset_9 : decode b_Automaton_reset 9 = .ok (.getfield 18, 3) := by decide +kernel
theorem d_Automaton_reset_12 : decode b_Automaton_reset 12 = .ok (.arraylength, 1) := by decide +kernel
theorem d_Automaton_reset_13 : decode b_Automaton_reset 13 = .ok (.if_icmp .ge 16, 3) := by decide +kernel
theorem d_Automaton_reset_16 : decode b_Automaton_reset 16 = .ok (.aload_n 0, 1) := by decide +kernel
theorem d_Automaton_reset_17 : decode b_Automaton_reset 17 = .ok (.getfield 18, 3) := by decide +kernel
theorem d_Automaton_reset_20 : decode b_Automaton_reset 20 = .ok (.iload_n 2, 1) := by decide +kernel
theorem d_Automaton_reset_21 : decode b_Automaton_reset 21 = .ok (.iconst (-1), 1) := by decide +kernel
theorem d_Automaton_reset_22 : decode b_Automaton_reset 22 = .ok (.iastore, 1) := by decide +kernel
theorem d_Automaton_reset_23 : decode b_Automaton_reset 23 = .ok (.iinc 2 1, 3) := by decide +kernel
theorem d_Automaton_reset_26 : decode b_Automaton_reset 26 = .ok (.goto (-19), 3) := by decide +kernel
theorem d_Automaton_reset_29 : decode b_Automaton_reset 29 = .ok (.return_, 1) := by decide +kernel
theorem d_Automaton_hasState_0 : decode b_Automaton_hasState 0 = .ok (.iload_n 1, 1) := by decide +kernel
theorem d_Automaton_hasState_1 : decode b_Automaton_hasState 1 = .ok (.ifCond .lt 15, 3) := by decide +kernel
theorem d_Automaton_hasState_4 : decode b_Automaton_hasState 4 = .ok (.iload_n 1, 1) := by decide +kernel
theorem d_Automaton_hasState_5 : decode b_Automaton_hasState 5 = .ok (.aload_n 0, 1) := by decide +kernel
theorem d_Automaton_hasState_6 : decode b_Automaton_hasState 6 = .ok (.getfield 25, 3) := by decide +kernel
theorem d_Automaton_hasState_9 : decode b_Automaton_hasState 9 = .ok (.if_icmp .ge 7, 3) := by decide +kernel
theorem d_Automaton_hasState_12 : decode b_Automaton_hasState 12 = .ok (.iconst 1, 1) := by decide +kernel
theorem d_Automaton_hasState_13 : decode b_Automaton_hasState 13 = .ok (.goto 4, 3) := by decide +kernel
theorem d_Automaton_hasState_16 : decode b_Automaton_hasState 16 = .ok (.iconst 0, 1) := by decide +kernel
theorem d_Automaton_hasState_17 : decode b_Automaton_hasState 17 = .ok (.ireturn, 1) := by decide +kernel
theorem d_Automaton_setRule_0 : decode b_Automaton_setRule 0 = .ok (.aload_n 0, 1) := by decide +kernel
theorem d_Automaton_setRule_1 : decode b_Automaton_setRule 1 = .ok (.getfield 9, 3) := by decide +kernel
theorem d_Automaton_setRule_4 : decode b_Automaton_setRule 4 = .ok (.iload_n 1, 1) := by decide +kernel
theorem d_Automaton_setRule_5 : decode b_Automaton_setRule 5 = .ok (.iload_n 2, 1) := by decide +kernel
theorem d_Automaton_setRule_6 : decode b_Automaton_setRule 6 = .ok (.iastore, 1) := by decide +kernel
theorem d_Automaton_setRule_7 : decode b_Automaton_setRule 7 = .ok (.aload_n 0, 1) := by decide +kernel
theorem d_Automaton_setRule_8 : decode b_Automaton_setRule 8 = .ok (.getfield 15, 3) := by decide +kernel
theorem d_Automaton_setRule_11 : decode b_Automaton_setRule 11 = .ok (.iload_n 1, 1) := by decide +kernel
theorem d_Automaton_setRule_12 : decode b_Automaton_setRule 12 = .ok (.iload_n 3, 1) := by decide +kernel
theorem d_Automaton_setRule_13 : decode b_Automaton_setRule 13 = .ok (.iastore, 1) := by decide +kernel
theorem d_Automaton_setRule_14 : decode b_Automaton_setRule 14 = .ok (.aload_n 0, 1) := by decide +kernel
theorem d_Automaton_setRule_15 : decode b_Automaton_setRule 15 = .ok (.getfield 18, 3) := by decide +kernel
theorem d_Automaton_setRule_18 : decode b_Automaton_setRule 18 = .ok (.iload_n 1, 1) := by decide +kernel
theorem d_Automaton_setRule_19 : decode b_Automaton_setRule 19 = .ok (.iload 4, 2) := by decide +kernel
theorem d_Automaton_setRule_21 : decode b_Automaton_setRule 21 = .ok (.iastore, 1) := by decide +kernel
theorem d_Automaton_setRule_22 : decode b_Automaton_setRule 22 = .ok (.return_, 1) := by decide +kernel
theorem d_Automaton_hasRule_0 : decode b_Automaton_hasRule 0 = .ok (.aload_n 0, 1) := by decide +kernel
theorem d_Automaton_hasRule_1 : decode b_Automaton_hasRule 1 = .ok (.getfield 18, 3) := by decide +kernel
theorem d_Automaton_hasRule_4 : decode b_Automaton_hasRule 4 = .ok (.iload_n 1, 1) := by decide +kernel
theorem d_Automaton_hasRule_5 : decode b_Automaton_hasRule 5 = .ok (.iaload, 1) := by decide +kernel
theorem d_Automaton_hasRule_6 : decode b_Automaton_hasRule 6 = .ok (.iconst (-1), 1) := by decide +kernel
theorem d_Automaton_hasRule_7 : decode b_Automaton_hasRule 7 = .ok (.if_icmp .eq 7, 3) := by decide +kernel
theorem d_Automaton_hasRule_10 : decode b_Automaton_hasRule 10 = .ok (.iconst 1, 1) := by decide +kernel
theorem d_Automaton_hasRule_11 : decode b_Automaton_hasRule 11 = .ok (.goto 4, 3) := by decide +kernel
theorem d_Automaton_hasRule_14 : decode b_Automaton_hasRule 14 = .ok (.iconst 0, 1) := by decide +kernel
theorem d_Automaton_hasRule_15 : decode b_Automaton_hasRule 15 = .ok (.ireturn, 1) := by decide +kernel
theorem d_Automaton_allows_0 : decode b_Automaton_allows 0 = .ok (.aload_n 0, 1) := by decide +kernel
theorem d_Automaton_allows_1 : decode b_Automaton_allows 1 = .ok (.iload_n 1, 1) := by decide +kernel
theorem d_Automaton_allows_2 : decode b_Automaton_allows 2 = .ok (.invokevirtual 29, 3) := by decide +kernel
theorem d_Automaton_allows_5 : decode b_Automaton_allows 5 = .ok (.ifCond .eq 27, 3) := by decide +kernel
theorem d_Automaton_allows_8 : decode b_Automaton_allows 8 = .ok (.aload_n 0, 1) := by decide +kernel
theorem d_Automaton_allows_9 : decode b_Automaton_allows 9 = .ok (.getfield 9, 3) := by decide +kernel
theorem d_Automaton_allows_12 : decode b_Automaton_allows 12 = .ok (.iload_n 1, 1) := by decide +kernel
theorem d_Automaton_allows_13 : decode b_Automaton_allows 13 = .ok (.iaload, 1) := by decide +kernel
theorem d_Automaton_allows_14 : decode b_Automaton_allows 14 = .ok (.iload_n 2, 1) := by decide +kernel
theorem d_Automaton_allows_15 : decode b_Automaton_allows 15 = .ok (.if_icmp .gt 17, 3) := by decide +kernel
theorem d_Automaton_allows_18 : decode b_Automaton_allows 18 = .ok (.iload_n 2, 1) := by decide +kernel
theorem d_Automaton_allows_19 : decode b_Automaton_allows 19 = .ok (.aload_n 0, 1) := by decide +kernel
theorem d_Automaton_allows_20 : decode b_Automaton_allows 20 = .ok (.getfield 15, 3) := by decide +kernel
theorem d_Automaton_allows_23 : decode b_Automaton_allows 23 = .ok (.iload_n 1, 1) := by decide +kernel
theorem d_Automaton_allows_24 : decode b_Automaton_allows 24 = .ok (.iaload, 1) := by decide +kernel
theorem d_Automaton_allows_25 : decode b_Automaton_allows 25 = .ok (.if_icmp .gt 7, 3) := by decide +kernel
theorem d_Automaton_allows_28 : decode b_Automaton_allows 28 = .ok (.iconst 1, 1) := by decide +kernel
theorem d_Automaton_allows_29 : decode b_Automaton_allows 29 = .ok (.goto 4, 3) := by decide +kernel
theorem d_Automaton_allows_32 : decode b_Automaton_allows 32 = .ok (.iconst 0, 1) := by decide +kernel
theorem d_Automaton_allows_33 : decode b_Automaton_allows 33 = .ok (.ireturn, 1) := by decide +kernel
theorem d_Automaton_countRules_0 : decode b_Automaton_countRules 0 = .ok (.iconst 0, 1) := by decide +kernel
theorem d_Automaton_countRules_1 : decode b_Automaton_countRules 1 = .ok (.istore_n 2, 1) := by decide +kernel
theorem d_Automaton_countRules_2 : decode b_Automaton_countRules 2 = .ok (.iconst 0, 1) := by decide +kernel
theorem d_Automaton_countRules_3 : decode b_Automaton_countRules 3 = .ok (.istore_n 3, 1) := by decide +kernel
theorem d_Automaton_countRules_4 : decode b_Automaton_countRules 4 = .ok (.iload_n 3, 1) := by decide +kernel
theorem d_Automaton_countRules_5 : decode b_Automaton_countRules 5 = .ok (.aload_n 0, 1) := by decide +kernel
theorem d_Automaton_countRules_6 : decode b_Automaton_countRules 6 = .ok (.getfield 25, 3) := by decide +kernel
theorem d_Automaton_countRules_9 : decode b_Automaton_countRules 9 = .ok (.if_icmp .ge 24, 3) := by decide +kernel
theorem d_Automaton_countRules_12 : decode b_Automaton_countRules 12 = .ok (.aload_n 0, 1) := by decide +kernel
theorem d_Automaton_countRules_13 : decode b_Automaton_countRules 13 = .ok (.iload_n 3, 1) := by decide +kernel
theorem d_Automaton_countRules_14 : decode b_Automaton_countRules 14 = .ok (.iload_n 1, 1) := by decide +kernel
theorem d_Automaton_countRules_15 : decode b_Automaton_countRules 15 = .ok (.invokestatic 33, 3) := by decide +kernel
theorem d_Automaton_countRules_18 : decode b_Automaton_countRules 18 = .ok (.invokevirtual 29, 3) := by decide +kernel
theorem d_Automaton_countRules_21 : decode b_Automaton_countRules 21 = .ok (.ifCond .eq 6, 3) := by decide +kernel
theorem d_Automaton_countRules_24 : decode b_Automaton_countRules 24 = .ok (.iinc 2 1, 3) := by decide +kernel
theorem d_Automaton_countRules_27 : decode b_Automaton_countRules 27 = .ok (.iinc 3 1, 3) := by decide +kernel
theorem d_Automaton_countRules_30 : decode b_Automaton_countRules 30 = .ok (.goto (-26), 3) := by decide +kernel
theorem d_Automaton_countRules_33 : decode b_Automaton_countRules 33 = .ok (.iload_n 2, 1) := by decide +kernel
theorem d_Automaton_countRules_34 : decode b_Automaton_countRules 34 = .ok (.ireturn, 1) := by decide +kernel
theorem d_Loom_goesElsewhere_0 : decode b_Loom_goesElsewhere 0 = .ok (.iload_n 0, 1) := by decide +kernel
theorem d_Loom_goesElsewhere_1 : decode b_Loom_goesElsewhere 1 = .ok (.bipush 7, 2) := by decide +kernel
theorem d_Loom_goesElsewhere_3 : decode b_Loom_goesElsewhere 3 = .ok (.if_icmp .eq 9, 3) := by decide +kernel
theorem d_Loom_goesElsewhere_6 : decode b_Loom_goesElsewhere 6 = .ok (.iload_n 0, 1) := by decide +kernel
theorem d_Loom_goesElsewhere_7 : decode b_Loom_goesElsewhere 7 = .ok (.bipush 8, 2) := by decide +kernel
theorem d_Loom_goesElsewhere_9 : decode b_Loom_goesElsewhere 9 = .ok (.if_icmp .ne 7, 3) := by decide +kernel
theorem d_Loom_goesElsewhere_12 : decode b_Loom_goesElsewhere 12 = .ok (.iconst 1, 1) := by decide +kernel
theorem d_Loom_goesElsewhere_13 : decode b_Loom_goesElsewhere 13 = .ok (.goto 4, 3) := by decide +kernel
theorem d_Loom_goesElsewhere_16 : decode b_Loom_goesElsewhere 16 = .ok (.iconst 0, 1) := by decide +kernel
theorem d_Loom_goesElsewhere_17 : decode b_Loom_goesElsewhere 17 = .ok (.ireturn, 1) := by decide +kernel
end
section
/-! What methods know beside their world: two links across the nest, the two tables of Heights. -/
def EV (t1 t2 : Nat) : pl_Ev := fun A U H =>
  va_Nw (.methodLinkNest R_Heights 62 y_Loom_goesElsewhere R_Loom) U ∧ va_Nw (.methodLinkNest R_Weaver 42 y_Loom_goesElsewhere R_Loom) U ∧
  va_Z R_Heights "TAKES" "[I" (.ref t1) A U H ∧ va_T .int t1 13 (fun j => .int (nI (tkN j))) A U H ∧
  va_Z R_Heights "LEAVES" "[I" (.ref t2) A U H ∧ va_T .int t2 13 (fun j => .int (nI (lvN j))) A U H
theorem EV_ok (t1 t2 : Nat) : pl_Ok (EV t1 t2) := by
  refine ⟨fun A U U' H hW h => ?_, fun A B U H H1 hk hAB h => ?_⟩
  · obtain ⟨h1, h2, h3, h4, h5, h6⟩ := h
    exact ⟨va_Nw.warmM hW h1, va_Nw.warmM hW h2, h3.moved hW.alike, h4.moved hW.alike, h5.moved hW.alike, h6.moved hW.alike⟩
  · obtain ⟨h1, h2, h3, h4, h5, h6⟩ := h
    exact ⟨h1, h2, (h3.kept hk).narrow hAB, (h4.kept hk).narrow hAB, (h5.kept hk).narrow hAB, (h6.kept hk).narrow hAB⟩
/-- a callee is told what its caller knows -/
theorem pl_pass {E : pl_Ev} (hO : pl_Ok E) {A : Nat → Prop} {s : State} {H : Heap} {locs : List Loc} {ws wi : va_W} (hE : E A s s.heap) (hD : va_D A ws) (hS : va_S A s.heap H locs) (hA : ∀ q, s.heap.size ≤ q → A q) (isC : List Nat) (hC : isC.map (fun i => ws[i]?) = wi.map some) : E (va_A wi H.size) s H :=
  hO.2 A _ s s.heap H hS.2.1 (va_free (wc := wi) hD hS hA isC hC) hE
set_option maxRecDepth 20000 in
theorem ckN_goes : ckN y_Loom_goesElsewhere b_Loom_goesElsewhere 1 (some .boolean) 1 := ⟨tg_mem 264 rfl rfl, tg_mem 36 rfl rfl, tg_mem 265 rfl rfl, ⟨by decide, by decide, by decide +kernel⟩⟩
end
section
/-! What a throw stands on: the words of its making, the two statics of Throwable, the texts. -/
abbrev iaeS : String := "java/lang/IllegalArgumentException"
abbrev iobS : String := "java/lang/IndexOutOfBoundsException"
abbrev iseS : String := "java/lang/IllegalStateException"
abbrev nmsX : List String := ["java/lang/RuntimeException", "java/lang/Exception"]
def badX : List Cond := [(Jvm.Cond.castable "java/lang/IllegalArgumentException" "java/lang/IllegalArgumentException"), (Jvm.Cond.declares ({ cls := "java/lang/RuntimeException", name := "<init>", desc := "()V" } : Jvm.MethodName)), (Jvm.Cond.declares ({ cls := "java/lang/RuntimeException", name := "<init>", desc := "(Ljava/lang/String;)V" } : Jvm.MethodName)), (Jvm.Cond.declares ({ cls := "java/lang/Exception", name := "<init>", desc := "()V" } : Jvm.MethodName)), (Jvm.Cond.declares ({ cls := "java/lang/Exception", name := "<init>", desc := "(Ljava/lang/String;)V" } : Jvm.MethodName)), (Jvm.Cond.declares ({ cls := "java/lang/Throwable", name := "<init>", desc := "()V" } : Jvm.MethodName)), (Jvm.Cond.declares ({ cls := "java/lang/Throwable", name := "<init>", desc := "(Ljava/lang/String;)V" } : Jvm.MethodName)), (Jvm.Cond.castable "java/lang/IndexOutOfBoundsException" "java/lang/IndexOutOfBoundsException"), (Jvm.Cond.castable "java/lang/IllegalStateException" "java/lang/IllegalStateException")]
def strX : List (Nat × String) := [(55, "no operation"), (66, "the program has all its instructions"), (76, "no such number of states"), (88, "no state"), (90, "no act"), (92, "highest is below lowest"), (181, "the program is not well formed"), (109, "no instruction"), (125, "no such run"), (135, "no run"), (138, "no such number of steps"), (147, "nothing to look at"), (161, "no such act was done"), (169, "no cell")]
def isCD : Cond → Bool
  | .castable .. => true
  | .declares .. => true
  | _ => false
theorem warmCD {w : Cond} (h : isCD w = true) {s U : State} (hW : s.WarmedH U.vm) (hZ : va_Nw w s) : va_Nw w U := by
  cases w <;> first | (simp [isCD] at h; done) | exact va_Nw.warmC hW hZ | exact va_Nw.warmD hW hZ
theorem badX_cd : ∀ w ∈ badX, isCD w = true := by decide +kernel
def EX (t1 t2 : Nat) : pl_Ev := fun A U H =>
  EV t1 t2 A U H ∧ vx_Zq Bundle.tN "UNASSIGNED_STACK" Bundle.steD A U H ∧ vx_Zq Bundle.tN "SUPPRESSED_SENTINEL" Bundle.listD A U H ∧ (∀ w ∈ badX, va_Nw w U) ∧ ∀ q ∈ strX, ∃ a, vk_R R_Loom q.1 q.2 a U
theorem EX_ok (t1 t2 : Nat) : pl_Ok (EX t1 t2) := by
  refine ⟨fun A U U' H hW h => ?_, fun A B U H H1 hk hAB h => ?_⟩
  · obtain ⟨h1, h2, h3, h4, h5⟩ := h
    exact ⟨(EV_ok t1 t2).1 A U U' H hW h1, h2.moved hW.alike, h3.moved hW.alike, fun w hw => warmCD (badX_cd w hw) hW (h4 w hw), fun q hq => (h5 q hq).elim fun a ha => ⟨a, vk_R.warm hW ha⟩⟩
  · obtain ⟨h1, h2, h3, h4, h5⟩ := h
    exact ⟨(EV_ok t1 t2).2 A B U H H1 hk hAB h1, (h2.kept hk).narrow hAB, (h3.kept hk).narrow hAB, h4, h5⟩
/-- one that is thrown, by its places in the pool -/
def xw (ik ic : Nat) (cls : String) : Prop := Cond.classLink R_Loom ik cls ∈ TG ∧ Cond.initialized cls ∈ TG ∧ (∀ w ∈ (vx_atS R_Loom ic cls nmsX).filter goodWord, w ∈ TG) ∧ (∀ w ∈ (vx_atS R_Loom ic cls nmsX).filter (fun w => !goodWord w), w ∈ badX) ∧ (∀ w ∈ Cond.classLink R_Loom ik cls :: Cond.initialized cls :: vx_atS R_Loom ic cls nmsX, vx_ot w = true) ∧ Bundle.fit cls = true
theorem xw_in {L : List Cond} (h : ∀ w ∈ L.filter goodWord, w ∈ lw_tbl) : ∀ w ∈ L.filter goodWord, w ∈ TG := fun w hw => List.mem_filter.mpr ⟨h w hw, (List.mem_filter.mp hw).2⟩
set_option maxRecDepth 20000 in
theorem xw_iaeS : xw 53 57 iaeS := ⟨tg_mem 275 rfl rfl, tg_mem 46 rfl rfl, xw_in (by decide +kernel), by decide +kernel, by decide +kernel, by decide +kernel⟩
set_option maxRecDepth 20000 in
theorem xw_iobS : xw 64 68 iobS := ⟨tg_mem 343 rfl rfl, tg_mem 47 rfl rfl, xw_in (by decide +kernel), by decide +kernel, by decide +kernel, by decide +kernel⟩
set_option maxRecDepth 20000 in
theorem xw_iseS : xw 133 137 iseS := ⟨tg_mem 405 rfl rfl, tg_mem 48 rfl rfl, xw_in (by decide +kernel), by decide +kernel, by decide +kernel, by decide +kernel⟩
theorem nmsX_fit : ∀ n ∈ nmsX, Bundle.fit n = true := by decide +kernel
section XT
variable {p : Program} {l : Launch} {e : Env} {R : Room} {s : State} {m : MethodId} {args : Array Value} {below : List Frame} {meth : Method} {c : Code} {H : Heap} {locs : List Loc} {cells slots : Nat} {Q : State → Prop}
variable {cc bytes : ByteArray} {pc nL maxL index n ci N b : Nat} {ls : Array Slot} {rest st0 As : List Value} {D : va_G} {cl : List vw_C} {A : Nat → Prop} {tys : List (ClassId × FieldType)} {ws wi wr : va_W} {own : String} {y : MethodName} {rm : Room} {E : pl_Ev} {T : u_T} {fs : List Value}
theorem pl_throw {SX : Type} {px : String → SX → Prop} {wx : SX → va_W} {Qc : Array Value → State → Outcome → State → Prop} {mc ms t1 t2 ik ic is : Nat} {cls text : String} (X : CallFix p m c cc nL s args TG R_Loom) (hl : l.stackTraces = false) (Kx : xw ik ic cls) (hE : EX t1 t2 A s s.heap) (hstr : (is, text) ∈ strX) (hno : ∀ x ∈ c.exceptionTable.toList, False) (hlocks : meth.locks = false) (hK : va_K D cl tys s) (u : SX) (hu : px cls u) (hP : va_P D cl (wx u) H) (hD : va_D A (wx u)) (hS : va_S A s.heap H locs) (hsize : ls.size = nL)
    (d0 : decode cc pc = .ok (.new ik, 3)) (d3 : decode cc (pc + 3) = .ok (.dup, 1)) (d4 : decode cc (pc + 4) = .ok (.ldc is, 2)) (d6 : decode cc (pc + 6) = .ok (.invokespecial ic, 3)) (d9 : decode cc (pc + 9) = .ok (.athrow, 1))
    (hRf : 5 < R.frames) (hRl : (rest.map fun v => v.category).sum + 82 ≤ R.locals) (hRc : cells + 1 ≤ R.cells) (hRs : slots + 6 ≤ R.slots) (hc : cells + 1 ≤ mc) (hs : slots + 6 ≤ ms) :
    W p l e R s m args below meth c H locs cells slots (vx_MQ below Qc (pl_XC px D cl tys A wx) args s mc ms A) (F0 m pc ls rest) := by
  obtain ⟨h1, h2, h3, h4, h5⟩ := hE
  obtain ⟨sa, hsa⟩ := h5 _ hstr
  refine vx_throwS X.1 X.2.1 hl X.2.2.2.1 Kx.2.2.2.2.2 nmsX_fit (X.2.2.2.2 _ Kx.1) (X.2.2.2.2 _ Kx.2.1) hsa (vx_hat (fun w hw => X.2.2.2.2 w (Kx.2.2.1 w hw)) Kx.2.2.2.1 (fun w hw => va_Nw.use (by have := badX_cd w hw; cases w <;> first | (simp [isCD] at this; done) | rfl) (h4 w hw))) Kx.2.2.2.2.1 h2 h3 hS (hsize.trans X.2.2.1.symm) d0 d3 d4 d6 d9 (fun x hx => (hno x hx).elim) hRf hRl hRc hRs hlocks (fun t hvm hz hk => ?_) hS.2.2 hc hs
  exact ⟨u, trivial, ⟨hu, hP.kept (fun k q hq => hk q.1 ((hP k q hq).lt)), va_K.moved hvm hK, hD⟩, Nat.le_trans hS.1 hz, fun q q1 q2 => (hk q (Nat.lt_of_lt_of_le q1 hS.1)).trans (hS.2.1 q q1 q2)⟩
end XT
end
section
set_option maxHeartbeats 4000000 in
set_option maxRecDepth 100000 in
theorem c_Listing_append (l : Launch) (D : va_G) (cI cZ cL : ClassId) (h a1 a2 N z : Nat) (f g : Nat → Int32) (o k : Int32) (hN : N < 2 ^ 31) (hz : z < N) : pl_V l y_Listing_append b_Listing_append 3 ({ frames := 0, cells := 0, slots := 0, locals := 0 } : Room) pl_E0 D classes (TY cI cZ cL) [.ref h, .int o, .int k] [(h, .inr (0, [.ref a1, .ref a2, .int (nI z)])), (a1, .inl (cI, N, .inl f)), (a2, .inl (cI, N, .inl g))] (fun _ : Unit => True) (fun (_ : Unit) => [(h, .inr (0, [.ref a1, .ref a2, .int (nI (z + 1))])), (a1, .inl (cI, N, .inl (upd f z o))), (a2, .inl (cI, N, .inl (upd g z k)))]) := by
  refine pl_startV (by decide) (Nat.le_of_ble_eq_true rfl) ?_
  intro p e s m args below meth c A ls X hr hlk hin hK hP hD hS hA hE hl
  have X : CallFix p m c b_Listing_append 3 s args TG R_Listing := X
  have hx := X.1
  have hb := X.2.1
  have hl : lv_has ls 3 [(0, .ref h), (1, .int o), (2, .int k)] := hl
  refine lv_aload_n hx hb d_Listing_append_0 rfl (lv_at hl 0 rfl) ?_
  refine pl_get X fw_Listing_16 hK hP 0 rfl (v := .int (nI z)) rfl d_Listing_append_1 ?_
  refine lv_aload_n hx hb d_Listing_append_4 rfl (lv_at hl 0 rfl) ?_
  refine pl_get X fw_Listing_7 hK hP 0 rfl (v := .ref a1) rfl d_Listing_append_5 ?_
  refine pl_alen X hK hP 1 0 rfl rfl (L := N) rfl d_Listing_append_8 ?_
  refine pl_icmp_ge X (by omega) (by omega) d_Listing_append_9 rfl (fun g9 => ?_) (fun g9 => ?_)
  · skip
    exact absurd g9 (by omega)
  · skip
    refine lv_aload_n hx hb d_Listing_append_12 rfl (lv_at hl 0 rfl) ?_
    refine pl_get X fw_Listing_7 hK hP 0 rfl (v := .ref a1) rfl d_Listing_append_13 ?_
    refine lv_aload_n hx hb d_Listing_append_16 rfl (lv_at hl 0 rfl) ?_
    refine pl_get X fw_Listing_16 hK hP 0 rfl (v := .int (nI z)) rfl d_Listing_append_17 ?_
    refine lv_iload_n hx hb d_Listing_append_20 rfl (lv_at hl 1 rfl) ?_
    refine pl_iast X hK hP hD hS 1 0 rfl rfl z (by omega) (by omega) d_Listing_append_21 (ws' := [(h, .inr (0, [.ref a1, .ref a2, .int (nI z)])), (a1, .inl (cI, N, .inl (upd f z o))), (a2, .inl (cI, N, .inl g))]) rfl (fun H locs hP hD hS => ?_)
    refine lv_aload_n hx hb d_Listing_append_22 rfl (lv_at hl 0 rfl) ?_
    refine pl_get X fw_Listing_13 hK hP 0 rfl (v := .ref a2) rfl d_Listing_append_23 ?_
    refine lv_aload_n hx hb d_Listing_append_26 rfl (lv_at hl 0 rfl) ?_
    refine pl_get X fw_Listing_16 hK hP 0 rfl (v := .int (nI z)) rfl d_Listing_append_27 ?_
    refine lv_iload_n hx hb d_Listing_append_30 rfl (lv_at hl 2 rfl) ?_
    refine pl_iast X hK hP hD hS 2 0 rfl rfl z (by omega) (by omega) d_Listing_append_31 (ws' := [(h, .inr (0, [.ref a1, .ref a2, .int (nI z)])), (a1, .inl (cI, N, .inl (upd f z o))), (a2, .inl (cI, N, .inl (upd g z k)))]) rfl (fun H locs hP hD hS => ?_)
    refine lv_aload_n hx hb d_Listing_append_32 rfl (lv_at hl 0 rfl) ?_
    refine lv_dup hx hb d_Listing_append_33 rfl ?_
    refine pl_get X fw_Listing_16 hK hP 0 rfl (v := .int (nI z)) rfl d_Listing_append_34 ?_
    refine lv_iconst (v := nI 1) hx hb d_Listing_append_37 (by decide) ?_
    refine pl_iadd X d_Listing_append_38 (z := nI (z + 1)) (nI_add _ _) ?_
    refine pl_put X fw_Listing_16 fp_Listing rfl hK hP hD hS 0 rfl (v := .int (nI (z + 1))) rfl rfl (Nat.le_of_ble_eq_true rfl) d_Listing_append_39 (ws' := [(h, .inr (0, [.ref a1, .ref a2, .int (nI (z + 1))])), (a1, .inl (cI, N, .inl (upd f z o))), (a2, .inl (cI, N, .inl (upd g z k)))]) rfl (fun H locs hP hD hS => ?_)
    exact pl_vret X hr hlk hK () trivial hP hD hS d_Listing_append_42

set_option maxHeartbeats 4000000 in
set_option maxRecDepth 100000 in
theorem c_Automaton_place (l : Launch) (D : va_G) (cI cZ cL : ClassId) (q t : Nat)  : pl_I l y_Automaton_place b_Automaton_place 2 .int ({ frames := 0, cells := 0, slots := 0, locals := 0 } : Room) pl_E0 D classes (TY cI cZ cL) [.int (nI q), .int (nI t)] [] (fun (r : Int32) (_ : Unit) => r = nI (q * 8 + t)) (fun (_ : Unit) => []) := by
  refine pl_startI (by decide) (Nat.le_of_ble_eq_true rfl) ?_
  intro p e s m args below meth c A ls X hr hlk hin hK hP hD hS hA hE hl
  have X : CallFix p m c b_Automaton_place 2 s args TG R_Automaton := X
  have hx := X.1
  have hb := X.2.1
  have hl : lv_has ls 2 [(0, .int (nI q)), (1, .int (nI t))] := hl
  refine lv_iload_n hx hb d_Automaton_place_0 rfl (lv_at hl 0 rfl) ?_
  refine lv_bipush (v := nI 8) hx hb d_Automaton_place_1 (by decide) ?_
  refine pl_imul X d_Automaton_place_3 (z := nI (q * 8)) (pk_mul _ _) ?_
  refine lv_iload_n hx hb d_Automaton_place_4 rfl (lv_at hl 1 rfl) ?_
  refine pl_iadd X d_Automaton_place_5 (z := nI (q * 8 + t)) (nI_add _ _) ?_
  exact pl_iret X hr hlk hK rfl () rfl hP hD hS d_Automaton_place_6

set_option maxHeartbeats 4000000 in
set_option maxRecDepth 100000 in
theorem c_Automaton_reset (l : Launch) (D : va_G) (cI cZ cL : ClassId) (h a1 a2 a3 n : Nat) (lo hi th : Nat → Int32) (z : Nat)  : pl_V l y_Automaton_reset b_Automaton_reset 3 ({ frames := 0, cells := 0, slots := 0, locals := 0 } : Room) pl_E0 D classes (TY cI cZ cL) [.ref h, .int (nI z)] [(h, .inr (1, [.ref a1, .ref a2, .ref a3, .int (nI n)])), (a1, .inl (cI, 32, .inl lo)), (a2, .inl (cI, 32, .inl hi)), (a3, .inl (cI, 32, .inl th))] (fun _ : Unit => True) (fun (_ : Unit) => [(h, .inr (1, [.ref a1, .ref a2, .ref a3, .int (nI z)])), (a1, .inl (cI, 32, .inl lo)), (a2, .inl (cI, 32, .inl hi)), (a3, .inl (cI, 32, .inl (fun _ => -1)))]) := by
  refine pl_startV (by decide) (Nat.le_of_ble_eq_true rfl) ?_
  intro p e s m args below meth c A ls X hr hlk hin hK hP hD hS hA hE hl
  have X : CallFix p m c b_Automaton_reset 3 s args TG R_Automaton := X
  have hx := X.1
  have hb := X.2.1
  have hl : lv_has ls 3 [(0, .ref h), (1, .int (nI z))] := hl
  refine lv_aload_n hx hb d_Automaton_reset_0 rfl (lv_at hl 0 rfl) ?_
  refine lv_iload_n hx hb d_Automaton_reset_1 rfl (lv_at hl 1 rfl) ?_
  refine pl_put X fw_Automaton_25 fp_Automaton rfl hK hP hD hS 0 rfl (v := .int (nI z)) rfl rfl (Nat.le_of_ble_eq_true rfl) d_Automaton_reset_2 (ws' := [(h, .inr (1, [.ref a1, .ref a2, .ref a3, .int (nI z)])), (a1, .inl (cI, 32, .inl lo)), (a2, .inl (cI, 32, .inl hi)), (a3, .inl (cI, 32, .inl th))]) rfl (fun H locs hP hD hS => ?_)
  refine lv_iconst (v := nI 0) hx hb d_Automaton_reset_5 (by decide) ?_
  refine lv_istore_n hx hb d_Automaton_reset_6 rfl hl (by decide) (lv' := [(2, .int (nI 0)), (0, .ref h), (1, .int (nI z))]) rfl (fun ls hl => ?_)
  have loop_7 : ∀ (k : Nat) (i : Nat) (g : Nat → Int32) (H : Heap) (locs : List Loc) (ls : Array Slot), 32 - i = k → (i ≤ 32) → (∀ j, j < i → g j = -1) → va_P D classes [(h, .inr (1, [.ref a1, .ref a2, .ref a3, .int (nI z)])), (a1, .inl (cI, 32, .inl lo)), (a2, .inl (cI, 32, .inl hi)), (a3, .inl (cI, 32, .inl g))] H → va_D A [(h, .inr (1, [.ref a1, .ref a2, .ref a3, .int (nI z)])), (a1, .inl (cI, 32, .inl lo)), (a2, .inl (cI, 32, .inl hi)), (a3, .inl (cI, 32, .inl g))] → va_S A s.heap H locs → lv_has ls 3 [(2, .int (nI i)), (0, .ref h), (1, .int (nI z))] → W p l e ({ frames := 0, cells := 0, slots := 0, locals := 0 } : Room) s m args below meth c H locs 0 0 (MQ below (va_Qv (fun _ : Unit => True) (fun u => pl_out D classes (TY cI cZ cL) A ((fun (_ : Unit) => [(h, .inr (1, [.ref a1, .ref a2, .ref a3, .int (nI z)])), (a1, .inl (cI, 32, .inl lo)), (a2, .inl (cI, 32, .inl hi)), (a3, .inl (cI, 32, .inl (fun _ => -1)))]) u)) A) args s 0 0 A) (F0 m 7 ls []) := by
    intro k
    induction k using Nat.strongRecOn with
    | _ k ih =>
    intro i g H locs ls hk hi0 hg hP hD hS hl
    refine lv_iload_n hx hb d_Automaton_reset_7 rfl (lv_at hl 0 rfl) ?_
    refine lv_aload_n hx hb d_Automaton_reset_8 rfl (lv_at hl 1 rfl) ?_
    refine pl_get X fw_Automaton_18 hK hP 0 rfl (v := .ref a3) rfl d_Automaton_reset_9 ?_
    refine pl_alen X hK hP 3 0 rfl rfl (L := 32) rfl d_Automaton_reset_12 ?_
    refine pl_icmp_ge X (by omega) (by decide) d_Automaton_reset_13 rfl (fun g13 => ?_) (fun g13 => ?_)
    · skip
      have hP := pl_ext hP 3 rfl (fun _ => -1) (fun j hj => hg j (by omega)) (ws' := [(h, .inr (1, [.ref a1, .ref a2, .ref a3, .int (nI z)])), (a1, .inl (cI, 32, .inl lo)), (a2, .inl (cI, 32, .inl hi)), (a3, .inl (cI, 32, .inl (fun _ => -1)))]) rfl
      have hD := pl_extD hD 3 rfl (.inl (cI, 32, .inl (fun _ => -1))) (ws' := [(h, .inr (1, [.ref a1, .ref a2, .ref a3, .int (nI z)])), (a1, .inl (cI, 32, .inl lo)), (a2, .inl (cI, 32, .inl hi)), (a3, .inl (cI, 32, .inl (fun _ => -1)))]) rfl
      exact pl_vret X hr hlk hK () trivial hP hD hS d_Automaton_reset_29
    · skip
      refine lv_aload_n hx hb d_Automaton_reset_16 rfl (lv_at hl 1 rfl) ?_
      refine pl_get X fw_Automaton_18 hK hP 0 rfl (v := .ref a3) rfl d_Automaton_reset_17 ?_
      refine lv_iload_n hx hb d_Automaton_reset_20 rfl (lv_at hl 0 rfl) ?_
      refine lv_iconst (v := -1) hx hb d_Automaton_reset_21 (by decide) ?_
      refine pl_iast X hK hP hD hS 3 0 rfl rfl i (by omega) (by decide) d_Automaton_reset_22 (ws' := [(h, .inr (1, [.ref a1, .ref a2, .ref a3, .int (nI z)])), (a1, .inl (cI, 32, .inl lo)), (a2, .inl (cI, 32, .inl hi)), (a3, .inl (cI, 32, .inl (upd g i (-1))))]) rfl (fun H locs hP hD hS => ?_)
      refine lv_iinc hx hb d_Automaton_reset_23 hl (k := 0) rfl (nI_inc1 _) (by decide) (lv' := [(2, .int (nI (i + 1))), (0, .ref h), (1, .int (nI z))]) rfl (fun ls hl => ?_)
      refine lv_goto hx hb d_Automaton_reset_26 rfl ?_
      exact ih _ (by omega) (i + 1) (upd g i (-1)) _ _ _ rfl (by omega) (fun j hj => by rcases Nat.lt_succ_iff_lt_or_eq.mp hj with q | q; (rw [upd_n (Nat.ne_of_lt q)]; exact hg j q); (rw [q]; exact upd_s)) hP hD hS hl
  exact loop_7 _ 0 th _ _ _ rfl (Nat.zero_le _) (fun j hj => absurd hj (Nat.not_lt_zero j)) hP hD hS hl

set_option maxHeartbeats 4000000 in
set_option maxRecDepth 100000 in
theorem c_Automaton_hasState (l : Launch) (D : va_G) (cI cZ cL : ClassId) (h a1 a2 a3 n : Nat) (lo hi th : Nat → Int32) (x : Int32) (hn : n < 2 ^ 31) : pl_I l y_Automaton_hasState b_Automaton_hasState 2 .boolean ({ frames := 0, cells := 0, slots := 0, locals := 0 } : Room) pl_E0 D classes (TY cI cZ cL) [.ref h, .int x] [(h, .inr (1, [.ref a1, .ref a2, .ref a3, .int (nI n)])), (a1, .inl (cI, 32, .inl lo)), (a2, .inl (cI, 32, .inl hi)), (a3, .inl (cI, 32, .inl th))] (fun (r : Int32) (_ : Unit) => r = bI (inB x n)) (fun (_ : Unit) => [(h, .inr (1, [.ref a1, .ref a2, .ref a3, .int (nI n)])), (a1, .inl (cI, 32, .inl lo)), (a2, .inl (cI, 32, .inl hi)), (a3, .inl (cI, 32, .inl th))]) := by
  refine pl_startI (by decide) (Nat.le_of_ble_eq_true rfl) ?_
  intro p e s m args below meth c A ls X hr hlk hin hK hP hD hS hA hE hl
  have X : CallFix p m c b_Automaton_hasState 2 s args TG R_Automaton := X
  have hx := X.1
  have hb := X.2.1
  have hl : lv_has ls 2 [(0, .ref h), (1, .int x)] := hl
  refine lv_iload_n hx hb d_Automaton_hasState_0 rfl (lv_at hl 1 rfl) ?_
  refine lv_if_lt hx hb d_Automaton_hasState_1 rfl (fun g1 => ?_) (fun g1 => ?_)
  · skip
    refine lv_iconst (v := nI 0) hx hb d_Automaton_hasState_16 (by decide) ?_
    exact pl_iret X hr hlk hK rfl () (bI_f (inB_lo g1)) hP hD hS d_Automaton_hasState_17
  · skip
    refine lv_iload_n hx hb d_Automaton_hasState_4 rfl (lv_at hl 1 rfl) ?_
    refine lv_aload_n hx hb d_Automaton_hasState_5 rfl (lv_at hl 0 rfl) ?_
    refine pl_get X fw_Automaton_25 hK hP 0 rfl (v := .int (nI n)) rfl d_Automaton_hasState_6 ?_
    refine lv_icmp_ge hx hb d_Automaton_hasState_9 rfl (fun g9 => ?_) (fun g9 => ?_)
    · skip
      refine lv_iconst (v := nI 0) hx hb d_Automaton_hasState_16 (by decide) ?_
      exact pl_iret X hr hlk hK rfl () (bI_f (inB_hi hn g9)) hP hD hS d_Automaton_hasState_17
    · skip
      refine lv_iconst (v := nI 1) hx hb d_Automaton_hasState_12 (by decide) ?_
      refine lv_goto hx hb d_Automaton_hasState_13 rfl ?_
      exact pl_iret X hr hlk hK rfl () (bI_t (inB_in hn g1 g9)) hP hD hS d_Automaton_hasState_17

set_option maxHeartbeats 4000000 in
set_option maxRecDepth 100000 in
theorem c_Automaton_setRule (l : Launch) (D : va_G) (cI cZ cL : ClassId) (h a1 a2 a3 n : Nat) (lo hi th : Nat → Int32) (j : Nat) (u v w : Int32) (hj : j < 32) : pl_V l y_Automaton_setRule b_Automaton_setRule 5 ({ frames := 0, cells := 0, slots := 0, locals := 0 } : Room) pl_E0 D classes (TY cI cZ cL) [.ref h, .int (nI j), .int u, .int v, .int w] [(h, .inr (1, [.ref a1, .ref a2, .ref a3, .int (nI n)])), (a1, .inl (cI, 32, .inl lo)), (a2, .inl (cI, 32, .inl hi)), (a3, .inl (cI, 32, .inl th))] (fun _ : Unit => True) (fun (_ : Unit) => [(h, .inr (1, [.ref a1, .ref a2, .ref a3, .int (nI n)])), (a1, .inl (cI, 32, .inl (upd lo j u))), (a2, .inl (cI, 32, .inl (upd hi j v))), (a3, .inl (cI, 32, .inl (upd th j w)))]) := by
  refine pl_startV (by decide) (Nat.le_of_ble_eq_true rfl) ?_
  intro p e s m args below meth c A ls X hr hlk hin hK hP hD hS hA hE hl
  have X : CallFix p m c b_Automaton_setRule 5 s args TG R_Automaton := X
  have hx := X.1
  have hb := X.2.1
  have hl : lv_has ls 5 [(0, .ref h), (1, .int (nI j)), (2, .int u), (3, .int v), (4, .int w)] := hl
  refine lv_aload_n hx hb d_Automaton_setRule_0 rfl (lv_at hl 0 rfl) ?_
  refine pl_get X fw_Automaton_9 hK hP 0 rfl (v := .ref a1) rfl d_Automaton_setRule_1 ?_
  refine lv_iload_n hx hb d_Automaton_setRule_4 rfl (lv_at hl 1 rfl) ?_
  refine lv_iload_n hx hb d_Automaton_setRule_5 rfl (lv_at hl 2 rfl) ?_
  refine pl_iast X hK hP hD hS 1 0 rfl rfl j (by omega) (by decide) d_Automaton_setRule_6 (ws' := [(h, .inr (1, [.ref a1, .ref a2, .ref a3, .int (nI n)])), (a1, .inl (cI, 32, .inl (upd lo j u))), (a2, .inl (cI, 32, .inl hi)), (a3, .inl (cI, 32, .inl th))]) rfl (fun H locs hP hD hS => ?_)
  refine lv_aload_n hx hb d_Automaton_setRule_7 rfl (lv_at hl 0 rfl) ?_
  refine pl_get X fw_Automaton_15 hK hP 0 rfl (v := .ref a2) rfl d_Automaton_setRule_8 ?_
  refine lv_iload_n hx hb d_Automaton_setRule_11 rfl (lv_at hl 1 rfl) ?_
  refine lv_iload_n hx hb d_Automaton_setRule_12 rfl (lv_at hl 3 rfl) ?_
  refine pl_iast X hK hP hD hS 2 0 rfl rfl j (by omega) (by decide) d_Automaton_setRule_13 (ws' := [(h, .inr (1, [.ref a1, .ref a2, .ref a3, .int (nI n)])), (a1, .inl (cI, 32, .inl (upd lo j u))), (a2, .inl (cI, 32, .inl (upd hi j v))), (a3, .inl (cI, 32, .inl th))]) rfl (fun H locs hP hD hS => ?_)
  refine lv_aload_n hx hb d_Automaton_setRule_14 rfl (lv_at hl 0 rfl) ?_
  refine pl_get X fw_Automaton_18 hK hP 0 rfl (v := .ref a3) rfl d_Automaton_setRule_15 ?_
  refine lv_iload_n hx hb d_Automaton_setRule_18 rfl (lv_at hl 1 rfl) ?_
  refine lv_iload hx hb d_Automaton_setRule_19 (lv_at hl 4 rfl) ?_
  refine pl_iast X hK hP hD hS 3 0 rfl rfl j (by omega) (by decide) d_Automaton_setRule_21 (ws' := [(h, .inr (1, [.ref a1, .ref a2, .ref a3, .int (nI n)])), (a1, .inl (cI, 32, .inl (upd lo j u))), (a2, .inl (cI, 32, .inl (upd hi j v))), (a3, .inl (cI, 32, .inl (upd th j w)))]) rfl (fun H locs hP hD hS => ?_)
  exact pl_vret X hr hlk hK () trivial hP hD hS d_Automaton_setRule_22

set_option maxHeartbeats 4000000 in
set_option maxRecDepth 100000 in
theorem c_Automaton_hasRule (l : Launch) (D : va_G) (cI cZ cL : ClassId) (h a1 a2 a3 n : Nat) (lo hi th : Nat → Int32) (j : Nat) (hj : j < 32) : pl_I l y_Automaton_hasRule b_Automaton_hasRule 2 .boolean ({ frames := 0, cells := 0, slots := 0, locals := 0 } : Room) pl_E0 D classes (TY cI cZ cL) [.ref h, .int (nI j)] [(h, .inr (1, [.ref a1, .ref a2, .ref a3, .int (nI n)])), (a1, .inl (cI, 32, .inl lo)), (a2, .inl (cI, 32, .inl hi)), (a3, .inl (cI, 32, .inl th))] (fun (r : Int32) (_ : Unit) => r = bI (decide (¬ th j = -1))) (fun (_ : Unit) => [(h, .inr (1, [.ref a1, .ref a2, .ref a3, .int (nI n)])), (a1, .inl (cI, 32, .inl lo)), (a2, .inl (cI, 32, .inl hi)), (a3, .inl (cI, 32, .inl th))]) := by
  refine pl_startI (by decide) (Nat.le_of_ble_eq_true rfl) ?_
  intro p e s m args below meth c A ls X hr hlk hin hK hP hD hS hA hE hl
  have X : CallFix p m c b_Automaton_hasRule 2 s args TG R_Automaton := X
  have hx := X.1
  have hb := X.2.1
  have hl : lv_has ls 2 [(0, .ref h), (1, .int (nI j))] := hl
  refine lv_aload_n hx hb d_Automaton_hasRule_0 rfl (lv_at hl 0 rfl) ?_
  refine pl_get X fw_Automaton_18 hK hP 0 rfl (v := .ref a3) rfl d_Automaton_hasRule_1 ?_
  refine lv_iload_n hx hb d_Automaton_hasRule_4 rfl (lv_at hl 1 rfl) ?_
  refine pl_iald X hK hP 3 0 rfl rfl j (by omega) (by decide) (z := th j) rfl d_Automaton_hasRule_5 ?_
  refine lv_iconst (v := -1) hx hb d_Automaton_hasRule_6 (by decide) ?_
  refine lv_icmp_eq hx hb d_Automaton_hasRule_7 rfl (fun g7 => ?_) (fun g7 => ?_)
  · skip
    refine lv_iconst (v := nI 0) hx hb d_Automaton_hasRule_14 (by decide) ?_
    exact pl_iret X hr hlk hK rfl () (bI_f (decide_eq_false (not_not_intro g7))) hP hD hS d_Automaton_hasRule_15
  · skip
    refine lv_iconst (v := nI 1) hx hb d_Automaton_hasRule_10 (by decide) ?_
    refine lv_goto hx hb d_Automaton_hasRule_11 rfl ?_
    exact pl_iret X hr hlk hK rfl () (bI_t (decide_eq_true g7)) hP hD hS d_Automaton_hasRule_15

set_option maxHeartbeats 4000000 in
set_option maxRecDepth 100000 in
theorem c_Automaton_allows (l : Launch) (D : va_G) (cI cZ cL : ClassId) (h a1 a2 a3 n : Nat) (lo hi th : Nat → Int32) (j : Nat) (v : Int32) (hj : j < 32) : pl_I l y_Automaton_allows b_Automaton_allows 3 .boolean ({ frames := 1, cells := 0, slots := 0, locals := 21 } : Room) pl_E0 D classes (TY cI cZ cL) [.ref h, .int (nI j), .int v] [(h, .inr (1, [.ref a1, .ref a2, .ref a3, .int (nI n)])), (a1, .inl (cI, 32, .inl lo)), (a2, .inl (cI, 32, .inl hi)), (a3, .inl (cI, 32, .inl th))] (fun (r : Int32) (_ : Unit) => r = bI (decide (¬ th j = -1) && (decide (lo j ≤ v) && decide (v ≤ hi j)))) (fun (_ : Unit) => [(h, .inr (1, [.ref a1, .ref a2, .ref a3, .int (nI n)])), (a1, .inl (cI, 32, .inl lo)), (a2, .inl (cI, 32, .inl hi)), (a3, .inl (cI, 32, .inl th))]) := by
  refine pl_startI (by decide) (Nat.le_of_ble_eq_true rfl) ?_
  intro p e s m args below meth c A ls X hr hlk hin hK hP hD hS hA hE hl
  have X : CallFix p m c b_Automaton_allows 3 s args TG R_Automaton := X
  have hx := X.1
  have hb := X.2.1
  have hl : lv_has ls 3 [(0, .ref h), (1, .int (nI j)), (2, .int v)] := hl
  refine lv_aload_n hx hb d_Automaton_allows_0 rfl (lv_at hl 0 rfl) ?_
  refine lv_iload_n hx hb d_Automaton_allows_1 rfl (lv_at hl 1 rfl) ?_
  refine pl_callVI X (rest := []) (As := [.int (nI j)]) (b := h) (c_Automaton_hasRule l D cI cZ cL h a1 a2 a3 n lo hi th j hj) ck_Automaton_29 pl_E0_ok trivial hK hP hD hS hA (T := F_Automaton) (N := N_Automaton) (ci := 1) rfl 0 rfl [0, 1, 2, 3] [] [0, 1, 2, 3] rfl (by decide) (wr := []) rfl (by decide) (by decide) (wf := fun _ => [(h, .inr (1, [.ref a1, .ref a2, .ref a3, .int (nI n)])), (a1, .inl (cI, 32, .inl lo)), (a2, .inl (cI, 32, .inl hi)), (a3, .inl (cI, 32, .inl th))]) (fun _ => rfl) (by decide) rfl hl.1 rfl (Nat.le_of_ble_eq_true rfl) (by decide) (by decide) d_Automaton_allows_2 (fun r u0 H locs hcq hP hD hS => ?_)
  subst hcq
  refine pl_ifB_eq X d_Automaton_allows_5 rfl (fun g5 => ?_) (fun g5 => ?_)
  · skip
    refine lv_iconst (v := nI 0) hx hb d_Automaton_allows_32 (by decide) ?_
    exact pl_iret X hr hlk hK rfl () (bI_f (by rw [g5]; rfl)) hP hD hS d_Automaton_allows_33
  · skip
    refine lv_aload_n hx hb d_Automaton_allows_8 rfl (lv_at hl 0 rfl) ?_
    refine pl_get X fw_Automaton_9 hK hP 0 rfl (v := .ref a1) rfl d_Automaton_allows_9 ?_
    refine lv_iload_n hx hb d_Automaton_allows_12 rfl (lv_at hl 1 rfl) ?_
    refine pl_iald X hK hP 1 0 rfl rfl j (by omega) (by decide) (z := lo j) rfl d_Automaton_allows_13 ?_
    refine lv_iload_n hx hb d_Automaton_allows_14 rfl (lv_at hl 2 rfl) ?_
    refine lv_icmp_gt hx hb d_Automaton_allows_15 rfl (fun g15 => ?_) (fun g15 => ?_)
    · skip
      refine lv_iconst (v := nI 0) hx hb d_Automaton_allows_32 (by decide) ?_
      exact pl_iret X hr hlk hK rfl () (bI_f (by rw [decide_eq_false (i_nle.mpr g15)]; simp)) hP hD hS d_Automaton_allows_33
    · skip
      refine lv_iload_n hx hb d_Automaton_allows_18 rfl (lv_at hl 2 rfl) ?_
      refine lv_aload_n hx hb d_Automaton_allows_19 rfl (lv_at hl 0 rfl) ?_
      refine pl_get X fw_Automaton_15 hK hP 0 rfl (v := .ref a2) rfl d_Automaton_allows_20 ?_
      refine lv_iload_n hx hb d_Automaton_allows_23 rfl (lv_at hl 1 rfl) ?_
      refine pl_iald X hK hP 2 0 rfl rfl j (by omega) (by decide) (z := hi j) rfl d_Automaton_allows_24 ?_
      refine lv_icmp_gt hx hb d_Automaton_allows_25 rfl (fun g25 => ?_) (fun g25 => ?_)
      · skip
        refine lv_iconst (v := nI 0) hx hb d_Automaton_allows_32 (by decide) ?_
        exact pl_iret X hr hlk hK rfl () (bI_f (by rw [decide_eq_false (i_nle.mpr g25)]; simp)) hP hD hS d_Automaton_allows_33
      · skip
        refine lv_iconst (v := nI 1) hx hb d_Automaton_allows_28 (by decide) ?_
        refine lv_goto hx hb d_Automaton_allows_29 rfl ?_
        exact pl_iret X hr hlk hK rfl () (bI_t (by rw [g5, decide_eq_true (i_nlt.mp g15), decide_eq_true (i_nlt.mp g25)]; rfl)) hP hD hS d_Automaton_allows_33

set_option maxHeartbeats 4000000 in
set_option maxRecDepth 100000 in
theorem c_Automaton_countRules (l : Launch) (D : va_G) (cI cZ cL : ClassId) (h a1 a2 a3 n : Nat) (lo hi th : Nat → Int32) (t : Nat) (hn : n ≤ 4) (ht : t < 8) : pl_I l y_Automaton_countRules b_Automaton_countRules 4 .int ({ frames := 1, cells := 0, slots := 0, locals := 21 } : Room) pl_E0 D classes (TY cI cZ cL) [.ref h, .int (nI t)] [(h, .inr (1, [.ref a1, .ref a2, .ref a3, .int (nI n)])), (a1, .inl (cI, 32, .inl lo)), (a2, .inl (cI, 32, .inl hi)), (a3, .inl (cI, 32, .inl th))] (fun (r : Int32) (_ : Unit) => r = nI (cntR th t n)) (fun (_ : Unit) => [(h, .inr (1, [.ref a1, .ref a2, .ref a3, .int (nI n)])), (a1, .inl (cI, 32, .inl lo)), (a2, .inl (cI, 32, .inl hi)), (a3, .inl (cI, 32, .inl th))]) := by
  refine pl_startI (by decide) (Nat.le_of_ble_eq_true rfl) ?_
  intro p e s m args below meth c A ls X hr hlk hin hK hP hD hS hA hE hl
  have X : CallFix p m c b_Automaton_countRules 4 s args TG R_Automaton := X
  have hx := X.1
  have hb := X.2.1
  have hl : lv_has ls 4 [(0, .ref h), (1, .int (nI t))] := hl
  refine lv_iconst (v := nI 0) hx hb d_Automaton_countRules_0 (by decide) ?_
  refine lv_istore_n hx hb d_Automaton_countRules_1 rfl hl (by decide) (lv' := [(2, .int (nI 0)), (0, .ref h), (1, .int (nI t))]) rfl (fun ls hl => ?_)
  refine lv_iconst (v := nI 0) hx hb d_Automaton_countRules_2 (by decide) ?_
  refine lv_istore_n hx hb d_Automaton_countRules_3 rfl hl (by decide) (lv' := [(3, .int (nI 0)), (2, .int (nI 0)), (0, .ref h), (1, .int (nI t))]) rfl (fun ls hl => ?_)
  have loop_4 : ∀ (k : Nat) (i c0 : Nat) (H : Heap) (locs : List Loc) (ls : Array Slot), n - i = k → (i ≤ n) → (c0 = cntR th t i) → va_P D classes [(h, .inr (1, [.ref a1, .ref a2, .ref a3, .int (nI n)])), (a1, .inl (cI, 32, .inl lo)), (a2, .inl (cI, 32, .inl hi)), (a3, .inl (cI, 32, .inl th))] H → va_D A [(h, .inr (1, [.ref a1, .ref a2, .ref a3, .int (nI n)])), (a1, .inl (cI, 32, .inl lo)), (a2, .inl (cI, 32, .inl hi)), (a3, .inl (cI, 32, .inl th))] → va_S A s.heap H locs → lv_has ls 4 [(3, .int (nI i)), (2, .int (nI c0)), (0, .ref h), (1, .int (nI t))] → W p l e ({ frames := 1, cells := 0, slots := 0, locals := 21 } : Room) s m args below meth c H locs 0 0 (MQ below (va_Qi (fun (r : Int32) (_ : Unit) => r = nI (cntR th t n)) (fun u => pl_out D classes (TY cI cZ cL) A ((fun (_ : Unit) => [(h, .inr (1, [.ref a1, .ref a2, .ref a3, .int (nI n)])), (a1, .inl (cI, 32, .inl lo)), (a2, .inl (cI, 32, .inl hi)), (a3, .inl (cI, 32, .inl th))]) u)) A) args s 0 0 A) (F0 m 4 ls []) := by
    intro k
    induction k using Nat.strongRecOn with
    | _ k ih =>
    intro i c0 H locs ls hk hi0 hc hP hD hS hl
    refine lv_iload_n hx hb d_Automaton_countRules_4 rfl (lv_at hl 0 rfl) ?_
    refine lv_aload_n hx hb d_Automaton_countRules_5 rfl (lv_at hl 2 rfl) ?_
    refine pl_get X fw_Automaton_25 hK hP 0 rfl (v := .int (nI n)) rfl d_Automaton_countRules_6 ?_
    refine pl_icmp_ge X (by omega) (by omega) d_Automaton_countRules_9 rfl (fun g9 => ?_) (fun g9 => ?_)
    · skip
      refine lv_iload_n hx hb d_Automaton_countRules_33 rfl (lv_at hl 1 rfl) ?_
      exact pl_iret X hr hlk hK rfl () (by rw [hc, show i = n by omega]) hP hD hS d_Automaton_countRules_34
    · skip
      refine lv_aload_n hx hb d_Automaton_countRules_12 rfl (lv_at hl 2 rfl) ?_
      refine lv_iload_n hx hb d_Automaton_countRules_13 rfl (lv_at hl 0 rfl) ?_
      refine lv_iload_n hx hb d_Automaton_countRules_14 rfl (lv_at hl 3 rfl) ?_
      refine pl_callSI X (rest := [.ref h]) (As := [.int (nI i), .int (nI t)]) (c_Automaton_place l D cI cZ cL i t) ck_Automaton_33 pl_E0_ok trivial hK hP hD hS hA [] [0, 1, 2, 3] [0, 1, 2, 3] rfl (by decide) (wr := [(h, .inr (1, [.ref a1, .ref a2, .ref a3, .int (nI n)])), (a1, .inl (cI, 32, .inl lo)), (a2, .inl (cI, 32, .inl hi)), (a3, .inl (cI, 32, .inl th))]) rfl (by decide) (by decide) (wf := fun _ => [(h, .inr (1, [.ref a1, .ref a2, .ref a3, .int (nI n)])), (a1, .inl (cI, 32, .inl lo)), (a2, .inl (cI, 32, .inl hi)), (a3, .inl (cI, 32, .inl th))]) (fun _ => rfl) (by decide) rfl hl.1 rfl (Nat.le_of_ble_eq_true rfl) (by decide) (by decide) d_Automaton_countRules_15 (fun r u0 H locs hcq hP hD hS => ?_)
      subst hcq
      refine pl_callVI X (rest := []) (As := [.int (nI (i * 8 + t))]) (b := h) (c_Automaton_hasRule l D cI cZ cL h a1 a2 a3 n lo hi th (i * 8 + t) (by omega)) ck_Automaton_29 pl_E0_ok trivial hK hP hD hS hA (T := F_Automaton) (N := N_Automaton) (ci := 1) rfl 0 rfl [0, 1, 2, 3] [] [0, 1, 2, 3] rfl (by decide) (wr := []) rfl (by decide) (by decide) (wf := fun _ => [(h, .inr (1, [.ref a1, .ref a2, .ref a3, .int (nI n)])), (a1, .inl (cI, 32, .inl lo)), (a2, .inl (cI, 32, .inl hi)), (a3, .inl (cI, 32, .inl th))]) (fun _ => rfl) (by decide) rfl hl.1 rfl (Nat.le_of_ble_eq_true rfl) (by decide) (by decide) d_Automaton_countRules_18 (fun r u0 H locs hcq hP hD hS => ?_)
      subst hcq
      refine pl_ifB_eq X d_Automaton_countRules_21 rfl (fun g21 => ?_) (fun g21 => ?_)
      · skip
        refine lv_iinc hx hb d_Automaton_countRules_27 hl (k := 0) rfl (nI_inc1 _) (by decide) (lv' := [(3, .int (nI (i + 1))), (2, .int (nI c0)), (0, .ref h), (1, .int (nI t))]) rfl (fun ls hl => ?_)
        refine lv_goto hx hb d_Automaton_countRules_30 rfl ?_
        exact ih _ (by omega) (i + 1) c0 _ _ _ rfl (by omega) (by subst hc; simp only [decide_eq_true_eq, decide_eq_false_iff_not, Decidable.not_not] at g21; simp [cntR, g21]) hP hD hS hl
      · skip
        refine lv_iinc hx hb d_Automaton_countRules_24 hl (k := 1) rfl (nI_inc1 _) (by decide) (lv' := [(2, .int (nI (c0 + 1))), (3, .int (nI i)), (0, .ref h), (1, .int (nI t))]) rfl (fun ls hl => ?_)
        refine lv_iinc hx hb d_Automaton_countRules_27 hl (k := 1) rfl (nI_inc1 _) (by decide) (lv' := [(3, .int (nI (i + 1))), (2, .int (nI (c0 + 1))), (0, .ref h), (1, .int (nI t))]) rfl (fun ls hl => ?_)
        refine lv_goto hx hb d_Automaton_countRules_30 rfl ?_
        exact ih _ (by omega) (i + 1) (c0 + 1) _ _ _ rfl (by omega) (by subst hc; simp only [decide_eq_true_eq, decide_eq_false_iff_not, Decidable.not_not] at g21; simp [cntR, g21]) hP hD hS hl
  exact loop_4 _ 0 0 _ _ _ rfl (Nat.zero_le _) rfl hP hD hS hl

set_option maxHeartbeats 4000000 in
set_option maxRecDepth 100000 in
theorem c_Loom_goesElsewhere (l : Launch) (D : va_G) (cI cZ cL : ClassId) (o : Nat) (ho : o ≤ 12) : pl_I l y_Loom_goesElsewhere b_Loom_goesElsewhere 1 .boolean ({ frames := 0, cells := 0, slots := 0, locals := 0 } : Room) pl_E0 D classes (TY cI cZ cL) [.int (nI o)] [] (fun (r : Int32) (_ : Unit) => r = bI (decide (o = 7 ∨ o = 8))) (fun (_ : Unit) => []) := by
  refine pl_startI (by decide) (Nat.le_of_ble_eq_true rfl) ?_
  intro p e s m args below meth c A ls X hr hlk hin hK hP hD hS hA hE hl
  have X : CallFix p m c b_Loom_goesElsewhere 1 s args TG R_Loom := X
  have hx := X.1
  have hb := X.2.1
  have hl : lv_has ls 1 [(0, .int (nI o))] := hl
  refine lv_iload_n hx hb d_Loom_goesElsewhere_0 rfl (lv_at hl 0 rfl) ?_
  refine lv_bipush (v := nI 7) hx hb d_Loom_goesElsewhere_1 (by decide) ?_
  refine pl_icmp_eq X (by omega) (by decide) d_Loom_goesElsewhere_3 rfl (fun g3 => ?_) (fun g3 => ?_)
  · skip
    refine lv_iconst (v := nI 1) hx hb d_Loom_goesElsewhere_12 (by decide) ?_
    refine lv_goto hx hb d_Loom_goesElsewhere_13 rfl ?_
    exact pl_iret X hr hlk hK rfl () (bI_t (decide_eq_true (Or.inl g3))) hP hD hS d_Loom_goesElsewhere_17
  · skip
    refine lv_iload_n hx hb d_Loom_goesElsewhere_6 rfl (lv_at hl 0 rfl) ?_
    refine lv_bipush (v := nI 8) hx hb d_Loom_goesElsewhere_7 (by decide) ?_
    refine pl_icmp_ne X (by omega) (by decide) d_Loom_goesElsewhere_9 rfl (fun g9 => ?_) (fun g9 => ?_)
    · skip
      refine lv_iconst (v := nI 0) hx hb d_Loom_goesElsewhere_16 (by decide) ?_
      exact pl_iret X hr hlk hK rfl () (bI_f (decide_eq_false (fun q => q.elim g3 g9))) hP hD hS d_Loom_goesElsewhere_17
    · skip
      refine lv_iconst (v := nI 1) hx hb d_Loom_goesElsewhere_12 (by decide) ?_
      refine lv_goto hx hb d_Loom_goesElsewhere_13 rfl ?_
      exact pl_iret X hr hlk hK rfl () (bI_t (decide_eq_true (Or.inr g9))) hP hD hS d_Loom_goesElsewhere_17
end
section
/-! Decode rows of Run. -/
theorem d_Run_push_0 : decode b_Run_push 0 = .ok (.aload_n 0, 1) := by decide +kernel
theorem d_Run_push_1 : decode b_Run_push 1 = .ok (.getfield 9, 3) := by decide +kernel
theorem d_Run_push_4 : decode b_Run_push 4 = .ok (.aload_n 0, 1) := by decide +kernel
theorem d_Run_push_5 : decode b_Run_push 5 = .ok (.getfield 34, 3) := by decide +kernel
theorem d_Run_push_8 : decode b_Run_push 8 = .ok (.iload_n 1, 1) := by decide +kernel
theorem d_Run_push_9 : decode b_Run_push 9 = .ok (.iastore, 1) := by decide +kernel
theorem d_Run_push_10 : decode b_Run_push 10 = .ok (.aload_n 0, 1) := by decide +kernel
theorem d_Run_push_11 : decode b_Run_push 11 = .ok (.dup, 1) := by decide +kernel
theorem d_Run_push_12 : decode b_Run_push 12 = .ok (.getfield 34, 3) := by decide +kernel
theorem d_Run_push_15 : decode b_Run_push 15 = .ok (.iconst 1, 1) := by decide +kernel
theorem d_Run_push_16 : decode b_Run_push 16 = .ok (.iadd, 1) := by decide +kernel
theorem d_Run_push_17 : decode b_Run_push 17 = .ok (.putfield 34, 3) := by decide +kernel
theorem d_Run_push_20 : decode b_Run_push 20 = .ok (.return_, 1) := by decide +kernel
theorem d_Run_pop_0 : decode b_Run_pop 0 = .ok (.aload_n 0, 1) := by decide +kernel
theorem d_Run_pop_1 : decode b_Run_pop 1 = .ok (.dup, 1) := by decide +kernel
theorem d_Run_pop_2 : decode b_Run_pop 2 = .ok (.getfield 34, 3) := by decide +kernel
theorem d_Run_pop_5 : decode b_Run_pop 5 = .ok (.iconst 1, 1) := by decide +kernel
theorem d_Run_pop_6 : decode b_Run_pop 6 = .ok (.isub, 1) := by decide +kernel
theorem d_Run_pop_7 : decode b_Run_pop 7 = .ok (.putfield 34, 3) := by decide +kernel
theorem d_Run_pop_10 : decode b_Run_pop 10 = .ok (.aload_n 0, 1) := by decide +kernel
theorem d_Run_pop_11 : decode b_Run_pop 11 = .ok (.getfield 9, 3) := by decide +kernel
theorem d_Run_pop_14 : decode b_Run_pop 14 = .ok (.aload_n 0, 1) := by decide +kernel
theorem d_Run_pop_15 : decode b_Run_pop 15 = .ok (.getfield 34, 3) := by decide +kernel
theorem d_Run_pop_18 : decode b_Run_pop 18 = .ok (.iaload, 1) := by decide +kernel
theorem d_Run_pop_19 : decode b_Run_pop 19 = .ok (.ireturn, 1) := by decide +kernel
theorem d_Run_workOnTwo_0 : decode b_Run_workOnTwo 0 = .ok (.aload_n 0, 1) := by decide +kernel
theorem d_Run_workOnTwo_1 : decode b_Run_workOnTwo 1 = .ok (.invokevirtual 51, 3) := by decide +kernel
theorem d_Run_workOnTwo_4 : decode b_Run_workOnTwo 4 = .ok (.istore_n 2, 1) := by decide +kernel
theorem d_Run_workOnTwo_5 : decode b_Run_workOnTwo 5 = .ok (.aload_n 0, 1) := by decide +kernel
theorem d_Run_workOnTwo_6 : decode b_Run_workOnTwo 6 = .ok (.invokevirtual 51, 3) := by decide +kernel
theorem d_Run_workOnTwo_9 : decode b_Run_workOnTwo 9 = .ok (.istore_n 3, 1) := by decide +kernel
theorem d_Run_workOnTwo_10 : decode b_Run_workOnTwo 10 = .ok (.iload_n 1, 1) := by decide +kernel
theorem d_Run_workOnTwo_11 : decode b_Run_workOnTwo 11 = .ok (.tableswitch 62 2 4 #[25, 35, 45], 25) := by decide +kernel
theorem d_Run_workOnTwo_36 : decode b_Run_workOnTwo 36 = .ok (.aload_n 0, 1) := by decide +kernel
theorem d_Run_workOnTwo_37 : decode b_Run_workOnTwo 37 = .ok (.iload_n 3, 1) := by decide +kernel
theorem d_Run_workOnTwo_38 : decode b_Run_workOnTwo 38 = .ok (.iload_n 2, 1) := by decide +kernel
theorem d_Run_workOnTwo_39 : decode b_Run_workOnTwo 39 = .ok (.iadd, 1) := by decide +kernel
theorem d_Run_workOnTwo_40 : decode b_Run_workOnTwo 40 = .ok (.invokevirtual 75, 3) := by decide +kernel
theorem d_Run_workOnTwo_43 : decode b_Run_workOnTwo 43 = .ok (.goto 40, 3) := by decide +kernel
theorem d_Run_workOnTwo_46 : decode b_Run_workOnTwo 46 = .ok (.aload_n 0, 1) := by decide +kernel
theorem d_Run_workOnTwo_47 : decode b_Run_workOnTwo 47 = .ok (.iload_n 3, 1) := by decide +kernel
theorem d_Run_workOnTwo_48 : decode b_Run_workOnTwo 48 = .ok (.iload_n 2, 1) := by decide +kernel
theorem d_Run_workOnTwo_49 : decode b_Run_workOnTwo 49 = .ok (.isub, 1) := by decide +kernel
theorem d_Run_workOnTwo_50 : decode b_Run_workOnTwo 50 = .ok (.invokevirtual 75, 3) := by decide +kernel
theorem d_Run_workOnTwo_53 : decode b_Run_workOnTwo 53 = .ok (.goto 30, 3) := by decide +kernel
theorem d_Run_workOnTwo_56 : decode b_Run_workOnTwo 56 = .ok (.aload_n 0, 1) := by decide +kernel
theorem d_Run_workOnTwo_57 : decode b_Run_workOnTwo 57 = .ok (.iload_n 3, 1) := by decide +kernel
theorem d_Run_workOnTwo_58 : decode b_Run_workOnTwo 58 = .ok (.iload_n 2, 1) := by decide +kernel
theorem d_Run_workOnTwo_59 : decode b_Run_workOnTwo 59 = .ok (.if_icmp .ge 7, 3) := by decide +kernel
theorem d_Run_workOnTwo_62 : decode b_Run_workOnTwo 62 = .ok (.iconst 1, 1) := by decide +kernel
theorem d_Run_workOnTwo_63 : decode b_Run_workOnTwo 63 = .ok (.goto 4, 3) := by decide +kernel
theorem d_Run_workOnTwo_66 : decode b_Run_workOnTwo 66 = .ok (.iconst 0, 1) := by decide +kernel
theorem d_Run_workOnTwo_67 : decode b_Run_workOnTwo 67 = .ok (.invokevirtual 75, 3) := by decide +kernel
theorem d_Run_workOnTwo_70 : decode b_Run_workOnTwo 70 = .ok (.goto 13, 3) := by decide +kernel
theorem d_Run_workOnTwo_73 : decode b_Run_workOnTwo 73 = .ok (.aload_n 0, 1) := by decide +kernel
theorem d_Run_workOnTwo_74 : decode b_Run_workOnTwo 74 = .ok (.iload_n 2, 1) := by decide +kernel
theorem d_Run_workOnTwo_75 : decode b_Run_workOnTwo 75 = .ok (.invokevirtual 75, 3) := by decide +kernel
theorem d_Run_workOnTwo_78 : decode b_Run_workOnTwo 78 = .ok (.aload_n 0, 1) := by decide +kernel
theorem d_Run_workOnTwo_79 : decode b_Run_workOnTwo 79 = .ok (.iload_n 3, 1) := by decide +kernel
theorem d_Run_workOnTwo_80 : decode b_Run_workOnTwo 80 = .ok (.invokevirtual 75, 3) := by decide +kernel
theorem d_Run_workOnTwo_83 : decode b_Run_workOnTwo 83 = .ok (.return_, 1) := by decide +kernel
theorem d_Run_work_0 : decode b_Run_work 0 = .ok (.iload_n 1, 1) := by decide +kernel
theorem d_Run_work_1 : decode b_Run_work 1 = .ok (.tableswitch 128 0 11 #[63, 71, 128, 128, 128, 84, 97, 128, 128, 128, 128, 110], 63) := by decide +kernel
theorem d_Run_work_64 : decode b_Run_work 64 = .ok (.aload_n 0, 1) := by decide +kernel
theorem d_Run_work_65 : decode b_Run_work 65 = .ok (.iload_n 2, 1) := by decide +kernel
theorem d_Run_work_66 : decode b_Run_work 66 = .ok (.invokevirtual 75, 3) := by decide +kernel
theorem d_Run_work_69 : decode b_Run_work 69 = .ok (.goto 65, 3) := by decide +kernel
theorem d_Run_work_72 : decode b_Run_work 72 = .ok (.aload_n 0, 1) := by decide +kernel
theorem d_Run_work_73 : decode b_Run_work 73 = .ok (.dup, 1) := by decide +kernel
theorem d_Run_work_74 : decode b_Run_work 74 = .ok (.getfield 34, 3) := by decide +kernel
theorem d_Run_work_77 : decode b_Run_work 77 = .ok (.iconst 1, 1) := by decide +kernel
theorem d_Run_work_78 : decode b_Run_work 78 = .ok (.isub, 1) := by decide +kernel
theorem d_Run_work_79 : decode b_Run_work 79 = .ok (.putfield 34, 3) := by decide +kernel
theorem d_Run_work_82 : decode b_Run_work 82 = .ok (.goto 52, 3) := by decide +kernel
theorem d_Run_work_85 : decode b_Run_work 85 = .ok (.aload_n 0, 1) := by decide +kernel
theorem d_Run_work_86 : decode b_Run_work 86 = .ok (.aload_n 0, 1) := by decide +kernel
theorem d_Run_work_87 : decode b_Run_work 87 = .ok (.getfield 15, 3) := by decide +kernel
theorem d_Run_work_90 : decode b_Run_work 90 = .ok (.iload_n 2, 1) := by decide +kernel
theorem d_Run_work_91 : decode b_Run_work 91 = .ok (.iaload, 1) := by decide +kernel
theorem d_Run_work_92 : decode b_Run_work 92 = .ok (.invokevirtual 75, 3) := by decide +kernel
theorem d_Run_work_95 : decode b_Run_work 95 = .ok (.goto 39, 3) := by decide +kernel
theorem d_Run_work_98 : decode b_Run_work 98 = .ok (.aload_n 0, 1) := by decide +kernel
theorem d_Run_work_99 : decode b_Run_work 99 = .ok (.getfield 15, 3) := by decide +kernel
theorem d_Run_work_102 : decode b_Run_work 102 = .ok (.iload_n 2, 1) := by decide +kernel
theorem d_Run_work_103 : decode b_Run_work 103 = .ok (.aload_n 0, 1) := by decide +kernel
theorem d_Run_work_104 : decode b_Run_work 104 = .ok (.invokevirtual 51, 3) := by decide +kernel
theorem d_Run_work_107 : decode b_Run_work 107 = .ok (.iastore, 1) := by decide +kernel
theorem d_Run_work_108 : decode b_Run_work 108 = .ok (.goto 26, 3) := by decide +kernel
theorem d_Run_work_111 : decode b_Run_work 111 = .ok (.aload_n 0, 1) := by decide +kernel
theorem d_Run_work_112 : decode b_Run_work 112 = .ok (.aload_n 0, 1) := by decide +kernel
theorem d_Run_work_113 : decode b_Run_work 113 = .ok (.getfield 9, 3) := by decide +kernel
theorem d_Run_work_116 : decode b_Run_work 116 = .ok (.aload_n 0, 1) := by decide +kernel
theorem d_Run_work_117 : decode b_Run_work 117 = .ok (.getfield 34, 3) := by decide +kernel
theorem d_Run_work_120 : decode b_Run_work 120 = .ok (.iconst 1, 1) := by decide +kernel
theorem d_Run_work_121 : decode b_Run_work 121 = .ok (.isub, 1) := by decide +kernel
theorem d_Run_work_122 : decode b_Run_work 122 = .ok (.iaload, 1) := by decide +kernel
theorem d_Run_work_123 : decode b_Run_work 123 = .ok (.invokevirtual 75, 3) := by decide +kernel
theorem d_Run_work_126 : decode b_Run_work 126 = .ok (.goto 8, 3) := by decide +kernel
theorem d_Run_work_129 : decode b_Run_work 129 = .ok (.aload_n 0, 1) := by decide +kernel
theorem d_Run_work_130 : decode b_Run_work 130 = .ok (.iload_n 1, 1) := by decide +kernel
theorem d_Run_work_131 : decode b_Run_work 131 = .ok (.invokevirtual 79, 3) := by decide +kernel
theorem d_Run_work_134 : decode b_Run_work 134 = .ok (.return_, 1) := by decide +kernel
theorem d_Run_tryAct_0 : decode b_Run_tryAct 0 = .ok (.aload_n 0, 1) := by decide +kernel
theorem d_Run_tryAct_1 : decode b_Run_tryAct 1 = .ok (.getfield 9, 3) := by decide +kernel
theorem d_Run_tryAct_4 : decode b_Run_tryAct 4 = .ok (.aload_n 0, 1) := by decide +kernel
theorem d_Run_tryAct_5 : decode b_Run_tryAct 5 = .ok (.getfield 34, 3) := by decide +kernel
theorem d_Run_tryAct_8 : decode b_Run_tryAct 8 = .ok (.iconst 1, 1) := by decide +kernel
theorem d_Run_tryAct_9 : decode b_Run_tryAct 9 = .ok (.isub, 1) := by decide +kernel
theorem d_Run_tryAct_10 : decode b_Run_tryAct 10 = .ok (.iaload, 1) := by decide +kernel
theorem d_Run_tryAct_11 : decode b_Run_tryAct 11 = .ok (.istore_n 3, 1) := by decide +kernel
theorem d_Run_tryAct_12 : decode b_Run_tryAct 12 = .ok (.aload_n 0, 1) := by decide +kernel
theorem d_Run_tryAct_13 : decode b_Run_tryAct 13 = .ok (.getfield 37, 3) := by decide +kernel
theorem d_Run_tryAct_16 : decode b_Run_tryAct 16 = .ok (.iload_n 2, 1) := by decide +kernel
theorem d_Run_tryAct_17 : decode b_Run_tryAct 17 = .ok (.invokestatic 63, 3) := by decide +kernel
theorem d_Run_tryAct_20 : decode b_Run_tryAct 20 = .ok (.istore 4, 2) := by decide +kernel
theorem d_Run_tryAct_22 : decode b_Run_tryAct 22 = .ok (.aload_n 0, 1) := by decide +kernel
theorem d_Run_tryAct_23 : decode b_Run_tryAct 23 = .ok (.getfield 28, 3) := by decide +kernel
theorem d_Run_tryAct_26 : decode b_Run_tryAct 26 = .ok (.iconst 2, 1) := by decide +kernel
theorem d_Run_tryAct_27 : decode b_Run_tryAct 27 = .ok (.if_icmp .ne 19, 3) := by decide +kernel
theorem d_Run_tryAct_30 : decode b_Run_tryAct 30 = .ok (.aload_n 1, 1) := by decide +kernel
theorem d_Run_tryAct_31 : decode b_Run_tryAct 31 = .ok (.iload 4, 2) := by decide +kernel
theorem d_Run_tryAct_33 : decode b_Run_tryAct 33 = .ok (.iload_n 3, 1) := by decide +kernel
theorem d_Run_tryAct_34 : decode b_Run_tryAct 34 = .ok (.invokevirtual 68, 3) := by decide +kernel
theorem d_Run_tryAct_37 : decode b_Run_tryAct 37 = .ok (.ifCond .ne 9, 3) := by decide +kernel
theorem d_Run_tryAct_40 : decode b_Run_tryAct 40 = .ok (.aload_n 0, 1) := by decide +kernel
theorem d_Run_tryAct_41 : decode b_Run_tryAct 41 = .ok (.iconst 4, 1) := by decide +kernel
theorem d_Run_tryAct_42 : decode b_Run_tryAct 42 = .ok (.putfield 24, 3) := by decide +kernel
theorem d_Run_tryAct_45 : decode b_Run_tryAct 45 = .ok (.return_, 1) := by decide +kernel
theorem d_Run_tryAct_46 : decode b_Run_tryAct 46 = .ok (.aload_n 0, 1) := by decide +kernel
theorem d_Run_tryAct_47 : decode b_Run_tryAct 47 = .ok (.getfield 40, 3) := by decide +kernel
theorem d_Run_tryAct_50 : decode b_Run_tryAct 50 = .ok (.bipush 60, 2) := by decide +kernel
theorem d_Run_tryAct_52 : decode b_Run_tryAct 52 = .ok (.if_icmp .lt 9, 3) := by decide +kernel
theorem d_Run_tryAct_55 : decode b_Run_tryAct 55 = .ok (.aload_n 0, 1) := by decide +kernel
theorem d_Run_tryAct_56 : decode b_Run_tryAct 56 = .ok (.iconst 3, 1) := by decide +kernel
theorem d_Run_tryAct_57 : decode b_Run_tryAct 57 = .ok (.putfield 24, 3) := by decide +kernel
theorem d_Run_tryAct_60 : decode b_Run_tryAct 60 = .ok (.return_, 1) := by decide +kernel
theorem d_Run_tryAct_61 : decode b_Run_tryAct 61 = .ok (.aload_n 0, 1) := by decide +kernel
theorem d_Run_tryAct_62 : decode b_Run_tryAct 62 = .ok (.getfield 28, 3) := by decide +kernel
theorem d_Run_tryAct_65 : decode b_Run_tryAct 65 = .ok (.iconst 2, 1) := by decide +kernel
theorem d_Run_tryAct_66 : decode b_Run_tryAct 66 = .ok (.if_icmp .ne 14, 3) := by decide +kernel
theorem d_Run_tryAct_69 : decode b_Run_tryAct 69 = .ok (.aload_n 0, 1) := by decide +kernel
theorem d_Run_tryAct_70 : decode b_Run_tryAct 70 = .ok (.aload_n 1, 1) := by decide +kernel
theorem d_Run_tryAct_71 : decode b_Run_tryAct 71 = .ok (.getfield 72, 3) := by decide +kernel
theorem d_Run_tryAct_74 : decode b_Run_tryAct 74 = .ok (.iload 4, 2) := by decide +kernel
theorem d_Run_tryAct_76 : decode b_Run_tryAct 76 = .ok (.iaload, 1) := by decide +kernel
theorem d_Run_tryAct_77 : decode b_Run_tryAct 77 = .ok (.putfield 37, 3) := by decide +kernel
theorem d_Run_tryAct_80 : decode b_Run_tryAct 80 = .ok (.aload_n 0, 1) := by decide +kernel
theorem d_Run_tryAct_81 : decode b_Run_tryAct 81 = .ok (.getfield 18, 3) := by decide +kernel
theorem d_Run_tryAct_84 : decode b_Run_tryAct 84 = .ok (.aload_n 0, 1) := by decide +kernel
theorem d_Run_tryAct_85 : decode b_Run_tryAct 85 = .ok (.getfield 40, 3) := by decide +kernel
theorem d_Run_tryAct_88 : decode b_Run_tryAct 88 = .ok (.iload_n 2, 1) := by decide +kernel
theorem d_Run_tryAct_89 : decode b_Run_tryAct 89 = .ok (.iastore, 1) := by decide +kernel
theorem d_Run_tryAct_90 : decode b_Run_tryAct 90 = .ok (.aload_n 0, 1) := by decide +kernel
theorem d_Run_tryAct_91 : decode b_Run_tryAct 91 = .ok (.getfield 21, 3) := by decide +kernel
theorem d_Run_tryAct_94 : decode b_Run_tryAct 94 = .ok (.aload_n 0, 1) := by decide +kernel
theorem d_Run_tryAct_95 : decode b_Run_tryAct 95 = .ok (.getfield 40, 3) := by decide +kernel
theorem d_Run_tryAct_98 : decode b_Run_tryAct 98 = .ok (.iload_n 3, 1) := by decide +kernel
theorem d_Run_tryAct_99 : decode b_Run_tryAct 99 = .ok (.iastore, 1) := by decide +kernel
theorem d_Run_tryAct_100 : decode b_Run_tryAct 100 = .ok (.aload_n 0, 1) := by decide +kernel
theorem d_Run_tryAct_101 : decode b_Run_tryAct 101 = .ok (.dup, 1) := by decide +kernel
theorem d_Run_tryAct_102 : decode b_Run_tryAct 102 = .ok (.getfield 40, 3) := by decide +kernel
theorem d_Run_tryAct_105 : decode b_Run_tryAct 105 = .ok (.iconst 1, 1) := by decide +kernel
theorem d_Run_tryAct_106 : decode b_Run_tryAct 106 = .ok (.iadd, 1) := by decide +kernel
theorem d_Run_tryAct_107 : decode b_Run_tryAct 107 = .ok (.putfield 40, 3) := by decide +kernel
theorem d_Run_tryAct_110 : decode b_Run_tryAct 110 = .ok (.aload_n 0, 1) := by decide +kernel
theorem d_Run_tryAct_111 : decode b_Run_tryAct 111 = .ok (.dup, 1) := by decide +kernel
theorem d_Run_tryAct_112 : decode b_Run_tryAct 112 = .ok (.getfield 34, 3) := by decide +kernel
theorem d_Run_tryAct_115 : decode b_Run_tryAct 115 = .ok (.iconst 1, 1) := by decide +kernel
theorem d_Run_tryAct_116 : decode b_Run_tryAct 116 = .ok (.isub, 1) := by decide +kernel
theorem d_Run_tryAct_117 : decode b_Run_tryAct 117 = .ok (.putfield 34, 3) := by decide +kernel
theorem d_Run_tryAct_120 : decode b_Run_tryAct 120 = .ok (.aload_n 0, 1) := by decide +kernel
theorem d_Run_tryAct_121 : decode b_Run_tryAct 121 = .ok (.dup, 1) := by decide +kernel
theorem d_Run_tryAct_122 : decode b_Run_tryAct 122 = .ok (.getfield 31, 3) := by decide +kernel
theorem d_Run_tryAct_125 : decode b_Run_tryAct 125 = .ok (.iconst 1, 1) := by decide +kernel
theorem d_Run_tryAct_126 : decode b_Run_tryAct 126 = .ok (.iadd, 1) := by decide +kernel
theorem d_Run_tryAct_127 : decode b_Run_tryAct 127 = .ok (.putfield 31, 3) := by decide +kernel
theorem d_Run_tryAct_130 : decode b_Run_tryAct 130 = .ok (.return_, 1) := by decide +kernel
theorem d_Run_advance_0 : decode b_Run_advance 0 = .ok (.aload_n 1, 1) := by decide +kernel
theorem d_Run_advance_1 : decode b_Run_advance 1 = .ok (.getfield 43, 3) := by decide +kernel
theorem d_Run_advance_4 : decode b_Run_advance 4 = .ok (.aload_n 0, 1) := by decide +kernel
theorem d_Run_advance_5 : decode b_Run_advance 5 = .ok (.getfield 31, 3) := by decide +kernel
theorem d_Run_advance_8 : decode b_Run_advance 8 = .ok (.iaload, 1) := by decide +kernel
theorem d_Run_advance_9 : decode b_Run_advance 9 = .ok (.istore_n 3, 1) := by decide +kernel
theorem d_Run_advance_10 : decode b_Run_advance 10 = .ok (.aload_n 1, 1) := by decide +kernel
theorem d_Run_advance_11 : decode b_Run_advance 11 = .ok (.getfield 48, 3) := by decide +kernel
theorem d_Run_advance_14 : decode b_Run_advance 14 = .ok (.aload_n 0, 1) := by decide +kernel
theorem d_Run_advance_15 : decode b_Run_advance 15 = .ok (.getfield 31, 3) := by decide +kernel
theorem d_Run_advance_18 : decode b_Run_advance 18 = .ok (.iaload, 1) := by decide +kernel
theorem d_Run_advance_19 : decode b_Run_advance 19 = .ok (.istore 4, 2) := by decide +kernel
theorem d_Run_advance_21 : decode b_Run_advance 21 = .ok (.iload_n 3, 1) := by decide +kernel
theorem d_Run_advance_22 : decode b_Run_advance 22 = .ok (.tableswitch 90 7 12 #[38, 47, 72, 90, 90, 82], 38) := by decide +kernel
theorem d_Run_advance_60 : decode b_Run_advance 60 = .ok (.aload_n 0, 1) := by decide +kernel
theorem d_Run_advance_61 : decode b_Run_advance 61 = .ok (.iload 4, 2) := by decide +kernel
theorem d_Run_advance_63 : decode b_Run_advance 63 = .ok (.putfield 31, 3) := by decide +kernel
theorem d_Run_advance_66 : decode b_Run_advance 66 = .ok (.goto 63, 3) := by decide +kernel
theorem d_Run_advance_69 : decode b_Run_advance 69 = .ok (.aload_n 0, 1) := by decide +kernel
theorem d_Run_advance_70 : decode b_Run_advance 70 = .ok (.aload_n 0, 1) := by decide +kernel
theorem d_Run_advance_71 : decode b_Run_advance 71 = .ok (.invokevirtual 51, 3) := by decide +kernel
theorem d_Run_advance_74 : decode b_Run_advance 74 = .ok (.ifCond .eq 8, 3) := by decide +kernel
theorem d_Run_advance_77 : decode b_Run_advance 77 = .ok (.iload 4, 2) := by decide +kernel
theorem d_Run_advance_79 : decode b_Run_advance 79 = .ok (.goto 9, 3) := by decide +kernel
theorem d_Run_advance_82 : decode b_Run_advance 82 = .ok (.aload_n 0, 1) := by decide +kernel
theorem d_Run_advance_83 : decode b_Run_advance 83 = .ok (.getfield 31, 3) := by decide +kernel
theorem d_Run_advance_86 : decode b_Run_advance 86 = .ok (.iconst 1, 1) := by decide +kernel
theorem d_Run_advance_87 : decode b_Run_advance 87 = .ok (.iadd, 1) := by decide +kernel
theorem d_Run_advance_88 : decode b_Run_advance 88 = .ok (.putfield 31, 3) := by decide +kernel
theorem d_Run_advance_91 : decode b_Run_advance 91 = .ok (.goto 38, 3) := by decide +kernel
theorem d_Run_advance_94 : decode b_Run_advance 94 = .ok (.aload_n 0, 1) := by decide +kernel
theorem d_Run_advance_95 : decode b_Run_advance 95 = .ok (.aload_n 2, 1) := by decide +kernel
theorem d_Run_advance_96 : decode b_Run_advance 96 = .ok (.iload 4, 2) := by decide +kernel
theorem d_Run_advance_98 : decode b_Run_advance 98 = .ok (.invokevirtual 55, 3) := by decide +kernel
theorem d_Run_advance_101 : decode b_Run_advance 101 = .ok (.goto 28, 3) := by decide +kernel
theorem d_Run_advance_104 : decode b_Run_advance 104 = .ok (.aload_n 0, 1) := by decide +kernel
theorem d_Run_advance_105 : decode b_Run_advance 105 = .ok (.iconst 2, 1) := by decide +kernel
theorem d_Run_advance_106 : decode b_Run_advance 106 = .ok (.putfield 24, 3) := by decide +kernel
theorem d_Run_advance_109 : decode b_Run_advance 109 = .ok (.goto 20, 3) := by decide +kernel
theorem d_Run_advance_112 : decode b_Run_advance 112 = .ok (.aload_n 0, 1) := by decide +kernel
theorem d_Run_advance_113 : decode b_Run_advance 113 = .ok (.iload_n 3, 1) := by decide +kernel
theorem d_Run_advance_114 : decode b_Run_advance 114 = .ok (.iload 4, 2) := by decide +kernel
theorem d_Run_advance_116 : decode b_Run_advance 116 = .ok (.invokevirtual 59, 3) := by decide +kernel
theorem d_Run_advance_119 : decode b_Run_advance 119 = .ok (.aload_n 0, 1) := by decide +kernel
theorem d_Run_advance_120 : decode b_Run_advance 120 = .ok (.dup, 1) := by decide +kernel
theorem d_Run_advance_121 : decode b_Run_advance 121 = .ok (.getfield 31, 3) := by decide +kernel
theorem d_Run_advance_124 : decode b_Run_advance 124 = .ok (.iconst 1, 1) := by decide +kernel
theorem d_Run_advance_125 : decode b_Run_advance 125 = .ok (.iadd, 1) := by decide +kernel
theorem d_Run_advance_126 : decode b_Run_advance 126 = .ok (.putfield 31, 3) := by decide +kernel
theorem d_Run_advance_129 : decode b_Run_advance 129 = .ok (.return_, 1) := by decide +kernel
theorem d_Run_policyState_0 : decode b_Run_policyState 0 = .ok (.aload_n 0, 1) := by decide +kernel
theorem d_Run_policyState_1 : decode b_Run_policyState 1 = .ok (.getfield 28, 3) := by decide +kernel
theorem d_Run_policyState_4 : decode b_Run_policyState 4 = .ok (.iconst 1, 1) := by decide +kernel
theorem d_Run_policyState_5 : decode b_Run_policyState 5 = .ok (.if_icmp .ne 13, 3) := by decide +kernel
theorem d_Run_policyState_8 : decode b_Run_policyState 8 = .ok (.aload_n 0, 1) := by decide +kernel
theorem d_Run_policyState_9 : decode b_Run_policyState 9 = .ok (.getfield 15, 3) := by decide +kernel
theorem d_Run_policyState_12 : decode b_Run_policyState 12 = .ok (.bipush 7, 2) := by decide +kernel
theorem d_Run_policyState_14 : decode b_Run_policyState 14 = .ok (.iaload, 1) := by decide +kernel
theorem d_Run_policyState_15 : decode b_Run_policyState 15 = .ok (.goto 7, 3) := by decide +kernel
theorem d_Run_policyState_18 : decode b_Run_policyState 18 = .ok (.aload_n 0, 1) := by decide +kernel
theorem d_Run_policyState_19 : decode b_Run_policyState 19 = .ok (.getfield 37, 3) := by decide +kernel
theorem d_Run_policyState_22 : decode b_Run_policyState 22 = .ok (.ireturn, 1) := by decide +kernel
theorem d_Run_begin_0 : decode b_Run_begin 0 = .ok (.aload_n 0, 1) := by decide +kernel
theorem d_Run_begin_1 : decode b_Run_begin 1 = .ok (.iload_n 1, 1) := by decide +kernel
theorem d_Run_begin_2 : decode b_Run_begin 2 = .ok (.putfield 28, 3) := by decide +kernel
theorem d_Run_begin_5 : decode b_Run_begin 5 = .ok (.aload_n 0, 1) := by decide +kernel
theorem d_Run_begin_6 : decode b_Run_begin 6 = .ok (.iconst 1, 1) := by decide +kernel
theorem d_Run_begin_7 : decode b_Run_begin 7 = .ok (.putfield 24, 3) := by decide +kernel
theorem d_Run_begin_10 : decode b_Run_begin 10 = .ok (.aload_n 0, 1) := by decide +kernel
theorem d_Run_begin_11 : decode b_Run_begin 11 = .ok (.iconst 0, 1) := by decide +kernel
theorem d_Run_begin_12 : decode b_Run_begin 12 = .ok (.putfield 31, 3) := by decide +kernel
theorem d_Run_begin_15 : decode b_Run_begin 15 = .ok (.aload_n 0, 1) := by decide +kernel
theorem d_Run_begin_16 : decode b_Run_begin 16 = .ok (.iconst 0, 1) := by decide +kernel
theorem d_Run_begin_17 : decode b_Run_begin 17 = .ok (.putfield 34, 3) := by decide +kernel
theorem d_Run_begin_20 : decode b_Run_begin 20 = .ok (.aload_n 0, 1) := by decide +kernel
theorem d_Run_begin_21 : decode b_Run_begin 21 = .ok (.iconst 0, 1) := by decide +kernel
theorem d_Run_begin_22 : decode b_Run_begin 22 = .ok (.putfield 37, 3) := by decide +kernel
theorem d_Run_begin_25 : decode b_Run_begin 25 = .ok (.aload_n 0, 1) := by decide +kernel
theorem d_Run_begin_26 : decode b_Run_begin 26 = .ok (.iconst 0, 1) := by decide +kernel
theorem d_Run_begin_27 : decode b_Run_begin 27 = .ok (.putfield 40, 3) := by decide +kernel
theorem d_Run_begin_30 : decode b_Run_begin 30 = .ok (.iconst 0, 1) := by decide +kernel
theorem d_Run_begin_31 : decode b_Run_begin 31 = .ok (.istore_n 3, 1) := by decide +kernel
theorem d_Run_begin_32 : decode b_Run_begin 32 = .ok (.iload_n 3, 1) := by decide +kernel
theorem d_Run_begin_33 : decode b_Run_begin 33 = .ok (.bipush 8, 2) := by decide +kernel
theorem d_Run_begin_35 : decode b_Run_begin 35 = .ok (.if_icmp .ge 16, 3) := by decide +kernel
theorem d_Run_begin_38 : decode b_Run_begin 38 = .ok (.aload_n 0, 1) := by decide +kernel
theorem d_Run_begin_39 : decode b_Run_begin 39 = .ok (.getfield 15, 3) := by decide +kernel
theorem d_Run_begin_42 : decode b_Run_begin 42 = .ok (.iload_n 3, 1) := by decide +kernel
theorem d_Run_begin_43 : decode b_Run_begin 43 = .ok (.iconst 0, 1) := by decide +kernel
theorem d_Run_begin_44 : decode b_Run_begin 44 = .ok (.iastore, 1) := by decide +kernel
theorem d_Run_begin_45 : decode b_Run_begin 45 = .ok (.iinc 3 1, 3) := by decide +kernel
theorem d_Run_begin_48 : decode b_Run_begin 48 = .ok (.goto (-16), 3) := by decide +kernel
theorem d_Run_begin_51 : decode b_Run_begin 51 = .ok (.aload_n 0, 1) := by decide +kernel
theorem d_Run_begin_52 : decode b_Run_begin 52 = .ok (.getfield 15, 3) := by decide +kernel
theorem d_Run_begin_55 : decode b_Run_begin 55 = .ok (.iconst 0, 1) := by decide +kernel
theorem d_Run_begin_56 : decode b_Run_begin 56 = .ok (.iload_n 2, 1) := by decide +kernel
theorem d_Run_begin_57 : decode b_Run_begin 57 = .ok (.iastore, 1) := by decide +kernel
theorem d_Run_begin_58 : decode b_Run_begin 58 = .ok (.return_, 1) := by decide +kernel
end
section
set_option maxHeartbeats 4000000 in
set_option maxRecDepth 100000 in
theorem c_Run_push (l : Launch) (D : va_G) (cI cZ cL : ClassId) (r b1 b2 b3 b4 : Nat) (sa ca ta tn : Nat → Int32) (how stat pl : Nat) (q stt dn : Nat) (x : Int32) (hq : q < 14) : pl_V l y_Run_push b_Run_push 2 ({ frames := 0, cells := 0, slots := 0, locals := 0 } : Room) pl_E0 D classes (TY cI cZ cL) [.ref r, .int x] [(r, .inr (4, [.ref b1, .ref b2, .ref b3, .ref b4, .int (nI how), .int (nI stat), .int (nI pl), .int (nI q), .int (nI stt), .int (nI dn)])), (b1, .inl (cI, 14, .inl sa)), (b2, .inl (cI, 8, .inl ca)), (b3, .inl (cI, 60, .inl ta)), (b4, .inl (cI, 60, .inl tn))] (fun _ : Unit => True) (fun (_ : Unit) => [(r, .inr (4, [.ref b1, .ref b2, .ref b3, .ref b4, .int (nI how), .int (nI stat), .int (nI pl), .int (nI (q + 1)), .int (nI stt), .int (nI dn)])), (b1, .inl (cI, 14, .inl (upd sa q x))), (b2, .inl (cI, 8, .inl ca)), (b3, .inl (cI, 60, .inl ta)), (b4, .inl (cI, 60, .inl tn))]) := by
  refine pl_startV (by decide) (Nat.le_of_ble_eq_true rfl) ?_
  intro p e s m args below meth c A ls X hr hlk hin hK hP hD hS hA hE hl
  have X : CallFix p m c b_Run_push 2 s args TG R_Run := X
  have hx := X.1
  have hb := X.2.1
  have hl : lv_has ls 2 [(0, .ref r), (1, .int x)] := hl
  refine lv_aload_n hx hb d_Run_push_0 rfl (lv_at hl 0 rfl) ?_
  refine pl_get X fw_Run_9 hK hP 0 rfl (v := .ref b1) rfl d_Run_push_1 ?_
  refine lv_aload_n hx hb d_Run_push_4 rfl (lv_at hl 0 rfl) ?_
  refine pl_get X fw_Run_34 hK hP 0 rfl (v := .int (nI q)) rfl d_Run_push_5 ?_
  refine lv_iload_n hx hb d_Run_push_8 rfl (lv_at hl 1 rfl) ?_
  refine pl_iast X hK hP hD hS 1 0 rfl rfl q (by omega) (by decide) d_Run_push_9 (ws' := [(r, .inr (4, [.ref b1, .ref b2, .ref b3, .ref b4, .int (nI how), .int (nI stat), .int (nI pl), .int (nI q), .int (nI stt), .int (nI dn)])), (b1, .inl (cI, 14, .inl (upd sa q x))), (b2, .inl (cI, 8, .inl ca)), (b3, .inl (cI, 60, .inl ta)), (b4, .inl (cI, 60, .inl tn))]) rfl (fun H locs hP hD hS => ?_)
  refine lv_aload_n hx hb d_Run_push_10 rfl (lv_at hl 0 rfl) ?_
  refine lv_dup hx hb d_Run_push_11 rfl ?_
  refine pl_get X fw_Run_34 hK hP 0 rfl (v := .int (nI q)) rfl d_Run_push_12 ?_
  refine lv_iconst (v := nI 1) hx hb d_Run_push_15 (by decide) ?_
  refine pl_iadd X d_Run_push_16 (z := nI (q + 1)) (nI_add _ _) ?_
  refine pl_put X fw_Run_34 fp_Run rfl hK hP hD hS 0 rfl (v := .int (nI (q + 1))) rfl rfl (Nat.le_of_ble_eq_true rfl) d_Run_push_17 (ws' := [(r, .inr (4, [.ref b1, .ref b2, .ref b3, .ref b4, .int (nI how), .int (nI stat), .int (nI pl), .int (nI (q + 1)), .int (nI stt), .int (nI dn)])), (b1, .inl (cI, 14, .inl (upd sa q x))), (b2, .inl (cI, 8, .inl ca)), (b3, .inl (cI, 60, .inl ta)), (b4, .inl (cI, 60, .inl tn))]) rfl (fun H locs hP hD hS => ?_)
  exact pl_vret X hr hlk hK () trivial hP hD hS d_Run_push_20

set_option maxHeartbeats 4000000 in
set_option maxRecDepth 100000 in
theorem c_Run_pop (l : Launch) (D : va_G) (cI cZ cL : ClassId) (r b1 b2 b3 b4 : Nat) (sa ca ta tn : Nat → Int32) (how stat pl : Nat) (q stt dn : Nat) (hq : q < 14) : pl_I l y_Run_pop b_Run_pop 1 .int ({ frames := 0, cells := 0, slots := 0, locals := 0 } : Room) pl_E0 D classes (TY cI cZ cL) [.ref r] [(r, .inr (4, [.ref b1, .ref b2, .ref b3, .ref b4, .int (nI how), .int (nI stat), .int (nI pl), .int (nI (q + 1)), .int (nI stt), .int (nI dn)])), (b1, .inl (cI, 14, .inl sa)), (b2, .inl (cI, 8, .inl ca)), (b3, .inl (cI, 60, .inl ta)), (b4, .inl (cI, 60, .inl tn))] (fun (r : Int32) (_ : Unit) => r = sa q) (fun (_ : Unit) => [(r, .inr (4, [.ref b1, .ref b2, .ref b3, .ref b4, .int (nI how), .int (nI stat), .int (nI pl), .int (nI q), .int (nI stt), .int (nI dn)])), (b1, .inl (cI, 14, .inl sa)), (b2, .inl (cI, 8, .inl ca)), (b3, .inl (cI, 60, .inl ta)), (b4, .inl (cI, 60, .inl tn))]) := by
  refine pl_startI (by decide) (Nat.le_of_ble_eq_true rfl) ?_
  intro p e s m args below meth c A ls X hr hlk hin hK hP hD hS hA hE hl
  have X : CallFix p m c b_Run_pop 1 s args TG R_Run := X
  have hx := X.1
  have hb := X.2.1
  have hl : lv_has ls 1 [(0, .ref r)] := hl
  refine lv_aload_n hx hb d_Run_pop_0 rfl (lv_at hl 0 rfl) ?_
  refine lv_dup hx hb d_Run_pop_1 rfl ?_
  refine pl_get X fw_Run_34 hK hP 0 rfl (v := .int (nI (q + 1))) rfl d_Run_pop_2 ?_
  refine lv_iconst (v := nI 1) hx hb d_Run_pop_5 (by decide) ?_
  refine pl_isub X d_Run_pop_6 (z := nI q) (nI_dec _) ?_
  refine pl_put X fw_Run_34 fp_Run rfl hK hP hD hS 0 rfl (v := .int (nI q)) rfl rfl (Nat.le_of_ble_eq_true rfl) d_Run_pop_7 (ws' := [(r, .inr (4, [.ref b1, .ref b2, .ref b3, .ref b4, .int (nI how), .int (nI stat), .int (nI pl), .int (nI q), .int (nI stt), .int (nI dn)])), (b1, .inl (cI, 14, .inl sa)), (b2, .inl (cI, 8, .inl ca)), (b3, .inl (cI, 60, .inl ta)), (b4, .inl (cI, 60, .inl tn))]) rfl (fun H locs hP hD hS => ?_)
  refine lv_aload_n hx hb d_Run_pop_10 rfl (lv_at hl 0 rfl) ?_
  refine pl_get X fw_Run_9 hK hP 0 rfl (v := .ref b1) rfl d_Run_pop_11 ?_
  refine lv_aload_n hx hb d_Run_pop_14 rfl (lv_at hl 0 rfl) ?_
  refine pl_get X fw_Run_34 hK hP 0 rfl (v := .int (nI q)) rfl d_Run_pop_15 ?_
  refine pl_iald X hK hP 1 0 rfl rfl q (by omega) (by decide) (z := sa q) rfl d_Run_pop_18 ?_
  exact pl_iret X hr hlk hK rfl () rfl hP hD hS d_Run_pop_19

set_option maxHeartbeats 4000000 in
set_option maxRecDepth 100000 in
theorem c_Run_workOnTwo_2 (l : Launch) (D : va_G) (cI cZ cL : ClassId) (r b1 b2 b3 b4 : Nat) (sa ca ta tn : Nat → Int32) (how stat pl : Nat) (q stt dn : Nat) (hq : q + 2 ≤ 14) : pl_V l y_Run_workOnTwo b_Run_workOnTwo 4 ({ frames := 1, cells := 0, slots := 0, locals := 21 } : Room) pl_E0 D classes (TY cI cZ cL) [.ref r, .int (nI 2)] [(r, .inr (4, [.ref b1, .ref b2, .ref b3, .ref b4, .int (nI how), .int (nI stat), .int (nI pl), .int (nI (q + 2)), .int (nI stt), .int (nI dn)])), (b1, .inl (cI, 14, .inl sa)), (b2, .inl (cI, 8, .inl ca)), (b3, .inl (cI, 60, .inl ta)), (b4, .inl (cI, 60, .inl tn))] (fun _ : Unit => True) (fun (_ : Unit) => [(r, .inr (4, [.ref b1, .ref b2, .ref b3, .ref b4, .int (nI how), .int (nI stat), .int (nI pl), .int (nI (q + 1)), .int (nI stt), .int (nI dn)])), (b1, .inl (cI, 14, .inl (upd sa q (sa q + sa (q + 1))))), (b2, .inl (cI, 8, .inl ca)), (b3, .inl (cI, 60, .inl ta)), (b4, .inl (cI, 60, .inl tn))]) := by
  refine pl_startV (by decide) (Nat.le_of_ble_eq_true rfl) ?_
  intro p e s m args below meth c A ls X hr hlk hin hK hP hD hS hA hE hl
  have X : CallFix p m c b_Run_workOnTwo 4 s args TG R_Run := X
  have hx := X.1
  have hb := X.2.1
  have hl : lv_has ls 4 [(0, .ref r), (1, .int (nI 2))] := hl
  refine lv_aload_n hx hb d_Run_workOnTwo_0 rfl (lv_at hl 0 rfl) ?_
  refine pl_callVI X (rest := []) (As := []) (b := r) (c_Run_pop l D cI cZ cL r b1 b2 b3 b4 sa ca ta tn how stat pl (q + 1) stt dn (by omega)) ck_Run_51 pl_E0_ok trivial hK hP hD hS hA (T := F_Run) (N := N_Run) (ci := 4) rfl 0 rfl [0, 1, 2, 3, 4] [] [0, 1, 2, 3, 4] rfl (by decide) (wr := []) rfl (by decide) (by decide) (wf := fun _ => [(r, .inr (4, [.ref b1, .ref b2, .ref b3, .ref b4, .int (nI how), .int (nI stat), .int (nI pl), .int (nI (q + 1)), .int (nI stt), .int (nI dn)])), (b1, .inl (cI, 14, .inl sa)), (b2, .inl (cI, 8, .inl ca)), (b3, .inl (cI, 60, .inl ta)), (b4, .inl (cI, 60, .inl tn))]) (fun _ => rfl) (by decide) rfl hl.1 rfl (Nat.le_of_ble_eq_true rfl) (by decide) (by decide) d_Run_workOnTwo_1 (fun r u0 H locs hcq hP hD hS => ?_)
  subst hcq
  refine lv_istore_n hx hb d_Run_workOnTwo_4 rfl hl (by decide) (lv' := [(2, .int (sa (q + 1))), (0, .ref r), (1, .int (nI 2))]) rfl (fun ls hl => ?_)
  refine lv_aload_n hx hb d_Run_workOnTwo_5 rfl (lv_at hl 1 rfl) ?_
  refine pl_callVI X (rest := []) (As := []) (b := r) (c_Run_pop l D cI cZ cL r b1 b2 b3 b4 sa ca ta tn how stat pl q stt dn (by omega)) ck_Run_51 pl_E0_ok trivial hK hP hD hS hA (T := F_Run) (N := N_Run) (ci := 4) rfl 0 rfl [0, 1, 2, 3, 4] [] [0, 1, 2, 3, 4] rfl (by decide) (wr := []) rfl (by decide) (by decide) (wf := fun _ => [(r, .inr (4, [.ref b1, .ref b2, .ref b3, .ref b4, .int (nI how), .int (nI stat), .int (nI pl), .int (nI q), .int (nI stt), .int (nI dn)])), (b1, .inl (cI, 14, .inl sa)), (b2, .inl (cI, 8, .inl ca)), (b3, .inl (cI, 60, .inl ta)), (b4, .inl (cI, 60, .inl tn))]) (fun _ => rfl) (by decide) rfl hl.1 rfl (Nat.le_of_ble_eq_true rfl) (by decide) (by decide) d_Run_workOnTwo_6 (fun r u0 H locs hcq hP hD hS => ?_)
  subst hcq
  refine lv_istore_n hx hb d_Run_workOnTwo_9 rfl hl (by decide) (lv' := [(3, .int (sa q)), (2, .int (sa (q + 1))), (0, .ref r), (1, .int (nI 2))]) rfl (fun ls hl => ?_)
  refine lv_iload_n hx hb d_Run_workOnTwo_10 rfl (lv_at hl 3 rfl) ?_
  refine lv_tableIn hx hb d_Run_workOnTwo_11 (by decide) (by decide) (off := 25) (by decide) (tgt := 36) rfl ?_
  refine lv_aload_n hx hb d_Run_workOnTwo_36 rfl (lv_at hl 2 rfl) ?_
  refine lv_iload_n hx hb d_Run_workOnTwo_37 rfl (lv_at hl 0 rfl) ?_
  refine lv_iload_n hx hb d_Run_workOnTwo_38 rfl (lv_at hl 1 rfl) ?_
  refine pl_iadd X d_Run_workOnTwo_39 (z := (sa q) + (sa (q + 1))) rfl ?_
  refine pl_callVV X (rest := []) (As := [.int ((sa q) + (sa (q + 1)))]) (b := r) (c_Run_push l D cI cZ cL r b1 b2 b3 b4 sa ca ta tn how stat pl q stt dn ((sa q + sa (q + 1))) (by omega)) ck_Run_75 pl_E0_ok trivial hK hP hD hS hA (T := F_Run) (N := N_Run) (ci := 4) rfl 0 rfl [0, 1, 2, 3, 4] [] [0, 1, 2, 3, 4] rfl (by decide) (wr := []) rfl (by decide) (by decide) (wf := fun _ => [(r, .inr (4, [.ref b1, .ref b2, .ref b3, .ref b4, .int (nI how), .int (nI stat), .int (nI pl), .int (nI (q + 1)), .int (nI stt), .int (nI dn)])), (b1, .inl (cI, 14, .inl (upd sa q ((sa q + sa (q + 1)))))), (b2, .inl (cI, 8, .inl ca)), (b3, .inl (cI, 60, .inl ta)), (b4, .inl (cI, 60, .inl tn))]) (fun _ => rfl) (by decide) rfl hl.1 rfl (Nat.le_of_ble_eq_true rfl) (by decide) (by decide) d_Run_workOnTwo_40 (fun u0 H locs hcq hP hD hS => ?_)
  refine lv_goto hx hb d_Run_workOnTwo_43 rfl ?_
  exact pl_vret X hr hlk hK () trivial hP hD hS d_Run_workOnTwo_83

set_option maxHeartbeats 4000000 in
set_option maxRecDepth 100000 in
theorem c_Run_workOnTwo_3 (l : Launch) (D : va_G) (cI cZ cL : ClassId) (r b1 b2 b3 b4 : Nat) (sa ca ta tn : Nat → Int32) (how stat pl : Nat) (q stt dn : Nat) (hq : q + 2 ≤ 14) : pl_V l y_Run_workOnTwo b_Run_workOnTwo 4 ({ frames := 1, cells := 0, slots := 0, locals := 21 } : Room) pl_E0 D classes (TY cI cZ cL) [.ref r, .int (nI 3)] [(r, .inr (4, [.ref b1, .ref b2, .ref b3, .ref b4, .int (nI how), .int (nI stat), .int (nI pl), .int (nI (q + 2)), .int (nI stt), .int (nI dn)])), (b1, .inl (cI, 14, .inl sa)), (b2, .inl (cI, 8, .inl ca)), (b3, .inl (cI, 60, .inl ta)), (b4, .inl (cI, 60, .inl tn))] (fun _ : Unit => True) (fun (_ : Unit) => [(r, .inr (4, [.ref b1, .ref b2, .ref b3, .ref b4, .int (nI how), .int (nI stat), .int (nI pl), .int (nI (q + 1)), .int (nI stt), .int (nI dn)])), (b1, .inl (cI, 14, .inl (upd sa q (sa q - sa (q + 1))))), (b2, .inl (cI, 8, .inl ca)), (b3, .inl (cI, 60, .inl ta)), (b4, .inl (cI, 60, .inl tn))]) := by
  refine pl_startV (by decide) (Nat.le_of_ble_eq_true rfl) ?_
  intro p e s m args below meth c A ls X hr hlk hin hK hP hD hS hA hE hl
  have X : CallFix p m c b_Run_workOnTwo 4 s args TG R_Run := X
  have hx := X.1
  have hb := X.2.1
  have hl : lv_has ls 4 [(0, .ref r), (1, .int (nI 3))] := hl
  refine lv_aload_n hx hb d_Run_workOnTwo_0 rfl (lv_at hl 0 rfl) ?_
  refine pl_callVI X (rest := []) (As := []) (b := r) (c_Run_pop l D cI cZ cL r b1 b2 b3 b4 sa ca ta tn how stat pl (q + 1) stt dn (by omega)) ck_Run_51 pl_E0_ok trivial hK hP hD hS hA (T := F_Run) (N := N_Run) (ci := 4) rfl 0 rfl [0, 1, 2, 3, 4] [] [0, 1, 2, 3, 4] rfl (by decide) (wr := []) rfl (by decide) (by decide) (wf := fun _ => [(r, .inr (4, [.ref b1, .ref b2, .ref b3, .ref b4, .int (nI how), .int (nI stat), .int (nI pl), .int (nI (q + 1)), .int (nI stt), .int (nI dn)])), (b1, .inl (cI, 14, .inl sa)), (b2, .inl (cI, 8, .inl ca)), (b3, .inl (cI, 60, .inl ta)), (b4, .inl (cI, 60, .inl tn))]) (fun _ => rfl) (by decide) rfl hl.1 rfl (Nat.le_of_ble_eq_true rfl) (by decide) (by decide) d_Run_workOnTwo_1 (fun r u0 H locs hcq hP hD hS => ?_)
  subst hcq
  refine lv_istore_n hx hb d_Run_workOnTwo_4 rfl hl (by decide) (lv' := [(2, .int (sa (q + 1))), (0, .ref r), (1, .int (nI 3))]) rfl (fun ls hl => ?_)
  refine lv_aload_n hx hb d_Run_workOnTwo_5 rfl (lv_at hl 1 rfl) ?_
  refine pl_callVI X (rest := []) (As := []) (b := r) (c_Run_pop l D cI cZ cL r b1 b2 b3 b4 sa ca ta tn how stat pl q stt dn (by omega)) ck_Run_51 pl_E0_ok trivial hK hP hD hS hA (T := F_Run) (N := N_Run) (ci := 4) rfl 0 rfl [0, 1, 2, 3, 4] [] [0, 1, 2, 3, 4] rfl (by decide) (wr := []) rfl (by decide) (by decide) (wf := fun _ => [(r, .inr (4, [.ref b1, .ref b2, .ref b3, .ref b4, .int (nI how), .int (nI stat), .int (nI pl), .int (nI q), .int (nI stt), .int (nI dn)])), (b1, .inl (cI, 14, .inl sa)), (b2, .inl (cI, 8, .inl ca)), (b3, .inl (cI, 60, .inl ta)), (b4, .inl (cI, 60, .inl tn))]) (fun _ => rfl) (by decide) rfl hl.1 rfl (Nat.le_of_ble_eq_true rfl) (by decide) (by decide) d_Run_workOnTwo_6 (fun r u0 H locs hcq hP hD hS => ?_)
  subst hcq
  refine lv_istore_n hx hb d_Run_workOnTwo_9 rfl hl (by decide) (lv' := [(3, .int (sa q)), (2, .int (sa (q + 1))), (0, .ref r), (1, .int (nI 3))]) rfl (fun ls hl => ?_)
  refine lv_iload_n hx hb d_Run_workOnTwo_10 rfl (lv_at hl 3 rfl) ?_
  refine lv_tableIn hx hb d_Run_workOnTwo_11 (by decide) (by decide) (off := 35) (by decide) (tgt := 46) rfl ?_
  refine lv_aload_n hx hb d_Run_workOnTwo_46 rfl (lv_at hl 2 rfl) ?_
  refine lv_iload_n hx hb d_Run_workOnTwo_47 rfl (lv_at hl 0 rfl) ?_
  refine lv_iload_n hx hb d_Run_workOnTwo_48 rfl (lv_at hl 1 rfl) ?_
  refine pl_isub X d_Run_workOnTwo_49 (z := (sa q) - (sa (q + 1))) rfl ?_
  refine pl_callVV X (rest := []) (As := [.int ((sa q) - (sa (q + 1)))]) (b := r) (c_Run_push l D cI cZ cL r b1 b2 b3 b4 sa ca ta tn how stat pl q stt dn ((sa q - sa (q + 1))) (by omega)) ck_Run_75 pl_E0_ok trivial hK hP hD hS hA (T := F_Run) (N := N_Run) (ci := 4) rfl 0 rfl [0, 1, 2, 3, 4] [] [0, 1, 2, 3, 4] rfl (by decide) (wr := []) rfl (by decide) (by decide) (wf := fun _ => [(r, .inr (4, [.ref b1, .ref b2, .ref b3, .ref b4, .int (nI how), .int (nI stat), .int (nI pl), .int (nI (q + 1)), .int (nI stt), .int (nI dn)])), (b1, .inl (cI, 14, .inl (upd sa q ((sa q - sa (q + 1)))))), (b2, .inl (cI, 8, .inl ca)), (b3, .inl (cI, 60, .inl ta)), (b4, .inl (cI, 60, .inl tn))]) (fun _ => rfl) (by decide) rfl hl.1 rfl (Nat.le_of_ble_eq_true rfl) (by decide) (by decide) d_Run_workOnTwo_50 (fun u0 H locs hcq hP hD hS => ?_)
  refine lv_goto hx hb d_Run_workOnTwo_53 rfl ?_
  exact pl_vret X hr hlk hK () trivial hP hD hS d_Run_workOnTwo_83

set_option maxHeartbeats 4000000 in
set_option maxRecDepth 100000 in
theorem c_Run_workOnTwo_4 (l : Launch) (D : va_G) (cI cZ cL : ClassId) (r b1 b2 b3 b4 : Nat) (sa ca ta tn : Nat → Int32) (how stat pl : Nat) (q stt dn : Nat) (hq : q + 2 ≤ 14) : pl_V l y_Run_workOnTwo b_Run_workOnTwo 4 ({ frames := 1, cells := 0, slots := 0, locals := 21 } : Room) pl_E0 D classes (TY cI cZ cL) [.ref r, .int (nI 4)] [(r, .inr (4, [.ref b1, .ref b2, .ref b3, .ref b4, .int (nI how), .int (nI stat), .int (nI pl), .int (nI (q + 2)), .int (nI stt), .int (nI dn)])), (b1, .inl (cI, 14, .inl sa)), (b2, .inl (cI, 8, .inl ca)), (b3, .inl (cI, 60, .inl ta)), (b4, .inl (cI, 60, .inl tn))] (fun _ : Unit => True) (fun (_ : Unit) => [(r, .inr (4, [.ref b1, .ref b2, .ref b3, .ref b4, .int (nI how), .int (nI stat), .int (nI pl), .int (nI (q + 1)), .int (nI stt), .int (nI dn)])), (b1, .inl (cI, 14, .inl (upd sa q (if sa q < sa (q + 1) then 1 else 0)))), (b2, .inl (cI, 8, .inl ca)), (b3, .inl (cI, 60, .inl ta)), (b4, .inl (cI, 60, .inl tn))]) := by
  refine pl_startV (by decide) (Nat.le_of_ble_eq_true rfl) ?_
  intro p e s m args below meth c A ls X hr hlk hin hK hP hD hS hA hE hl
  have X : CallFix p m c b_Run_workOnTwo 4 s args TG R_Run := X
  have hx := X.1
  have hb := X.2.1
  have hl : lv_has ls 4 [(0, .ref r), (1, .int (nI 4))] := hl
  refine lv_aload_n hx hb d_Run_workOnTwo_0 rfl (lv_at hl 0 rfl) ?_
  refine pl_callVI X (rest := []) (As := []) (b := r) (c_Run_pop l D cI cZ cL r b1 b2 b3 b4 sa ca ta tn how stat pl (q + 1) stt dn (by omega)) ck_Run_51 pl_E0_ok trivial hK hP hD hS hA (T := F_Run) (N := N_Run) (ci := 4) rfl 0 rfl [0, 1, 2, 3, 4] [] [0, 1, 2, 3, 4] rfl (by decide) (wr := []) rfl (by decide) (by decide) (wf := fun _ => [(r, .inr (4, [.ref b1, .ref b2, .ref b3, .ref b4, .int (nI how), .int (nI stat), .int (nI pl), .int (nI (q + 1)), .int (nI stt), .int (nI dn)])), (b1, .inl (cI, 14, .inl sa)), (b2, .inl (cI, 8, .inl ca)), (b3, .inl (cI, 60, .inl ta)), (b4, .inl (cI, 60, .inl tn))]) (fun _ => rfl) (by decide) rfl hl.1 rfl (Nat.le_of_ble_eq_true rfl) (by decide) (by decide) d_Run_workOnTwo_1 (fun r u0 H locs hcq hP hD hS => ?_)
  subst hcq
  refine lv_istore_n hx hb d_Run_workOnTwo_4 rfl hl (by decide) (lv' := [(2, .int (sa (q + 1))), (0, .ref r), (1, .int (nI 4))]) rfl (fun ls hl => ?_)
  refine lv_aload_n hx hb d_Run_workOnTwo_5 rfl (lv_at hl 1 rfl) ?_
  refine pl_callVI X (rest := []) (As := []) (b := r) (c_Run_pop l D cI cZ cL r b1 b2 b3 b4 sa ca ta tn how stat pl q stt dn (by omega)) ck_Run_51 pl_E0_ok trivial hK hP hD hS hA (T := F_Run) (N := N_Run) (ci := 4) rfl 0 rfl [0, 1, 2, 3, 4] [] [0, 1, 2, 3, 4] rfl (by decide) (wr := []) rfl (by decide) (by decide) (wf := fun _ => [(r, .inr (4, [.ref b1, .ref b2, .ref b3, .ref b4, .int (nI how), .int (nI stat), .int (nI pl), .int (nI q), .int (nI stt), .int (nI dn)])), (b1, .inl (cI, 14, .inl sa)), (b2, .inl (cI, 8, .inl ca)), (b3, .inl (cI, 60, .inl ta)), (b4, .inl (cI, 60, .inl tn))]) (fun _ => rfl) (by decide) rfl hl.1 rfl (Nat.le_of_ble_eq_true rfl) (by decide) (by decide) d_Run_workOnTwo_6 (fun r u0 H locs hcq hP hD hS => ?_)
  subst hcq
  refine lv_istore_n hx hb d_Run_workOnTwo_9 rfl hl (by decide) (lv' := [(3, .int (sa q)), (2, .int (sa (q + 1))), (0, .ref r), (1, .int (nI 4))]) rfl (fun ls hl => ?_)
  refine lv_iload_n hx hb d_Run_workOnTwo_10 rfl (lv_at hl 3 rfl) ?_
  refine lv_tableIn hx hb d_Run_workOnTwo_11 (by decide) (by decide) (off := 45) (by decide) (tgt := 56) rfl ?_
  refine lv_aload_n hx hb d_Run_workOnTwo_56 rfl (lv_at hl 2 rfl) ?_
  refine lv_iload_n hx hb d_Run_workOnTwo_57 rfl (lv_at hl 0 rfl) ?_
  refine lv_iload_n hx hb d_Run_workOnTwo_58 rfl (lv_at hl 1 rfl) ?_
  refine lv_icmp_ge hx hb d_Run_workOnTwo_59 rfl (fun g59 => ?_) (fun g59 => ?_)
  · skip
    refine lv_iconst (v := nI 0) hx hb d_Run_workOnTwo_66 (by decide) ?_
    refine pl_callVV X (rest := []) (As := [.int (nI 0)]) (b := r) (c_Run_push l D cI cZ cL r b1 b2 b3 b4 sa ca ta tn how stat pl q stt dn (nI 0) (by omega)) ck_Run_75 pl_E0_ok trivial hK hP hD hS hA (T := F_Run) (N := N_Run) (ci := 4) rfl 0 rfl [0, 1, 2, 3, 4] [] [0, 1, 2, 3, 4] rfl (by decide) (wr := []) rfl (by decide) (by decide) (wf := fun _ => [(r, .inr (4, [.ref b1, .ref b2, .ref b3, .ref b4, .int (nI how), .int (nI stat), .int (nI pl), .int (nI (q + 1)), .int (nI stt), .int (nI dn)])), (b1, .inl (cI, 14, .inl (upd sa q (nI 0)))), (b2, .inl (cI, 8, .inl ca)), (b3, .inl (cI, 60, .inl ta)), (b4, .inl (cI, 60, .inl tn))]) (fun _ => rfl) (by decide) rfl hl.1 rfl (Nat.le_of_ble_eq_true rfl) (by decide) (by decide) d_Run_workOnTwo_67 (fun u0 H locs hcq hP hD hS => ?_)
    refine lv_goto hx hb d_Run_workOnTwo_70 rfl ?_
    have e4 : (if sa q < sa (q + 1) then 1 else 0) = nI 0 := (if_neg (i_nlt.mpr g59))
    have hP : va_P D classes [(r, .inr (4, [.ref b1, .ref b2, .ref b3, .ref b4, .int (nI how), .int (nI stat), .int (nI pl), .int (nI (q + 1)), .int (nI stt), .int (nI dn)])), (b1, .inl (cI, 14, .inl (upd sa q (if sa q < sa (q + 1) then 1 else 0)))), (b2, .inl (cI, 8, .inl ca)), (b3, .inl (cI, 60, .inl ta)), (b4, .inl (cI, 60, .inl tn))] H := by rw [e4]; exact hP
    have hD : va_D A [(r, .inr (4, [.ref b1, .ref b2, .ref b3, .ref b4, .int (nI how), .int (nI stat), .int (nI pl), .int (nI (q + 1)), .int (nI stt), .int (nI dn)])), (b1, .inl (cI, 14, .inl (upd sa q (if sa q < sa (q + 1) then 1 else 0)))), (b2, .inl (cI, 8, .inl ca)), (b3, .inl (cI, 60, .inl ta)), (b4, .inl (cI, 60, .inl tn))] := by rw [e4]; exact hD
    exact pl_vret X hr hlk hK () trivial hP hD hS d_Run_workOnTwo_83
  · skip
    refine lv_iconst (v := nI 1) hx hb d_Run_workOnTwo_62 (by decide) ?_
    refine lv_goto hx hb d_Run_workOnTwo_63 rfl ?_
    refine pl_callVV X (rest := []) (As := [.int (nI 1)]) (b := r) (c_Run_push l D cI cZ cL r b1 b2 b3 b4 sa ca ta tn how stat pl q stt dn (nI 1) (by omega)) ck_Run_75 pl_E0_ok trivial hK hP hD hS hA (T := F_Run) (N := N_Run) (ci := 4) rfl 0 rfl [0, 1, 2, 3, 4] [] [0, 1, 2, 3, 4] rfl (by decide) (wr := []) rfl (by decide) (by decide) (wf := fun _ => [(r, .inr (4, [.ref b1, .ref b2, .ref b3, .ref b4, .int (nI how), .int (nI stat), .int (nI pl), .int (nI (q + 1)), .int (nI stt), .int (nI dn)])), (b1, .inl (cI, 14, .inl (upd sa q (nI 1)))), (b2, .inl (cI, 8, .inl ca)), (b3, .inl (cI, 60, .inl ta)), (b4, .inl (cI, 60, .inl tn))]) (fun _ => rfl) (by decide) rfl hl.1 rfl (Nat.le_of_ble_eq_true rfl) (by decide) (by decide) d_Run_workOnTwo_67 (fun u0 H locs hcq hP hD hS => ?_)
    refine lv_goto hx hb d_Run_workOnTwo_70 rfl ?_
    have e4 : (if sa q < sa (q + 1) then 1 else 0) = nI 1 := (if_pos (i_nle.mp g59))
    have hP : va_P D classes [(r, .inr (4, [.ref b1, .ref b2, .ref b3, .ref b4, .int (nI how), .int (nI stat), .int (nI pl), .int (nI (q + 1)), .int (nI stt), .int (nI dn)])), (b1, .inl (cI, 14, .inl (upd sa q (if sa q < sa (q + 1) then 1 else 0)))), (b2, .inl (cI, 8, .inl ca)), (b3, .inl (cI, 60, .inl ta)), (b4, .inl (cI, 60, .inl tn))] H := by rw [e4]; exact hP
    have hD : va_D A [(r, .inr (4, [.ref b1, .ref b2, .ref b3, .ref b4, .int (nI how), .int (nI stat), .int (nI pl), .int (nI (q + 1)), .int (nI stt), .int (nI dn)])), (b1, .inl (cI, 14, .inl (upd sa q (if sa q < sa (q + 1) then 1 else 0)))), (b2, .inl (cI, 8, .inl ca)), (b3, .inl (cI, 60, .inl ta)), (b4, .inl (cI, 60, .inl tn))] := by rw [e4]; exact hD
    exact pl_vret X hr hlk hK () trivial hP hD hS d_Run_workOnTwo_83

set_option maxHeartbeats 4000000 in
set_option maxRecDepth 100000 in
theorem c_Run_workOnTwo_10 (l : Launch) (D : va_G) (cI cZ cL : ClassId) (r b1 b2 b3 b4 : Nat) (sa ca ta tn : Nat → Int32) (how stat pl : Nat) (q stt dn : Nat) (hq : q + 2 ≤ 14) : pl_V l y_Run_workOnTwo b_Run_workOnTwo 4 ({ frames := 1, cells := 0, slots := 0, locals := 21 } : Room) pl_E0 D classes (TY cI cZ cL) [.ref r, .int (nI 10)] [(r, .inr (4, [.ref b1, .ref b2, .ref b3, .ref b4, .int (nI how), .int (nI stat), .int (nI pl), .int (nI (q + 2)), .int (nI stt), .int (nI dn)])), (b1, .inl (cI, 14, .inl sa)), (b2, .inl (cI, 8, .inl ca)), (b3, .inl (cI, 60, .inl ta)), (b4, .inl (cI, 60, .inl tn))] (fun _ : Unit => True) (fun (_ : Unit) => [(r, .inr (4, [.ref b1, .ref b2, .ref b3, .ref b4, .int (nI how), .int (nI stat), .int (nI pl), .int (nI (q + 2)), .int (nI stt), .int (nI dn)])), (b1, .inl (cI, 14, .inl (upd (upd sa q (sa (q + 1))) (q + 1) (sa q)))), (b2, .inl (cI, 8, .inl ca)), (b3, .inl (cI, 60, .inl ta)), (b4, .inl (cI, 60, .inl tn))]) := by
  refine pl_startV (by decide) (Nat.le_of_ble_eq_true rfl) ?_
  intro p e s m args below meth c A ls X hr hlk hin hK hP hD hS hA hE hl
  have X : CallFix p m c b_Run_workOnTwo 4 s args TG R_Run := X
  have hx := X.1
  have hb := X.2.1
  have hl : lv_has ls 4 [(0, .ref r), (1, .int (nI 10))] := hl
  refine lv_aload_n hx hb d_Run_workOnTwo_0 rfl (lv_at hl 0 rfl) ?_
  refine pl_callVI X (rest := []) (As := []) (b := r) (c_Run_pop l D cI cZ cL r b1 b2 b3 b4 sa ca ta tn how stat pl (q + 1) stt dn (by omega)) ck_Run_51 pl_E0_ok trivial hK hP hD hS hA (T := F_Run) (N := N_Run) (ci := 4) rfl 0 rfl [0, 1, 2, 3, 4] [] [0, 1, 2, 3, 4] rfl (by decide) (wr := []) rfl (by decide) (by decide) (wf := fun _ => [(r, .inr (4, [.ref b1, .ref b2, .ref b3, .ref b4, .int (nI how), .int (nI stat), .int (nI pl), .int (nI (q + 1)), .int (nI stt), .int (nI dn)])), (b1, .inl (cI, 14, .inl sa)), (b2, .inl (cI, 8, .inl ca)), (b3, .inl (cI, 60, .inl ta)), (b4, .inl (cI, 60, .inl tn))]) (fun _ => rfl) (by decide) rfl hl.1 rfl (Nat.le_of_ble_eq_true rfl) (by decide) (by decide) d_Run_workOnTwo_1 (fun r u0 H locs hcq hP hD hS => ?_)
  subst hcq
  refine lv_istore_n hx hb d_Run_workOnTwo_4 rfl hl (by decide) (lv' := [(2, .int (sa (q + 1))), (0, .ref r), (1, .int (nI 10))]) rfl (fun ls hl => ?_)
  refine lv_aload_n hx hb d_Run_workOnTwo_5 rfl (lv_at hl 1 rfl) ?_
  refine pl_callVI X (rest := []) (As := []) (b := r) (c_Run_pop l D cI cZ cL r b1 b2 b3 b4 sa ca ta tn how stat pl q stt dn (by omega)) ck_Run_51 pl_E0_ok trivial hK hP hD hS hA (T := F_Run) (N := N_Run) (ci := 4) rfl 0 rfl [0, 1, 2, 3, 4] [] [0, 1, 2, 3, 4] rfl (by decide) (wr := []) rfl (by decide) (by decide) (wf := fun _ => [(r, .inr (4, [.ref b1, .ref b2, .ref b3, .ref b4, .int (nI how), .int (nI stat), .int (nI pl), .int (nI q), .int (nI stt), .int (nI dn)])), (b1, .inl (cI, 14, .inl sa)), (b2, .inl (cI, 8, .inl ca)), (b3, .inl (cI, 60, .inl ta)), (b4, .inl (cI, 60, .inl tn))]) (fun _ => rfl) (by decide) rfl hl.1 rfl (Nat.le_of_ble_eq_true rfl) (by decide) (by decide) d_Run_workOnTwo_6 (fun r u0 H locs hcq hP hD hS => ?_)
  subst hcq
  refine lv_istore_n hx hb d_Run_workOnTwo_9 rfl hl (by decide) (lv' := [(3, .int (sa q)), (2, .int (sa (q + 1))), (0, .ref r), (1, .int (nI 10))]) rfl (fun ls hl => ?_)
  refine lv_iload_n hx hb d_Run_workOnTwo_10 rfl (lv_at hl 3 rfl) ?_
  refine lv_tableOut hx hb d_Run_workOnTwo_11 (by decide) (tgt := 73) rfl ?_
  refine lv_aload_n hx hb d_Run_workOnTwo_73 rfl (lv_at hl 2 rfl) ?_
  refine lv_iload_n hx hb d_Run_workOnTwo_74 rfl (lv_at hl 1 rfl) ?_
  refine pl_callVV X (rest := []) (As := [.int (sa (q + 1))]) (b := r) (c_Run_push l D cI cZ cL r b1 b2 b3 b4 sa ca ta tn how stat pl q stt dn (sa (q + 1)) (by omega)) ck_Run_75 pl_E0_ok trivial hK hP hD hS hA (T := F_Run) (N := N_Run) (ci := 4) rfl 0 rfl [0, 1, 2, 3, 4] [] [0, 1, 2, 3, 4] rfl (by decide) (wr := []) rfl (by decide) (by decide) (wf := fun _ => [(r, .inr (4, [.ref b1, .ref b2, .ref b3, .ref b4, .int (nI how), .int (nI stat), .int (nI pl), .int (nI (q + 1)), .int (nI stt), .int (nI dn)])), (b1, .inl (cI, 14, .inl (upd sa q (sa (q + 1))))), (b2, .inl (cI, 8, .inl ca)), (b3, .inl (cI, 60, .inl ta)), (b4, .inl (cI, 60, .inl tn))]) (fun _ => rfl) (by decide) rfl hl.1 rfl (Nat.le_of_ble_eq_true rfl) (by decide) (by decide) d_Run_workOnTwo_75 (fun u0 H locs hcq hP hD hS => ?_)
  refine lv_aload_n hx hb d_Run_workOnTwo_78 rfl (lv_at hl 2 rfl) ?_
  refine lv_iload_n hx hb d_Run_workOnTwo_79 rfl (lv_at hl 0 rfl) ?_
  refine pl_callVV X (rest := []) (As := [.int (sa q)]) (b := r) (c_Run_push l D cI cZ cL r b1 b2 b3 b4 (upd sa q (sa (q + 1))) ca ta tn how stat pl (q + 1) stt dn (sa q) (by omega)) ck_Run_75 pl_E0_ok trivial hK hP hD hS hA (T := F_Run) (N := N_Run) (ci := 4) rfl 0 rfl [0, 1, 2, 3, 4] [] [0, 1, 2, 3, 4] rfl (by decide) (wr := []) rfl (by decide) (by decide) (wf := fun _ => [(r, .inr (4, [.ref b1, .ref b2, .ref b3, .ref b4, .int (nI how), .int (nI stat), .int (nI pl), .int (nI (q + 2)), .int (nI stt), .int (nI dn)])), (b1, .inl (cI, 14, .inl (upd (upd sa q (sa (q + 1))) (q + 1) (sa q)))), (b2, .inl (cI, 8, .inl ca)), (b3, .inl (cI, 60, .inl ta)), (b4, .inl (cI, 60, .inl tn))]) (fun _ => rfl) (by decide) rfl hl.1 rfl (Nat.le_of_ble_eq_true rfl) (by decide) (by decide) d_Run_workOnTwo_80 (fun u0 H locs hcq hP hD hS => ?_)
  exact pl_vret X hr hlk hK () trivial hP hD hS d_Run_workOnTwo_83

set_option maxHeartbeats 4000000 in
set_option maxRecDepth 100000 in
theorem c_Run_work_0 (l : Launch) (D : va_G) (cI cZ cL : ClassId) (r b1 b2 b3 b4 : Nat) (sa ca ta tn : Nat → Int32) (how stat pl : Nat) (q stt dn : Nat) (k : Int32) (hq : q < 14) : pl_V l y_Run_work b_Run_work 3 ({ frames := 2, cells := 0, slots := 0, locals := 44 } : Room) pl_E0 D classes (TY cI cZ cL) [.ref r, .int (nI 0), .int k] [(r, .inr (4, [.ref b1, .ref b2, .ref b3, .ref b4, .int (nI how), .int (nI stat), .int (nI pl), .int (nI q), .int (nI stt), .int (nI dn)])), (b1, .inl (cI, 14, .inl sa)), (b2, .inl (cI, 8, .inl ca)), (b3, .inl (cI, 60, .inl ta)), (b4, .inl (cI, 60, .inl tn))] (fun _ : Unit => True) (fun (_ : Unit) => [(r, .inr (4, [.ref b1, .ref b2, .ref b3, .ref b4, .int (nI how), .int (nI stat), .int (nI pl), .int (nI (q + 1)), .int (nI stt), .int (nI dn)])), (b1, .inl (cI, 14, .inl (upd sa q k))), (b2, .inl (cI, 8, .inl ca)), (b3, .inl (cI, 60, .inl ta)), (b4, .inl (cI, 60, .inl tn))]) := by
  refine pl_startV (by decide) (Nat.le_of_ble_eq_true rfl) ?_
  intro p e s m args below meth c A ls X hr hlk hin hK hP hD hS hA hE hl
  have X : CallFix p m c b_Run_work 3 s args TG R_Run := X
  have hx := X.1
  have hb := X.2.1
  have hl : lv_has ls 3 [(0, .ref r), (1, .int (nI 0)), (2, .int k)] := hl
  refine lv_iload_n hx hb d_Run_work_0 rfl (lv_at hl 1 rfl) ?_
  refine lv_tableIn hx hb d_Run_work_1 (by decide) (by decide) (off := 63) (by decide) (tgt := 64) rfl ?_
  refine lv_aload_n hx hb d_Run_work_64 rfl (lv_at hl 0 rfl) ?_
  refine lv_iload_n hx hb d_Run_work_65 rfl (lv_at hl 2 rfl) ?_
  refine pl_callVV X (rest := []) (As := [.int k]) (b := r) (c_Run_push l D cI cZ cL r b1 b2 b3 b4 sa ca ta tn how stat pl q stt dn k (by omega)) ck_Run_75 pl_E0_ok trivial hK hP hD hS hA (T := F_Run) (N := N_Run) (ci := 4) rfl 0 rfl [0, 1, 2, 3, 4] [] [0, 1, 2, 3, 4] rfl (by decide) (wr := []) rfl (by decide) (by decide) (wf := fun _ => [(r, .inr (4, [.ref b1, .ref b2, .ref b3, .ref b4, .int (nI how), .int (nI stat), .int (nI pl), .int (nI (q + 1)), .int (nI stt), .int (nI dn)])), (b1, .inl (cI, 14, .inl (upd sa q k))), (b2, .inl (cI, 8, .inl ca)), (b3, .inl (cI, 60, .inl ta)), (b4, .inl (cI, 60, .inl tn))]) (fun _ => rfl) (by decide) rfl hl.1 rfl (Nat.le_of_ble_eq_true rfl) (by decide) (by decide) d_Run_work_66 (fun u0 H locs hcq hP hD hS => ?_)
  refine lv_goto hx hb d_Run_work_69 rfl ?_
  exact pl_vret X hr hlk hK () trivial hP hD hS d_Run_work_134

set_option maxHeartbeats 4000000 in
set_option maxRecDepth 100000 in
theorem c_Run_work_1 (l : Launch) (D : va_G) (cI cZ cL : ClassId) (r b1 b2 b3 b4 : Nat) (sa ca ta tn : Nat → Int32) (how stat pl : Nat) (q stt dn : Nat) (k : Int32)  : pl_V l y_Run_work b_Run_work 3 ({ frames := 2, cells := 0, slots := 0, locals := 44 } : Room) pl_E0 D classes (TY cI cZ cL) [.ref r, .int (nI 1), .int k] [(r, .inr (4, [.ref b1, .ref b2, .ref b3, .ref b4, .int (nI how), .int (nI stat), .int (nI pl), .int (nI (q + 1)), .int (nI stt), .int (nI dn)])), (b1, .inl (cI, 14, .inl sa)), (b2, .inl (cI, 8, .inl ca)), (b3, .inl (cI, 60, .inl ta)), (b4, .inl (cI, 60, .inl tn))] (fun _ : Unit => True) (fun (_ : Unit) => [(r, .inr (4, [.ref b1, .ref b2, .ref b3, .ref b4, .int (nI how), .int (nI stat), .int (nI pl), .int (nI q), .int (nI stt), .int (nI dn)])), (b1, .inl (cI, 14, .inl sa)), (b2, .inl (cI, 8, .inl ca)), (b3, .inl (cI, 60, .inl ta)), (b4, .inl (cI, 60, .inl tn))]) := by
  refine pl_startV (by decide) (Nat.le_of_ble_eq_true rfl) ?_
  intro p e s m args below meth c A ls X hr hlk hin hK hP hD hS hA hE hl
  have X : CallFix p m c b_Run_work 3 s args TG R_Run := X
  have hx := X.1
  have hb := X.2.1
  have hl : lv_has ls 3 [(0, .ref r), (1, .int (nI 1)), (2, .int k)] := hl
  refine lv_iload_n hx hb d_Run_work_0 rfl (lv_at hl 1 rfl) ?_
  refine lv_tableIn hx hb d_Run_work_1 (by decide) (by decide) (off := 71) (by decide) (tgt := 72) rfl ?_
  refine lv_aload_n hx hb d_Run_work_72 rfl (lv_at hl 0 rfl) ?_
  refine lv_dup hx hb d_Run_work_73 rfl ?_
  refine pl_get X fw_Run_34 hK hP 0 rfl (v := .int (nI (q + 1))) rfl d_Run_work_74 ?_
  refine lv_iconst (v := nI 1) hx hb d_Run_work_77 (by decide) ?_
  refine pl_isub X d_Run_work_78 (z := nI q) (nI_dec _) ?_
  refine pl_put X fw_Run_34 fp_Run rfl hK hP hD hS 0 rfl (v := .int (nI q)) rfl rfl (Nat.le_of_ble_eq_true rfl) d_Run_work_79 (ws' := [(r, .inr (4, [.ref b1, .ref b2, .ref b3, .ref b4, .int (nI how), .int (nI stat), .int (nI pl), .int (nI q), .int (nI stt), .int (nI dn)])), (b1, .inl (cI, 14, .inl sa)), (b2, .inl (cI, 8, .inl ca)), (b3, .inl (cI, 60, .inl ta)), (b4, .inl (cI, 60, .inl tn))]) rfl (fun H locs hP hD hS => ?_)
  refine lv_goto hx hb d_Run_work_82 rfl ?_
  exact pl_vret X hr hlk hK () trivial hP hD hS d_Run_work_134

set_option maxHeartbeats 4000000 in
set_option maxRecDepth 100000 in
theorem c_Run_work_5 (l : Launch) (D : va_G) (cI cZ cL : ClassId) (r b1 b2 b3 b4 : Nat) (sa ca ta tn : Nat → Int32) (how stat pl : Nat) (q stt dn : Nat) (j : Nat) (hq : q < 14) (hj : j < 8) : pl_V l y_Run_work b_Run_work 3 ({ frames := 2, cells := 0, slots := 0, locals := 44 } : Room) pl_E0 D classes (TY cI cZ cL) [.ref r, .int (nI 5), .int (nI j)] [(r, .inr (4, [.ref b1, .ref b2, .ref b3, .ref b4, .int (nI how), .int (nI stat), .int (nI pl), .int (nI q), .int (nI stt), .int (nI dn)])), (b1, .inl (cI, 14, .inl sa)), (b2, .inl (cI, 8, .inl ca)), (b3, .inl (cI, 60, .inl ta)), (b4, .inl (cI, 60, .inl tn))] (fun _ : Unit => True) (fun (_ : Unit) => [(r, .inr (4, [.ref b1, .ref b2, .ref b3, .ref b4, .int (nI how), .int (nI stat), .int (nI pl), .int (nI (q + 1)), .int (nI stt), .int (nI dn)])), (b1, .inl (cI, 14, .inl (upd sa q (ca j)))), (b2, .inl (cI, 8, .inl ca)), (b3, .inl (cI, 60, .inl ta)), (b4, .inl (cI, 60, .inl tn))]) := by
  refine pl_startV (by decide) (Nat.le_of_ble_eq_true rfl) ?_
  intro p e s m args below meth c A ls X hr hlk hin hK hP hD hS hA hE hl
  have X : CallFix p m c b_Run_work 3 s args TG R_Run := X
  have hx := X.1
  have hb := X.2.1
  have hl : lv_has ls 3 [(0, .ref r), (1, .int (nI 5)), (2, .int (nI j))] := hl
  refine lv_iload_n hx hb d_Run_work_0 rfl (lv_at hl 1 rfl) ?_
  refine lv_tableIn hx hb d_Run_work_1 (by decide) (by decide) (off := 84) (by decide) (tgt := 85) rfl ?_
  refine lv_aload_n hx hb d_Run_work_85 rfl (lv_at hl 0 rfl) ?_
  refine lv_aload_n hx hb d_Run_work_86 rfl (lv_at hl 0 rfl) ?_
  refine pl_get X fw_Run_15 hK hP 0 rfl (v := .ref b2) rfl d_Run_work_87 ?_
  refine lv_iload_n hx hb d_Run_work_90 rfl (lv_at hl 2 rfl) ?_
  refine pl_iald X hK hP 2 0 rfl rfl j (by omega) (by decide) (z := ca j) rfl d_Run_work_91 ?_
  refine pl_callVV X (rest := []) (As := [.int (ca j)]) (b := r) (c_Run_push l D cI cZ cL r b1 b2 b3 b4 sa ca ta tn how stat pl q stt dn (ca j) (by omega)) ck_Run_75 pl_E0_ok trivial hK hP hD hS hA (T := F_Run) (N := N_Run) (ci := 4) rfl 0 rfl [0, 1, 2, 3, 4] [] [0, 1, 2, 3, 4] rfl (by decide) (wr := []) rfl (by decide) (by decide) (wf := fun _ => [(r, .inr (4, [.ref b1, .ref b2, .ref b3, .ref b4, .int (nI how), .int (nI stat), .int (nI pl), .int (nI (q + 1)), .int (nI stt), .int (nI dn)])), (b1, .inl (cI, 14, .inl (upd sa q (ca j)))), (b2, .inl (cI, 8, .inl ca)), (b3, .inl (cI, 60, .inl ta)), (b4, .inl (cI, 60, .inl tn))]) (fun _ => rfl) (by decide) rfl hl.1 rfl (Nat.le_of_ble_eq_true rfl) (by decide) (by decide) d_Run_work_92 (fun u0 H locs hcq hP hD hS => ?_)
  refine lv_goto hx hb d_Run_work_95 rfl ?_
  exact pl_vret X hr hlk hK () trivial hP hD hS d_Run_work_134

set_option maxHeartbeats 4000000 in
set_option maxRecDepth 100000 in
theorem c_Run_work_6 (l : Launch) (D : va_G) (cI cZ cL : ClassId) (r b1 b2 b3 b4 : Nat) (sa ca ta tn : Nat → Int32) (how stat pl : Nat) (q stt dn : Nat) (j : Nat) (hq : q < 14) (hj : j < 8) : pl_V l y_Run_work b_Run_work 3 ({ frames := 2, cells := 0, slots := 0, locals := 44 } : Room) pl_E0 D classes (TY cI cZ cL) [.ref r, .int (nI 6), .int (nI j)] [(r, .inr (4, [.ref b1, .ref b2, .ref b3, .ref b4, .int (nI how), .int (nI stat), .int (nI pl), .int (nI (q + 1)), .int (nI stt), .int (nI dn)])), (b1, .inl (cI, 14, .inl sa)), (b2, .inl (cI, 8, .inl ca)), (b3, .inl (cI, 60, .inl ta)), (b4, .inl (cI, 60, .inl tn))] (fun _ : Unit => True) (fun (_ : Unit) => [(r, .inr (4, [.ref b1, .ref b2, .ref b3, .ref b4, .int (nI how), .int (nI stat), .int (nI pl), .int (nI q), .int (nI stt), .int (nI dn)])), (b1, .inl (cI, 14, .inl sa)), (b2, .inl (cI, 8, .inl (upd ca j (sa q)))), (b3, .inl (cI, 60, .inl ta)), (b4, .inl (cI, 60, .inl tn))]) := by
  refine pl_startV (by decide) (Nat.le_of_ble_eq_true rfl) ?_
  intro p e s m args below meth c A ls X hr hlk hin hK hP hD hS hA hE hl
  have X : CallFix p m c b_Run_work 3 s args TG R_Run := X
  have hx := X.1
  have hb := X.2.1
  have hl : lv_has ls 3 [(0, .ref r), (1, .int (nI 6)), (2, .int (nI j))] := hl
  refine lv_iload_n hx hb d_Run_work_0 rfl (lv_at hl 1 rfl) ?_
  refine lv_tableIn hx hb d_Run_work_1 (by decide) (by decide) (off := 97) (by decide) (tgt := 98) rfl ?_
  refine lv_aload_n hx hb d_Run_work_98 rfl (lv_at hl 0 rfl) ?_
  refine pl_get X fw_Run_15 hK hP 0 rfl (v := .ref b2) rfl d_Run_work_99 ?_
  refine lv_iload_n hx hb d_Run_work_102 rfl (lv_at hl 2 rfl) ?_
  refine lv_aload_n hx hb d_Run_work_103 rfl (lv_at hl 0 rfl) ?_
  refine pl_callVI X (rest := [.int (nI j), .ref b2]) (As := []) (b := r) (c_Run_pop l D cI cZ cL r b1 b2 b3 b4 sa ca ta tn how stat pl q stt dn (by omega)) ck_Run_51 pl_E0_ok trivial hK hP hD hS hA (T := F_Run) (N := N_Run) (ci := 4) rfl 0 rfl [0, 1, 2, 3, 4] [] [0, 1, 2, 3, 4] rfl (by decide) (wr := []) rfl (by decide) (by decide) (wf := fun _ => [(r, .inr (4, [.ref b1, .ref b2, .ref b3, .ref b4, .int (nI how), .int (nI stat), .int (nI pl), .int (nI q), .int (nI stt), .int (nI dn)])), (b1, .inl (cI, 14, .inl sa)), (b2, .inl (cI, 8, .inl ca)), (b3, .inl (cI, 60, .inl ta)), (b4, .inl (cI, 60, .inl tn))]) (fun _ => rfl) (by decide) rfl hl.1 rfl (Nat.le_of_ble_eq_true rfl) (by decide) (by decide) d_Run_work_104 (fun r u0 H locs hcq hP hD hS => ?_)
  subst hcq
  refine pl_iast X hK hP hD hS 2 0 rfl rfl j (by omega) (by decide) d_Run_work_107 (ws' := [(r, .inr (4, [.ref b1, .ref b2, .ref b3, .ref b4, .int (nI how), .int (nI stat), .int (nI pl), .int (nI q), .int (nI stt), .int (nI dn)])), (b1, .inl (cI, 14, .inl sa)), (b2, .inl (cI, 8, .inl (upd ca j (sa q)))), (b3, .inl (cI, 60, .inl ta)), (b4, .inl (cI, 60, .inl tn))]) rfl (fun H locs hP hD hS => ?_)
  refine lv_goto hx hb d_Run_work_108 rfl ?_
  exact pl_vret X hr hlk hK () trivial hP hD hS d_Run_work_134

set_option maxHeartbeats 4000000 in
set_option maxRecDepth 100000 in
theorem c_Run_work_11 (l : Launch) (D : va_G) (cI cZ cL : ClassId) (r b1 b2 b3 b4 : Nat) (sa ca ta tn : Nat → Int32) (how stat pl : Nat) (q stt dn : Nat) (k : Int32) (hq : q + 1 < 14) : pl_V l y_Run_work b_Run_work 3 ({ frames := 2, cells := 0, slots := 0, locals := 44 } : Room) pl_E0 D classes (TY cI cZ cL) [.ref r, .int (nI 11), .int k] [(r, .inr (4, [.ref b1, .ref b2, .ref b3, .ref b4, .int (nI how), .int (nI stat), .int (nI pl), .int (nI (q + 1)), .int (nI stt), .int (nI dn)])), (b1, .inl (cI, 14, .inl sa)), (b2, .inl (cI, 8, .inl ca)), (b3, .inl (cI, 60, .inl ta)), (b4, .inl (cI, 60, .inl tn))] (fun _ : Unit => True) (fun (_ : Unit) => [(r, .inr (4, [.ref b1, .ref b2, .ref b3, .ref b4, .int (nI how), .int (nI stat), .int (nI pl), .int (nI (q + 2)), .int (nI stt), .int (nI dn)])), (b1, .inl (cI, 14, .inl (upd sa (q + 1) (sa q)))), (b2, .inl (cI, 8, .inl ca)), (b3, .inl (cI, 60, .inl ta)), (b4, .inl (cI, 60, .inl tn))]) := by
  refine pl_startV (by decide) (Nat.le_of_ble_eq_true rfl) ?_
  intro p e s m args below meth c A ls X hr hlk hin hK hP hD hS hA hE hl
  have X : CallFix p m c b_Run_work 3 s args TG R_Run := X
  have hx := X.1
  have hb := X.2.1
  have hl : lv_has ls 3 [(0, .ref r), (1, .int (nI 11)), (2, .int k)] := hl
  refine lv_iload_n hx hb d_Run_work_0 rfl (lv_at hl 1 rfl) ?_
  refine lv_tableIn hx hb d_Run_work_1 (by decide) (by decide) (off := 110) (by decide) (tgt := 111) rfl ?_
  refine lv_aload_n hx hb d_Run_work_111 rfl (lv_at hl 0 rfl) ?_
  refine lv_aload_n hx hb d_Run_work_112 rfl (lv_at hl 0 rfl) ?_
  refine pl_get X fw_Run_9 hK hP 0 rfl (v := .ref b1) rfl d_Run_work_113 ?_
  refine lv_aload_n hx hb d_Run_work_116 rfl (lv_at hl 0 rfl) ?_
  refine pl_get X fw_Run_34 hK hP 0 rfl (v := .int (nI (q + 1))) rfl d_Run_work_117 ?_
  refine lv_iconst (v := nI 1) hx hb d_Run_work_120 (by decide) ?_
  refine pl_isub X d_Run_work_121 (z := nI q) (nI_dec _) ?_
  refine pl_iald X hK hP 1 0 rfl rfl q (by omega) (by decide) (z := sa q) rfl d_Run_work_122 ?_
  refine pl_callVV X (rest := []) (As := [.int (sa q)]) (b := r) (c_Run_push l D cI cZ cL r b1 b2 b3 b4 sa ca ta tn how stat pl (q + 1) stt dn (sa q) (by omega)) ck_Run_75 pl_E0_ok trivial hK hP hD hS hA (T := F_Run) (N := N_Run) (ci := 4) rfl 0 rfl [0, 1, 2, 3, 4] [] [0, 1, 2, 3, 4] rfl (by decide) (wr := []) rfl (by decide) (by decide) (wf := fun _ => [(r, .inr (4, [.ref b1, .ref b2, .ref b3, .ref b4, .int (nI how), .int (nI stat), .int (nI pl), .int (nI (q + 2)), .int (nI stt), .int (nI dn)])), (b1, .inl (cI, 14, .inl (upd sa (q + 1) (sa q)))), (b2, .inl (cI, 8, .inl ca)), (b3, .inl (cI, 60, .inl ta)), (b4, .inl (cI, 60, .inl tn))]) (fun _ => rfl) (by decide) rfl hl.1 rfl (Nat.le_of_ble_eq_true rfl) (by decide) (by decide) d_Run_work_123 (fun u0 H locs hcq hP hD hS => ?_)
  refine lv_goto hx hb d_Run_work_126 rfl ?_
  exact pl_vret X hr hlk hK () trivial hP hD hS d_Run_work_134

set_option maxHeartbeats 4000000 in
set_option maxRecDepth 100000 in
theorem c_Run_work_2 (l : Launch) (D : va_G) (cI cZ cL : ClassId) (r b1 b2 b3 b4 : Nat) (sa ca ta tn : Nat → Int32) (how stat pl : Nat) (q stt dn : Nat) (k : Int32) (hq : q + 2 ≤ 14) : pl_V l y_Run_work b_Run_work 3 ({ frames := 2, cells := 0, slots := 0, locals := 44 } : Room) pl_E0 D classes (TY cI cZ cL) [.ref r, .int (nI 2), .int k] [(r, .inr (4, [.ref b1, .ref b2, .ref b3, .ref b4, .int (nI how), .int (nI stat), .int (nI pl), .int (nI (q + 2)), .int (nI stt), .int (nI dn)])), (b1, .inl (cI, 14, .inl sa)), (b2, .inl (cI, 8, .inl ca)), (b3, .inl (cI, 60, .inl ta)), (b4, .inl (cI, 60, .inl tn))] (fun _ : Unit => True) (fun (_ : Unit) => [(r, .inr (4, [.ref b1, .ref b2, .ref b3, .ref b4, .int (nI how), .int (nI stat), .int (nI pl), .int (nI (q + 1)), .int (nI stt), .int (nI dn)])), (b1, .inl (cI, 14, .inl (upd sa q (sa q + sa (q + 1))))), (b2, .inl (cI, 8, .inl ca)), (b3, .inl (cI, 60, .inl ta)), (b4, .inl (cI, 60, .inl tn))]) := by
  refine pl_startV (by decide) (Nat.le_of_ble_eq_true rfl) ?_
  intro p e s m args below meth c A ls X hr hlk hin hK hP hD hS hA hE hl
  have X : CallFix p m c b_Run_work 3 s args TG R_Run := X
  have hx := X.1
  have hb := X.2.1
  have hl : lv_has ls 3 [(0, .ref r), (1, .int (nI 2)), (2, .int k)] := hl
  refine lv_iload_n hx hb d_Run_work_0 rfl (lv_at hl 1 rfl) ?_
  refine lv_tableIn hx hb d_Run_work_1 (by decide) (by decide) (off := 128) (by decide) (tgt := 129) rfl ?_
  refine lv_aload_n hx hb d_Run_work_129 rfl (lv_at hl 0 rfl) ?_
  refine lv_iload_n hx hb d_Run_work_130 rfl (lv_at hl 1 rfl) ?_
  refine pl_callVV X (rest := []) (As := [.int (nI 2)]) (b := r) (c_Run_workOnTwo_2 l D cI cZ cL r b1 b2 b3 b4 sa ca ta tn how stat pl q stt dn hq) ck_Run_79 pl_E0_ok trivial hK hP hD hS hA (T := F_Run) (N := N_Run) (ci := 4) rfl 0 rfl [0, 1, 2, 3, 4] [] [0, 1, 2, 3, 4] rfl (by decide) (wr := []) rfl (by decide) (by decide) (wf := fun _ => [(r, .inr (4, [.ref b1, .ref b2, .ref b3, .ref b4, .int (nI how), .int (nI stat), .int (nI pl), .int (nI (q + 1)), .int (nI stt), .int (nI dn)])), (b1, .inl (cI, 14, .inl (upd sa q (sa q + sa (q + 1))))), (b2, .inl (cI, 8, .inl ca)), (b3, .inl (cI, 60, .inl ta)), (b4, .inl (cI, 60, .inl tn))]) (fun _ => rfl) (by decide) rfl hl.1 rfl (Nat.le_of_ble_eq_true rfl) (by decide) (by decide) d_Run_work_131 (fun u0 H locs hcq hP hD hS => ?_)
  exact pl_vret X hr hlk hK () trivial hP hD hS d_Run_work_134

set_option maxHeartbeats 4000000 in
set_option maxRecDepth 100000 in
theorem c_Run_work_3 (l : Launch) (D : va_G) (cI cZ cL : ClassId) (r b1 b2 b3 b4 : Nat) (sa ca ta tn : Nat → Int32) (how stat pl : Nat) (q stt dn : Nat) (k : Int32) (hq : q + 2 ≤ 14) : pl_V l y_Run_work b_Run_work 3 ({ frames := 2, cells := 0, slots := 0, locals := 44 } : Room) pl_E0 D classes (TY cI cZ cL) [.ref r, .int (nI 3), .int k] [(r, .inr (4, [.ref b1, .ref b2, .ref b3, .ref b4, .int (nI how), .int (nI stat), .int (nI pl), .int (nI (q + 2)), .int (nI stt), .int (nI dn)])), (b1, .inl (cI, 14, .inl sa)), (b2, .inl (cI, 8, .inl ca)), (b3, .inl (cI, 60, .inl ta)), (b4, .inl (cI, 60, .inl tn))] (fun _ : Unit => True) (fun (_ : Unit) => [(r, .inr (4, [.ref b1, .ref b2, .ref b3, .ref b4, .int (nI how), .int (nI stat), .int (nI pl), .int (nI (q + 1)), .int (nI stt), .int (nI dn)])), (b1, .inl (cI, 14, .inl (upd sa q (sa q - sa (q + 1))))), (b2, .inl (cI, 8, .inl ca)), (b3, .inl (cI, 60, .inl ta)), (b4, .inl (cI, 60, .inl tn))]) := by
  refine pl_startV (by decide) (Nat.le_of_ble_eq_true rfl) ?_
  intro p e s m args below meth c A ls X hr hlk hin hK hP hD hS hA hE hl
  have X : CallFix p m c b_Run_work 3 s args TG R_Run := X
  have hx := X.1
  have hb := X.2.1
  have hl : lv_has ls 3 [(0, .ref r), (1, .int (nI 3)), (2, .int k)] := hl
  refine lv_iload_n hx hb d_Run_work_0 rfl (lv_at hl 1 rfl) ?_
  refine lv_tableIn hx hb d_Run_work_1 (by decide) (by decide) (off := 128) (by decide) (tgt := 129) rfl ?_
  refine lv_aload_n hx hb d_Run_work_129 rfl (lv_at hl 0 rfl) ?_
  refine lv_iload_n hx hb d_Run_work_130 rfl (lv_at hl 1 rfl) ?_
  refine pl_callVV X (rest := []) (As := [.int (nI 3)]) (b := r) (c_Run_workOnTwo_3 l D cI cZ cL r b1 b2 b3 b4 sa ca ta tn how stat pl q stt dn hq) ck_Run_79 pl_E0_ok trivial hK hP hD hS hA (T := F_Run) (N := N_Run) (ci := 4) rfl 0 rfl [0, 1, 2, 3, 4] [] [0, 1, 2, 3, 4] rfl (by decide) (wr := []) rfl (by decide) (by decide) (wf := fun _ => [(r, .inr (4, [.ref b1, .ref b2, .ref b3, .ref b4, .int (nI how), .int (nI stat), .int (nI pl), .int (nI (q + 1)), .int (nI stt), .int (nI dn)])), (b1, .inl (cI, 14, .inl (upd sa q (sa q - sa (q + 1))))), (b2, .inl (cI, 8, .inl ca)), (b3, .inl (cI, 60, .inl ta)), (b4, .inl (cI, 60, .inl tn))]) (fun _ => rfl) (by decide) rfl hl.1 rfl (Nat.le_of_ble_eq_true rfl) (by decide) (by decide) d_Run_work_131 (fun u0 H locs hcq hP hD hS => ?_)
  exact pl_vret X hr hlk hK () trivial hP hD hS d_Run_work_134

set_option maxHeartbeats 4000000 in
set_option maxRecDepth 100000 in
theorem c_Run_work_4 (l : Launch) (D : va_G) (cI cZ cL : ClassId) (r b1 b2 b3 b4 : Nat) (sa ca ta tn : Nat → Int32) (how stat pl : Nat) (q stt dn : Nat) (k : Int32) (hq : q + 2 ≤ 14) : pl_V l y_Run_work b_Run_work 3 ({ frames := 2, cells := 0, slots := 0, locals := 44 } : Room) pl_E0 D classes (TY cI cZ cL) [.ref r, .int (nI 4), .int k] [(r, .inr (4, [.ref b1, .ref b2, .ref b3, .ref b4, .int (nI how), .int (nI stat), .int (nI pl), .int (nI (q + 2)), .int (nI stt), .int (nI dn)])), (b1, .inl (cI, 14, .inl sa)), (b2, .inl (cI, 8, .inl ca)), (b3, .inl (cI, 60, .inl ta)), (b4, .inl (cI, 60, .inl tn))] (fun _ : Unit => True) (fun (_ : Unit) => [(r, .inr (4, [.ref b1, .ref b2, .ref b3, .ref b4, .int (nI how), .int (nI stat), .int (nI pl), .int (nI (q + 1)), .int (nI stt), .int (nI dn)])), (b1, .inl (cI, 14, .inl (upd sa q (if sa q < sa (q + 1) then 1 else 0)))), (b2, .inl (cI, 8, .inl ca)), (b3, .inl (cI, 60, .inl ta)), (b4, .inl (cI, 60, .inl tn))]) := by
  refine pl_startV (by decide) (Nat.le_of_ble_eq_true rfl) ?_
  intro p e s m args below meth c A ls X hr hlk hin hK hP hD hS hA hE hl
  have X : CallFix p m c b_Run_work 3 s args TG R_Run := X
  have hx := X.1
  have hb := X.2.1
  have hl : lv_has ls 3 [(0, .ref r), (1, .int (nI 4)), (2, .int k)] := hl
  refine lv_iload_n hx hb d_Run_work_0 rfl (lv_at hl 1 rfl) ?_
  refine lv_tableIn hx hb d_Run_work_1 (by decide) (by decide) (off := 128) (by decide) (tgt := 129) rfl ?_
  refine lv_aload_n hx hb d_Run_work_129 rfl (lv_at hl 0 rfl) ?_
  refine lv_iload_n hx hb d_Run_work_130 rfl (lv_at hl 1 rfl) ?_
  refine pl_callVV X (rest := []) (As := [.int (nI 4)]) (b := r) (c_Run_workOnTwo_4 l D cI cZ cL r b1 b2 b3 b4 sa ca ta tn how stat pl q stt dn hq) ck_Run_79 pl_E0_ok trivial hK hP hD hS hA (T := F_Run) (N := N_Run) (ci := 4) rfl 0 rfl [0, 1, 2, 3, 4] [] [0, 1, 2, 3, 4] rfl (by decide) (wr := []) rfl (by decide) (by decide) (wf := fun _ => [(r, .inr (4, [.ref b1, .ref b2, .ref b3, .ref b4, .int (nI how), .int (nI stat), .int (nI pl), .int (nI (q + 1)), .int (nI stt), .int (nI dn)])), (b1, .inl (cI, 14, .inl (upd sa q (if sa q < sa (q + 1) then 1 else 0)))), (b2, .inl (cI, 8, .inl ca)), (b3, .inl (cI, 60, .inl ta)), (b4, .inl (cI, 60, .inl tn))]) (fun _ => rfl) (by decide) rfl hl.1 rfl (Nat.le_of_ble_eq_true rfl) (by decide) (by decide) d_Run_work_131 (fun u0 H locs hcq hP hD hS => ?_)
  exact pl_vret X hr hlk hK () trivial hP hD hS d_Run_work_134

set_option maxHeartbeats 4000000 in
set_option maxRecDepth 100000 in
theorem c_Run_work_10 (l : Launch) (D : va_G) (cI cZ cL : ClassId) (r b1 b2 b3 b4 : Nat) (sa ca ta tn : Nat → Int32) (how stat pl : Nat) (q stt dn : Nat) (k : Int32) (hq : q + 2 ≤ 14) : pl_V l y_Run_work b_Run_work 3 ({ frames := 2, cells := 0, slots := 0, locals := 44 } : Room) pl_E0 D classes (TY cI cZ cL) [.ref r, .int (nI 10), .int k] [(r, .inr (4, [.ref b1, .ref b2, .ref b3, .ref b4, .int (nI how), .int (nI stat), .int (nI pl), .int (nI (q + 2)), .int (nI stt), .int (nI dn)])), (b1, .inl (cI, 14, .inl sa)), (b2, .inl (cI, 8, .inl ca)), (b3, .inl (cI, 60, .inl ta)), (b4, .inl (cI, 60, .inl tn))] (fun _ : Unit => True) (fun (_ : Unit) => [(r, .inr (4, [.ref b1, .ref b2, .ref b3, .ref b4, .int (nI how), .int (nI stat), .int (nI pl), .int (nI (q + 2)), .int (nI stt), .int (nI dn)])), (b1, .inl (cI, 14, .inl (upd (upd sa q (sa (q + 1))) (q + 1) (sa q)))), (b2, .inl (cI, 8, .inl ca)), (b3, .inl (cI, 60, .inl ta)), (b4, .inl (cI, 60, .inl tn))]) := by
  refine pl_startV (by decide) (Nat.le_of_ble_eq_true rfl) ?_
  intro p e s m args below meth c A ls X hr hlk hin hK hP hD hS hA hE hl
  have X : CallFix p m c b_Run_work 3 s args TG R_Run := X
  have hx := X.1
  have hb := X.2.1
  have hl : lv_has ls 3 [(0, .ref r), (1, .int (nI 10)), (2, .int k)] := hl
  refine lv_iload_n hx hb d_Run_work_0 rfl (lv_at hl 1 rfl) ?_
  refine lv_tableIn hx hb d_Run_work_1 (by decide) (by decide) (off := 128) (by decide) (tgt := 129) rfl ?_
  refine lv_aload_n hx hb d_Run_work_129 rfl (lv_at hl 0 rfl) ?_
  refine lv_iload_n hx hb d_Run_work_130 rfl (lv_at hl 1 rfl) ?_
  refine pl_callVV X (rest := []) (As := [.int (nI 10)]) (b := r) (c_Run_workOnTwo_10 l D cI cZ cL r b1 b2 b3 b4 sa ca ta tn how stat pl q stt dn hq) ck_Run_79 pl_E0_ok trivial hK hP hD hS hA (T := F_Run) (N := N_Run) (ci := 4) rfl 0 rfl [0, 1, 2, 3, 4] [] [0, 1, 2, 3, 4] rfl (by decide) (wr := []) rfl (by decide) (by decide) (wf := fun _ => [(r, .inr (4, [.ref b1, .ref b2, .ref b3, .ref b4, .int (nI how), .int (nI stat), .int (nI pl), .int (nI (q + 2)), .int (nI stt), .int (nI dn)])), (b1, .inl (cI, 14, .inl (upd (upd sa q (sa (q + 1))) (q + 1) (sa q)))), (b2, .inl (cI, 8, .inl ca)), (b3, .inl (cI, 60, .inl ta)), (b4, .inl (cI, 60, .inl tn))]) (fun _ => rfl) (by decide) rfl hl.1 rfl (Nat.le_of_ble_eq_true rfl) (by decide) (by decide) d_Run_work_131 (fun u0 H locs hcq hP hD hS => ?_)
  exact pl_vret X hr hlk hK () trivial hP hD hS d_Run_work_134

set_option maxHeartbeats 4000000 in
set_option maxRecDepth 100000 in
theorem c_Run_tryAct (l : Launch) (D : va_G) (cI cZ cL : ClassId) (r b1 b2 b3 b4 : Nat) (sa ca ta tn : Nat → Int32) (how stat pl : Nat) (q stt dn : Nat) (h a1 a2 a3 n : Nat) (lo hi th : Nat → Int32) (j t : Nat) (hh : how ≤ 2) (hq : q < 14) (hs : stt < 4) (hj : j < 8) (hd : dn ≤ 60) (hth : ¬ th (stt * 8 + j) = -1 → th (stt * 8 + j) = nI t) : pl_V l y_Run_tryAct b_Run_tryAct 5 ({ frames := 2, cells := 0, slots := 0, locals := 43 } : Room) pl_E0 D classes (TY cI cZ cL) [.ref r, .ref h, .int (nI j)] [(r, .inr (4, [.ref b1, .ref b2, .ref b3, .ref b4, .int (nI how), .int (nI 1), .int (nI pl), .int (nI (q + 1)), .int (nI stt), .int (nI dn)])), (b1, .inl (cI, 14, .inl sa)), (b2, .inl (cI, 8, .inl ca)), (b3, .inl (cI, 60, .inl ta)), (b4, .inl (cI, 60, .inl tn)), (h, .inr (1, [.ref a1, .ref a2, .ref a3, .int (nI n)])), (a1, .inl (cI, 32, .inl lo)), (a2, .inl (cI, 32, .inl hi)), (a3, .inl (cI, 32, .inl th))] (fun u : RSa => u = actS how (decide (¬ th (stt * 8 + j) = -1) && (decide (lo (stt * 8 + j) ≤ sa q) && decide (sa q ≤ hi (stt * 8 + j)))) pl q stt dn t j (sa q) ta tn) (fun (u : RSa) => [(r, .inr (4, [.ref b1, .ref b2, .ref b3, .ref b4, .int (nI how), .int (nI u.1), .int (nI u.2.1), .int (nI u.2.2.1), .int (nI u.2.2.2.1), .int (nI u.2.2.2.2.1)])), (b1, .inl (cI, 14, .inl sa)), (b2, .inl (cI, 8, .inl ca)), (b3, .inl (cI, 60, .inl u.2.2.2.2.2.1)), (b4, .inl (cI, 60, .inl u.2.2.2.2.2.2)), (h, .inr (1, [.ref a1, .ref a2, .ref a3, .int (nI n)])), (a1, .inl (cI, 32, .inl lo)), (a2, .inl (cI, 32, .inl hi)), (a3, .inl (cI, 32, .inl th))]) := by
  refine pl_startV (by decide) (Nat.le_of_ble_eq_true rfl) ?_
  intro p e s m args below meth c A ls X hr hlk hin hK hP hD hS hA hE hl
  have X : CallFix p m c b_Run_tryAct 5 s args TG R_Run := X
  have hx := X.1
  have hb := X.2.1
  have hl : lv_has ls 5 [(0, .ref r), (1, .ref h), (2, .int (nI j))] := hl
  refine lv_aload_n hx hb d_Run_tryAct_0 rfl (lv_at hl 0 rfl) ?_
  refine pl_get X fw_Run_9 hK hP 0 rfl (v := .ref b1) rfl d_Run_tryAct_1 ?_
  refine lv_aload_n hx hb d_Run_tryAct_4 rfl (lv_at hl 0 rfl) ?_
  refine pl_get X fw_Run_34 hK hP 0 rfl (v := .int (nI (q + 1))) rfl d_Run_tryAct_5 ?_
  refine lv_iconst (v := nI 1) hx hb d_Run_tryAct_8 (by decide) ?_
  refine pl_isub X d_Run_tryAct_9 (z := nI q) (nI_dec _) ?_
  refine pl_iald X hK hP 1 0 rfl rfl q (by omega) (by decide) (z := sa q) rfl d_Run_tryAct_10 ?_
  refine lv_istore_n hx hb d_Run_tryAct_11 rfl hl (by decide) (lv' := [(3, .int (sa q)), (0, .ref r), (1, .ref h), (2, .int (nI j))]) rfl (fun ls hl => ?_)
  refine lv_aload_n hx hb d_Run_tryAct_12 rfl (lv_at hl 1 rfl) ?_
  refine pl_get X fw_Run_37 hK hP 0 rfl (v := .int (nI stt)) rfl d_Run_tryAct_13 ?_
  refine lv_iload_n hx hb d_Run_tryAct_16 rfl (lv_at hl 3 rfl) ?_
  refine pl_callSI X (rest := []) (As := [.int (nI stt), .int (nI j)]) (c_Automaton_place l D cI cZ cL stt j) ck_Run_63 pl_E0_ok trivial hK hP hD hS hA [] [0, 1, 2, 3, 4, 5, 6, 7, 8] [0, 1, 2, 3, 4, 5, 6, 7, 8] rfl (by decide) (wr := [(r, .inr (4, [.ref b1, .ref b2, .ref b3, .ref b4, .int (nI how), .int (nI 1), .int (nI pl), .int (nI (q + 1)), .int (nI stt), .int (nI dn)])), (b1, .inl (cI, 14, .inl sa)), (b2, .inl (cI, 8, .inl ca)), (b3, .inl (cI, 60, .inl ta)), (b4, .inl (cI, 60, .inl tn)), (h, .inr (1, [.ref a1, .ref a2, .ref a3, .int (nI n)])), (a1, .inl (cI, 32, .inl lo)), (a2, .inl (cI, 32, .inl hi)), (a3, .inl (cI, 32, .inl th))]) rfl (by decide) (by decide) (wf := fun _ => [(r, .inr (4, [.ref b1, .ref b2, .ref b3, .ref b4, .int (nI how), .int (nI 1), .int (nI pl), .int (nI (q + 1)), .int (nI stt), .int (nI dn)])), (b1, .inl (cI, 14, .inl sa)), (b2, .inl (cI, 8, .inl ca)), (b3, .inl (cI, 60, .inl ta)), (b4, .inl (cI, 60, .inl tn)), (h, .inr (1, [.ref a1, .ref a2, .ref a3, .int (nI n)])), (a1, .inl (cI, 32, .inl lo)), (a2, .inl (cI, 32, .inl hi)), (a3, .inl (cI, 32, .inl th))]) (fun _ => rfl) (by decide) rfl hl.1 rfl (Nat.le_of_ble_eq_true rfl) (by decide) (by decide) d_Run_tryAct_17 (fun r u0 H locs hcq hP hD hS => ?_)
  subst hcq
  refine lv_istore hx hb d_Run_tryAct_20 hl (by decide) (lv' := [(4, .int (nI (stt * 8 + j))), (3, .int (sa q)), (0, .ref r), (1, .ref h), (2, .int (nI j))]) rfl (fun ls hl => ?_)
  refine lv_aload_n hx hb d_Run_tryAct_22 rfl (lv_at hl 2 rfl) ?_
  refine pl_get X fw_Run_28 hK hP 0 rfl (v := .int (nI how)) rfl d_Run_tryAct_23 ?_
  refine lv_iconst (v := nI 2) hx hb d_Run_tryAct_26 (by decide) ?_
  refine pl_icmp_ne X (by omega) (by decide) d_Run_tryAct_27 rfl (fun g27 => ?_) (fun g27 => ?_)
  · skip
    refine lv_aload_n hx hb d_Run_tryAct_46 rfl (lv_at hl 2 rfl) ?_
    refine pl_get X fw_Run_40 hK hP 0 rfl (v := .int (nI dn)) rfl d_Run_tryAct_47 ?_
    refine lv_bipush (v := nI 60) hx hb d_Run_tryAct_50 (by decide) ?_
    refine pl_icmp_lt X (by omega) (by decide) d_Run_tryAct_52 rfl (fun g52 => ?_) (fun g52 => ?_)
    · skip
      refine lv_aload_n hx hb d_Run_tryAct_61 rfl (lv_at hl 2 rfl) ?_
      refine pl_get X fw_Run_28 hK hP 0 rfl (v := .int (nI how)) rfl d_Run_tryAct_62 ?_
      refine lv_iconst (v := nI 2) hx hb d_Run_tryAct_65 (by decide) ?_
      refine pl_icmp_ne X (by omega) (by decide) d_Run_tryAct_66 rfl (fun g66 => ?_) (fun g66 => ?_)
      · skip
        refine lv_aload_n hx hb d_Run_tryAct_80 rfl (lv_at hl 2 rfl) ?_
        refine pl_get X fw_Run_18 hK hP 0 rfl (v := .ref b3) rfl d_Run_tryAct_81 ?_
        refine lv_aload_n hx hb d_Run_tryAct_84 rfl (lv_at hl 2 rfl) ?_
        refine pl_get X fw_Run_40 hK hP 0 rfl (v := .int (nI dn)) rfl d_Run_tryAct_85 ?_
        refine lv_iload_n hx hb d_Run_tryAct_88 rfl (lv_at hl 4 rfl) ?_
        refine pl_iast X hK hP hD hS 3 0 rfl rfl dn (by omega) (by decide) d_Run_tryAct_89 (ws' := [(r, .inr (4, [.ref b1, .ref b2, .ref b3, .ref b4, .int (nI how), .int (nI 1), .int (nI pl), .int (nI (q + 1)), .int (nI stt), .int (nI dn)])), (b1, .inl (cI, 14, .inl sa)), (b2, .inl (cI, 8, .inl ca)), (b3, .inl (cI, 60, .inl (upd ta dn (nI j)))), (b4, .inl (cI, 60, .inl tn)), (h, .inr (1, [.ref a1, .ref a2, .ref a3, .int (nI n)])), (a1, .inl (cI, 32, .inl lo)), (a2, .inl (cI, 32, .inl hi)), (a3, .inl (cI, 32, .inl th))]) rfl (fun H locs hP hD hS => ?_)
        refine lv_aload_n hx hb d_Run_tryAct_90 rfl (lv_at hl 2 rfl) ?_
        refine pl_get X fw_Run_21 hK hP 0 rfl (v := .ref b4) rfl d_Run_tryAct_91 ?_
        refine lv_aload_n hx hb d_Run_tryAct_94 rfl (lv_at hl 2 rfl) ?_
        refine pl_get X fw_Run_40 hK hP 0 rfl (v := .int (nI dn)) rfl d_Run_tryAct_95 ?_
        refine lv_iload_n hx hb d_Run_tryAct_98 rfl (lv_at hl 1 rfl) ?_
        refine pl_iast X hK hP hD hS 4 0 rfl rfl dn (by omega) (by decide) d_Run_tryAct_99 (ws' := [(r, .inr (4, [.ref b1, .ref b2, .ref b3, .ref b4, .int (nI how), .int (nI 1), .int (nI pl), .int (nI (q + 1)), .int (nI stt), .int (nI dn)])), (b1, .inl (cI, 14, .inl sa)), (b2, .inl (cI, 8, .inl ca)), (b3, .inl (cI, 60, .inl (upd ta dn (nI j)))), (b4, .inl (cI, 60, .inl (upd tn dn (sa q)))), (h, .inr (1, [.ref a1, .ref a2, .ref a3, .int (nI n)])), (a1, .inl (cI, 32, .inl lo)), (a2, .inl (cI, 32, .inl hi)), (a3, .inl (cI, 32, .inl th))]) rfl (fun H locs hP hD hS => ?_)
        refine lv_aload_n hx hb d_Run_tryAct_100 rfl (lv_at hl 2 rfl) ?_
        refine lv_dup hx hb d_Run_tryAct_101 rfl ?_
        refine pl_get X fw_Run_40 hK hP 0 rfl (v := .int (nI dn)) rfl d_Run_tryAct_102 ?_
        refine lv_iconst (v := nI 1) hx hb d_Run_tryAct_105 (by decide) ?_
        refine pl_iadd X d_Run_tryAct_106 (z := nI (dn + 1)) (nI_add _ _) ?_
        refine pl_put X fw_Run_40 fp_Run rfl hK hP hD hS 0 rfl (v := .int (nI (dn + 1))) rfl rfl (Nat.le_of_ble_eq_true rfl) d_Run_tryAct_107 (ws' := [(r, .inr (4, [.ref b1, .ref b2, .ref b3, .ref b4, .int (nI how), .int (nI 1), .int (nI pl), .int (nI (q + 1)), .int (nI stt), .int (nI (dn + 1))])), (b1, .inl (cI, 14, .inl sa)), (b2, .inl (cI, 8, .inl ca)), (b3, .inl (cI, 60, .inl (upd ta dn (nI j)))), (b4, .inl (cI, 60, .inl (upd tn dn (sa q)))), (h, .inr (1, [.ref a1, .ref a2, .ref a3, .int (nI n)])), (a1, .inl (cI, 32, .inl lo)), (a2, .inl (cI, 32, .inl hi)), (a3, .inl (cI, 32, .inl th))]) rfl (fun H locs hP hD hS => ?_)
        refine lv_aload_n hx hb d_Run_tryAct_110 rfl (lv_at hl 2 rfl) ?_
        refine lv_dup hx hb d_Run_tryAct_111 rfl ?_
        refine pl_get X fw_Run_34 hK hP 0 rfl (v := .int (nI (q + 1))) rfl d_Run_tryAct_112 ?_
        refine lv_iconst (v := nI 1) hx hb d_Run_tryAct_115 (by decide) ?_
        refine pl_isub X d_Run_tryAct_116 (z := nI q) (nI_dec _) ?_
        refine pl_put X fw_Run_34 fp_Run rfl hK hP hD hS 0 rfl (v := .int (nI q)) rfl rfl (Nat.le_of_ble_eq_true rfl) d_Run_tryAct_117 (ws' := [(r, .inr (4, [.ref b1, .ref b2, .ref b3, .ref b4, .int (nI how), .int (nI 1), .int (nI pl), .int (nI q), .int (nI stt), .int (nI (dn + 1))])), (b1, .inl (cI, 14, .inl sa)), (b2, .inl (cI, 8, .inl ca)), (b3, .inl (cI, 60, .inl (upd ta dn (nI j)))), (b4, .inl (cI, 60, .inl (upd tn dn (sa q)))), (h, .inr (1, [.ref a1, .ref a2, .ref a3, .int (nI n)])), (a1, .inl (cI, 32, .inl lo)), (a2, .inl (cI, 32, .inl hi)), (a3, .inl (cI, 32, .inl th))]) rfl (fun H locs hP hD hS => ?_)
        refine lv_aload_n hx hb d_Run_tryAct_120 rfl (lv_at hl 2 rfl) ?_
        refine lv_dup hx hb d_Run_tryAct_121 rfl ?_
        refine pl_get X fw_Run_31 hK hP 0 rfl (v := .int (nI pl)) rfl d_Run_tryAct_122 ?_
        refine lv_iconst (v := nI 1) hx hb d_Run_tryAct_125 (by decide) ?_
        refine pl_iadd X d_Run_tryAct_126 (z := nI (pl + 1)) (nI_add _ _) ?_
        refine pl_put X fw_Run_31 fp_Run rfl hK hP hD hS 0 rfl (v := .int (nI (pl + 1))) rfl rfl (Nat.le_of_ble_eq_true rfl) d_Run_tryAct_127 (ws' := [(r, .inr (4, [.ref b1, .ref b2, .ref b3, .ref b4, .int (nI how), .int (nI 1), .int (nI (pl + 1)), .int (nI q), .int (nI stt), .int (nI (dn + 1))])), (b1, .inl (cI, 14, .inl sa)), (b2, .inl (cI, 8, .inl ca)), (b3, .inl (cI, 60, .inl (upd ta dn (nI j)))), (b4, .inl (cI, 60, .inl (upd tn dn (sa q)))), (h, .inr (1, [.ref a1, .ref a2, .ref a3, .int (nI n)])), (a1, .inl (cI, 32, .inl lo)), (a2, .inl (cI, 32, .inl hi)), (a3, .inl (cI, 32, .inl th))]) rfl (fun H locs hP hD hS => ?_)
        exact pl_vret X hr hlk hK (1, pl + 1, q, stt, dn + 1, upd ta dn (nI j), upd tn dn (sa q)) (actS_1n g27 g52) hP hD hS d_Run_tryAct_130
      · skip
        exact absurd g66 g27
    · skip
      refine lv_aload_n hx hb d_Run_tryAct_55 rfl (lv_at hl 2 rfl) ?_
      refine lv_iconst (v := nI 3) hx hb d_Run_tryAct_56 (by decide) ?_
      refine pl_put X fw_Run_24 fp_Run rfl hK hP hD hS 0 rfl (v := .int (nI 3)) rfl rfl (Nat.le_of_ble_eq_true rfl) d_Run_tryAct_57 (ws' := [(r, .inr (4, [.ref b1, .ref b2, .ref b3, .ref b4, .int (nI how), .int (nI 3), .int (nI pl), .int (nI (q + 1)), .int (nI stt), .int (nI dn)])), (b1, .inl (cI, 14, .inl sa)), (b2, .inl (cI, 8, .inl ca)), (b3, .inl (cI, 60, .inl ta)), (b4, .inl (cI, 60, .inl tn)), (h, .inr (1, [.ref a1, .ref a2, .ref a3, .int (nI n)])), (a1, .inl (cI, 32, .inl lo)), (a2, .inl (cI, 32, .inl hi)), (a3, .inl (cI, 32, .inl th))]) rfl (fun H locs hP hD hS => ?_)
      exact pl_vret X hr hlk hK (3, pl, q + 1, stt, dn, ta, tn) (actS_3n g27 g52) hP hD hS d_Run_tryAct_60
  · skip
    refine lv_aload_n hx hb d_Run_tryAct_30 rfl (lv_at hl 3 rfl) ?_
    refine lv_iload hx hb d_Run_tryAct_31 (lv_at hl 0 rfl) ?_
    refine lv_iload_n hx hb d_Run_tryAct_33 rfl (lv_at hl 1 rfl) ?_
    refine pl_callVI X (rest := []) (As := [.int (nI (stt * 8 + j)), .int (sa q)]) (b := h) (c_Automaton_allows l D cI cZ cL h a1 a2 a3 n lo hi th (stt * 8 + j) (sa q) (by omega)) ck_Run_68 pl_E0_ok trivial hK hP hD hS hA (T := F_Automaton) (N := N_Automaton) (ci := 1) rfl 5 rfl [5, 6, 7, 8] [0, 1, 2, 3, 4] [0, 1, 2, 3, 4, 5, 6, 7, 8] rfl (by decide) (wr := [(r, .inr (4, [.ref b1, .ref b2, .ref b3, .ref b4, .int (nI how), .int (nI 1), .int (nI pl), .int (nI (q + 1)), .int (nI stt), .int (nI dn)])), (b1, .inl (cI, 14, .inl sa)), (b2, .inl (cI, 8, .inl ca)), (b3, .inl (cI, 60, .inl ta)), (b4, .inl (cI, 60, .inl tn))]) rfl (by decide) (by decide) (wf := fun _ => [(r, .inr (4, [.ref b1, .ref b2, .ref b3, .ref b4, .int (nI how), .int (nI 1), .int (nI pl), .int (nI (q + 1)), .int (nI stt), .int (nI dn)])), (b1, .inl (cI, 14, .inl sa)), (b2, .inl (cI, 8, .inl ca)), (b3, .inl (cI, 60, .inl ta)), (b4, .inl (cI, 60, .inl tn)), (h, .inr (1, [.ref a1, .ref a2, .ref a3, .int (nI n)])), (a1, .inl (cI, 32, .inl lo)), (a2, .inl (cI, 32, .inl hi)), (a3, .inl (cI, 32, .inl th))]) (fun _ => rfl) (by decide) rfl hl.1 rfl (Nat.le_of_ble_eq_true rfl) (by decide) (by decide) d_Run_tryAct_34 (fun r u0 H locs hcq hP hD hS => ?_)
    subst hcq
    refine pl_ifB_ne X d_Run_tryAct_37 rfl (fun g37 => ?_) (fun g37 => ?_)
    · skip
      refine lv_aload_n hx hb d_Run_tryAct_46 rfl (lv_at hl 2 rfl) ?_
      refine pl_get X fw_Run_40 hK hP 0 rfl (v := .int (nI dn)) rfl d_Run_tryAct_47 ?_
      refine lv_bipush (v := nI 60) hx hb d_Run_tryAct_50 (by decide) ?_
      refine pl_icmp_lt X (by omega) (by decide) d_Run_tryAct_52 rfl (fun g52 => ?_) (fun g52 => ?_)
      · skip
        refine lv_aload_n hx hb d_Run_tryAct_61 rfl (lv_at hl 2 rfl) ?_
        refine pl_get X fw_Run_28 hK hP 0 rfl (v := .int (nI how)) rfl d_Run_tryAct_62 ?_
        refine lv_iconst (v := nI 2) hx hb d_Run_tryAct_65 (by decide) ?_
        refine pl_icmp_ne X (by omega) (by decide) d_Run_tryAct_66 rfl (fun g66 => ?_) (fun g66 => ?_)
        · skip
          exact absurd g27 g66
        · skip
          refine lv_aload_n hx hb d_Run_tryAct_69 rfl (lv_at hl 2 rfl) ?_
          refine lv_aload_n hx hb d_Run_tryAct_70 rfl (lv_at hl 3 rfl) ?_
          refine pl_get X fw_Run_72 hK hP 5 rfl (v := .ref a3) rfl d_Run_tryAct_71 ?_
          refine lv_iload hx hb d_Run_tryAct_74 (lv_at hl 0 rfl) ?_
          refine pl_iald X hK hP 8 0 rfl rfl (stt * 8 + j) (by omega) (by decide) (z := nI t) (hth (by simp only [Bool.and_eq_true, decide_eq_true_eq] at g37; exact g37.1)) d_Run_tryAct_76 ?_
          refine pl_put X fw_Run_37 fp_Run rfl hK hP hD hS 0 rfl (v := .int (nI t)) rfl rfl (Nat.le_of_ble_eq_true rfl) d_Run_tryAct_77 (ws' := [(r, .inr (4, [.ref b1, .ref b2, .ref b3, .ref b4, .int (nI how), .int (nI 1), .int (nI pl), .int (nI (q + 1)), .int (nI t), .int (nI dn)])), (b1, .inl (cI, 14, .inl sa)), (b2, .inl (cI, 8, .inl ca)), (b3, .inl (cI, 60, .inl ta)), (b4, .inl (cI, 60, .inl tn)), (h, .inr (1, [.ref a1, .ref a2, .ref a3, .int (nI n)])), (a1, .inl (cI, 32, .inl lo)), (a2, .inl (cI, 32, .inl hi)), (a3, .inl (cI, 32, .inl th))]) rfl (fun H locs hP hD hS => ?_)
          refine lv_aload_n hx hb d_Run_tryAct_80 rfl (lv_at hl 2 rfl) ?_
          refine pl_get X fw_Run_18 hK hP 0 rfl (v := .ref b3) rfl d_Run_tryAct_81 ?_
          refine lv_aload_n hx hb d_Run_tryAct_84 rfl (lv_at hl 2 rfl) ?_
          refine pl_get X fw_Run_40 hK hP 0 rfl (v := .int (nI dn)) rfl d_Run_tryAct_85 ?_
          refine lv_iload_n hx hb d_Run_tryAct_88 rfl (lv_at hl 4 rfl) ?_
          refine pl_iast X hK hP hD hS 3 0 rfl rfl dn (by omega) (by decide) d_Run_tryAct_89 (ws' := [(r, .inr (4, [.ref b1, .ref b2, .ref b3, .ref b4, .int (nI how), .int (nI 1), .int (nI pl), .int (nI (q + 1)), .int (nI t), .int (nI dn)])), (b1, .inl (cI, 14, .inl sa)), (b2, .inl (cI, 8, .inl ca)), (b3, .inl (cI, 60, .inl (upd ta dn (nI j)))), (b4, .inl (cI, 60, .inl tn)), (h, .inr (1, [.ref a1, .ref a2, .ref a3, .int (nI n)])), (a1, .inl (cI, 32, .inl lo)), (a2, .inl (cI, 32, .inl hi)), (a3, .inl (cI, 32, .inl th))]) rfl (fun H locs hP hD hS => ?_)
          refine lv_aload_n hx hb d_Run_tryAct_90 rfl (lv_at hl 2 rfl) ?_
          refine pl_get X fw_Run_21 hK hP 0 rfl (v := .ref b4) rfl d_Run_tryAct_91 ?_
          refine lv_aload_n hx hb d_Run_tryAct_94 rfl (lv_at hl 2 rfl) ?_
          refine pl_get X fw_Run_40 hK hP 0 rfl (v := .int (nI dn)) rfl d_Run_tryAct_95 ?_
          refine lv_iload_n hx hb d_Run_tryAct_98 rfl (lv_at hl 1 rfl) ?_
          refine pl_iast X hK hP hD hS 4 0 rfl rfl dn (by omega) (by decide) d_Run_tryAct_99 (ws' := [(r, .inr (4, [.ref b1, .ref b2, .ref b3, .ref b4, .int (nI how), .int (nI 1), .int (nI pl), .int (nI (q + 1)), .int (nI t), .int (nI dn)])), (b1, .inl (cI, 14, .inl sa)), (b2, .inl (cI, 8, .inl ca)), (b3, .inl (cI, 60, .inl (upd ta dn (nI j)))), (b4, .inl (cI, 60, .inl (upd tn dn (sa q)))), (h, .inr (1, [.ref a1, .ref a2, .ref a3, .int (nI n)])), (a1, .inl (cI, 32, .inl lo)), (a2, .inl (cI, 32, .inl hi)), (a3, .inl (cI, 32, .inl th))]) rfl (fun H locs hP hD hS => ?_)
          refine lv_aload_n hx hb d_Run_tryAct_100 rfl (lv_at hl 2 rfl) ?_
          refine lv_dup hx hb d_Run_tryAct_101 rfl ?_
          refine pl_get X fw_Run_40 hK hP 0 rfl (v := .int (nI dn)) rfl d_Run_tryAct_102 ?_
          refine lv_iconst (v := nI 1) hx hb d_Run_tryAct_105 (by decide) ?_
          refine pl_iadd X d_Run_tryAct_106 (z := nI (dn + 1)) (nI_add _ _) ?_
          refine pl_put X fw_Run_40 fp_Run rfl hK hP hD hS 0 rfl (v := .int (nI (dn + 1))) rfl rfl (Nat.le_of_ble_eq_true rfl) d_Run_tryAct_107 (ws' := [(r, .inr (4, [.ref b1, .ref b2, .ref b3, .ref b4, .int (nI how), .int (nI 1), .int (nI pl), .int (nI (q + 1)), .int (nI t), .int (nI (dn + 1))])), (b1, .inl (cI, 14, .inl sa)), (b2, .inl (cI, 8, .inl ca)), (b3, .inl (cI, 60, .inl (upd ta dn (nI j)))), (b4, .inl (cI, 60, .inl (upd tn dn (sa q)))), (h, .inr (1, [.ref a1, .ref a2, .ref a3, .int (nI n)])), (a1, .inl (cI, 32, .inl lo)), (a2, .inl (cI, 32, .inl hi)), (a3, .inl (cI, 32, .inl th))]) rfl (fun H locs hP hD hS => ?_)
          refine lv_aload_n hx hb d_Run_tryAct_110 rfl (lv_at hl 2 rfl) ?_
          refine lv_dup hx hb d_Run_tryAct_111 rfl ?_
          refine pl_get X fw_Run_34 hK hP 0 rfl (v := .int (nI (q + 1))) rfl d_Run_tryAct_112 ?_
          refine lv_iconst (v := nI 1) hx hb d_Run_tryAct_115 (by decide) ?_
          refine pl_isub X d_Run_tryAct_116 (z := nI q) (nI_dec _) ?_
          refine pl_put X fw_Run_34 fp_Run rfl hK hP hD hS 0 rfl (v := .int (nI q)) rfl rfl (Nat.le_of_ble_eq_true rfl) d_Run_tryAct_117 (ws' := [(r, .inr (4, [.ref b1, .ref b2, .ref b3, .ref b4, .int (nI how), .int (nI 1), .int (nI pl), .int (nI q), .int (nI t), .int (nI (dn + 1))])), (b1, .inl (cI, 14, .inl sa)), (b2, .inl (cI, 8, .inl ca)), (b3, .inl (cI, 60, .inl (upd ta dn (nI j)))), (b4, .inl (cI, 60, .inl (upd tn dn (sa q)))), (h, .inr (1, [.ref a1, .ref a2, .ref a3, .int (nI n)])), (a1, .inl (cI, 32, .inl lo)), (a2, .inl (cI, 32, .inl hi)), (a3, .inl (cI, 32, .inl th))]) rfl (fun H locs hP hD hS => ?_)
          refine lv_aload_n hx hb d_Run_tryAct_120 rfl (lv_at hl 2 rfl) ?_
          refine lv_dup hx hb d_Run_tryAct_121 rfl ?_
          refine pl_get X fw_Run_31 hK hP 0 rfl (v := .int (nI pl)) rfl d_Run_tryAct_122 ?_
          refine lv_iconst (v := nI 1) hx hb d_Run_tryAct_125 (by decide) ?_
          refine pl_iadd X d_Run_tryAct_126 (z := nI (pl + 1)) (nI_add _ _) ?_
          refine pl_put X fw_Run_31 fp_Run rfl hK hP hD hS 0 rfl (v := .int (nI (pl + 1))) rfl rfl (Nat.le_of_ble_eq_true rfl) d_Run_tryAct_127 (ws' := [(r, .inr (4, [.ref b1, .ref b2, .ref b3, .ref b4, .int (nI how), .int (nI 1), .int (nI (pl + 1)), .int (nI q), .int (nI t), .int (nI (dn + 1))])), (b1, .inl (cI, 14, .inl sa)), (b2, .inl (cI, 8, .inl ca)), (b3, .inl (cI, 60, .inl (upd ta dn (nI j)))), (b4, .inl (cI, 60, .inl (upd tn dn (sa q)))), (h, .inr (1, [.ref a1, .ref a2, .ref a3, .int (nI n)])), (a1, .inl (cI, 32, .inl lo)), (a2, .inl (cI, 32, .inl hi)), (a3, .inl (cI, 32, .inl th))]) rfl (fun H locs hP hD hS => ?_)
          exact pl_vret X hr hlk hK (1, pl + 1, q, t, dn + 1, upd ta dn (nI j), upd tn dn (sa q)) (actS_1w g27 g37 g52) hP hD hS d_Run_tryAct_130
      · skip
        refine lv_aload_n hx hb d_Run_tryAct_55 rfl (lv_at hl 2 rfl) ?_
        refine lv_iconst (v := nI 3) hx hb d_Run_tryAct_56 (by decide) ?_
        refine pl_put X fw_Run_24 fp_Run rfl hK hP hD hS 0 rfl (v := .int (nI 3)) rfl rfl (Nat.le_of_ble_eq_true rfl) d_Run_tryAct_57 (ws' := [(r, .inr (4, [.ref b1, .ref b2, .ref b3, .ref b4, .int (nI how), .int (nI 3), .int (nI pl), .int (nI (q + 1)), .int (nI stt), .int (nI dn)])), (b1, .inl (cI, 14, .inl sa)), (b2, .inl (cI, 8, .inl ca)), (b3, .inl (cI, 60, .inl ta)), (b4, .inl (cI, 60, .inl tn)), (h, .inr (1, [.ref a1, .ref a2, .ref a3, .int (nI n)])), (a1, .inl (cI, 32, .inl lo)), (a2, .inl (cI, 32, .inl hi)), (a3, .inl (cI, 32, .inl th))]) rfl (fun H locs hP hD hS => ?_)
        exact pl_vret X hr hlk hK (3, pl, q + 1, stt, dn, ta, tn) (actS_3w g37 g52) hP hD hS d_Run_tryAct_60
    · skip
      refine lv_aload_n hx hb d_Run_tryAct_40 rfl (lv_at hl 2 rfl) ?_
      refine lv_iconst (v := nI 4) hx hb d_Run_tryAct_41 (by decide) ?_
      refine pl_put X fw_Run_24 fp_Run rfl hK hP hD hS 0 rfl (v := .int (nI 4)) rfl rfl (Nat.le_of_ble_eq_true rfl) d_Run_tryAct_42 (ws' := [(r, .inr (4, [.ref b1, .ref b2, .ref b3, .ref b4, .int (nI how), .int (nI 4), .int (nI pl), .int (nI (q + 1)), .int (nI stt), .int (nI dn)])), (b1, .inl (cI, 14, .inl sa)), (b2, .inl (cI, 8, .inl ca)), (b3, .inl (cI, 60, .inl ta)), (b4, .inl (cI, 60, .inl tn)), (h, .inr (1, [.ref a1, .ref a2, .ref a3, .int (nI n)])), (a1, .inl (cI, 32, .inl lo)), (a2, .inl (cI, 32, .inl hi)), (a3, .inl (cI, 32, .inl th))]) rfl (fun H locs hP hD hS => ?_)
      exact pl_vret X hr hlk hK (4, pl, q + 1, stt, dn, ta, tn) (actS_4 g27 g37) hP hD hS d_Run_tryAct_45

set_option maxHeartbeats 4000000 in
set_option maxRecDepth 100000 in
theorem c_Run_policyState (l : Launch) (D : va_G) (cI cZ cL : ClassId) (r b1 b2 b3 b4 : Nat) (sa ca ta tn : Nat → Int32) (how stat pl : Nat) (q stt dn : Nat) (hh : how ≤ 2) : pl_I l y_Run_policyState b_Run_policyState 1 .int ({ frames := 0, cells := 0, slots := 0, locals := 0 } : Room) pl_E0 D classes (TY cI cZ cL) [.ref r] [(r, .inr (4, [.ref b1, .ref b2, .ref b3, .ref b4, .int (nI how), .int (nI stat), .int (nI pl), .int (nI q), .int (nI stt), .int (nI dn)])), (b1, .inl (cI, 14, .inl sa)), (b2, .inl (cI, 8, .inl ca)), (b3, .inl (cI, 60, .inl ta)), (b4, .inl (cI, 60, .inl tn))] (fun (r : Int32) (_ : Unit) => r = if how = 1 then ca 7 else nI stt) (fun (_ : Unit) => [(r, .inr (4, [.ref b1, .ref b2, .ref b3, .ref b4, .int (nI how), .int (nI stat), .int (nI pl), .int (nI q), .int (nI stt), .int (nI dn)])), (b1, .inl (cI, 14, .inl sa)), (b2, .inl (cI, 8, .inl ca)), (b3, .inl (cI, 60, .inl ta)), (b4, .inl (cI, 60, .inl tn))]) := by
  refine pl_startI (by decide) (Nat.le_of_ble_eq_true rfl) ?_
  intro p e s m args below meth c A ls X hr hlk hin hK hP hD hS hA hE hl
  have X : CallFix p m c b_Run_policyState 1 s args TG R_Run := X
  have hx := X.1
  have hb := X.2.1
  have hl : lv_has ls 1 [(0, .ref r)] := hl
  refine lv_aload_n hx hb d_Run_policyState_0 rfl (lv_at hl 0 rfl) ?_
  refine pl_get X fw_Run_28 hK hP 0 rfl (v := .int (nI how)) rfl d_Run_policyState_1 ?_
  refine lv_iconst (v := nI 1) hx hb d_Run_policyState_4 (by decide) ?_
  refine pl_icmp_ne X (by omega) (by decide) d_Run_policyState_5 rfl (fun g5 => ?_) (fun g5 => ?_)
  · skip
    refine lv_aload_n hx hb d_Run_policyState_18 rfl (lv_at hl 0 rfl) ?_
    refine pl_get X fw_Run_37 hK hP 0 rfl (v := .int (nI stt)) rfl d_Run_policyState_19 ?_
    exact pl_iret X hr hlk hK rfl () (if_neg g5).symm hP hD hS d_Run_policyState_22
  · skip
    refine lv_aload_n hx hb d_Run_policyState_8 rfl (lv_at hl 0 rfl) ?_
    refine pl_get X fw_Run_15 hK hP 0 rfl (v := .ref b2) rfl d_Run_policyState_9 ?_
    refine lv_bipush (v := nI 7) hx hb d_Run_policyState_12 (by decide) ?_
    refine pl_iald X hK hP 2 0 rfl rfl 7 (by omega) (by decide) (z := ca 7) rfl d_Run_policyState_14 ?_
    refine lv_goto hx hb d_Run_policyState_15 rfl ?_
    exact pl_iret X hr hlk hK rfl () (if_pos g5).symm hP hD hS d_Run_policyState_22

set_option maxHeartbeats 4000000 in
set_option maxRecDepth 100000 in
theorem c_Run_begin (l : Launch) (D : va_G) (cI cZ cL : ClassId) (r b1 b2 b3 b4 : Nat) (sa ca ta tn : Nat → Int32) (how stat pl : Nat) (q stt dn : Nat) (kd : Nat) (x : Int32)  : pl_V l y_Run_begin b_Run_begin 4 ({ frames := 0, cells := 0, slots := 0, locals := 0 } : Room) pl_E0 D classes (TY cI cZ cL) [.ref r, .int (nI kd), .int x] [(r, .inr (4, [.ref b1, .ref b2, .ref b3, .ref b4, .int (nI how), .int (nI stat), .int (nI pl), .int (nI q), .int (nI stt), .int (nI dn)])), (b1, .inl (cI, 14, .inl sa)), (b2, .inl (cI, 8, .inl ca)), (b3, .inl (cI, 60, .inl ta)), (b4, .inl (cI, 60, .inl tn))] (fun _ : Unit => True) (fun (_ : Unit) => [(r, .inr (4, [.ref b1, .ref b2, .ref b3, .ref b4, .int (nI kd), .int (nI 1), .int (nI 0), .int (nI 0), .int (nI 0), .int (nI 0)])), (b1, .inl (cI, 14, .inl sa)), (b2, .inl (cI, 8, .inl (upd (fun _ => nI 0) 0 x))), (b3, .inl (cI, 60, .inl ta)), (b4, .inl (cI, 60, .inl tn))]) := by
  refine pl_startV (by decide) (Nat.le_of_ble_eq_true rfl) ?_
  intro p e s m args below meth c A ls X hr hlk hin hK hP hD hS hA hE hl
  have X : CallFix p m c b_Run_begin 4 s args TG R_Run := X
  have hx := X.1
  have hb := X.2.1
  have hl : lv_has ls 4 [(0, .ref r), (1, .int (nI kd)), (2, .int x)] := hl
  refine lv_aload_n hx hb d_Run_begin_0 rfl (lv_at hl 0 rfl) ?_
  refine lv_iload_n hx hb d_Run_begin_1 rfl (lv_at hl 1 rfl) ?_
  refine pl_put X fw_Run_28 fp_Run rfl hK hP hD hS 0 rfl (v := .int (nI kd)) rfl rfl (Nat.le_of_ble_eq_true rfl) d_Run_begin_2 (ws' := [(r, .inr (4, [.ref b1, .ref b2, .ref b3, .ref b4, .int (nI kd), .int (nI stat), .int (nI pl), .int (nI q), .int (nI stt), .int (nI dn)])), (b1, .inl (cI, 14, .inl sa)), (b2, .inl (cI, 8, .inl ca)), (b3, .inl (cI, 60, .inl ta)), (b4, .inl (cI, 60, .inl tn))]) rfl (fun H locs hP hD hS => ?_)
  refine lv_aload_n hx hb d_Run_begin_5 rfl (lv_at hl 0 rfl) ?_
  refine lv_iconst (v := nI 1) hx hb d_Run_begin_6 (by decide) ?_
  refine pl_put X fw_Run_24 fp_Run rfl hK hP hD hS 0 rfl (v := .int (nI 1)) rfl rfl (Nat.le_of_ble_eq_true rfl) d_Run_begin_7 (ws' := [(r, .inr (4, [.ref b1, .ref b2, .ref b3, .ref b4, .int (nI kd), .int (nI 1), .int (nI pl), .int (nI q), .int (nI stt), .int (nI dn)])), (b1, .inl (cI, 14, .inl sa)), (b2, .inl (cI, 8, .inl ca)), (b3, .inl (cI, 60, .inl ta)), (b4, .inl (cI, 60, .inl tn))]) rfl (fun H locs hP hD hS => ?_)
  refine lv_aload_n hx hb d_Run_begin_10 rfl (lv_at hl 0 rfl) ?_
  refine lv_iconst (v := nI 0) hx hb d_Run_begin_11 (by decide) ?_
  refine pl_put X fw_Run_31 fp_Run rfl hK hP hD hS 0 rfl (v := .int (nI 0)) rfl rfl (Nat.le_of_ble_eq_true rfl) d_Run_begin_12 (ws' := [(r, .inr (4, [.ref b1, .ref b2, .ref b3, .ref b4, .int (nI kd), .int (nI 1), .int (nI 0), .int (nI q), .int (nI stt), .int (nI dn)])), (b1, .inl (cI, 14, .inl sa)), (b2, .inl (cI, 8, .inl ca)), (b3, .inl (cI, 60, .inl ta)), (b4, .inl (cI, 60, .inl tn))]) rfl (fun H locs hP hD hS => ?_)
  refine lv_aload_n hx hb d_Run_begin_15 rfl (lv_at hl 0 rfl) ?_
  refine lv_iconst (v := nI 0) hx hb d_Run_begin_16 (by decide) ?_
  refine pl_put X fw_Run_34 fp_Run rfl hK hP hD hS 0 rfl (v := .int (nI 0)) rfl rfl (Nat.le_of_ble_eq_true rfl) d_Run_begin_17 (ws' := [(r, .inr (4, [.ref b1, .ref b2, .ref b3, .ref b4, .int (nI kd), .int (nI 1), .int (nI 0), .int (nI 0), .int (nI stt), .int (nI dn)])), (b1, .inl (cI, 14, .inl sa)), (b2, .inl (cI, 8, .inl ca)), (b3, .inl (cI, 60, .inl ta)), (b4, .inl (cI, 60, .inl tn))]) rfl (fun H locs hP hD hS => ?_)
  refine lv_aload_n hx hb d_Run_begin_20 rfl (lv_at hl 0 rfl) ?_
  refine lv_iconst (v := nI 0) hx hb d_Run_begin_21 (by decide) ?_
  refine pl_put X fw_Run_37 fp_Run rfl hK hP hD hS 0 rfl (v := .int (nI 0)) rfl rfl (Nat.le_of_ble_eq_true rfl) d_Run_begin_22 (ws' := [(r, .inr (4, [.ref b1, .ref b2, .ref b3, .ref b4, .int (nI kd), .int (nI 1), .int (nI 0), .int (nI 0), .int (nI 0), .int (nI dn)])), (b1, .inl (cI, 14, .inl sa)), (b2, .inl (cI, 8, .inl ca)), (b3, .inl (cI, 60, .inl ta)), (b4, .inl (cI, 60, .inl tn))]) rfl (fun H locs hP hD hS => ?_)
  refine lv_aload_n hx hb d_Run_begin_25 rfl (lv_at hl 0 rfl) ?_
  refine lv_iconst (v := nI 0) hx hb d_Run_begin_26 (by decide) ?_
  refine pl_put X fw_Run_40 fp_Run rfl hK hP hD hS 0 rfl (v := .int (nI 0)) rfl rfl (Nat.le_of_ble_eq_true rfl) d_Run_begin_27 (ws' := [(r, .inr (4, [.ref b1, .ref b2, .ref b3, .ref b4, .int (nI kd), .int (nI 1), .int (nI 0), .int (nI 0), .int (nI 0), .int (nI 0)])), (b1, .inl (cI, 14, .inl sa)), (b2, .inl (cI, 8, .inl ca)), (b3, .inl (cI, 60, .inl ta)), (b4, .inl (cI, 60, .inl tn))]) rfl (fun H locs hP hD hS => ?_)
  refine lv_iconst (v := nI 0) hx hb d_Run_begin_30 (by decide) ?_
  refine lv_istore_n hx hb d_Run_begin_31 rfl hl (by decide) (lv' := [(3, .int (nI 0)), (0, .ref r), (1, .int (nI kd)), (2, .int x)]) rfl (fun ls hl => ?_)
  have loop_32 : ∀ (k : Nat) (i : Nat) (g : Nat → Int32) (H : Heap) (locs : List Loc) (ls : Array Slot), 8 - i = k → (i ≤ 8) → (∀ j, j < i → g j = nI 0) → va_P D classes [(r, .inr (4, [.ref b1, .ref b2, .ref b3, .ref b4, .int (nI kd), .int (nI 1), .int (nI 0), .int (nI 0), .int (nI 0), .int (nI 0)])), (b1, .inl (cI, 14, .inl sa)), (b2, .inl (cI, 8, .inl g)), (b3, .inl (cI, 60, .inl ta)), (b4, .inl (cI, 60, .inl tn))] H → va_D A [(r, .inr (4, [.ref b1, .ref b2, .ref b3, .ref b4, .int (nI kd), .int (nI 1), .int (nI 0), .int (nI 0), .int (nI 0), .int (nI 0)])), (b1, .inl (cI, 14, .inl sa)), (b2, .inl (cI, 8, .inl g)), (b3, .inl (cI, 60, .inl ta)), (b4, .inl (cI, 60, .inl tn))] → va_S A s.heap H locs → lv_has ls 4 [(3, .int (nI i)), (0, .ref r), (1, .int (nI kd)), (2, .int x)] → W p l e ({ frames := 0, cells := 0, slots := 0, locals := 0 } : Room) s m args below meth c H locs 0 0 (MQ below (va_Qv (fun _ : Unit => True) (fun u => pl_out D classes (TY cI cZ cL) A ((fun (_ : Unit) => [(r, .inr (4, [.ref b1, .ref b2, .ref b3, .ref b4, .int (nI kd), .int (nI 1), .int (nI 0), .int (nI 0), .int (nI 0), .int (nI 0)])), (b1, .inl (cI, 14, .inl sa)), (b2, .inl (cI, 8, .inl (upd (fun _ => nI 0) 0 x))), (b3, .inl (cI, 60, .inl ta)), (b4, .inl (cI, 60, .inl tn))]) u)) A) args s 0 0 A) (F0 m 32 ls []) := by
    intro k
    induction k using Nat.strongRecOn with
    | _ k ih =>
    intro i g H locs ls hk hi0 hg hP hD hS hl
    refine lv_iload_n hx hb d_Run_begin_32 rfl (lv_at hl 0 rfl) ?_
    refine lv_bipush (v := nI 8) hx hb d_Run_begin_33 (by decide) ?_
    refine pl_icmp_ge X (by omega) (by decide) d_Run_begin_35 rfl (fun g35 => ?_) (fun g35 => ?_)
    · skip
      refine lv_aload_n hx hb d_Run_begin_51 rfl (lv_at hl 1 rfl) ?_
      refine pl_get X fw_Run_15 hK hP 0 rfl (v := .ref b2) rfl d_Run_begin_52 ?_
      refine lv_iconst (v := nI 0) hx hb d_Run_begin_55 (by decide) ?_
      refine lv_iload_n hx hb d_Run_begin_56 rfl (lv_at hl 3 rfl) ?_
      refine pl_iast X hK hP hD hS 2 0 rfl rfl 0 (by omega) (by decide) d_Run_begin_57 (ws' := [(r, .inr (4, [.ref b1, .ref b2, .ref b3, .ref b4, .int (nI kd), .int (nI 1), .int (nI 0), .int (nI 0), .int (nI 0), .int (nI 0)])), (b1, .inl (cI, 14, .inl sa)), (b2, .inl (cI, 8, .inl (upd g 0 x))), (b3, .inl (cI, 60, .inl ta)), (b4, .inl (cI, 60, .inl tn))]) rfl (fun H locs hP hD hS => ?_)
      have hP := pl_ext hP 2 rfl (upd (fun _ => nI 0) 0 x) (fun j hj => by by_cases q : j = 0; (rw [q, upd_s, upd_s]); (rw [upd_n q, upd_n q]; exact hg j (by omega))) (ws' := [(r, .inr (4, [.ref b1, .ref b2, .ref b3, .ref b4, .int (nI kd), .int (nI 1), .int (nI 0), .int (nI 0), .int (nI 0), .int (nI 0)])), (b1, .inl (cI, 14, .inl sa)), (b2, .inl (cI, 8, .inl (upd (fun _ => nI 0) 0 x))), (b3, .inl (cI, 60, .inl ta)), (b4, .inl (cI, 60, .inl tn))]) rfl
      have hD := pl_extD hD 2 rfl (.inl (cI, 8, .inl (upd (fun _ => nI 0) 0 x))) (ws' := [(r, .inr (4, [.ref b1, .ref b2, .ref b3, .ref b4, .int (nI kd), .int (nI 1), .int (nI 0), .int (nI 0), .int (nI 0), .int (nI 0)])), (b1, .inl (cI, 14, .inl sa)), (b2, .inl (cI, 8, .inl (upd (fun _ => nI 0) 0 x))), (b3, .inl (cI, 60, .inl ta)), (b4, .inl (cI, 60, .inl tn))]) rfl
      exact pl_vret X hr hlk hK () trivial hP hD hS d_Run_begin_58
    · skip
      refine lv_aload_n hx hb d_Run_begin_38 rfl (lv_at hl 1 rfl) ?_
      refine pl_get X fw_Run_15 hK hP 0 rfl (v := .ref b2) rfl d_Run_begin_39 ?_
      refine lv_iload_n hx hb d_Run_begin_42 rfl (lv_at hl 0 rfl) ?_
      refine lv_iconst (v := nI 0) hx hb d_Run_begin_43 (by decide) ?_
      refine pl_iast X hK hP hD hS 2 0 rfl rfl i (by omega) (by decide) d_Run_begin_44 (ws' := [(r, .inr (4, [.ref b1, .ref b2, .ref b3, .ref b4, .int (nI kd), .int (nI 1), .int (nI 0), .int (nI 0), .int (nI 0), .int (nI 0)])), (b1, .inl (cI, 14, .inl sa)), (b2, .inl (cI, 8, .inl (upd g i (nI 0)))), (b3, .inl (cI, 60, .inl ta)), (b4, .inl (cI, 60, .inl tn))]) rfl (fun H locs hP hD hS => ?_)
      refine lv_iinc hx hb d_Run_begin_45 hl (k := 0) rfl (nI_inc1 _) (by decide) (lv' := [(3, .int (nI (i + 1))), (0, .ref r), (1, .int (nI kd)), (2, .int x)]) rfl (fun ls hl => ?_)
      refine lv_goto hx hb d_Run_begin_48 rfl ?_
      exact ih _ (by omega) (i + 1) (upd g i (nI 0)) _ _ _ rfl (by omega) (fun j hj => by rcases Nat.lt_succ_iff_lt_or_eq.mp hj with q | q; (rw [upd_n (Nat.ne_of_lt q)]; exact hg j q); (rw [q]; exact upd_s)) hP hD hS hl
  exact loop_32 _ 0 ca _ _ _ rfl (Nat.zero_le _) (fun j hj => absurd hj (Nat.not_lt_zero j)) hP hD hS hl
end
section
set_option maxHeartbeats 4000000 in
set_option maxRecDepth 100000 in
theorem c_Run_advance_0 (l : Launch) (D : va_G) (cI cZ cL : ClassId) (r b1 b2 b3 b4 : Nat) (sa ca ta tn : Nat → Int32) (how stat pl : Nat) (q stt dn : Nat) (v v1 v2 M z : Nat) (P K : Nat → Int32) (h a1 a2 a3 n : Nat) (lo hi th : Nat → Int32) (hM : M < 2 ^ 31) (hp : pl < M) (ho : P pl = nI 0) (hq : q < 14) : pl_V l y_Run_advance b_Run_advance 5 ({ frames := 3, cells := 0, slots := 0, locals := 67 } : Room) pl_E0 D classes (TY cI cZ cL) [.ref r, .ref v, .ref h] [(r, .inr (4, [.ref b1, .ref b2, .ref b3, .ref b4, .int (nI how), .int (nI 1), .int (nI pl), .int (nI q), .int (nI stt), .int (nI dn)])), (b1, .inl (cI, 14, .inl sa)), (b2, .inl (cI, 8, .inl ca)), (b3, .inl (cI, 60, .inl ta)), (b4, .inl (cI, 60, .inl tn)), (v, .inr (0, [.ref v1, .ref v2, .int (nI z)])), (v1, .inl (cI, M, .inl P)), (v2, .inl (cI, M, .inl K)), (h, .inr (1, [.ref a1, .ref a2, .ref a3, .int (nI n)])), (a1, .inl (cI, 32, .inl lo)), (a2, .inl (cI, 32, .inl hi)), (a3, .inl (cI, 32, .inl th))] (fun _ : Unit => True) (fun (_ : Unit) => [(r, .inr (4, [.ref b1, .ref b2, .ref b3, .ref b4, .int (nI how), .int (nI 1), .int (nI (pl + 1)), .int (nI (q + 1)), .int (nI stt), .int (nI dn)])), (b1, .inl (cI, 14, .inl (upd sa q (K pl)))), (b2, .inl (cI, 8, .inl ca)), (b3, .inl (cI, 60, .inl ta)), (b4, .inl (cI, 60, .inl tn)), (v, .inr (0, [.ref v1, .ref v2, .int (nI z)])), (v1, .inl (cI, M, .inl P)), (v2, .inl (cI, M, .inl K)), (h, .inr (1, [.ref a1, .ref a2, .ref a3, .int (nI n)])), (a1, .inl (cI, 32, .inl lo)), (a2, .inl (cI, 32, .inl hi)), (a3, .inl (cI, 32, .inl th))]) := by
  refine pl_startV (by decide) (Nat.le_of_ble_eq_true rfl) ?_
  intro p e s m args below meth c A ls X hr hlk hin hK hP hD hS hA hE hl
  have X : CallFix p m c b_Run_advance 5 s args TG R_Run := X
  have hx := X.1
  have hb := X.2.1
  have hl : lv_has ls 5 [(0, .ref r), (1, .ref v), (2, .ref h)] := hl
  refine lv_aload_n hx hb d_Run_advance_0 rfl (lv_at hl 1 rfl) ?_
  refine pl_get X fw_Run_43 hK hP 5 rfl (v := .ref v1) rfl d_Run_advance_1 ?_
  refine lv_aload_n hx hb d_Run_advance_4 rfl (lv_at hl 0 rfl) ?_
  refine pl_get X fw_Run_31 hK hP 0 rfl (v := .int (nI pl)) rfl d_Run_advance_5 ?_
  refine pl_iald X hK hP 6 0 rfl rfl pl (by omega) (by omega) (z := nI 0) ho d_Run_advance_8 ?_
  refine lv_istore_n hx hb d_Run_advance_9 rfl hl (by decide) (lv' := [(3, .int (nI 0)), (0, .ref r), (1, .ref v), (2, .ref h)]) rfl (fun ls hl => ?_)
  refine lv_aload_n hx hb d_Run_advance_10 rfl (lv_at hl 2 rfl) ?_
  refine pl_get X fw_Run_48 hK hP 5 rfl (v := .ref v2) rfl d_Run_advance_11 ?_
  refine lv_aload_n hx hb d_Run_advance_14 rfl (lv_at hl 1 rfl) ?_
  refine pl_get X fw_Run_31 hK hP 0 rfl (v := .int (nI pl)) rfl d_Run_advance_15 ?_
  refine pl_iald X hK hP 7 0 rfl rfl pl (by omega) (by omega) (z := K pl) rfl d_Run_advance_18 ?_
  refine lv_istore hx hb d_Run_advance_19 hl (by decide) (lv' := [(4, .int (K pl)), (3, .int (nI 0)), (0, .ref r), (1, .ref v), (2, .ref h)]) rfl (fun ls hl => ?_)
  refine lv_iload_n hx hb d_Run_advance_21 rfl (lv_at hl 1 rfl) ?_
  refine lv_tableOut hx hb d_Run_advance_22 (by decide) (tgt := 112) rfl ?_
  refine lv_aload_n hx hb d_Run_advance_112 rfl (lv_at hl 2 rfl) ?_
  refine lv_iload_n hx hb d_Run_advance_113 rfl (lv_at hl 1 rfl) ?_
  refine lv_iload hx hb d_Run_advance_114 (lv_at hl 0 rfl) ?_
  refine pl_callVV X (rest := []) (As := [.int (nI 0), .int (K pl)]) (b := r) (c_Run_work_0 l D cI cZ cL r b1 b2 b3 b4 sa ca ta tn how 1 pl q stt dn (K pl) hq) ck_Run_59 pl_E0_ok trivial hK hP hD hS hA (T := F_Run) (N := N_Run) (ci := 4) rfl 0 rfl [0, 1, 2, 3, 4] [5, 6, 7, 8, 9, 10, 11] [7, 8, 9, 10, 11, 0, 1, 2, 3, 4, 5, 6] rfl (by decide) (wr := [(v, .inr (0, [.ref v1, .ref v2, .int (nI z)])), (v1, .inl (cI, M, .inl P)), (v2, .inl (cI, M, .inl K)), (h, .inr (1, [.ref a1, .ref a2, .ref a3, .int (nI n)])), (a1, .inl (cI, 32, .inl lo)), (a2, .inl (cI, 32, .inl hi)), (a3, .inl (cI, 32, .inl th))]) rfl (by decide) (by decide) (wf := fun _ => [(r, .inr (4, [.ref b1, .ref b2, .ref b3, .ref b4, .int (nI how), .int (nI 1), .int (nI pl), .int (nI (q + 1)), .int (nI stt), .int (nI dn)])), (b1, .inl (cI, 14, .inl (upd sa q (K pl)))), (b2, .inl (cI, 8, .inl ca)), (b3, .inl (cI, 60, .inl ta)), (b4, .inl (cI, 60, .inl tn)), (v, .inr (0, [.ref v1, .ref v2, .int (nI z)])), (v1, .inl (cI, M, .inl P)), (v2, .inl (cI, M, .inl K)), (h, .inr (1, [.ref a1, .ref a2, .ref a3, .int (nI n)])), (a1, .inl (cI, 32, .inl lo)), (a2, .inl (cI, 32, .inl hi)), (a3, .inl (cI, 32, .inl th))]) (fun _ => rfl) (by decide) rfl hl.1 rfl (Nat.le_of_ble_eq_true rfl) (by decide) (by decide) d_Run_advance_116 (fun u0 H locs hcq hP hD hS => ?_)
  refine lv_aload_n hx hb d_Run_advance_119 rfl (lv_at hl 2 rfl) ?_
  refine lv_dup hx hb d_Run_advance_120 rfl ?_
  refine pl_get X fw_Run_31 hK hP 0 rfl (v := .int (nI pl)) rfl d_Run_advance_121 ?_
  refine lv_iconst (v := nI 1) hx hb d_Run_advance_124 (by decide) ?_
  refine pl_iadd X d_Run_advance_125 (z := nI (pl + 1)) (nI_add _ _) ?_
  refine pl_put X fw_Run_31 fp_Run rfl hK hP hD hS 0 rfl (v := .int (nI (pl + 1))) rfl rfl (Nat.le_of_ble_eq_true rfl) d_Run_advance_126 (ws' := [(r, .inr (4, [.ref b1, .ref b2, .ref b3, .ref b4, .int (nI how), .int (nI 1), .int (nI (pl + 1)), .int (nI (q + 1)), .int (nI stt), .int (nI dn)])), (b1, .inl (cI, 14, .inl (upd sa q (K pl)))), (b2, .inl (cI, 8, .inl ca)), (b3, .inl (cI, 60, .inl ta)), (b4, .inl (cI, 60, .inl tn)), (v, .inr (0, [.ref v1, .ref v2, .int (nI z)])), (v1, .inl (cI, M, .inl P)), (v2, .inl (cI, M, .inl K)), (h, .inr (1, [.ref a1, .ref a2, .ref a3, .int (nI n)])), (a1, .inl (cI, 32, .inl lo)), (a2, .inl (cI, 32, .inl hi)), (a3, .inl (cI, 32, .inl th))]) rfl (fun H locs hP hD hS => ?_)
  exact pl_vret X hr hlk hK () trivial hP hD hS d_Run_advance_129

set_option maxHeartbeats 4000000 in
set_option maxRecDepth 100000 in
theorem c_Run_advance_1 (l : Launch) (D : va_G) (cI cZ cL : ClassId) (r b1 b2 b3 b4 : Nat) (sa ca ta tn : Nat → Int32) (how stat pl : Nat) (q stt dn : Nat) (v v1 v2 M z : Nat) (P K : Nat → Int32) (h a1 a2 a3 n : Nat) (lo hi th : Nat → Int32) (hM : M < 2 ^ 31) (hp : pl < M) (ho : P pl = nI 1)  : pl_V l y_Run_advance b_Run_advance 5 ({ frames := 3, cells := 0, slots := 0, locals := 67 } : Room) pl_E0 D classes (TY cI cZ cL) [.ref r, .ref v, .ref h] [(r, .inr (4, [.ref b1, .ref b2, .ref b3, .ref b4, .int (nI how), .int (nI 1), .int (nI pl), .int (nI (q + 1)), .int (nI stt), .int (nI dn)])), (b1, .inl (cI, 14, .inl sa)), (b2, .inl (cI, 8, .inl ca)), (b3, .inl (cI, 60, .inl ta)), (b4, .inl (cI, 60, .inl tn)), (v, .inr (0, [.ref v1, .ref v2, .int (nI z)])), (v1, .inl (cI, M, .inl P)), (v2, .inl (cI, M, .inl K)), (h, .inr (1, [.ref a1, .ref a2, .ref a3, .int (nI n)])), (a1, .inl (cI, 32, .inl lo)), (a2, .inl (cI, 32, .inl hi)), (a3, .inl (cI, 32, .inl th))] (fun _ : Unit => True) (fun (_ : Unit) => [(r, .inr (4, [.ref b1, .ref b2, .ref b3, .ref b4, .int (nI how), .int (nI 1), .int (nI (pl + 1)), .int (nI q), .int (nI stt), .int (nI dn)])), (b1, .inl (cI, 14, .inl sa)), (b2, .inl (cI, 8, .inl ca)), (b3, .inl (cI, 60, .inl ta)), (b4, .inl (cI, 60, .inl tn)), (v, .inr (0, [.ref v1, .ref v2, .int (nI z)])), (v1, .inl (cI, M, .inl P)), (v2, .inl (cI, M, .inl K)), (h, .inr (1, [.ref a1, .ref a2, .ref a3, .int (nI n)])), (a1, .inl (cI, 32, .inl lo)), (a2, .inl (cI, 32, .inl hi)), (a3, .inl (cI, 32, .inl th))]) := by
  refine pl_startV (by decide) (Nat.le_of_ble_eq_true rfl) ?_
  intro p e s m args below meth c A ls X hr hlk hin hK hP hD hS hA hE hl
  have X : CallFix p m c b_Run_advance 5 s args TG R_Run := X
  have hx := X.1
  have hb := X.2.1
  have hl : lv_has ls 5 [(0, .ref r), (1, .ref v), (2, .ref h)] := hl
  refine lv_aload_n hx hb d_Run_advance_0 rfl (lv_at hl 1 rfl) ?_
  refine pl_get X fw_Run_43 hK hP 5 rfl (v := .ref v1) rfl d_Run_advance_1 ?_
  refine lv_aload_n hx hb d_Run_advance_4 rfl (lv_at hl 0 rfl) ?_
  refine pl_get X fw_Run_31 hK hP 0 rfl (v := .int (nI pl)) rfl d_Run_advance_5 ?_
  refine pl_iald X hK hP 6 0 rfl rfl pl (by omega) (by omega) (z := nI 1) ho d_Run_advance_8 ?_
  refine lv_istore_n hx hb d_Run_advance_9 rfl hl (by decide) (lv' := [(3, .int (nI 1)), (0, .ref r), (1, .ref v), (2, .ref h)]) rfl (fun ls hl => ?_)
  refine lv_aload_n hx hb d_Run_advance_10 rfl (lv_at hl 2 rfl) ?_
  refine pl_get X fw_Run_48 hK hP 5 rfl (v := .ref v2) rfl d_Run_advance_11 ?_
  refine lv_aload_n hx hb d_Run_advance_14 rfl (lv_at hl 1 rfl) ?_
  refine pl_get X fw_Run_31 hK hP 0 rfl (v := .int (nI pl)) rfl d_Run_advance_15 ?_
  refine pl_iald X hK hP 7 0 rfl rfl pl (by omega) (by omega) (z := K pl) rfl d_Run_advance_18 ?_
  refine lv_istore hx hb d_Run_advance_19 hl (by decide) (lv' := [(4, .int (K pl)), (3, .int (nI 1)), (0, .ref r), (1, .ref v), (2, .ref h)]) rfl (fun ls hl => ?_)
  refine lv_iload_n hx hb d_Run_advance_21 rfl (lv_at hl 1 rfl) ?_
  refine lv_tableOut hx hb d_Run_advance_22 (by decide) (tgt := 112) rfl ?_
  refine lv_aload_n hx hb d_Run_advance_112 rfl (lv_at hl 2 rfl) ?_
  refine lv_iload_n hx hb d_Run_advance_113 rfl (lv_at hl 1 rfl) ?_
  refine lv_iload hx hb d_Run_advance_114 (lv_at hl 0 rfl) ?_
  refine pl_callVV X (rest := []) (As := [.int (nI 1), .int (K pl)]) (b := r) (c_Run_work_1 l D cI cZ cL r b1 b2 b3 b4 sa ca ta tn how 1 pl q stt dn (K pl) ) ck_Run_59 pl_E0_ok trivial hK hP hD hS hA (T := F_Run) (N := N_Run) (ci := 4) rfl 0 rfl [0, 1, 2, 3, 4] [5, 6, 7, 8, 9, 10, 11] [7, 8, 9, 10, 11, 0, 1, 2, 3, 4, 5, 6] rfl (by decide) (wr := [(v, .inr (0, [.ref v1, .ref v2, .int (nI z)])), (v1, .inl (cI, M, .inl P)), (v2, .inl (cI, M, .inl K)), (h, .inr (1, [.ref a1, .ref a2, .ref a3, .int (nI n)])), (a1, .inl (cI, 32, .inl lo)), (a2, .inl (cI, 32, .inl hi)), (a3, .inl (cI, 32, .inl th))]) rfl (by decide) (by decide) (wf := fun _ => [(r, .inr (4, [.ref b1, .ref b2, .ref b3, .ref b4, .int (nI how), .int (nI 1), .int (nI pl), .int (nI q), .int (nI stt), .int (nI dn)])), (b1, .inl (cI, 14, .inl sa)), (b2, .inl (cI, 8, .inl ca)), (b3, .inl (cI, 60, .inl ta)), (b4, .inl (cI, 60, .inl tn)), (v, .inr (0, [.ref v1, .ref v2, .int (nI z)])), (v1, .inl (cI, M, .inl P)), (v2, .inl (cI, M, .inl K)), (h, .inr (1, [.ref a1, .ref a2, .ref a3, .int (nI n)])), (a1, .inl (cI, 32, .inl lo)), (a2, .inl (cI, 32, .inl hi)), (a3, .inl (cI, 32, .inl th))]) (fun _ => rfl) (by decide) rfl hl.1 rfl (Nat.le_of_ble_eq_true rfl) (by decide) (by decide) d_Run_advance_116 (fun u0 H locs hcq hP hD hS => ?_)
  refine lv_aload_n hx hb d_Run_advance_119 rfl (lv_at hl 2 rfl) ?_
  refine lv_dup hx hb d_Run_advance_120 rfl ?_
  refine pl_get X fw_Run_31 hK hP 0 rfl (v := .int (nI pl)) rfl d_Run_advance_121 ?_
  refine lv_iconst (v := nI 1) hx hb d_Run_advance_124 (by decide) ?_
  refine pl_iadd X d_Run_advance_125 (z := nI (pl + 1)) (nI_add _ _) ?_
  refine pl_put X fw_Run_31 fp_Run rfl hK hP hD hS 0 rfl (v := .int (nI (pl + 1))) rfl rfl (Nat.le_of_ble_eq_true rfl) d_Run_advance_126 (ws' := [(r, .inr (4, [.ref b1, .ref b2, .ref b3, .ref b4, .int (nI how), .int (nI 1), .int (nI (pl + 1)), .int (nI q), .int (nI stt), .int (nI dn)])), (b1, .inl (cI, 14, .inl sa)), (b2, .inl (cI, 8, .inl ca)), (b3, .inl (cI, 60, .inl ta)), (b4, .inl (cI, 60, .inl tn)), (v, .inr (0, [.ref v1, .ref v2, .int (nI z)])), (v1, .inl (cI, M, .inl P)), (v2, .inl (cI, M, .inl K)), (h, .inr (1, [.ref a1, .ref a2, .ref a3, .int (nI n)])), (a1, .inl (cI, 32, .inl lo)), (a2, .inl (cI, 32, .inl hi)), (a3, .inl (cI, 32, .inl th))]) rfl (fun H locs hP hD hS => ?_)
  exact pl_vret X hr hlk hK () trivial hP hD hS d_Run_advance_129

set_option maxHeartbeats 4000000 in
set_option maxRecDepth 100000 in
theorem c_Run_advance_2 (l : Launch) (D : va_G) (cI cZ cL : ClassId) (r b1 b2 b3 b4 : Nat) (sa ca ta tn : Nat → Int32) (how stat pl : Nat) (q stt dn : Nat) (v v1 v2 M z : Nat) (P K : Nat → Int32) (h a1 a2 a3 n : Nat) (lo hi th : Nat → Int32) (hM : M < 2 ^ 31) (hp : pl < M) (ho : P pl = nI 2) (hq : q + 2 ≤ 14) : pl_V l y_Run_advance b_Run_advance 5 ({ frames := 3, cells := 0, slots := 0, locals := 67 } : Room) pl_E0 D classes (TY cI cZ cL) [.ref r, .ref v, .ref h] [(r, .inr (4, [.ref b1, .ref b2, .ref b3, .ref b4, .int (nI how), .int (nI 1), .int (nI pl), .int (nI (q + 2)), .int (nI stt), .int (nI dn)])), (b1, .inl (cI, 14, .inl sa)), (b2, .inl (cI, 8, .inl ca)), (b3, .inl (cI, 60, .inl ta)), (b4, .inl (cI, 60, .inl tn)), (v, .inr (0, [.ref v1, .ref v2, .int (nI z)])), (v1, .inl (cI, M, .inl P)), (v2, .inl (cI, M, .inl K)), (h, .inr (1, [.ref a1, .ref a2, .ref a3, .int (nI n)])), (a1, .inl (cI, 32, .inl lo)), (a2, .inl (cI, 32, .inl hi)), (a3, .inl (cI, 32, .inl th))] (fun _ : Unit => True) (fun (_ : Unit) => [(r, .inr (4, [.ref b1, .ref b2, .ref b3, .ref b4, .int (nI how), .int (nI 1), .int (nI (pl + 1)), .int (nI (q + 1)), .int (nI stt), .int (nI dn)])), (b1, .inl (cI, 14, .inl (upd sa q (sa q + sa (q + 1))))), (b2, .inl (cI, 8, .inl ca)), (b3, .inl (cI, 60, .inl ta)), (b4, .inl (cI, 60, .inl tn)), (v, .inr (0, [.ref v1, .ref v2, .int (nI z)])), (v1, .inl (cI, M, .inl P)), (v2, .inl (cI, M, .inl K)), (h, .inr (1, [.ref a1, .ref a2, .ref a3, .int (nI n)])), (a1, .inl (cI, 32, .inl lo)), (a2, .inl (cI, 32, .inl hi)), (a3, .inl (cI, 32, .inl th))]) := by
  refine pl_startV (by decide) (Nat.le_of_ble_eq_true rfl) ?_
  intro p e s m args below meth c A ls X hr hlk hin hK hP hD hS hA hE hl
  have X : CallFix p m c b_Run_advance 5 s args TG R_Run := X
  have hx := X.1
  have hb := X.2.1
  have hl : lv_has ls 5 [(0, .ref r), (1, .ref v), (2, .ref h)] := hl
  refine lv_aload_n hx hb d_Run_advance_0 rfl (lv_at hl 1 rfl) ?_
  refine pl_get X fw_Run_43 hK hP 5 rfl (v := .ref v1) rfl d_Run_advance_1 ?_
  refine lv_aload_n hx hb d_Run_advance_4 rfl (lv_at hl 0 rfl) ?_
  refine pl_get X fw_Run_31 hK hP 0 rfl (v := .int (nI pl)) rfl d_Run_advance_5 ?_
  refine pl_iald X hK hP 6 0 rfl rfl pl (by omega) (by omega) (z := nI 2) ho d_Run_advance_8 ?_
  refine lv_istore_n hx hb d_Run_advance_9 rfl hl (by decide) (lv' := [(3, .int (nI 2)), (0, .ref r), (1, .ref v), (2, .ref h)]) rfl (fun ls hl => ?_)
  refine lv_aload_n hx hb d_Run_advance_10 rfl (lv_at hl 2 rfl) ?_
  refine pl_get X fw_Run_48 hK hP 5 rfl (v := .ref v2) rfl d_Run_advance_11 ?_
  refine lv_aload_n hx hb d_Run_advance_14 rfl (lv_at hl 1 rfl) ?_
  refine pl_get X fw_Run_31 hK hP 0 rfl (v := .int (nI pl)) rfl d_Run_advance_15 ?_
  refine pl_iald X hK hP 7 0 rfl rfl pl (by omega) (by omega) (z := K pl) rfl d_Run_advance_18 ?_
  refine lv_istore hx hb d_Run_advance_19 hl (by decide) (lv' := [(4, .int (K pl)), (3, .int (nI 2)), (0, .ref r), (1, .ref v), (2, .ref h)]) rfl (fun ls hl => ?_)
  refine lv_iload_n hx hb d_Run_advance_21 rfl (lv_at hl 1 rfl) ?_
  refine lv_tableOut hx hb d_Run_advance_22 (by decide) (tgt := 112) rfl ?_
  refine lv_aload_n hx hb d_Run_advance_112 rfl (lv_at hl 2 rfl) ?_
  refine lv_iload_n hx hb d_Run_advance_113 rfl (lv_at hl 1 rfl) ?_
  refine lv_iload hx hb d_Run_advance_114 (lv_at hl 0 rfl) ?_
  refine pl_callVV X (rest := []) (As := [.int (nI 2), .int (K pl)]) (b := r) (c_Run_work_2 l D cI cZ cL r b1 b2 b3 b4 sa ca ta tn how 1 pl q stt dn (K pl) hq) ck_Run_59 pl_E0_ok trivial hK hP hD hS hA (T := F_Run) (N := N_Run) (ci := 4) rfl 0 rfl [0, 1, 2, 3, 4] [5, 6, 7, 8, 9, 10, 11] [7, 8, 9, 10, 11, 0, 1, 2, 3, 4, 5, 6] rfl (by decide) (wr := [(v, .inr (0, [.ref v1, .ref v2, .int (nI z)])), (v1, .inl (cI, M, .inl P)), (v2, .inl (cI, M, .inl K)), (h, .inr (1, [.ref a1, .ref a2, .ref a3, .int (nI n)])), (a1, .inl (cI, 32, .inl lo)), (a2, .inl (cI, 32, .inl hi)), (a3, .inl (cI, 32, .inl th))]) rfl (by decide) (by decide) (wf := fun _ => [(r, .inr (4, [.ref b1, .ref b2, .ref b3, .ref b4, .int (nI how), .int (nI 1), .int (nI pl), .int (nI (q + 1)), .int (nI stt), .int (nI dn)])), (b1, .inl (cI, 14, .inl (upd sa q (sa q + sa (q + 1))))), (b2, .inl (cI, 8, .inl ca)), (b3, .inl (cI, 60, .inl ta)), (b4, .inl (cI, 60, .inl tn)), (v, .inr (0, [.ref v1, .ref v2, .int (nI z)])), (v1, .inl (cI, M, .inl P)), (v2, .inl (cI, M, .inl K)), (h, .inr (1, [.ref a1, .ref a2, .ref a3, .int (nI n)])), (a1, .inl (cI, 32, .inl lo)), (a2, .inl (cI, 32, .inl hi)), (a3, .inl (cI, 32, .inl th))]) (fun _ => rfl) (by decide) rfl hl.1 rfl (Nat.le_of_ble_eq_true rfl) (by decide) (by decide) d_Run_advance_116 (fun u0 H locs hcq hP hD hS => ?_)
  refine lv_aload_n hx hb d_Run_advance_119 rfl (lv_at hl 2 rfl) ?_
  refine lv_dup hx hb d_Run_advance_120 rfl ?_
  refine pl_get X fw_Run_31 hK hP 0 rfl (v := .int (nI pl)) rfl d_Run_advance_121 ?_
  refine lv_iconst (v := nI 1) hx hb d_Run_advance_124 (by decide) ?_
  refine pl_iadd X d_Run_advance_125 (z := nI (pl + 1)) (nI_add _ _) ?_
  refine pl_put X fw_Run_31 fp_Run rfl hK hP hD hS 0 rfl (v := .int (nI (pl + 1))) rfl rfl (Nat.le_of_ble_eq_true rfl) d_Run_advance_126 (ws' := [(r, .inr (4, [.ref b1, .ref b2, .ref b3, .ref b4, .int (nI how), .int (nI 1), .int (nI (pl + 1)), .int (nI (q + 1)), .int (nI stt), .int (nI dn)])), (b1, .inl (cI, 14, .inl (upd sa q (sa q + sa (q + 1))))), (b2, .inl (cI, 8, .inl ca)), (b3, .inl (cI, 60, .inl ta)), (b4, .inl (cI, 60, .inl tn)), (v, .inr (0, [.ref v1, .ref v2, .int (nI z)])), (v1, .inl (cI, M, .inl P)), (v2, .inl (cI, M, .inl K)), (h, .inr (1, [.ref a1, .ref a2, .ref a3, .int (nI n)])), (a1, .inl (cI, 32, .inl lo)), (a2, .inl (cI, 32, .inl hi)), (a3, .inl (cI, 32, .inl th))]) rfl (fun H locs hP hD hS => ?_)
  exact pl_vret X hr hlk hK () trivial hP hD hS d_Run_advance_129

set_option maxHeartbeats 4000000 in
set_option maxRecDepth 100000 in
theorem c_Run_advance_3 (l : Launch) (D : va_G) (cI cZ cL : ClassId) (r b1 b2 b3 b4 : Nat) (sa ca ta tn : Nat → Int32) (how stat pl : Nat) (q stt dn : Nat) (v v1 v2 M z : Nat) (P K : Nat → Int32) (h a1 a2 a3 n : Nat) (lo hi th : Nat → Int32) (hM : M < 2 ^ 31) (hp : pl < M) (ho : P pl = nI 3) (hq : q + 2 ≤ 14) : pl_V l y_Run_advance b_Run_advance 5 ({ frames := 3, cells := 0, slots := 0, locals := 67 } : Room) pl_E0 D classes (TY cI cZ cL) [.ref r, .ref v, .ref h] [(r, .inr (4, [.ref b1, .ref b2, .ref b3, .ref b4, .int (nI how), .int (nI 1), .int (nI pl), .int (nI (q + 2)), .int (nI stt), .int (nI dn)])), (b1, .inl (cI, 14, .inl sa)), (b2, .inl (cI, 8, .inl ca)), (b3, .inl (cI, 60, .inl ta)), (b4, .inl (cI, 60, .inl tn)), (v, .inr (0, [.ref v1, .ref v2, .int (nI z)])), (v1, .inl (cI, M, .inl P)), (v2, .inl (cI, M, .inl K)), (h, .inr (1, [.ref a1, .ref a2, .ref a3, .int (nI n)])), (a1, .inl (cI, 32, .inl lo)), (a2, .inl (cI, 32, .inl hi)), (a3, .inl (cI, 32, .inl th))] (fun _ : Unit => True) (fun (_ : Unit) => [(r, .inr (4, [.ref b1, .ref b2, .ref b3, .ref b4, .int (nI how), .int (nI 1), .int (nI (pl + 1)), .int (nI (q + 1)), .int (nI stt), .int (nI dn)])), (b1, .inl (cI, 14, .inl (upd sa q (sa q - sa (q + 1))))), (b2, .inl (cI, 8, .inl ca)), (b3, .inl (cI, 60, .inl ta)), (b4, .inl (cI, 60, .inl tn)), (v, .inr (0, [.ref v1, .ref v2, .int (nI z)])), (v1, .inl (cI, M, .inl P)), (v2, .inl (cI, M, .inl K)), (h, .inr (1, [.ref a1, .ref a2, .ref a3, .int (nI n)])), (a1, .inl (cI, 32, .inl lo)), (a2, .inl (cI, 32, .inl hi)), (a3, .inl (cI, 32, .inl th))]) := by
  refine pl_startV (by decide) (Nat.le_of_ble_eq_true rfl) ?_
  intro p e s m args below meth c A ls X hr hlk hin hK hP hD hS hA hE hl
  have X : CallFix p m c b_Run_advance 5 s args TG R_Run := X
  have hx := X.1
  have hb := X.2.1
  have hl : lv_has ls 5 [(0, .ref r), (1, .ref v), (2, .ref h)] := hl
  refine lv_aload_n hx hb d_Run_advance_0 rfl (lv_at hl 1 rfl) ?_
  refine pl_get X fw_Run_43 hK hP 5 rfl (v := .ref v1) rfl d_Run_advance_1 ?_
  refine lv_aload_n hx hb d_Run_advance_4 rfl (lv_at hl 0 rfl) ?_
  refine pl_get X fw_Run_31 hK hP 0 rfl (v := .int (nI pl)) rfl d_Run_advance_5 ?_
  refine pl_iald X hK hP 6 0 rfl rfl pl (by omega) (by omega) (z := nI 3) ho d_Run_advance_8 ?_
  refine lv_istore_n hx hb d_Run_advance_9 rfl hl (by decide) (lv' := [(3, .int (nI 3)), (0, .ref r), (1, .ref v), (2, .ref h)]) rfl (fun ls hl => ?_)
  refine lv_aload_n hx hb d_Run_advance_10 rfl (lv_at hl 2 rfl) ?_
  refine pl_get X fw_Run_48 hK hP 5 rfl (v := .ref v2) rfl d_Run_advance_11 ?_
  refine lv_aload_n hx hb d_Run_advance_14 rfl (lv_at hl 1 rfl) ?_
  refine pl_get X fw_Run_31 hK hP 0 rfl (v := .int (nI pl)) rfl d_Run_advance_15 ?_
  refine pl_iald X hK hP 7 0 rfl rfl pl (by omega) (by omega) (z := K pl) rfl d_Run_advance_18 ?_
  refine lv_istore hx hb d_Run_advance_19 hl (by decide) (lv' := [(4, .int (K pl)), (3, .int (nI 3)), (0, .ref r), (1, .ref v), (2, .ref h)]) rfl (fun ls hl => ?_)
  refine lv_iload_n hx hb d_Run_advance_21 rfl (lv_at hl 1 rfl) ?_
  refine lv_tableOut hx hb d_Run_advance_22 (by decide) (tgt := 112) rfl ?_
  refine lv_aload_n hx hb d_Run_advance_112 rfl (lv_at hl 2 rfl) ?_
  refine lv_iload_n hx hb d_Run_advance_113 rfl (lv_at hl 1 rfl) ?_
  refine lv_iload hx hb d_Run_advance_114 (lv_at hl 0 rfl) ?_
  refine pl_callVV X (rest := []) (As := [.int (nI 3), .int (K pl)]) (b := r) (c_Run_work_3 l D cI cZ cL r b1 b2 b3 b4 sa ca ta tn how 1 pl q stt dn (K pl) hq) ck_Run_59 pl_E0_ok trivial hK hP hD hS hA (T := F_Run) (N := N_Run) (ci := 4) rfl 0 rfl [0, 1, 2, 3, 4] [5, 6, 7, 8, 9, 10, 11] [7, 8, 9, 10, 11, 0, 1, 2, 3, 4, 5, 6] rfl (by decide) (wr := [(v, .inr (0, [.ref v1, .ref v2, .int (nI z)])), (v1, .inl (cI, M, .inl P)), (v2, .inl (cI, M, .inl K)), (h, .inr (1, [.ref a1, .ref a2, .ref a3, .int (nI n)])), (a1, .inl (cI, 32, .inl lo)), (a2, .inl (cI, 32, .inl hi)), (a3, .inl (cI, 32, .inl th))]) rfl (by decide) (by decide) (wf := fun _ => [(r, .inr (4, [.ref b1, .ref b2, .ref b3, .ref b4, .int (nI how), .int (nI 1), .int (nI pl), .int (nI (q + 1)), .int (nI stt), .int (nI dn)])), (b1, .inl (cI, 14, .inl (upd sa q (sa q - sa (q + 1))))), (b2, .inl (cI, 8, .inl ca)), (b3, .inl (cI, 60, .inl ta)), (b4, .inl (cI, 60, .inl tn)), (v, .inr (0, [.ref v1, .ref v2, .int (nI z)])), (v1, .inl (cI, M, .inl P)), (v2, .inl (cI, M, .inl K)), (h, .inr (1, [.ref a1, .ref a2, .ref a3, .int (nI n)])), (a1, .inl (cI, 32, .inl lo)), (a2, .inl (cI, 32, .inl hi)), (a3, .inl (cI, 32, .inl th))]) (fun _ => rfl) (by decide) rfl hl.1 rfl (Nat.le_of_ble_eq_true rfl) (by decide) (by decide) d_Run_advance_116 (fun u0 H locs hcq hP hD hS => ?_)
  refine lv_aload_n hx hb d_Run_advance_119 rfl (lv_at hl 2 rfl) ?_
  refine lv_dup hx hb d_Run_advance_120 rfl ?_
  refine pl_get X fw_Run_31 hK hP 0 rfl (v := .int (nI pl)) rfl d_Run_advance_121 ?_
  refine lv_iconst (v := nI 1) hx hb d_Run_advance_124 (by decide) ?_
  refine pl_iadd X d_Run_advance_125 (z := nI (pl + 1)) (nI_add _ _) ?_
  refine pl_put X fw_Run_31 fp_Run rfl hK hP hD hS 0 rfl (v := .int (nI (pl + 1))) rfl rfl (Nat.le_of_ble_eq_true rfl) d_Run_advance_126 (ws' := [(r, .inr (4, [.ref b1, .ref b2, .ref b3, .ref b4, .int (nI how), .int (nI 1), .int (nI (pl + 1)), .int (nI (q + 1)), .int (nI stt), .int (nI dn)])), (b1, .inl (cI, 14, .inl (upd sa q (sa q - sa (q + 1))))), (b2, .inl (cI, 8, .inl ca)), (b3, .inl (cI, 60, .inl ta)), (b4, .inl (cI, 60, .inl tn)), (v, .inr (0, [.ref v1, .ref v2, .int (nI z)])), (v1, .inl (cI, M, .inl P)), (v2, .inl (cI, M, .inl K)), (h, .inr (1, [.ref a1, .ref a2, .ref a3, .int (nI n)])), (a1, .inl (cI, 32, .inl lo)), (a2, .inl (cI, 32, .inl hi)), (a3, .inl (cI, 32, .inl th))]) rfl (fun H locs hP hD hS => ?_)
  exact pl_vret X hr hlk hK () trivial hP hD hS d_Run_advance_129

set_option maxHeartbeats 4000000 in
set_option maxRecDepth 100000 in
theorem c_Run_advance_4 (l : Launch) (D : va_G) (cI cZ cL : ClassId) (r b1 b2 b3 b4 : Nat) (sa ca ta tn : Nat → Int32) (how stat pl : Nat) (q stt dn : Nat) (v v1 v2 M z : Nat) (P K : Nat → Int32) (h a1 a2 a3 n : Nat) (lo hi th : Nat → Int32) (hM : M < 2 ^ 31) (hp : pl < M) (ho : P pl = nI 4) (hq : q + 2 ≤ 14) : pl_V l y_Run_advance b_Run_advance 5 ({ frames := 3, cells := 0, slots := 0, locals := 67 } : Room) pl_E0 D classes (TY cI cZ cL) [.ref r, .ref v, .ref h] [(r, .inr (4, [.ref b1, .ref b2, .ref b3, .ref b4, .int (nI how), .int (nI 1), .int (nI pl), .int (nI (q + 2)), .int (nI stt), .int (nI dn)])), (b1, .inl (cI, 14, .inl sa)), (b2, .inl (cI, 8, .inl ca)), (b3, .inl (cI, 60, .inl ta)), (b4, .inl (cI, 60, .inl tn)), (v, .inr (0, [.ref v1, .ref v2, .int (nI z)])), (v1, .inl (cI, M, .inl P)), (v2, .inl (cI, M, .inl K)), (h, .inr (1, [.ref a1, .ref a2, .ref a3, .int (nI n)])), (a1, .inl (cI, 32, .inl lo)), (a2, .inl (cI, 32, .inl hi)), (a3, .inl (cI, 32, .inl th))] (fun _ : Unit => True) (fun (_ : Unit) => [(r, .inr (4, [.ref b1, .ref b2, .ref b3, .ref b4, .int (nI how), .int (nI 1), .int (nI (pl + 1)), .int (nI (q + 1)), .int (nI stt), .int (nI dn)])), (b1, .inl (cI, 14, .inl (upd sa q (if sa q < sa (q + 1) then 1 else 0)))), (b2, .inl (cI, 8, .inl ca)), (b3, .inl (cI, 60, .inl ta)), (b4, .inl (cI, 60, .inl tn)), (v, .inr (0, [.ref v1, .ref v2, .int (nI z)])), (v1, .inl (cI, M, .inl P)), (v2, .inl (cI, M, .inl K)), (h, .inr (1, [.ref a1, .ref a2, .ref a3, .int (nI n)])), (a1, .inl (cI, 32, .inl lo)), (a2, .inl (cI, 32, .inl hi)), (a3, .inl (cI, 32, .inl th))]) := by
  refine pl_startV (by decide) (Nat.le_of_ble_eq_true rfl) ?_
  intro p e s m args below meth c A ls X hr hlk hin hK hP hD hS hA hE hl
  have X : CallFix p m c b_Run_advance 5 s args TG R_Run := X
  have hx := X.1
  have hb := X.2.1
  have hl : lv_has ls 5 [(0, .ref r), (1, .ref v), (2, .ref h)] := hl
  refine lv_aload_n hx hb d_Run_advance_0 rfl (lv_at hl 1 rfl) ?_
  refine pl_get X fw_Run_43 hK hP 5 rfl (v := .ref v1) rfl d_Run_advance_1 ?_
  refine lv_aload_n hx hb d_Run_advance_4 rfl (lv_at hl 0 rfl) ?_
  refine pl_get X fw_Run_31 hK hP 0 rfl (v := .int (nI pl)) rfl d_Run_advance_5 ?_
  refine pl_iald X hK hP 6 0 rfl rfl pl (by omega) (by omega) (z := nI 4) ho d_Run_advance_8 ?_
  refine lv_istore_n hx hb d_Run_advance_9 rfl hl (by decide) (lv' := [(3, .int (nI 4)), (0, .ref r), (1, .ref v), (2, .ref h)]) rfl (fun ls hl => ?_)
  refine lv_aload_n hx hb d_Run_advance_10 rfl (lv_at hl 2 rfl) ?_
  refine pl_get X fw_Run_48 hK hP 5 rfl (v := .ref v2) rfl d_Run_advance_11 ?_
  refine lv_aload_n hx hb d_Run_advance_14 rfl (lv_at hl 1 rfl) ?_
  refine pl_get X fw_Run_31 hK hP 0 rfl (v := .int (nI pl)) rfl d_Run_advance_15 ?_
  refine pl_iald X hK hP 7 0 rfl rfl pl (by omega) (by omega) (z := K pl) rfl d_Run_advance_18 ?_
  refine lv_istore hx hb d_Run_advance_19 hl (by decide) (lv' := [(4, .int (K pl)), (3, .int (nI 4)), (0, .ref r), (1, .ref v), (2, .ref h)]) rfl (fun ls hl => ?_)
  refine lv_iload_n hx hb d_Run_advance_21 rfl (lv_at hl 1 rfl) ?_
  refine lv_tableOut hx hb d_Run_advance_22 (by decide) (tgt := 112) rfl ?_
  refine lv_aload_n hx hb d_Run_advance_112 rfl (lv_at hl 2 rfl) ?_
  refine lv_iload_n hx hb d_Run_advance_113 rfl (lv_at hl 1 rfl) ?_
  refine lv_iload hx hb d_Run_advance_114 (lv_at hl 0 rfl) ?_
  refine pl_callVV X (rest := []) (As := [.int (nI 4), .int (K pl)]) (b := r) (c_Run_work_4 l D cI cZ cL r b1 b2 b3 b4 sa ca ta tn how 1 pl q stt dn (K pl) hq) ck_Run_59 pl_E0_ok trivial hK hP hD hS hA (T := F_Run) (N := N_Run) (ci := 4) rfl 0 rfl [0, 1, 2, 3, 4] [5, 6, 7, 8, 9, 10, 11] [7, 8, 9, 10, 11, 0, 1, 2, 3, 4, 5, 6] rfl (by decide) (wr := [(v, .inr (0, [.ref v1, .ref v2, .int (nI z)])), (v1, .inl (cI, M, .inl P)), (v2, .inl (cI, M, .inl K)), (h, .inr (1, [.ref a1, .ref a2, .ref a3, .int (nI n)])), (a1, .inl (cI, 32, .inl lo)), (a2, .inl (cI, 32, .inl hi)), (a3, .inl (cI, 32, .inl th))]) rfl (by decide) (by decide) (wf := fun _ => [(r, .inr (4, [.ref b1, .ref b2, .ref b3, .ref b4, .int (nI how), .int (nI 1), .int (nI pl), .int (nI (q + 1)), .int (nI stt), .int (nI dn)])), (b1, .inl (cI, 14, .inl (upd sa q (if sa q < sa (q + 1) then 1 else 0)))), (b2, .inl (cI, 8, .inl ca)), (b3, .inl (cI, 60, .inl ta)), (b4, .inl (cI, 60, .inl tn)), (v, .inr (0, [.ref v1, .ref v2, .int (nI z)])), (v1, .inl (cI, M, .inl P)), (v2, .inl (cI, M, .inl K)), (h, .inr (1, [.ref a1, .ref a2, .ref a3, .int (nI n)])), (a1, .inl (cI, 32, .inl lo)), (a2, .inl (cI, 32, .inl hi)), (a3, .inl (cI, 32, .inl th))]) (fun _ => rfl) (by decide) rfl hl.1 rfl (Nat.le_of_ble_eq_true rfl) (by decide) (by decide) d_Run_advance_116 (fun u0 H locs hcq hP hD hS => ?_)
  refine lv_aload_n hx hb d_Run_advance_119 rfl (lv_at hl 2 rfl) ?_
  refine lv_dup hx hb d_Run_advance_120 rfl ?_
  refine pl_get X fw_Run_31 hK hP 0 rfl (v := .int (nI pl)) rfl d_Run_advance_121 ?_
  refine lv_iconst (v := nI 1) hx hb d_Run_advance_124 (by decide) ?_
  refine pl_iadd X d_Run_advance_125 (z := nI (pl + 1)) (nI_add _ _) ?_
  refine pl_put X fw_Run_31 fp_Run rfl hK hP hD hS 0 rfl (v := .int (nI (pl + 1))) rfl rfl (Nat.le_of_ble_eq_true rfl) d_Run_advance_126 (ws' := [(r, .inr (4, [.ref b1, .ref b2, .ref b3, .ref b4, .int (nI how), .int (nI 1), .int (nI (pl + 1)), .int (nI (q + 1)), .int (nI stt), .int (nI dn)])), (b1, .inl (cI, 14, .inl (upd sa q (if sa q < sa (q + 1) then 1 else 0)))), (b2, .inl (cI, 8, .inl ca)), (b3, .inl (cI, 60, .inl ta)), (b4, .inl (cI, 60, .inl tn)), (v, .inr (0, [.ref v1, .ref v2, .int (nI z)])), (v1, .inl (cI, M, .inl P)), (v2, .inl (cI, M, .inl K)), (h, .inr (1, [.ref a1, .ref a2, .ref a3, .int (nI n)])), (a1, .inl (cI, 32, .inl lo)), (a2, .inl (cI, 32, .inl hi)), (a3, .inl (cI, 32, .inl th))]) rfl (fun H locs hP hD hS => ?_)
  exact pl_vret X hr hlk hK () trivial hP hD hS d_Run_advance_129

set_option maxHeartbeats 4000000 in
set_option maxRecDepth 100000 in
theorem c_Run_advance_5 (l : Launch) (D : va_G) (cI cZ cL : ClassId) (r b1 b2 b3 b4 : Nat) (sa ca ta tn : Nat → Int32) (how stat pl : Nat) (q stt dn : Nat) (v v1 v2 M z : Nat) (P K : Nat → Int32) (h a1 a2 a3 n : Nat) (lo hi th : Nat → Int32) (j : Nat) (hM : M < 2 ^ 31) (hp : pl < M) (ho : P pl = nI 5) (hq : q < 14) (hj : j < 8) (hk : K pl = nI j) : pl_V l y_Run_advance b_Run_advance 5 ({ frames := 3, cells := 0, slots := 0, locals := 67 } : Room) pl_E0 D classes (TY cI cZ cL) [.ref r, .ref v, .ref h] [(r, .inr (4, [.ref b1, .ref b2, .ref b3, .ref b4, .int (nI how), .int (nI 1), .int (nI pl), .int (nI q), .int (nI stt), .int (nI dn)])), (b1, .inl (cI, 14, .inl sa)), (b2, .inl (cI, 8, .inl ca)), (b3, .inl (cI, 60, .inl ta)), (b4, .inl (cI, 60, .inl tn)), (v, .inr (0, [.ref v1, .ref v2, .int (nI z)])), (v1, .inl (cI, M, .inl P)), (v2, .inl (cI, M, .inl K)), (h, .inr (1, [.ref a1, .ref a2, .ref a3, .int (nI n)])), (a1, .inl (cI, 32, .inl lo)), (a2, .inl (cI, 32, .inl hi)), (a3, .inl (cI, 32, .inl th))] (fun _ : Unit => True) (fun (_ : Unit) => [(r, .inr (4, [.ref b1, .ref b2, .ref b3, .ref b4, .int (nI how), .int (nI 1), .int (nI (pl + 1)), .int (nI (q + 1)), .int (nI stt), .int (nI dn)])), (b1, .inl (cI, 14, .inl (upd sa q (ca j)))), (b2, .inl (cI, 8, .inl ca)), (b3, .inl (cI, 60, .inl ta)), (b4, .inl (cI, 60, .inl tn)), (v, .inr (0, [.ref v1, .ref v2, .int (nI z)])), (v1, .inl (cI, M, .inl P)), (v2, .inl (cI, M, .inl K)), (h, .inr (1, [.ref a1, .ref a2, .ref a3, .int (nI n)])), (a1, .inl (cI, 32, .inl lo)), (a2, .inl (cI, 32, .inl hi)), (a3, .inl (cI, 32, .inl th))]) := by
  refine pl_startV (by decide) (Nat.le_of_ble_eq_true rfl) ?_
  intro p e s m args below meth c A ls X hr hlk hin hK hP hD hS hA hE hl
  have X : CallFix p m c b_Run_advance 5 s args TG R_Run := X
  have hx := X.1
  have hb := X.2.1
  have hl : lv_has ls 5 [(0, .ref r), (1, .ref v), (2, .ref h)] := hl
  refine lv_aload_n hx hb d_Run_advance_0 rfl (lv_at hl 1 rfl) ?_
  refine pl_get X fw_Run_43 hK hP 5 rfl (v := .ref v1) rfl d_Run_advance_1 ?_
  refine lv_aload_n hx hb d_Run_advance_4 rfl (lv_at hl 0 rfl) ?_
  refine pl_get X fw_Run_31 hK hP 0 rfl (v := .int (nI pl)) rfl d_Run_advance_5 ?_
  refine pl_iald X hK hP 6 0 rfl rfl pl (by omega) (by omega) (z := nI 5) ho d_Run_advance_8 ?_
  refine lv_istore_n hx hb d_Run_advance_9 rfl hl (by decide) (lv' := [(3, .int (nI 5)), (0, .ref r), (1, .ref v), (2, .ref h)]) rfl (fun ls hl => ?_)
  refine lv_aload_n hx hb d_Run_advance_10 rfl (lv_at hl 2 rfl) ?_
  refine pl_get X fw_Run_48 hK hP 5 rfl (v := .ref v2) rfl d_Run_advance_11 ?_
  refine lv_aload_n hx hb d_Run_advance_14 rfl (lv_at hl 1 rfl) ?_
  refine pl_get X fw_Run_31 hK hP 0 rfl (v := .int (nI pl)) rfl d_Run_advance_15 ?_
  refine pl_iald X hK hP 7 0 rfl rfl pl (by omega) (by omega) (z := nI j) hk d_Run_advance_18 ?_
  refine lv_istore hx hb d_Run_advance_19 hl (by decide) (lv' := [(4, .int (nI j)), (3, .int (nI 5)), (0, .ref r), (1, .ref v), (2, .ref h)]) rfl (fun ls hl => ?_)
  refine lv_iload_n hx hb d_Run_advance_21 rfl (lv_at hl 1 rfl) ?_
  refine lv_tableOut hx hb d_Run_advance_22 (by decide) (tgt := 112) rfl ?_
  refine lv_aload_n hx hb d_Run_advance_112 rfl (lv_at hl 2 rfl) ?_
  refine lv_iload_n hx hb d_Run_advance_113 rfl (lv_at hl 1 rfl) ?_
  refine lv_iload hx hb d_Run_advance_114 (lv_at hl 0 rfl) ?_
  refine pl_callVV X (rest := []) (As := [.int (nI 5), .int (nI j)]) (b := r) (c_Run_work_5 l D cI cZ cL r b1 b2 b3 b4 sa ca ta tn how 1 pl q stt dn j hq hj) ck_Run_59 pl_E0_ok trivial hK hP hD hS hA (T := F_Run) (N := N_Run) (ci := 4) rfl 0 rfl [0, 1, 2, 3, 4] [5, 6, 7, 8, 9, 10, 11] [7, 8, 9, 10, 11, 0, 1, 2, 3, 4, 5, 6] rfl (by decide) (wr := [(v, .inr (0, [.ref v1, .ref v2, .int (nI z)])), (v1, .inl (cI, M, .inl P)), (v2, .inl (cI, M, .inl K)), (h, .inr (1, [.ref a1, .ref a2, .ref a3, .int (nI n)])), (a1, .inl (cI, 32, .inl lo)), (a2, .inl (cI, 32, .inl hi)), (a3, .inl (cI, 32, .inl th))]) rfl (by decide) (by decide) (wf := fun _ => [(r, .inr (4, [.ref b1, .ref b2, .ref b3, .ref b4, .int (nI how), .int (nI 1), .int (nI pl), .int (nI (q + 1)), .int (nI stt), .int (nI dn)])), (b1, .inl (cI, 14, .inl (upd sa q (ca j)))), (b2, .inl (cI, 8, .inl ca)), (b3, .inl (cI, 60, .inl ta)), (b4, .inl (cI, 60, .inl tn)), (v, .inr (0, [.ref v1, .ref v2, .int (nI z)])), (v1, .inl (cI, M, .inl P)), (v2, .inl (cI, M, .inl K)), (h, .inr (1, [.ref a1, .ref a2, .ref a3, .int (nI n)])), (a1, .inl (cI, 32, .inl lo)), (a2, .inl (cI, 32, .inl hi)), (a3, .inl (cI, 32, .inl th))]) (fun _ => rfl) (by decide) rfl hl.1 rfl (Nat.le_of_ble_eq_true rfl) (by decide) (by decide) d_Run_advance_116 (fun u0 H locs hcq hP hD hS => ?_)
  refine lv_aload_n hx hb d_Run_advance_119 rfl (lv_at hl 2 rfl) ?_
  refine lv_dup hx hb d_Run_advance_120 rfl ?_
  refine pl_get X fw_Run_31 hK hP 0 rfl (v := .int (nI pl)) rfl d_Run_advance_121 ?_
  refine lv_iconst (v := nI 1) hx hb d_Run_advance_124 (by decide) ?_
  refine pl_iadd X d_Run_advance_125 (z := nI (pl + 1)) (nI_add _ _) ?_
  refine pl_put X fw_Run_31 fp_Run rfl hK hP hD hS 0 rfl (v := .int (nI (pl + 1))) rfl rfl (Nat.le_of_ble_eq_true rfl) d_Run_advance_126 (ws' := [(r, .inr (4, [.ref b1, .ref b2, .ref b3, .ref b4, .int (nI how), .int (nI 1), .int (nI (pl + 1)), .int (nI (q + 1)), .int (nI stt), .int (nI dn)])), (b1, .inl (cI, 14, .inl (upd sa q (ca j)))), (b2, .inl (cI, 8, .inl ca)), (b3, .inl (cI, 60, .inl ta)), (b4, .inl (cI, 60, .inl tn)), (v, .inr (0, [.ref v1, .ref v2, .int (nI z)])), (v1, .inl (cI, M, .inl P)), (v2, .inl (cI, M, .inl K)), (h, .inr (1, [.ref a1, .ref a2, .ref a3, .int (nI n)])), (a1, .inl (cI, 32, .inl lo)), (a2, .inl (cI, 32, .inl hi)), (a3, .inl (cI, 32, .inl th))]) rfl (fun H locs hP hD hS => ?_)
  exact pl_vret X hr hlk hK () trivial hP hD hS d_Run_advance_129

set_option maxHeartbeats 4000000 in
set_option maxRecDepth 100000 in
theorem c_Run_advance_6 (l : Launch) (D : va_G) (cI cZ cL : ClassId) (r b1 b2 b3 b4 : Nat) (sa ca ta tn : Nat → Int32) (how stat pl : Nat) (q stt dn : Nat) (v v1 v2 M z : Nat) (P K : Nat → Int32) (h a1 a2 a3 n : Nat) (lo hi th : Nat → Int32) (j : Nat) (hM : M < 2 ^ 31) (hp : pl < M) (ho : P pl = nI 6) (hq : q < 14) (hj : j < 8) (hk : K pl = nI j) : pl_V l y_Run_advance b_Run_advance 5 ({ frames := 3, cells := 0, slots := 0, locals := 67 } : Room) pl_E0 D classes (TY cI cZ cL) [.ref r, .ref v, .ref h] [(r, .inr (4, [.ref b1, .ref b2, .ref b3, .ref b4, .int (nI how), .int (nI 1), .int (nI pl), .int (nI (q + 1)), .int (nI stt), .int (nI dn)])), (b1, .inl (cI, 14, .inl sa)), (b2, .inl (cI, 8, .inl ca)), (b3, .inl (cI, 60, .inl ta)), (b4, .inl (cI, 60, .inl tn)), (v, .inr (0, [.ref v1, .ref v2, .int (nI z)])), (v1, .inl (cI, M, .inl P)), (v2, .inl (cI, M, .inl K)), (h, .inr (1, [.ref a1, .ref a2, .ref a3, .int (nI n)])), (a1, .inl (cI, 32, .inl lo)), (a2, .inl (cI, 32, .inl hi)), (a3, .inl (cI, 32, .inl th))] (fun _ : Unit => True) (fun (_ : Unit) => [(r, .inr (4, [.ref b1, .ref b2, .ref b3, .ref b4, .int (nI how), .int (nI 1), .int (nI (pl + 1)), .int (nI q), .int (nI stt), .int (nI dn)])), (b1, .inl (cI, 14, .inl sa)), (b2, .inl (cI, 8, .inl (upd ca j (sa q)))), (b3, .inl (cI, 60, .inl ta)), (b4, .inl (cI, 60, .inl tn)), (v, .inr (0, [.ref v1, .ref v2, .int (nI z)])), (v1, .inl (cI, M, .inl P)), (v2, .inl (cI, M, .inl K)), (h, .inr (1, [.ref a1, .ref a2, .ref a3, .int (nI n)])), (a1, .inl (cI, 32, .inl lo)), (a2, .inl (cI, 32, .inl hi)), (a3, .inl (cI, 32, .inl th))]) := by
  refine pl_startV (by decide) (Nat.le_of_ble_eq_true rfl) ?_
  intro p e s m args below meth c A ls X hr hlk hin hK hP hD hS hA hE hl
  have X : CallFix p m c b_Run_advance 5 s args TG R_Run := X
  have hx := X.1
  have hb := X.2.1
  have hl : lv_has ls 5 [(0, .ref r), (1, .ref v), (2, .ref h)] := hl
  refine lv_aload_n hx hb d_Run_advance_0 rfl (lv_at hl 1 rfl) ?_
  refine pl_get X fw_Run_43 hK hP 5 rfl (v := .ref v1) rfl d_Run_advance_1 ?_
  refine lv_aload_n hx hb d_Run_advance_4 rfl (lv_at hl 0 rfl) ?_
  refine pl_get X fw_Run_31 hK hP 0 rfl (v := .int (nI pl)) rfl d_Run_advance_5 ?_
  refine pl_iald X hK hP 6 0 rfl rfl pl (by omega) (by omega) (z := nI 6) ho d_Run_advance_8 ?_
  refine lv_istore_n hx hb d_Run_advance_9 rfl hl (by decide) (lv' := [(3, .int (nI 6)), (0, .ref r), (1, .ref v), (2, .ref h)]) rfl (fun ls hl => ?_)
  refine lv_aload_n hx hb d_Run_advance_10 rfl (lv_at hl 2 rfl) ?_
  refine pl_get X fw_Run_48 hK hP 5 rfl (v := .ref v2) rfl d_Run_advance_11 ?_
  refine lv_aload_n hx hb d_Run_advance_14 rfl (lv_at hl 1 rfl) ?_
  refine pl_get X fw_Run_31 hK hP 0 rfl (v := .int (nI pl)) rfl d_Run_advance_15 ?_
  refine pl_iald X hK hP 7 0 rfl rfl pl (by omega) (by omega) (z := nI j) hk d_Run_advance_18 ?_
  refine lv_istore hx hb d_Run_advance_19 hl (by decide) (lv' := [(4, .int (nI j)), (3, .int (nI 6)), (0, .ref r), (1, .ref v), (2, .ref h)]) rfl (fun ls hl => ?_)
  refine lv_iload_n hx hb d_Run_advance_21 rfl (lv_at hl 1 rfl) ?_
  refine lv_tableOut hx hb d_Run_advance_22 (by decide) (tgt := 112) rfl ?_
  refine lv_aload_n hx hb d_Run_advance_112 rfl (lv_at hl 2 rfl) ?_
  refine lv_iload_n hx hb d_Run_advance_113 rfl (lv_at hl 1 rfl) ?_
  refine lv_iload hx hb d_Run_advance_114 (lv_at hl 0 rfl) ?_
  refine pl_callVV X (rest := []) (As := [.int (nI 6), .int (nI j)]) (b := r) (c_Run_work_6 l D cI cZ cL r b1 b2 b3 b4 sa ca ta tn how 1 pl q stt dn j hq hj) ck_Run_59 pl_E0_ok trivial hK hP hD hS hA (T := F_Run) (N := N_Run) (ci := 4) rfl 0 rfl [0, 1, 2, 3, 4] [5, 6, 7, 8, 9, 10, 11] [7, 8, 9, 10, 11, 0, 1, 2, 3, 4, 5, 6] rfl (by decide) (wr := [(v, .inr (0, [.ref v1, .ref v2, .int (nI z)])), (v1, .inl (cI, M, .inl P)), (v2, .inl (cI, M, .inl K)), (h, .inr (1, [.ref a1, .ref a2, .ref a3, .int (nI n)])), (a1, .inl (cI, 32, .inl lo)), (a2, .inl (cI, 32, .inl hi)), (a3, .inl (cI, 32, .inl th))]) rfl (by decide) (by decide) (wf := fun _ => [(r, .inr (4, [.ref b1, .ref b2, .ref b3, .ref b4, .int (nI how), .int (nI 1), .int (nI pl), .int (nI q), .int (nI stt), .int (nI dn)])), (b1, .inl (cI, 14, .inl sa)), (b2, .inl (cI, 8, .inl (upd ca j (sa q)))), (b3, .inl (cI, 60, .inl ta)), (b4, .inl (cI, 60, .inl tn)), (v, .inr (0, [.ref v1, .ref v2, .int (nI z)])), (v1, .inl (cI, M, .inl P)), (v2, .inl (cI, M, .inl K)), (h, .inr (1, [.ref a1, .ref a2, .ref a3, .int (nI n)])), (a1, .inl (cI, 32, .inl lo)), (a2, .inl (cI, 32, .inl hi)), (a3, .inl (cI, 32, .inl th))]) (fun _ => rfl) (by decide) rfl hl.1 rfl (Nat.le_of_ble_eq_true rfl) (by decide) (by decide) d_Run_advance_116 (fun u0 H locs hcq hP hD hS => ?_)
  refine lv_aload_n hx hb d_Run_advance_119 rfl (lv_at hl 2 rfl) ?_
  refine lv_dup hx hb d_Run_advance_120 rfl ?_
  refine pl_get X fw_Run_31 hK hP 0 rfl (v := .int (nI pl)) rfl d_Run_advance_121 ?_
  refine lv_iconst (v := nI 1) hx hb d_Run_advance_124 (by decide) ?_
  refine pl_iadd X d_Run_advance_125 (z := nI (pl + 1)) (nI_add _ _) ?_
  refine pl_put X fw_Run_31 fp_Run rfl hK hP hD hS 0 rfl (v := .int (nI (pl + 1))) rfl rfl (Nat.le_of_ble_eq_true rfl) d_Run_advance_126 (ws' := [(r, .inr (4, [.ref b1, .ref b2, .ref b3, .ref b4, .int (nI how), .int (nI 1), .int (nI (pl + 1)), .int (nI q), .int (nI stt), .int (nI dn)])), (b1, .inl (cI, 14, .inl sa)), (b2, .inl (cI, 8, .inl (upd ca j (sa q)))), (b3, .inl (cI, 60, .inl ta)), (b4, .inl (cI, 60, .inl tn)), (v, .inr (0, [.ref v1, .ref v2, .int (nI z)])), (v1, .inl (cI, M, .inl P)), (v2, .inl (cI, M, .inl K)), (h, .inr (1, [.ref a1, .ref a2, .ref a3, .int (nI n)])), (a1, .inl (cI, 32, .inl lo)), (a2, .inl (cI, 32, .inl hi)), (a3, .inl (cI, 32, .inl th))]) rfl (fun H locs hP hD hS => ?_)
  exact pl_vret X hr hlk hK () trivial hP hD hS d_Run_advance_129

set_option maxHeartbeats 4000000 in
set_option maxRecDepth 100000 in
theorem c_Run_advance_10 (l : Launch) (D : va_G) (cI cZ cL : ClassId) (r b1 b2 b3 b4 : Nat) (sa ca ta tn : Nat → Int32) (how stat pl : Nat) (q stt dn : Nat) (v v1 v2 M z : Nat) (P K : Nat → Int32) (h a1 a2 a3 n : Nat) (lo hi th : Nat → Int32) (hM : M < 2 ^ 31) (hp : pl < M) (ho : P pl = nI 10) (hq : q + 2 ≤ 14) : pl_V l y_Run_advance b_Run_advance 5 ({ frames := 3, cells := 0, slots := 0, locals := 67 } : Room) pl_E0 D classes (TY cI cZ cL) [.ref r, .ref v, .ref h] [(r, .inr (4, [.ref b1, .ref b2, .ref b3, .ref b4, .int (nI how), .int (nI 1), .int (nI pl), .int (nI (q + 2)), .int (nI stt), .int (nI dn)])), (b1, .inl (cI, 14, .inl sa)), (b2, .inl (cI, 8, .inl ca)), (b3, .inl (cI, 60, .inl ta)), (b4, .inl (cI, 60, .inl tn)), (v, .inr (0, [.ref v1, .ref v2, .int (nI z)])), (v1, .inl (cI, M, .inl P)), (v2, .inl (cI, M, .inl K)), (h, .inr (1, [.ref a1, .ref a2, .ref a3, .int (nI n)])), (a1, .inl (cI, 32, .inl lo)), (a2, .inl (cI, 32, .inl hi)), (a3, .inl (cI, 32, .inl th))] (fun _ : Unit => True) (fun (_ : Unit) => [(r, .inr (4, [.ref b1, .ref b2, .ref b3, .ref b4, .int (nI how), .int (nI 1), .int (nI (pl + 1)), .int (nI (q + 2)), .int (nI stt), .int (nI dn)])), (b1, .inl (cI, 14, .inl (upd (upd sa q (sa (q + 1))) (q + 1) (sa q)))), (b2, .inl (cI, 8, .inl ca)), (b3, .inl (cI, 60, .inl ta)), (b4, .inl (cI, 60, .inl tn)), (v, .inr (0, [.ref v1, .ref v2, .int (nI z)])), (v1, .inl (cI, M, .inl P)), (v2, .inl (cI, M, .inl K)), (h, .inr (1, [.ref a1, .ref a2, .ref a3, .int (nI n)])), (a1, .inl (cI, 32, .inl lo)), (a2, .inl (cI, 32, .inl hi)), (a3, .inl (cI, 32, .inl th))]) := by
  refine pl_startV (by decide) (Nat.le_of_ble_eq_true rfl) ?_
  intro p e s m args below meth c A ls X hr hlk hin hK hP hD hS hA hE hl
  have X : CallFix p m c b_Run_advance 5 s args TG R_Run := X
  have hx := X.1
  have hb := X.2.1
  have hl : lv_has ls 5 [(0, .ref r), (1, .ref v), (2, .ref h)] := hl
  refine lv_aload_n hx hb d_Run_advance_0 rfl (lv_at hl 1 rfl) ?_
  refine pl_get X fw_Run_43 hK hP 5 rfl (v := .ref v1) rfl d_Run_advance_1 ?_
  refine lv_aload_n hx hb d_Run_advance_4 rfl (lv_at hl 0 rfl) ?_
  refine pl_get X fw_Run_31 hK hP 0 rfl (v := .int (nI pl)) rfl d_Run_advance_5 ?_
  refine pl_iald X hK hP 6 0 rfl rfl pl (by omega) (by omega) (z := nI 10) ho d_Run_advance_8 ?_
  refine lv_istore_n hx hb d_Run_advance_9 rfl hl (by decide) (lv' := [(3, .int (nI 10)), (0, .ref r), (1, .ref v), (2, .ref h)]) rfl (fun ls hl => ?_)
  refine lv_aload_n hx hb d_Run_advance_10 rfl (lv_at hl 2 rfl) ?_
  refine pl_get X fw_Run_48 hK hP 5 rfl (v := .ref v2) rfl d_Run_advance_11 ?_
  refine lv_aload_n hx hb d_Run_advance_14 rfl (lv_at hl 1 rfl) ?_
  refine pl_get X fw_Run_31 hK hP 0 rfl (v := .int (nI pl)) rfl d_Run_advance_15 ?_
  refine pl_iald X hK hP 7 0 rfl rfl pl (by omega) (by omega) (z := K pl) rfl d_Run_advance_18 ?_
  refine lv_istore hx hb d_Run_advance_19 hl (by decide) (lv' := [(4, .int (K pl)), (3, .int (nI 10)), (0, .ref r), (1, .ref v), (2, .ref h)]) rfl (fun ls hl => ?_)
  refine lv_iload_n hx hb d_Run_advance_21 rfl (lv_at hl 1 rfl) ?_
  refine lv_tableIn hx hb d_Run_advance_22 (by decide) (by decide) (off := 90) (by decide) (tgt := 112) rfl ?_
  refine lv_aload_n hx hb d_Run_advance_112 rfl (lv_at hl 2 rfl) ?_
  refine lv_iload_n hx hb d_Run_advance_113 rfl (lv_at hl 1 rfl) ?_
  refine lv_iload hx hb d_Run_advance_114 (lv_at hl 0 rfl) ?_
  refine pl_callVV X (rest := []) (As := [.int (nI 10), .int (K pl)]) (b := r) (c_Run_work_10 l D cI cZ cL r b1 b2 b3 b4 sa ca ta tn how 1 pl q stt dn (K pl) hq) ck_Run_59 pl_E0_ok trivial hK hP hD hS hA (T := F_Run) (N := N_Run) (ci := 4) rfl 0 rfl [0, 1, 2, 3, 4] [5, 6, 7, 8, 9, 10, 11] [7, 8, 9, 10, 11, 0, 1, 2, 3, 4, 5, 6] rfl (by decide) (wr := [(v, .inr (0, [.ref v1, .ref v2, .int (nI z)])), (v1, .inl (cI, M, .inl P)), (v2, .inl (cI, M, .inl K)), (h, .inr (1, [.ref a1, .ref a2, .ref a3, .int (nI n)])), (a1, .inl (cI, 32, .inl lo)), (a2, .inl (cI, 32, .inl hi)), (a3, .inl (cI, 32, .inl th))]) rfl (by decide) (by decide) (wf := fun _ => [(r, .inr (4, [.ref b1, .ref b2, .ref b3, .ref b4, .int (nI how), .int (nI 1), .int (nI pl), .int (nI (q + 2)), .int (nI stt), .int (nI dn)])), (b1, .inl (cI, 14, .inl (upd (upd sa q (sa (q + 1))) (q + 1) (sa q)))), (b2, .inl (cI, 8, .inl ca)), (b3, .inl (cI, 60, .inl ta)), (b4, .inl (cI, 60, .inl tn)), (v, .inr (0, [.ref v1, .ref v2, .int (nI z)])), (v1, .inl (cI, M, .inl P)), (v2, .inl (cI, M, .inl K)), (h, .inr (1, [.ref a1, .ref a2, .ref a3, .int (nI n)])), (a1, .inl (cI, 32, .inl lo)), (a2, .inl (cI, 32, .inl hi)), (a3, .inl (cI, 32, .inl th))]) (fun _ => rfl) (by decide) rfl hl.1 rfl (Nat.le_of_ble_eq_true rfl) (by decide) (by decide) d_Run_advance_116 (fun u0 H locs hcq hP hD hS => ?_)
  refine lv_aload_n hx hb d_Run_advance_119 rfl (lv_at hl 2 rfl) ?_
  refine lv_dup hx hb d_Run_advance_120 rfl ?_
  refine pl_get X fw_Run_31 hK hP 0 rfl (v := .int (nI pl)) rfl d_Run_advance_121 ?_
  refine lv_iconst (v := nI 1) hx hb d_Run_advance_124 (by decide) ?_
  refine pl_iadd X d_Run_advance_125 (z := nI (pl + 1)) (nI_add _ _) ?_
  refine pl_put X fw_Run_31 fp_Run rfl hK hP hD hS 0 rfl (v := .int (nI (pl + 1))) rfl rfl (Nat.le_of_ble_eq_true rfl) d_Run_advance_126 (ws' := [(r, .inr (4, [.ref b1, .ref b2, .ref b3, .ref b4, .int (nI how), .int (nI 1), .int (nI (pl + 1)), .int (nI (q + 2)), .int (nI stt), .int (nI dn)])), (b1, .inl (cI, 14, .inl (upd (upd sa q (sa (q + 1))) (q + 1) (sa q)))), (b2, .inl (cI, 8, .inl ca)), (b3, .inl (cI, 60, .inl ta)), (b4, .inl (cI, 60, .inl tn)), (v, .inr (0, [.ref v1, .ref v2, .int (nI z)])), (v1, .inl (cI, M, .inl P)), (v2, .inl (cI, M, .inl K)), (h, .inr (1, [.ref a1, .ref a2, .ref a3, .int (nI n)])), (a1, .inl (cI, 32, .inl lo)), (a2, .inl (cI, 32, .inl hi)), (a3, .inl (cI, 32, .inl th))]) rfl (fun H locs hP hD hS => ?_)
  exact pl_vret X hr hlk hK () trivial hP hD hS d_Run_advance_129

set_option maxHeartbeats 4000000 in
set_option maxRecDepth 100000 in
theorem c_Run_advance_11 (l : Launch) (D : va_G) (cI cZ cL : ClassId) (r b1 b2 b3 b4 : Nat) (sa ca ta tn : Nat → Int32) (how stat pl : Nat) (q stt dn : Nat) (v v1 v2 M z : Nat) (P K : Nat → Int32) (h a1 a2 a3 n : Nat) (lo hi th : Nat → Int32) (hM : M < 2 ^ 31) (hp : pl < M) (ho : P pl = nI 11) (hq : q + 1 < 14) : pl_V l y_Run_advance b_Run_advance 5 ({ frames := 3, cells := 0, slots := 0, locals := 67 } : Room) pl_E0 D classes (TY cI cZ cL) [.ref r, .ref v, .ref h] [(r, .inr (4, [.ref b1, .ref b2, .ref b3, .ref b4, .int (nI how), .int (nI 1), .int (nI pl), .int (nI (q + 1)), .int (nI stt), .int (nI dn)])), (b1, .inl (cI, 14, .inl sa)), (b2, .inl (cI, 8, .inl ca)), (b3, .inl (cI, 60, .inl ta)), (b4, .inl (cI, 60, .inl tn)), (v, .inr (0, [.ref v1, .ref v2, .int (nI z)])), (v1, .inl (cI, M, .inl P)), (v2, .inl (cI, M, .inl K)), (h, .inr (1, [.ref a1, .ref a2, .ref a3, .int (nI n)])), (a1, .inl (cI, 32, .inl lo)), (a2, .inl (cI, 32, .inl hi)), (a3, .inl (cI, 32, .inl th))] (fun _ : Unit => True) (fun (_ : Unit) => [(r, .inr (4, [.ref b1, .ref b2, .ref b3, .ref b4, .int (nI how), .int (nI 1), .int (nI (pl + 1)), .int (nI (q + 2)), .int (nI stt), .int (nI dn)])), (b1, .inl (cI, 14, .inl (upd sa (q + 1) (sa q)))), (b2, .inl (cI, 8, .inl ca)), (b3, .inl (cI, 60, .inl ta)), (b4, .inl (cI, 60, .inl tn)), (v, .inr (0, [.ref v1, .ref v2, .int (nI z)])), (v1, .inl (cI, M, .inl P)), (v2, .inl (cI, M, .inl K)), (h, .inr (1, [.ref a1, .ref a2, .ref a3, .int (nI n)])), (a1, .inl (cI, 32, .inl lo)), (a2, .inl (cI, 32, .inl hi)), (a3, .inl (cI, 32, .inl th))]) := by
  refine pl_startV (by decide) (Nat.le_of_ble_eq_true rfl) ?_
  intro p e s m args below meth c A ls X hr hlk hin hK hP hD hS hA hE hl
  have X : CallFix p m c b_Run_advance 5 s args TG R_Run := X
  have hx := X.1
  have hb := X.2.1
  have hl : lv_has ls 5 [(0, .ref r), (1, .ref v), (2, .ref h)] := hl
  refine lv_aload_n hx hb d_Run_advance_0 rfl (lv_at hl 1 rfl) ?_
  refine pl_get X fw_Run_43 hK hP 5 rfl (v := .ref v1) rfl d_Run_advance_1 ?_
  refine lv_aload_n hx hb d_Run_advance_4 rfl (lv_at hl 0 rfl) ?_
  refine pl_get X fw_Run_31 hK hP 0 rfl (v := .int (nI pl)) rfl d_Run_advance_5 ?_
  refine pl_iald X hK hP 6 0 rfl rfl pl (by omega) (by omega) (z := nI 11) ho d_Run_advance_8 ?_
  refine lv_istore_n hx hb d_Run_advance_9 rfl hl (by decide) (lv' := [(3, .int (nI 11)), (0, .ref r), (1, .ref v), (2, .ref h)]) rfl (fun ls hl => ?_)
  refine lv_aload_n hx hb d_Run_advance_10 rfl (lv_at hl 2 rfl) ?_
  refine pl_get X fw_Run_48 hK hP 5 rfl (v := .ref v2) rfl d_Run_advance_11 ?_
  refine lv_aload_n hx hb d_Run_advance_14 rfl (lv_at hl 1 rfl) ?_
  refine pl_get X fw_Run_31 hK hP 0 rfl (v := .int (nI pl)) rfl d_Run_advance_15 ?_
  refine pl_iald X hK hP 7 0 rfl rfl pl (by omega) (by omega) (z := K pl) rfl d_Run_advance_18 ?_
  refine lv_istore hx hb d_Run_advance_19 hl (by decide) (lv' := [(4, .int (K pl)), (3, .int (nI 11)), (0, .ref r), (1, .ref v), (2, .ref h)]) rfl (fun ls hl => ?_)
  refine lv_iload_n hx hb d_Run_advance_21 rfl (lv_at hl 1 rfl) ?_
  refine lv_tableIn hx hb d_Run_advance_22 (by decide) (by decide) (off := 90) (by decide) (tgt := 112) rfl ?_
  refine lv_aload_n hx hb d_Run_advance_112 rfl (lv_at hl 2 rfl) ?_
  refine lv_iload_n hx hb d_Run_advance_113 rfl (lv_at hl 1 rfl) ?_
  refine lv_iload hx hb d_Run_advance_114 (lv_at hl 0 rfl) ?_
  refine pl_callVV X (rest := []) (As := [.int (nI 11), .int (K pl)]) (b := r) (c_Run_work_11 l D cI cZ cL r b1 b2 b3 b4 sa ca ta tn how 1 pl q stt dn (K pl) hq) ck_Run_59 pl_E0_ok trivial hK hP hD hS hA (T := F_Run) (N := N_Run) (ci := 4) rfl 0 rfl [0, 1, 2, 3, 4] [5, 6, 7, 8, 9, 10, 11] [7, 8, 9, 10, 11, 0, 1, 2, 3, 4, 5, 6] rfl (by decide) (wr := [(v, .inr (0, [.ref v1, .ref v2, .int (nI z)])), (v1, .inl (cI, M, .inl P)), (v2, .inl (cI, M, .inl K)), (h, .inr (1, [.ref a1, .ref a2, .ref a3, .int (nI n)])), (a1, .inl (cI, 32, .inl lo)), (a2, .inl (cI, 32, .inl hi)), (a3, .inl (cI, 32, .inl th))]) rfl (by decide) (by decide) (wf := fun _ => [(r, .inr (4, [.ref b1, .ref b2, .ref b3, .ref b4, .int (nI how), .int (nI 1), .int (nI pl), .int (nI (q + 2)), .int (nI stt), .int (nI dn)])), (b1, .inl (cI, 14, .inl (upd sa (q + 1) (sa q)))), (b2, .inl (cI, 8, .inl ca)), (b3, .inl (cI, 60, .inl ta)), (b4, .inl (cI, 60, .inl tn)), (v, .inr (0, [.ref v1, .ref v2, .int (nI z)])), (v1, .inl (cI, M, .inl P)), (v2, .inl (cI, M, .inl K)), (h, .inr (1, [.ref a1, .ref a2, .ref a3, .int (nI n)])), (a1, .inl (cI, 32, .inl lo)), (a2, .inl (cI, 32, .inl hi)), (a3, .inl (cI, 32, .inl th))]) (fun _ => rfl) (by decide) rfl hl.1 rfl (Nat.le_of_ble_eq_true rfl) (by decide) (by decide) d_Run_advance_116 (fun u0 H locs hcq hP hD hS => ?_)
  refine lv_aload_n hx hb d_Run_advance_119 rfl (lv_at hl 2 rfl) ?_
  refine lv_dup hx hb d_Run_advance_120 rfl ?_
  refine pl_get X fw_Run_31 hK hP 0 rfl (v := .int (nI pl)) rfl d_Run_advance_121 ?_
  refine lv_iconst (v := nI 1) hx hb d_Run_advance_124 (by decide) ?_
  refine pl_iadd X d_Run_advance_125 (z := nI (pl + 1)) (nI_add _ _) ?_
  refine pl_put X fw_Run_31 fp_Run rfl hK hP hD hS 0 rfl (v := .int (nI (pl + 1))) rfl rfl (Nat.le_of_ble_eq_true rfl) d_Run_advance_126 (ws' := [(r, .inr (4, [.ref b1, .ref b2, .ref b3, .ref b4, .int (nI how), .int (nI 1), .int (nI (pl + 1)), .int (nI (q + 2)), .int (nI stt), .int (nI dn)])), (b1, .inl (cI, 14, .inl (upd sa (q + 1) (sa q)))), (b2, .inl (cI, 8, .inl ca)), (b3, .inl (cI, 60, .inl ta)), (b4, .inl (cI, 60, .inl tn)), (v, .inr (0, [.ref v1, .ref v2, .int (nI z)])), (v1, .inl (cI, M, .inl P)), (v2, .inl (cI, M, .inl K)), (h, .inr (1, [.ref a1, .ref a2, .ref a3, .int (nI n)])), (a1, .inl (cI, 32, .inl lo)), (a2, .inl (cI, 32, .inl hi)), (a3, .inl (cI, 32, .inl th))]) rfl (fun H locs hP hD hS => ?_)
  exact pl_vret X hr hlk hK () trivial hP hD hS d_Run_advance_129

set_option maxHeartbeats 4000000 in
set_option maxRecDepth 100000 in
theorem c_Run_advance_7 (l : Launch) (D : va_G) (cI cZ cL : ClassId) (r b1 b2 b3 b4 : Nat) (sa ca ta tn : Nat → Int32) (how stat pl : Nat) (q stt dn : Nat) (v v1 v2 M z : Nat) (P K : Nat → Int32) (h a1 a2 a3 n : Nat) (lo hi th : Nat → Int32) (j : Nat) (hM : M < 2 ^ 31) (hp : pl < M) (ho : P pl = nI 7) (hk : K pl = nI j) : pl_V l y_Run_advance b_Run_advance 5 ({ frames := 3, cells := 0, slots := 0, locals := 67 } : Room) pl_E0 D classes (TY cI cZ cL) [.ref r, .ref v, .ref h] [(r, .inr (4, [.ref b1, .ref b2, .ref b3, .ref b4, .int (nI how), .int (nI 1), .int (nI pl), .int (nI q), .int (nI stt), .int (nI dn)])), (b1, .inl (cI, 14, .inl sa)), (b2, .inl (cI, 8, .inl ca)), (b3, .inl (cI, 60, .inl ta)), (b4, .inl (cI, 60, .inl tn)), (v, .inr (0, [.ref v1, .ref v2, .int (nI z)])), (v1, .inl (cI, M, .inl P)), (v2, .inl (cI, M, .inl K)), (h, .inr (1, [.ref a1, .ref a2, .ref a3, .int (nI n)])), (a1, .inl (cI, 32, .inl lo)), (a2, .inl (cI, 32, .inl hi)), (a3, .inl (cI, 32, .inl th))] (fun _ : Unit => True) (fun (_ : Unit) => [(r, .inr (4, [.ref b1, .ref b2, .ref b3, .ref b4, .int (nI how), .int (nI 1), .int (nI j), .int (nI q), .int (nI stt), .int (nI dn)])), (b1, .inl (cI, 14, .inl sa)), (b2, .inl (cI, 8, .inl ca)), (b3, .inl (cI, 60, .inl ta)), (b4, .inl (cI, 60, .inl tn)), (v, .inr (0, [.ref v1, .ref v2, .int (nI z)])), (v1, .inl (cI, M, .inl P)), (v2, .inl (cI, M, .inl K)), (h, .inr (1, [.ref a1, .ref a2, .ref a3, .int (nI n)])), (a1, .inl (cI, 32, .inl lo)), (a2, .inl (cI, 32, .inl hi)), (a3, .inl (cI, 32, .inl th))]) := by
  refine pl_startV (by decide) (Nat.le_of_ble_eq_true rfl) ?_
  intro p e s m args below meth c A ls X hr hlk hin hK hP hD hS hA hE hl
  have X : CallFix p m c b_Run_advance 5 s args TG R_Run := X
  have hx := X.1
  have hb := X.2.1
  have hl : lv_has ls 5 [(0, .ref r), (1, .ref v), (2, .ref h)] := hl
  refine lv_aload_n hx hb d_Run_advance_0 rfl (lv_at hl 1 rfl) ?_
  refine pl_get X fw_Run_43 hK hP 5 rfl (v := .ref v1) rfl d_Run_advance_1 ?_
  refine lv_aload_n hx hb d_Run_advance_4 rfl (lv_at hl 0 rfl) ?_
  refine pl_get X fw_Run_31 hK hP 0 rfl (v := .int (nI pl)) rfl d_Run_advance_5 ?_
  refine pl_iald X hK hP 6 0 rfl rfl pl (by omega) (by omega) (z := nI 7) ho d_Run_advance_8 ?_
  refine lv_istore_n hx hb d_Run_advance_9 rfl hl (by decide) (lv' := [(3, .int (nI 7)), (0, .ref r), (1, .ref v), (2, .ref h)]) rfl (fun ls hl => ?_)
  refine lv_aload_n hx hb d_Run_advance_10 rfl (lv_at hl 2 rfl) ?_
  refine pl_get X fw_Run_48 hK hP 5 rfl (v := .ref v2) rfl d_Run_advance_11 ?_
  refine lv_aload_n hx hb d_Run_advance_14 rfl (lv_at hl 1 rfl) ?_
  refine pl_get X fw_Run_31 hK hP 0 rfl (v := .int (nI pl)) rfl d_Run_advance_15 ?_
  refine pl_iald X hK hP 7 0 rfl rfl pl (by omega) (by omega) (z := nI j) hk d_Run_advance_18 ?_
  refine lv_istore hx hb d_Run_advance_19 hl (by decide) (lv' := [(4, .int (nI j)), (3, .int (nI 7)), (0, .ref r), (1, .ref v), (2, .ref h)]) rfl (fun ls hl => ?_)
  refine lv_iload_n hx hb d_Run_advance_21 rfl (lv_at hl 1 rfl) ?_
  refine lv_tableIn hx hb d_Run_advance_22 (by decide) (by decide) (off := 38) (by decide) (tgt := 60) rfl ?_
  refine lv_aload_n hx hb d_Run_advance_60 rfl (lv_at hl 2 rfl) ?_
  refine lv_iload hx hb d_Run_advance_61 (lv_at hl 0 rfl) ?_
  refine pl_put X fw_Run_31 fp_Run rfl hK hP hD hS 0 rfl (v := .int (nI j)) rfl rfl (Nat.le_of_ble_eq_true rfl) d_Run_advance_63 (ws' := [(r, .inr (4, [.ref b1, .ref b2, .ref b3, .ref b4, .int (nI how), .int (nI 1), .int (nI j), .int (nI q), .int (nI stt), .int (nI dn)])), (b1, .inl (cI, 14, .inl sa)), (b2, .inl (cI, 8, .inl ca)), (b3, .inl (cI, 60, .inl ta)), (b4, .inl (cI, 60, .inl tn)), (v, .inr (0, [.ref v1, .ref v2, .int (nI z)])), (v1, .inl (cI, M, .inl P)), (v2, .inl (cI, M, .inl K)), (h, .inr (1, [.ref a1, .ref a2, .ref a3, .int (nI n)])), (a1, .inl (cI, 32, .inl lo)), (a2, .inl (cI, 32, .inl hi)), (a3, .inl (cI, 32, .inl th))]) rfl (fun H locs hP hD hS => ?_)
  refine lv_goto hx hb d_Run_advance_66 rfl ?_
  exact pl_vret X hr hlk hK () trivial hP hD hS d_Run_advance_129

set_option maxHeartbeats 4000000 in
set_option maxRecDepth 100000 in
theorem c_Run_advance_8 (l : Launch) (D : va_G) (cI cZ cL : ClassId) (r b1 b2 b3 b4 : Nat) (sa ca ta tn : Nat → Int32) (how stat pl : Nat) (q stt dn : Nat) (v v1 v2 M z : Nat) (P K : Nat → Int32) (h a1 a2 a3 n : Nat) (lo hi th : Nat → Int32) (j : Nat) (hM : M < 2 ^ 31) (hp : pl < M) (ho : P pl = nI 8) (hq : q < 14) (hk : K pl = nI j) : pl_V l y_Run_advance b_Run_advance 5 ({ frames := 3, cells := 0, slots := 0, locals := 67 } : Room) pl_E0 D classes (TY cI cZ cL) [.ref r, .ref v, .ref h] [(r, .inr (4, [.ref b1, .ref b2, .ref b3, .ref b4, .int (nI how), .int (nI 1), .int (nI pl), .int (nI (q + 1)), .int (nI stt), .int (nI dn)])), (b1, .inl (cI, 14, .inl sa)), (b2, .inl (cI, 8, .inl ca)), (b3, .inl (cI, 60, .inl ta)), (b4, .inl (cI, 60, .inl tn)), (v, .inr (0, [.ref v1, .ref v2, .int (nI z)])), (v1, .inl (cI, M, .inl P)), (v2, .inl (cI, M, .inl K)), (h, .inr (1, [.ref a1, .ref a2, .ref a3, .int (nI n)])), (a1, .inl (cI, 32, .inl lo)), (a2, .inl (cI, 32, .inl hi)), (a3, .inl (cI, 32, .inl th))] (fun _ : Unit => True) (fun (_ : Unit) => [(r, .inr (4, [.ref b1, .ref b2, .ref b3, .ref b4, .int (nI how), .int (nI 1), .int (nI (if sa q = 0 then pl + 1 else j)), .int (nI q), .int (nI stt), .int (nI dn)])), (b1, .inl (cI, 14, .inl sa)), (b2, .inl (cI, 8, .inl ca)), (b3, .inl (cI, 60, .inl ta)), (b4, .inl (cI, 60, .inl tn)), (v, .inr (0, [.ref v1, .ref v2, .int (nI z)])), (v1, .inl (cI, M, .inl P)), (v2, .inl (cI, M, .inl K)), (h, .inr (1, [.ref a1, .ref a2, .ref a3, .int (nI n)])), (a1, .inl (cI, 32, .inl lo)), (a2, .inl (cI, 32, .inl hi)), (a3, .inl (cI, 32, .inl th))]) := by
  refine pl_startV (by decide) (Nat.le_of_ble_eq_true rfl) ?_
  intro p e s m args below meth c A ls X hr hlk hin hK hP hD hS hA hE hl
  have X : CallFix p m c b_Run_advance 5 s args TG R_Run := X
  have hx := X.1
  have hb := X.2.1
  have hl : lv_has ls 5 [(0, .ref r), (1, .ref v), (2, .ref h)] := hl
  refine lv_aload_n hx hb d_Run_advance_0 rfl (lv_at hl 1 rfl) ?_
  refine pl_get X fw_Run_43 hK hP 5 rfl (v := .ref v1) rfl d_Run_advance_1 ?_
  refine lv_aload_n hx hb d_Run_advance_4 rfl (lv_at hl 0 rfl) ?_
  refine pl_get X fw_Run_31 hK hP 0 rfl (v := .int (nI pl)) rfl d_Run_advance_5 ?_
  refine pl_iald X hK hP 6 0 rfl rfl pl (by omega) (by omega) (z := nI 8) ho d_Run_advance_8 ?_
  refine lv_istore_n hx hb d_Run_advance_9 rfl hl (by decide) (lv' := [(3, .int (nI 8)), (0, .ref r), (1, .ref v), (2, .ref h)]) rfl (fun ls hl => ?_)
  refine lv_aload_n hx hb d_Run_advance_10 rfl (lv_at hl 2 rfl) ?_
  refine pl_get X fw_Run_48 hK hP 5 rfl (v := .ref v2) rfl d_Run_advance_11 ?_
  refine lv_aload_n hx hb d_Run_advance_14 rfl (lv_at hl 1 rfl) ?_
  refine pl_get X fw_Run_31 hK hP 0 rfl (v := .int (nI pl)) rfl d_Run_advance_15 ?_
  refine pl_iald X hK hP 7 0 rfl rfl pl (by omega) (by omega) (z := nI j) hk d_Run_advance_18 ?_
  refine lv_istore hx hb d_Run_advance_19 hl (by decide) (lv' := [(4, .int (nI j)), (3, .int (nI 8)), (0, .ref r), (1, .ref v), (2, .ref h)]) rfl (fun ls hl => ?_)
  refine lv_iload_n hx hb d_Run_advance_21 rfl (lv_at hl 1 rfl) ?_
  refine lv_tableIn hx hb d_Run_advance_22 (by decide) (by decide) (off := 47) (by decide) (tgt := 69) rfl ?_
  refine lv_aload_n hx hb d_Run_advance_69 rfl (lv_at hl 2 rfl) ?_
  refine lv_aload_n hx hb d_Run_advance_70 rfl (lv_at hl 2 rfl) ?_
  refine pl_callVI X (rest := [.ref r]) (As := []) (b := r) (c_Run_pop l D cI cZ cL r b1 b2 b3 b4 sa ca ta tn how 1 pl q stt dn hq) ck_Run_51 pl_E0_ok trivial hK hP hD hS hA (T := F_Run) (N := N_Run) (ci := 4) rfl 0 rfl [0, 1, 2, 3, 4] [5, 6, 7, 8, 9, 10, 11] [7, 8, 9, 10, 11, 0, 1, 2, 3, 4, 5, 6] rfl (by decide) (wr := [(v, .inr (0, [.ref v1, .ref v2, .int (nI z)])), (v1, .inl (cI, M, .inl P)), (v2, .inl (cI, M, .inl K)), (h, .inr (1, [.ref a1, .ref a2, .ref a3, .int (nI n)])), (a1, .inl (cI, 32, .inl lo)), (a2, .inl (cI, 32, .inl hi)), (a3, .inl (cI, 32, .inl th))]) rfl (by decide) (by decide) (wf := fun _ => [(r, .inr (4, [.ref b1, .ref b2, .ref b3, .ref b4, .int (nI how), .int (nI 1), .int (nI pl), .int (nI q), .int (nI stt), .int (nI dn)])), (b1, .inl (cI, 14, .inl sa)), (b2, .inl (cI, 8, .inl ca)), (b3, .inl (cI, 60, .inl ta)), (b4, .inl (cI, 60, .inl tn)), (v, .inr (0, [.ref v1, .ref v2, .int (nI z)])), (v1, .inl (cI, M, .inl P)), (v2, .inl (cI, M, .inl K)), (h, .inr (1, [.ref a1, .ref a2, .ref a3, .int (nI n)])), (a1, .inl (cI, 32, .inl lo)), (a2, .inl (cI, 32, .inl hi)), (a3, .inl (cI, 32, .inl th))]) (fun _ => rfl) (by decide) rfl hl.1 rfl (Nat.le_of_ble_eq_true rfl) (by decide) (by decide) d_Run_advance_71 (fun r u0 H locs hcq hP hD hS => ?_)
  subst hcq
  refine lv_if_eq hx hb d_Run_advance_74 rfl (fun g74 => ?_) (fun g74 => ?_)
  · skip
    refine lv_aload_n hx hb d_Run_advance_82 rfl (lv_at hl 2 rfl) ?_
    refine pl_get X fw_Run_31 hK hP 0 rfl (v := .int (nI pl)) rfl d_Run_advance_83 ?_
    refine lv_iconst (v := nI 1) hx hb d_Run_advance_86 (by decide) ?_
    refine pl_iadd X d_Run_advance_87 (z := nI (pl + 1)) (nI_add _ _) ?_
    refine pl_put X fw_Run_31 fp_Run rfl hK hP hD hS 0 rfl (v := .int (nI (pl + 1))) rfl rfl (Nat.le_of_ble_eq_true rfl) d_Run_advance_88 (ws' := [(r, .inr (4, [.ref b1, .ref b2, .ref b3, .ref b4, .int (nI how), .int (nI 1), .int (nI (pl + 1)), .int (nI q), .int (nI stt), .int (nI dn)])), (b1, .inl (cI, 14, .inl sa)), (b2, .inl (cI, 8, .inl ca)), (b3, .inl (cI, 60, .inl ta)), (b4, .inl (cI, 60, .inl tn)), (v, .inr (0, [.ref v1, .ref v2, .int (nI z)])), (v1, .inl (cI, M, .inl P)), (v2, .inl (cI, M, .inl K)), (h, .inr (1, [.ref a1, .ref a2, .ref a3, .int (nI n)])), (a1, .inl (cI, 32, .inl lo)), (a2, .inl (cI, 32, .inl hi)), (a3, .inl (cI, 32, .inl th))]) rfl (fun H locs hP hD hS => ?_)
    refine lv_goto hx hb d_Run_advance_91 rfl ?_
    have e8 : (if sa q = 0 then pl + 1 else j) = pl + 1 := if_pos g74
    have hP : va_P D classes [(r, .inr (4, [.ref b1, .ref b2, .ref b3, .ref b4, .int (nI how), .int (nI 1), .int (nI (if sa q = 0 then pl + 1 else j)), .int (nI q), .int (nI stt), .int (nI dn)])), (b1, .inl (cI, 14, .inl sa)), (b2, .inl (cI, 8, .inl ca)), (b3, .inl (cI, 60, .inl ta)), (b4, .inl (cI, 60, .inl tn)), (v, .inr (0, [.ref v1, .ref v2, .int (nI z)])), (v1, .inl (cI, M, .inl P)), (v2, .inl (cI, M, .inl K)), (h, .inr (1, [.ref a1, .ref a2, .ref a3, .int (nI n)])), (a1, .inl (cI, 32, .inl lo)), (a2, .inl (cI, 32, .inl hi)), (a3, .inl (cI, 32, .inl th))] H := by rw [e8]; exact hP
    have hD : va_D A [(r, .inr (4, [.ref b1, .ref b2, .ref b3, .ref b4, .int (nI how), .int (nI 1), .int (nI (if sa q = 0 then pl + 1 else j)), .int (nI q), .int (nI stt), .int (nI dn)])), (b1, .inl (cI, 14, .inl sa)), (b2, .inl (cI, 8, .inl ca)), (b3, .inl (cI, 60, .inl ta)), (b4, .inl (cI, 60, .inl tn)), (v, .inr (0, [.ref v1, .ref v2, .int (nI z)])), (v1, .inl (cI, M, .inl P)), (v2, .inl (cI, M, .inl K)), (h, .inr (1, [.ref a1, .ref a2, .ref a3, .int (nI n)])), (a1, .inl (cI, 32, .inl lo)), (a2, .inl (cI, 32, .inl hi)), (a3, .inl (cI, 32, .inl th))] := by rw [e8]; exact hD
    exact pl_vret X hr hlk hK () trivial hP hD hS d_Run_advance_129
  · skip
    refine lv_iload hx hb d_Run_advance_77 (lv_at hl 0 rfl) ?_
    refine lv_goto hx hb d_Run_advance_79 rfl ?_
    refine pl_put X fw_Run_31 fp_Run rfl hK hP hD hS 0 rfl (v := .int (nI j)) rfl rfl (Nat.le_of_ble_eq_true rfl) d_Run_advance_88 (ws' := [(r, .inr (4, [.ref b1, .ref b2, .ref b3, .ref b4, .int (nI how), .int (nI 1), .int (nI j), .int (nI q), .int (nI stt), .int (nI dn)])), (b1, .inl (cI, 14, .inl sa)), (b2, .inl (cI, 8, .inl ca)), (b3, .inl (cI, 60, .inl ta)), (b4, .inl (cI, 60, .inl tn)), (v, .inr (0, [.ref v1, .ref v2, .int (nI z)])), (v1, .inl (cI, M, .inl P)), (v2, .inl (cI, M, .inl K)), (h, .inr (1, [.ref a1, .ref a2, .ref a3, .int (nI n)])), (a1, .inl (cI, 32, .inl lo)), (a2, .inl (cI, 32, .inl hi)), (a3, .inl (cI, 32, .inl th))]) rfl (fun H locs hP hD hS => ?_)
    refine lv_goto hx hb d_Run_advance_91 rfl ?_
    have e8 : (if sa q = 0 then pl + 1 else j) = j := if_neg g74
    have hP : va_P D classes [(r, .inr (4, [.ref b1, .ref b2, .ref b3, .ref b4, .int (nI how), .int (nI 1), .int (nI (if sa q = 0 then pl + 1 else j)), .int (nI q), .int (nI stt), .int (nI dn)])), (b1, .inl (cI, 14, .inl sa)), (b2, .inl (cI, 8, .inl ca)), (b3, .inl (cI, 60, .inl ta)), (b4, .inl (cI, 60, .inl tn)), (v, .inr (0, [.ref v1, .ref v2, .int (nI z)])), (v1, .inl (cI, M, .inl P)), (v2, .inl (cI, M, .inl K)), (h, .inr (1, [.ref a1, .ref a2, .ref a3, .int (nI n)])), (a1, .inl (cI, 32, .inl lo)), (a2, .inl (cI, 32, .inl hi)), (a3, .inl (cI, 32, .inl th))] H := by rw [e8]; exact hP
    have hD : va_D A [(r, .inr (4, [.ref b1, .ref b2, .ref b3, .ref b4, .int (nI how), .int (nI 1), .int (nI (if sa q = 0 then pl + 1 else j)), .int (nI q), .int (nI stt), .int (nI dn)])), (b1, .inl (cI, 14, .inl sa)), (b2, .inl (cI, 8, .inl ca)), (b3, .inl (cI, 60, .inl ta)), (b4, .inl (cI, 60, .inl tn)), (v, .inr (0, [.ref v1, .ref v2, .int (nI z)])), (v1, .inl (cI, M, .inl P)), (v2, .inl (cI, M, .inl K)), (h, .inr (1, [.ref a1, .ref a2, .ref a3, .int (nI n)])), (a1, .inl (cI, 32, .inl lo)), (a2, .inl (cI, 32, .inl hi)), (a3, .inl (cI, 32, .inl th))] := by rw [e8]; exact hD
    exact pl_vret X hr hlk hK () trivial hP hD hS d_Run_advance_129

set_option maxHeartbeats 4000000 in
set_option maxRecDepth 100000 in
theorem c_Run_advance_12 (l : Launch) (D : va_G) (cI cZ cL : ClassId) (r b1 b2 b3 b4 : Nat) (sa ca ta tn : Nat → Int32) (how stat pl : Nat) (q stt dn : Nat) (v v1 v2 M z : Nat) (P K : Nat → Int32) (h a1 a2 a3 n : Nat) (lo hi th : Nat → Int32) (hM : M < 2 ^ 31) (hp : pl < M) (ho : P pl = nI 12)  : pl_V l y_Run_advance b_Run_advance 5 ({ frames := 3, cells := 0, slots := 0, locals := 67 } : Room) pl_E0 D classes (TY cI cZ cL) [.ref r, .ref v, .ref h] [(r, .inr (4, [.ref b1, .ref b2, .ref b3, .ref b4, .int (nI how), .int (nI 1), .int (nI pl), .int (nI q), .int (nI stt), .int (nI dn)])), (b1, .inl (cI, 14, .inl sa)), (b2, .inl (cI, 8, .inl ca)), (b3, .inl (cI, 60, .inl ta)), (b4, .inl (cI, 60, .inl tn)), (v, .inr (0, [.ref v1, .ref v2, .int (nI z)])), (v1, .inl (cI, M, .inl P)), (v2, .inl (cI, M, .inl K)), (h, .inr (1, [.ref a1, .ref a2, .ref a3, .int (nI n)])), (a1, .inl (cI, 32, .inl lo)), (a2, .inl (cI, 32, .inl hi)), (a3, .inl (cI, 32, .inl th))] (fun _ : Unit => True) (fun (_ : Unit) => [(r, .inr (4, [.ref b1, .ref b2, .ref b3, .ref b4, .int (nI how), .int (nI 2), .int (nI pl), .int (nI q), .int (nI stt), .int (nI dn)])), (b1, .inl (cI, 14, .inl sa)), (b2, .inl (cI, 8, .inl ca)), (b3, .inl (cI, 60, .inl ta)), (b4, .inl (cI, 60, .inl tn)), (v, .inr (0, [.ref v1, .ref v2, .int (nI z)])), (v1, .inl (cI, M, .inl P)), (v2, .inl (cI, M, .inl K)), (h, .inr (1, [.ref a1, .ref a2, .ref a3, .int (nI n)])), (a1, .inl (cI, 32, .inl lo)), (a2, .inl (cI, 32, .inl hi)), (a3, .inl (cI, 32, .inl th))]) := by
  refine pl_startV (by decide) (Nat.le_of_ble_eq_true rfl) ?_
  intro p e s m args below meth c A ls X hr hlk hin hK hP hD hS hA hE hl
  have X : CallFix p m c b_Run_advance 5 s args TG R_Run := X
  have hx := X.1
  have hb := X.2.1
  have hl : lv_has ls 5 [(0, .ref r), (1, .ref v), (2, .ref h)] := hl
  refine lv_aload_n hx hb d_Run_advance_0 rfl (lv_at hl 1 rfl) ?_
  refine pl_get X fw_Run_43 hK hP 5 rfl (v := .ref v1) rfl d_Run_advance_1 ?_
  refine lv_aload_n hx hb d_Run_advance_4 rfl (lv_at hl 0 rfl) ?_
  refine pl_get X fw_Run_31 hK hP 0 rfl (v := .int (nI pl)) rfl d_Run_advance_5 ?_
  refine pl_iald X hK hP 6 0 rfl rfl pl (by omega) (by omega) (z := nI 12) ho d_Run_advance_8 ?_
  refine lv_istore_n hx hb d_Run_advance_9 rfl hl (by decide) (lv' := [(3, .int (nI 12)), (0, .ref r), (1, .ref v), (2, .ref h)]) rfl (fun ls hl => ?_)
  refine lv_aload_n hx hb d_Run_advance_10 rfl (lv_at hl 2 rfl) ?_
  refine pl_get X fw_Run_48 hK hP 5 rfl (v := .ref v2) rfl d_Run_advance_11 ?_
  refine lv_aload_n hx hb d_Run_advance_14 rfl (lv_at hl 1 rfl) ?_
  refine pl_get X fw_Run_31 hK hP 0 rfl (v := .int (nI pl)) rfl d_Run_advance_15 ?_
  refine pl_iald X hK hP 7 0 rfl rfl pl (by omega) (by omega) (z := K pl) rfl d_Run_advance_18 ?_
  refine lv_istore hx hb d_Run_advance_19 hl (by decide) (lv' := [(4, .int (K pl)), (3, .int (nI 12)), (0, .ref r), (1, .ref v), (2, .ref h)]) rfl (fun ls hl => ?_)
  refine lv_iload_n hx hb d_Run_advance_21 rfl (lv_at hl 1 rfl) ?_
  refine lv_tableIn hx hb d_Run_advance_22 (by decide) (by decide) (off := 82) (by decide) (tgt := 104) rfl ?_
  refine lv_aload_n hx hb d_Run_advance_104 rfl (lv_at hl 2 rfl) ?_
  refine lv_iconst (v := nI 2) hx hb d_Run_advance_105 (by decide) ?_
  refine pl_put X fw_Run_24 fp_Run rfl hK hP hD hS 0 rfl (v := .int (nI 2)) rfl rfl (Nat.le_of_ble_eq_true rfl) d_Run_advance_106 (ws' := [(r, .inr (4, [.ref b1, .ref b2, .ref b3, .ref b4, .int (nI how), .int (nI 2), .int (nI pl), .int (nI q), .int (nI stt), .int (nI dn)])), (b1, .inl (cI, 14, .inl sa)), (b2, .inl (cI, 8, .inl ca)), (b3, .inl (cI, 60, .inl ta)), (b4, .inl (cI, 60, .inl tn)), (v, .inr (0, [.ref v1, .ref v2, .int (nI z)])), (v1, .inl (cI, M, .inl P)), (v2, .inl (cI, M, .inl K)), (h, .inr (1, [.ref a1, .ref a2, .ref a3, .int (nI n)])), (a1, .inl (cI, 32, .inl lo)), (a2, .inl (cI, 32, .inl hi)), (a3, .inl (cI, 32, .inl th))]) rfl (fun H locs hP hD hS => ?_)
  refine lv_goto hx hb d_Run_advance_109 rfl ?_
  exact pl_vret X hr hlk hK () trivial hP hD hS d_Run_advance_129

set_option maxHeartbeats 4000000 in
set_option maxRecDepth 100000 in
theorem c_Run_advance_9 (l : Launch) (D : va_G) (cI cZ cL : ClassId) (r b1 b2 b3 b4 : Nat) (sa ca ta tn : Nat → Int32) (how stat pl : Nat) (q stt dn : Nat) (v v1 v2 M z : Nat) (P K : Nat → Int32) (h a1 a2 a3 n : Nat) (lo hi th : Nat → Int32) (j t : Nat) (hM : M < 2 ^ 31) (hp : pl < M) (ho : P pl = nI 9) (hh : how ≤ 2) (hq : q < 14) (hs : stt < 4) (hj : j < 8) (hd : dn ≤ 60) (hth : ¬ th (stt * 8 + j) = -1 → th (stt * 8 + j) = nI t) (hk : K pl = nI j) : pl_V l y_Run_advance b_Run_advance 5 ({ frames := 3, cells := 0, slots := 0, locals := 67 } : Room) pl_E0 D classes (TY cI cZ cL) [.ref r, .ref v, .ref h] [(r, .inr (4, [.ref b1, .ref b2, .ref b3, .ref b4, .int (nI how), .int (nI 1), .int (nI pl), .int (nI (q + 1)), .int (nI stt), .int (nI dn)])), (b1, .inl (cI, 14, .inl sa)), (b2, .inl (cI, 8, .inl ca)), (b3, .inl (cI, 60, .inl ta)), (b4, .inl (cI, 60, .inl tn)), (v, .inr (0, [.ref v1, .ref v2, .int (nI z)])), (v1, .inl (cI, M, .inl P)), (v2, .inl (cI, M, .inl K)), (h, .inr (1, [.ref a1, .ref a2, .ref a3, .int (nI n)])), (a1, .inl (cI, 32, .inl lo)), (a2, .inl (cI, 32, .inl hi)), (a3, .inl (cI, 32, .inl th))] (fun u : RSa => u = actS how (decide (¬ th (stt * 8 + j) = -1) && (decide (lo (stt * 8 + j) ≤ sa q) && decide (sa q ≤ hi (stt * 8 + j)))) pl q stt dn t j (sa q) ta tn) (fun (u : RSa) => [(r, .inr (4, [.ref b1, .ref b2, .ref b3, .ref b4, .int (nI how), .int (nI u.1), .int (nI u.2.1), .int (nI u.2.2.1), .int (nI u.2.2.2.1), .int (nI u.2.2.2.2.1)])), (b1, .inl (cI, 14, .inl sa)), (b2, .inl (cI, 8, .inl ca)), (b3, .inl (cI, 60, .inl u.2.2.2.2.2.1)), (b4, .inl (cI, 60, .inl u.2.2.2.2.2.2)), (v, .inr (0, [.ref v1, .ref v2, .int (nI z)])), (v1, .inl (cI, M, .inl P)), (v2, .inl (cI, M, .inl K)), (h, .inr (1, [.ref a1, .ref a2, .ref a3, .int (nI n)])), (a1, .inl (cI, 32, .inl lo)), (a2, .inl (cI, 32, .inl hi)), (a3, .inl (cI, 32, .inl th))]) := by
  refine pl_startV (by decide) (Nat.le_of_ble_eq_true rfl) ?_
  intro p e s m args below meth c A ls X hr hlk hin hK hP hD hS hA hE hl
  have X : CallFix p m c b_Run_advance 5 s args TG R_Run := X
  have hx := X.1
  have hb := X.2.1
  have hl : lv_has ls 5 [(0, .ref r), (1, .ref v), (2, .ref h)] := hl
  refine lv_aload_n hx hb d_Run_advance_0 rfl (lv_at hl 1 rfl) ?_
  refine pl_get X fw_Run_43 hK hP 5 rfl (v := .ref v1) rfl d_Run_advance_1 ?_
  refine lv_aload_n hx hb d_Run_advance_4 rfl (lv_at hl 0 rfl) ?_
  refine pl_get X fw_Run_31 hK hP 0 rfl (v := .int (nI pl)) rfl d_Run_advance_5 ?_
  refine pl_iald X hK hP 6 0 rfl rfl pl (by omega) (by omega) (z := nI 9) ho d_Run_advance_8 ?_
  refine lv_istore_n hx hb d_Run_advance_9 rfl hl (by decide) (lv' := [(3, .int (nI 9)), (0, .ref r), (1, .ref v), (2, .ref h)]) rfl (fun ls hl => ?_)
  refine lv_aload_n hx hb d_Run_advance_10 rfl (lv_at hl 2 rfl) ?_
  refine pl_get X fw_Run_48 hK hP 5 rfl (v := .ref v2) rfl d_Run_advance_11 ?_
  refine lv_aload_n hx hb d_Run_advance_14 rfl (lv_at hl 1 rfl) ?_
  refine pl_get X fw_Run_31 hK hP 0 rfl (v := .int (nI pl)) rfl d_Run_advance_15 ?_
  refine pl_iald X hK hP 7 0 rfl rfl pl (by omega) (by omega) (z := nI j) hk d_Run_advance_18 ?_
  refine lv_istore hx hb d_Run_advance_19 hl (by decide) (lv' := [(4, .int (nI j)), (3, .int (nI 9)), (0, .ref r), (1, .ref v), (2, .ref h)]) rfl (fun ls hl => ?_)
  refine lv_iload_n hx hb d_Run_advance_21 rfl (lv_at hl 1 rfl) ?_
  refine lv_tableIn hx hb d_Run_advance_22 (by decide) (by decide) (off := 72) (by decide) (tgt := 94) rfl ?_
  refine lv_aload_n hx hb d_Run_advance_94 rfl (lv_at hl 2 rfl) ?_
  refine lv_aload_n hx hb d_Run_advance_95 rfl (lv_at hl 4 rfl) ?_
  refine lv_iload hx hb d_Run_advance_96 (lv_at hl 0 rfl) ?_
  refine pl_callVV X (rest := []) (As := [.ref h, .int (nI j)]) (b := r) (c_Run_tryAct l D cI cZ cL r b1 b2 b3 b4 sa ca ta tn how stat pl q stt dn h a1 a2 a3 n lo hi th j t hh hq hs hj hd hth) ck_Run_55 pl_E0_ok trivial hK hP hD hS hA (T := F_Run) (N := N_Run) (ci := 4) rfl 0 rfl [0, 1, 2, 3, 4, 8, 9, 10, 11] [5, 6, 7] [3, 4, 5, 6, 7, 0, 1, 2, 8, 9, 10, 11] rfl (by decide) (wr := [(v, .inr (0, [.ref v1, .ref v2, .int (nI z)])), (v1, .inl (cI, M, .inl P)), (v2, .inl (cI, M, .inl K))]) rfl (by decide) (by decide) (wf := fun (u : RSa) => [(r, .inr (4, [.ref b1, .ref b2, .ref b3, .ref b4, .int (nI how), .int (nI u.1), .int (nI u.2.1), .int (nI u.2.2.1), .int (nI u.2.2.2.1), .int (nI u.2.2.2.2.1)])), (b1, .inl (cI, 14, .inl sa)), (b2, .inl (cI, 8, .inl ca)), (b3, .inl (cI, 60, .inl u.2.2.2.2.2.1)), (b4, .inl (cI, 60, .inl u.2.2.2.2.2.2)), (v, .inr (0, [.ref v1, .ref v2, .int (nI z)])), (v1, .inl (cI, M, .inl P)), (v2, .inl (cI, M, .inl K)), (h, .inr (1, [.ref a1, .ref a2, .ref a3, .int (nI n)])), (a1, .inl (cI, 32, .inl lo)), (a2, .inl (cI, 32, .inl hi)), (a3, .inl (cI, 32, .inl th))]) (fun _ => rfl) (by decide) rfl hl.1 rfl (Nat.le_of_ble_eq_true rfl) (by decide) (by decide) d_Run_advance_98 (fun u H locs hcq hP hD hS => ?_)
  refine lv_goto hx hb d_Run_advance_101 rfl ?_
  exact pl_vret X hr hlk hK u hcq hP hD hS d_Run_advance_129
end
section
/-! Decode rows of Weaver. -/
theorem d_Weaver_appendStateCheck_0 : decode b_Weaver_appendStateCheck 0 = .ok (.aload_n 0, 1) := by decide +kernel
theorem d_Weaver_appendStateCheck_1 : decode b_Weaver_appendStateCheck 1 = .ok (.getfield 14, 3) := by decide +kernel
theorem d_Weaver_appendStateCheck_4 : decode b_Weaver_appendStateCheck 4 = .ok (.iconst 5, 1) := by decide +kernel
theorem d_Weaver_appendStateCheck_5 : decode b_Weaver_appendStateCheck 5 = .ok (.bipush 7, 2) := by decide +kernel
theorem d_Weaver_appendStateCheck_7 : decode b_Weaver_appendStateCheck 7 = .ok (.invokevirtual 46, 3) := by decide +kernel
theorem d_Weaver_appendStateCheck_10 : decode b_Weaver_appendStateCheck 10 = .ok (.aload_n 0, 1) := by decide +kernel
theorem d_Weaver_appendStateCheck_11 : decode b_Weaver_appendStateCheck 11 = .ok (.getfield 14, 3) := by decide +kernel
theorem d_Weaver_appendStateCheck_14 : decode b_Weaver_appendStateCheck 14 = .ok (.iconst 0, 1) := by decide +kernel
theorem d_Weaver_appendStateCheck_15 : decode b_Weaver_appendStateCheck 15 = .ok (.iload_n 1, 1) := by decide +kernel
theorem d_Weaver_appendStateCheck_16 : decode b_Weaver_appendStateCheck 16 = .ok (.invokevirtual 46, 3) := by decide +kernel
theorem d_Weaver_appendStateCheck_19 : decode b_Weaver_appendStateCheck 19 = .ok (.aload_n 0, 1) := by decide +kernel
theorem d_Weaver_appendStateCheck_20 : decode b_Weaver_appendStateCheck 20 = .ok (.getfield 14, 3) := by decide +kernel
theorem d_Weaver_appendStateCheck_23 : decode b_Weaver_appendStateCheck 23 = .ok (.iconst 3, 1) := by decide +kernel
theorem d_Weaver_appendStateCheck_24 : decode b_Weaver_appendStateCheck 24 = .ok (.iconst 0, 1) := by decide +kernel
theorem d_Weaver_appendStateCheck_25 : decode b_Weaver_appendStateCheck 25 = .ok (.invokevirtual 46, 3) := by decide +kernel
theorem d_Weaver_appendStateCheck_28 : decode b_Weaver_appendStateCheck 28 = .ok (.aload_n 0, 1) := by decide +kernel
theorem d_Weaver_appendStateCheck_29 : decode b_Weaver_appendStateCheck 29 = .ok (.getfield 14, 3) := by decide +kernel
theorem d_Weaver_appendStateCheck_32 : decode b_Weaver_appendStateCheck 32 = .ok (.bipush 8, 2) := by decide +kernel
theorem d_Weaver_appendStateCheck_34 : decode b_Weaver_appendStateCheck 34 = .ok (.iload_n 2, 1) := by decide +kernel
theorem d_Weaver_appendStateCheck_35 : decode b_Weaver_appendStateCheck 35 = .ok (.invokevirtual 46, 3) := by decide +kernel
theorem d_Weaver_appendStateCheck_38 : decode b_Weaver_appendStateCheck 38 = .ok (.return_, 1) := by decide +kernel
theorem d_Weaver_appendRangeCheck_0 : decode b_Weaver_appendRangeCheck 0 = .ok (.aload_n 0, 1) := by decide +kernel
theorem d_Weaver_appendRangeCheck_1 : decode b_Weaver_appendRangeCheck 1 = .ok (.getfield 14, 3) := by decide +kernel
theorem d_Weaver_appendRangeCheck_4 : decode b_Weaver_appendRangeCheck 4 = .ok (.bipush 11, 2) := by decide +kernel
theorem d_Weaver_appendRangeCheck_6 : decode b_Weaver_appendRangeCheck 6 = .ok (.iconst 0, 1) := by decide +kernel
theorem d_Weaver_appendRangeCheck_7 : decode b_Weaver_appendRangeCheck 7 = .ok (.invokevirtual 46, 3) := by decide +kernel
theorem d_Weaver_appendRangeCheck_10 : decode b_Weaver_appendRangeCheck 10 = .ok (.aload_n 0, 1) := by decide +kernel
theorem d_Weaver_appendRangeCheck_11 : decode b_Weaver_appendRangeCheck 11 = .ok (.getfield 14, 3) := by decide +kernel
theorem d_Weaver_appendRangeCheck_14 : decode b_Weaver_appendRangeCheck 14 = .ok (.iconst 0, 1) := by decide +kernel
theorem d_Weaver_appendRangeCheck_15 : decode b_Weaver_appendRangeCheck 15 = .ok (.iload_n 1, 1) := by decide +kernel
theorem d_Weaver_appendRangeCheck_16 : decode b_Weaver_appendRangeCheck 16 = .ok (.invokevirtual 46, 3) := by decide +kernel
theorem d_Weaver_appendRangeCheck_19 : decode b_Weaver_appendRangeCheck 19 = .ok (.aload_n 0, 1) := by decide +kernel
theorem d_Weaver_appendRangeCheck_20 : decode b_Weaver_appendRangeCheck 20 = .ok (.getfield 14, 3) := by decide +kernel
theorem d_Weaver_appendRangeCheck_23 : decode b_Weaver_appendRangeCheck 23 = .ok (.iconst 4, 1) := by decide +kernel
theorem d_Weaver_appendRangeCheck_24 : decode b_Weaver_appendRangeCheck 24 = .ok (.iconst 0, 1) := by decide +kernel
theorem d_Weaver_appendRangeCheck_25 : decode b_Weaver_appendRangeCheck 25 = .ok (.invokevirtual 46, 3) := by decide +kernel
theorem d_Weaver_appendRangeCheck_28 : decode b_Weaver_appendRangeCheck 28 = .ok (.aload_n 0, 1) := by decide +kernel
theorem d_Weaver_appendRangeCheck_29 : decode b_Weaver_appendRangeCheck 29 = .ok (.getfield 14, 3) := by decide +kernel
theorem d_Weaver_appendRangeCheck_32 : decode b_Weaver_appendRangeCheck 32 = .ok (.bipush 8, 2) := by decide +kernel
theorem d_Weaver_appendRangeCheck_34 : decode b_Weaver_appendRangeCheck 34 = .ok (.iload_n 3, 1) := by decide +kernel
theorem d_Weaver_appendRangeCheck_35 : decode b_Weaver_appendRangeCheck 35 = .ok (.invokevirtual 46, 3) := by decide +kernel
theorem d_Weaver_appendRangeCheck_38 : decode b_Weaver_appendRangeCheck 38 = .ok (.aload_n 0, 1) := by decide +kernel
theorem d_Weaver_appendRangeCheck_39 : decode b_Weaver_appendRangeCheck 39 = .ok (.getfield 14, 3) := by decide +kernel
theorem d_Weaver_appendRangeCheck_42 : decode b_Weaver_appendRangeCheck 42 = .ok (.bipush 11, 2) := by decide +kernel
theorem d_Weaver_appendRangeCheck_44 : decode b_Weaver_appendRangeCheck 44 = .ok (.iconst 0, 1) := by decide +kernel
theorem d_Weaver_appendRangeCheck_45 : decode b_Weaver_appendRangeCheck 45 = .ok (.invokevirtual 46, 3) := by decide +kernel
theorem d_Weaver_appendRangeCheck_48 : decode b_Weaver_appendRangeCheck 48 = .ok (.aload_n 0, 1) := by decide +kernel
theorem d_Weaver_appendRangeCheck_49 : decode b_Weaver_appendRangeCheck 49 = .ok (.getfield 14, 3) := by decide +kernel
theorem d_Weaver_appendRangeCheck_52 : decode b_Weaver_appendRangeCheck 52 = .ok (.iconst 0, 1) := by decide +kernel
theorem d_Weaver_appendRangeCheck_53 : decode b_Weaver_appendRangeCheck 53 = .ok (.iload_n 2, 1) := by decide +kernel
theorem d_Weaver_appendRangeCheck_54 : decode b_Weaver_appendRangeCheck 54 = .ok (.invokevirtual 46, 3) := by decide +kernel
theorem d_Weaver_appendRangeCheck_57 : decode b_Weaver_appendRangeCheck 57 = .ok (.aload_n 0, 1) := by decide +kernel
theorem d_Weaver_appendRangeCheck_58 : decode b_Weaver_appendRangeCheck 58 = .ok (.getfield 14, 3) := by decide +kernel
theorem d_Weaver_appendRangeCheck_61 : decode b_Weaver_appendRangeCheck 61 = .ok (.bipush 10, 2) := by decide +kernel
theorem d_Weaver_appendRangeCheck_63 : decode b_Weaver_appendRangeCheck 63 = .ok (.iconst 0, 1) := by decide +kernel
theorem d_Weaver_appendRangeCheck_64 : decode b_Weaver_appendRangeCheck 64 = .ok (.invokevirtual 46, 3) := by decide +kernel
theorem d_Weaver_appendRangeCheck_67 : decode b_Weaver_appendRangeCheck 67 = .ok (.aload_n 0, 1) := by decide +kernel
theorem d_Weaver_appendRangeCheck_68 : decode b_Weaver_appendRangeCheck 68 = .ok (.getfield 14, 3) := by decide +kernel
theorem d_Weaver_appendRangeCheck_71 : decode b_Weaver_appendRangeCheck 71 = .ok (.iconst 4, 1) := by decide +kernel
theorem d_Weaver_appendRangeCheck_72 : decode b_Weaver_appendRangeCheck 72 = .ok (.iconst 0, 1) := by decide +kernel
theorem d_Weaver_appendRangeCheck_73 : decode b_Weaver_appendRangeCheck 73 = .ok (.invokevirtual 46, 3) := by decide +kernel
theorem d_Weaver_appendRangeCheck_76 : decode b_Weaver_appendRangeCheck 76 = .ok (.aload_n 0, 1) := by decide +kernel
theorem d_Weaver_appendRangeCheck_77 : decode b_Weaver_appendRangeCheck 77 = .ok (.getfield 14, 3) := by decide +kernel
theorem d_Weaver_appendRangeCheck_80 : decode b_Weaver_appendRangeCheck 80 = .ok (.bipush 8, 2) := by decide +kernel
theorem d_Weaver_appendRangeCheck_82 : decode b_Weaver_appendRangeCheck 82 = .ok (.iload_n 3, 1) := by decide +kernel
theorem d_Weaver_appendRangeCheck_83 : decode b_Weaver_appendRangeCheck 83 = .ok (.invokevirtual 46, 3) := by decide +kernel
theorem d_Weaver_appendRangeCheck_86 : decode b_Weaver_appendRangeCheck 86 = .ok (.return_, 1) := by decide +kernel
theorem d_Weaver_appendMove_0 : decode b_Weaver_appendMove 0 = .ok (.aload_n 0, 1) := by decide +kernel
theorem d_Weaver_appendMove_1 : decode b_Weaver_appendMove 1 = .ok (.getfield 14, 3) := by decide +kernel
theorem d_Weaver_appendMove_4 : decode b_Weaver_appendMove 4 = .ok (.iconst 0, 1) := by decide +kernel
theorem d_Weaver_appendMove_5 : decode b_Weaver_appendMove 5 = .ok (.iload_n 1, 1) := by decide +kernel
theorem d_Weaver_appendMove_6 : decode b_Weaver_appendMove 6 = .ok (.invokevirtual 46, 3) := by decide +kernel
theorem d_Weaver_appendMove_9 : decode b_Weaver_appendMove 9 = .ok (.aload_n 0, 1) := by decide +kernel
theorem d_Weaver_appendMove_10 : decode b_Weaver_appendMove 10 = .ok (.getfield 14, 3) := by decide +kernel
theorem d_Weaver_appendMove_13 : decode b_Weaver_appendMove 13 = .ok (.bipush 6, 2) := by decide +kernel
theorem d_Weaver_appendMove_15 : decode b_Weaver_appendMove 15 = .ok (.bipush 7, 2) := by decide +kernel
theorem d_Weaver_appendMove_17 : decode b_Weaver_appendMove 17 = .ok (.invokevirtual 46, 3) := by decide +kernel
theorem d_Weaver_appendMove_20 : decode b_Weaver_appendMove 20 = .ok (.aload_n 0, 1) := by decide +kernel
theorem d_Weaver_appendMove_21 : decode b_Weaver_appendMove 21 = .ok (.getfield 14, 3) := by decide +kernel
theorem d_Weaver_appendMove_24 : decode b_Weaver_appendMove 24 = .ok (.bipush 7, 2) := by decide +kernel
theorem d_Weaver_appendMove_26 : decode b_Weaver_appendMove 26 = .ok (.iload_n 2, 1) := by decide +kernel
theorem d_Weaver_appendMove_27 : decode b_Weaver_appendMove 27 = .ok (.invokevirtual 46, 3) := by decide +kernel
theorem d_Weaver_appendMove_30 : decode b_Weaver_appendMove 30 = .ok (.return_, 1) := by decide +kernel
theorem d_Weaver_guardLength_0 : decode b_Weaver_guardLength 0 = .ok (.aload_n 0, 1) := by decide +kernel
theorem d_Weaver_guardLength_1 : decode b_Weaver_guardLength 1 = .ok (.iload_n 1, 1) := by decide +kernel
theorem d_Weaver_guardLength_2 : decode b_Weaver_guardLength 2 = .ok (.invokevirtual 54, 3) := by decide +kernel
theorem d_Weaver_guardLength_5 : decode b_Weaver_guardLength 5 = .ok (.bipush 16, 2) := by decide +kernel
theorem d_Weaver_guardLength_7 : decode b_Weaver_guardLength 7 = .ok (.imul, 1) := by decide +kernel
theorem d_Weaver_guardLength_8 : decode b_Weaver_guardLength 8 = .ok (.iconst 1, 1) := by decide +kernel
theorem d_Weaver_guardLength_9 : decode b_Weaver_guardLength 9 = .ok (.iadd, 1) := by decide +kernel
theorem d_Weaver_guardLength_10 : decode b_Weaver_guardLength 10 = .ok (.ireturn, 1) := by decide +kernel
theorem d_Weaver_appendGuard_0 : decode b_Weaver_appendGuard 0 = .ok (.aload_n 0, 1) := by decide +kernel
theorem d_Weaver_appendGuard_1 : decode b_Weaver_appendGuard 1 = .ok (.getfield 14, 3) := by decide +kernel
theorem d_Weaver_appendGuard_4 : decode b_Weaver_appendGuard 4 = .ok (.getfield 28, 3) := by decide +kernel
theorem d_Weaver_appendGuard_7 : decode b_Weaver_appendGuard 7 = .ok (.aload_n 1, 1) := by decide +kernel
theorem d_Weaver_appendGuard_8 : decode b_Weaver_appendGuard 8 = .ok (.iload_n 2, 1) := by decide +kernel
theorem d_Weaver_appendGuard_9 : decode b_Weaver_appendGuard 9 = .ok (.invokestatic 50, 3) := by decide +kernel
theorem d_Weaver_appendGuard_12 : decode b_Weaver_appendGuard 12 = .ok (.iadd, 1) := by decide +kernel
theorem d_Weaver_appendGuard_13 : decode b_Weaver_appendGuard 13 = .ok (.iconst 1, 1) := by decide +kernel
theorem d_Weaver_appendGuard_14 : decode b_Weaver_appendGuard 14 = .ok (.isub, 1) := by decide +kernel
theorem d_Weaver_appendGuard_15 : decode b_Weaver_appendGuard 15 = .ok (.istore_n 3, 1) := by decide +kernel
theorem d_Weaver_appendGuard_16 : decode b_Weaver_appendGuard 16 = .ok (.iconst 0, 1) := by decide +kernel
theorem d_Weaver_appendGuard_17 : decode b_Weaver_appendGuard 17 = .ok (.istore 4, 2) := by decide +kernel
theorem d_Weaver_appendGuard_19 : decode b_Weaver_appendGuard 19 = .ok (.iload 4, 2) := by decide +kernel
theorem d_Weaver_appendGuard_21 : decode b_Weaver_appendGuard 21 = .ok (.aload_n 1, 1) := by decide +kernel
theorem d_Weaver_appendGuard_22 : decode b_Weaver_appendGuard 22 = .ok (.getfield 60, 3) := by decide +kernel
theorem d_Weaver_appendGuard_25 : decode b_Weaver_appendGuard 25 = .ok (.if_icmp .ge 75, 3) := by decide +kernel
theorem d_Weaver_appendGuard_28 : decode b_Weaver_appendGuard 28 = .ok (.iload 4, 2) := by decide +kernel
theorem d_Weaver_appendGuard_30 : decode b_Weaver_appendGuard 30 = .ok (.iload_n 2, 1) := by decide +kernel
theorem d_Weaver_appendGuard_31 : decode b_Weaver_appendGuard 31 = .ok (.invokestatic 61, 3) := by decide +kernel
theorem d_Weaver_appendGuard_34 : decode b_Weaver_appendGuard 34 = .ok (.istore 5, 2) := by decide +kernel
theorem d_Weaver_appendGuard_36 : decode b_Weaver_appendGuard 36 = .ok (.aload_n 1, 1) := by decide +kernel
theorem d_Weaver_appendGuard_37 : decode b_Weaver_appendGuard 37 = .ok (.iload 5, 2) := by decide +kernel
theorem d_Weaver_appendGuard_39 : decode b_Weaver_appendGuard 39 = .ok (.invokevirtual 65, 3) := by decide +kernel
theorem d_Weaver_appendGuard_42 : decode b_Weaver_appendGuard 42 = .ok (.ifCond .eq 52, 3) := by decide +kernel
theorem d_Weaver_appendGuard_45 : decode b_Weaver_appendGuard 45 = .ok (.aload_n 0, 1) := by decide +kernel
theorem d_Weaver_appendGuard_46 : decode b_Weaver_appendGuard 46 = .ok (.iload 4, 2) := by decide +kernel
theorem d_Weaver_appendGuard_48 : decode b_Weaver_appendGuard 48 = .ok (.aload_n 0, 1) := by decide +kernel
theorem d_Weaver_appendGuard_49 : decode b_Weaver_appendGuard 49 = .ok (.getfield 14, 3) := by decide +kernel
theorem d_Weaver_appendGuard_52 : decode b_Weaver_appendGuard 52 = .ok (.getfield 28, 3) := by decide +kernel
theorem d_Weaver_appendGuard_55 : decode b_Weaver_appendGuard 55 = .ok (.bipush 16, 2) := by decide +kernel
theorem d_Weaver_appendGuard_57 : decode b_Weaver_appendGuard 57 = .ok (.iadd, 1) := by decide +kernel
theorem d_Weaver_appendGuard_58 : decode b_Weaver_appendGuard 58 = .ok (.invokevirtual 68, 3) := by decide +kernel
theorem d_Weaver_appendGuard_61 : decode b_Weaver_appendGuard 61 = .ok (.aload_n 0, 1) := by decide +kernel
theorem d_Weaver_appendGuard_62 : decode b_Weaver_appendGuard 62 = .ok (.aload_n 1, 1) := by decide +kernel
theorem d_Weaver_appendGuard_63 : decode b_Weaver_appendGuard 63 = .ok (.getfield 71, 3) := by decide +kernel
theorem d_Weaver_appendGuard_66 : decode b_Weaver_appendGuard 66 = .ok (.iload 5, 2) := by decide +kernel
theorem d_Weaver_appendGuard_68 : decode b_Weaver_appendGuard 68 = .ok (.iaload, 1) := by decide +kernel
theorem d_Weaver_appendGuard_69 : decode b_Weaver_appendGuard 69 = .ok (.aload_n 1, 1) := by decide +kernel
theorem d_Weaver_appendGuard_70 : decode b_Weaver_appendGuard 70 = .ok (.getfield 74, 3) := by decide +kernel
theorem d_Weaver_appendGuard_73 : decode b_Weaver_appendGuard 73 = .ok (.iload 5, 2) := by decide +kernel
theorem d_Weaver_appendGuard_75 : decode b_Weaver_appendGuard 75 = .ok (.iaload, 1) := by decide +kernel
theorem d_Weaver_appendGuard_76 : decode b_Weaver_appendGuard 76 = .ok (.iload_n 3, 1) := by decide +kernel
theorem d_Weaver_appendGuard_77 : decode b_Weaver_appendGuard 77 = .ok (.invokevirtual 77, 3) := by decide +kernel
theorem d_Weaver_appendGuard_80 : decode b_Weaver_appendGuard 80 = .ok (.aload_n 0, 1) := by decide +kernel
theorem d_Weaver_appendGuard_81 : decode b_Weaver_appendGuard 81 = .ok (.aload_n 1, 1) := by decide +kernel
theorem d_Weaver_appendGuard_82 : decode b_Weaver_appendGuard 82 = .ok (.getfield 81, 3) := by decide +kernel
theorem d_Weaver_appendGuard_85 : decode b_Weaver_appendGuard 85 = .ok (.iload 5, 2) := by decide +kernel
theorem d_Weaver_appendGuard_87 : decode b_Weaver_appendGuard 87 = .ok (.iaload, 1) := by decide +kernel
theorem d_Weaver_appendGuard_88 : decode b_Weaver_appendGuard 88 = .ok (.iload_n 3, 1) := by decide +kernel
theorem d_Weaver_appendGuard_89 : decode b_Weaver_appendGuard 89 = .ok (.iconst 1, 1) := by decide +kernel
theorem d_Weaver_appendGuard_90 : decode b_Weaver_appendGuard 90 = .ok (.iadd, 1) := by decide +kernel
theorem d_Weaver_appendGuard_91 : decode b_Weaver_appendGuard 91 = .ok (.invokevirtual 84, 3) := by decide +kernel
theorem d_Weaver_appendGuard_94 : decode b_Weaver_appendGuard 94 = .ok (.iinc 4 1, 3) := by decide +kernel
theorem d_Weaver_appendGuard_97 : decode b_Weaver_appendGuard 97 = .ok (.goto (-78), 3) := by decide +kernel
theorem d_Weaver_appendGuard_100 : decode b_Weaver_appendGuard 100 = .ok (.aload_n 0, 1) := by decide +kernel
theorem d_Weaver_appendGuard_101 : decode b_Weaver_appendGuard 101 = .ok (.getfield 14, 3) := by decide +kernel
theorem d_Weaver_appendGuard_104 : decode b_Weaver_appendGuard 104 = .ok (.bipush 12, 2) := by decide +kernel
theorem d_Weaver_appendGuard_106 : decode b_Weaver_appendGuard 106 = .ok (.iconst 0, 1) := by decide +kernel
theorem d_Weaver_appendGuard_107 : decode b_Weaver_appendGuard 107 = .ok (.invokevirtual 46, 3) := by decide +kernel
theorem d_Weaver_appendGuard_110 : decode b_Weaver_appendGuard 110 = .ok (.return_, 1) := by decide +kernel
theorem d_Weaver_findFirsts_0 : decode b_Weaver_findFirsts 0 = .ok (.iconst 0, 1) := by decide +kernel
theorem d_Weaver_findFirsts_1 : decode b_Weaver_findFirsts 1 = .ok (.istore_n 3, 1) := by decide +kernel
theorem d_Weaver_findFirsts_2 : decode b_Weaver_findFirsts 2 = .ok (.iconst 0, 1) := by decide +kernel
theorem d_Weaver_findFirsts_3 : decode b_Weaver_findFirsts 3 = .ok (.istore 4, 2) := by decide +kernel
theorem d_Weaver_findFirsts_5 : decode b_Weaver_findFirsts 5 = .ok (.iload 4, 2) := by decide +kernel
theorem d_Weaver_findFirsts_7 : decode b_Weaver_findFirsts 7 = .ok (.aload_n 1, 1) := by decide +kernel
theorem d_Weaver_findFirsts_8 : decode b_Weaver_findFirsts 8 = .ok (.getfield 28, 3) := by decide +kernel
theorem d_Weaver_findFirsts_11 : decode b_Weaver_findFirsts 11 = .ok (.if_icmp .ge 46, 3) := by decide +kernel
theorem d_Weaver_findFirsts_14 : decode b_Weaver_findFirsts 14 = .ok (.aload_n 0, 1) := by decide +kernel
theorem d_Weaver_findFirsts_15 : decode b_Weaver_findFirsts 15 = .ok (.getfield 20, 3) := by decide +kernel
theorem d_Weaver_findFirsts_18 : decode b_Weaver_findFirsts 18 = .ok (.iload 4, 2) := by decide +kernel
theorem d_Weaver_findFirsts_20 : decode b_Weaver_findFirsts 20 = .ok (.iload_n 3, 1) := by decide +kernel
theorem d_Weaver_findFirsts_21 : decode b_Weaver_findFirsts 21 = .ok (.iastore, 1) := by decide +kernel
theorem d_Weaver_findFirsts_22 : decode b_Weaver_findFirsts 22 = .ok (.aload_n 1, 1) := by decide +kernel
theorem d_Weaver_findFirsts_23 : decode b_Weaver_findFirsts 23 = .ok (.getfield 32, 3) := by decide +kernel
theorem d_Weaver_findFirsts_26 : decode b_Weaver_findFirsts 26 = .ok (.iload 4, 2) := by decide +kernel
theorem d_Weaver_findFirsts_28 : decode b_Weaver_findFirsts 28 = .ok (.iaload, 1) := by decide +kernel
theorem d_Weaver_findFirsts_29 : decode b_Weaver_findFirsts 29 = .ok (.bipush 9, 2) := by decide +kernel
theorem d_Weaver_findFirsts_31 : decode b_Weaver_findFirsts 31 = .ok (.if_icmp .ne 17, 3) := by decide +kernel
theorem d_Weaver_findFirsts_34 : decode b_Weaver_findFirsts 34 = .ok (.iload_n 3, 1) := by decide +kernel
theorem d_Weaver_findFirsts_35 : decode b_Weaver_findFirsts 35 = .ok (.aload_n 2, 1) := by decide +kernel
theorem d_Weaver_findFirsts_36 : decode b_Weaver_findFirsts 36 = .ok (.aload_n 1, 1) := by decide +kernel
theorem d_Weaver_findFirsts_37 : decode b_Weaver_findFirsts 37 = .ok (.getfield 35, 3) := by decide +kernel
theorem d_Weaver_findFirsts_40 : decode b_Weaver_findFirsts 40 = .ok (.iload 4, 2) := by decide +kernel
theorem d_Weaver_findFirsts_42 : decode b_Weaver_findFirsts 42 = .ok (.iaload, 1) := by decide +kernel
theorem d_Weaver_findFirsts_43 : decode b_Weaver_findFirsts 43 = .ok (.invokestatic 50, 3) := by decide +kernel
theorem d_Weaver_findFirsts_46 : decode b_Weaver_findFirsts 46 = .ok (.iadd, 1) := by decide +kernel
theorem d_Weaver_findFirsts_47 : decode b_Weaver_findFirsts 47 = .ok (.istore_n 3, 1) := by decide +kernel
theorem d_Weaver_findFirsts_48 : decode b_Weaver_findFirsts 48 = .ok (.iinc 3 1, 3) := by decide +kernel
theorem d_Weaver_findFirsts_51 : decode b_Weaver_findFirsts 51 = .ok (.iinc 4 1, 3) := by decide +kernel
theorem d_Weaver_findFirsts_54 : decode b_Weaver_findFirsts 54 = .ok (.goto (-49), 3) := by decide +kernel
theorem d_Weaver_findFirsts_57 : decode b_Weaver_findFirsts 57 = .ok (.return_, 1) := by decide +kernel
theorem d_Weaver_weave_0 : decode b_Weaver_weave 0 = .ok (.aload_n 0, 1) := by decide +kernel
theorem d_Weaver_weave_1 : decode b_Weaver_weave 1 = .ok (.aload_n 1, 1) := by decide +kernel
theorem d_Weaver_weave_2 : decode b_Weaver_weave 2 = .ok (.aload_n 2, 1) := by decide +kernel
theorem d_Weaver_weave_3 : decode b_Weaver_weave 3 = .ok (.invokevirtual 24, 3) := by decide +kernel
theorem d_Weaver_weave_6 : decode b_Weaver_weave 6 = .ok (.aload_n 0, 1) := by decide +kernel
theorem d_Weaver_weave_7 : decode b_Weaver_weave 7 = .ok (.getfield 14, 3) := by decide +kernel
theorem d_Weaver_weave_10 : decode b_Weaver_weave 10 = .ok (.iconst 0, 1) := by decide +kernel
theorem d_Weaver_weave_11 : decode b_Weaver_weave 11 = .ok (.putfield 28, 3) := by decide +kernel
theorem d_Weaver_weave_14 : decode b_Weaver_weave 14 = .ok (.iconst 0, 1) := by decide +kernel
theorem d_Weaver_weave_15 : decode b_Weaver_weave 15 = .ok (.istore_n 3, 1) := by decide +kernel
theorem d_Weaver_weave_16 : decode b_Weaver_weave 16 = .ok (.iload_n 3, 1) := by decide +kernel
theorem d_Weaver_weave_17 : decode b_Weaver_weave 17 = .ok (.aload_n 1, 1) := by decide +kernel
theorem d_Weaver_weave_18 : decode b_Weaver_weave 18 = .ok (.getfield 28, 3) := by decide +kernel
theorem d_Weaver_weave_21 : decode b_Weaver_weave 21 = .ok (.if_icmp .ge 68, 3) := by decide +kernel
theorem d_Weaver_weave_24 : decode b_Weaver_weave 24 = .ok (.aload_n 1, 1) := by decide +kernel
theorem d_Weaver_weave_25 : decode b_Weaver_weave 25 = .ok (.getfield 32, 3) := by decide +kernel
theorem d_Weaver_weave_28 : decode b_Weaver_weave 28 = .ok (.iload_n 3, 1) := by decide +kernel
theorem d_Weaver_weave_29 : decode b_Weaver_weave 29 = .ok (.iaload, 1) := by decide +kernel
theorem d_Weaver_weave_30 : decode b_Weaver_weave 30 = .ok (.istore 4, 2) := by decide +kernel
theorem d_Weaver_weave_32 : decode b_Weaver_weave 32 = .ok (.aload_n 1, 1) := by decide +kernel
theorem d_Weaver_weave_33 : decode b_Weaver_weave 33 = .ok (.getfield 35, 3) := by decide +kernel
theorem d_Weaver_weave_36 : decode b_Weaver_weave 36 = .ok (.iload_n 3, 1) := by decide +kernel
theorem d_Weaver_weave_37 : decode b_Weaver_weave 37 = .ok (.iaload, 1) := by decide +kernel
theorem d_Weaver_weave_38 : decode b_Weaver_weave 38 = .ok (.istore 5, 2) := by decide +kernel
theorem d_Weaver_weave_40 : decode b_Weaver_weave 40 = .ok (.iload 4, 2) := by decide +kernel
theorem d_Weaver_weave_42 : decode b_Weaver_weave 42 = .ok (.bipush 9, 2) := by decide +kernel
theorem d_Weaver_weave_44 : decode b_Weaver_weave 44 = .ok (.if_icmp .ne 10, 3) := by decide +kernel
theorem d_Weaver_weave_47 : decode b_Weaver_weave 47 = .ok (.aload_n 0, 1) := by decide +kernel
theorem d_Weaver_weave_48 : decode b_Weaver_weave 48 = .ok (.aload_n 2, 1) := by decide +kernel
theorem d_Weaver_weave_49 : decode b_Weaver_weave 49 = .ok (.iload 5, 2) := by decide +kernel
theorem d_Weaver_weave_51 : decode b_Weaver_weave 51 = .ok (.invokevirtual 38, 3) := by decide +kernel
theorem d_Weaver_weave_54 : decode b_Weaver_weave 54 = .ok (.aload_n 0, 1) := by decide +kernel
theorem d_Weaver_weave_55 : decode b_Weaver_weave 55 = .ok (.getfield 14, 3) := by decide +kernel
theorem d_Weaver_weave_58 : decode b_Weaver_weave 58 = .ok (.iload 4, 2) := by decide +kernel
theorem d_Weaver_weave_60 : decode b_Weaver_weave 60 = .ok (.iload 4, 2) := by decide +kernel
theorem d_Weaver_weave_62 : decode b_Weaver_weave 62 = .ok (.invokestatic 42, 3) := by decide +kernel
theorem d_Weaver_weave_65 : decode b_Weaver_weave 65 = .ok (.ifCond .eq 13, 3) := by decide +kernel
theorem d_Weaver_weave_68 : decode b_Weaver_weave 68 = .ok (.aload_n 0, 1) := by decide +kernel
theorem d_Weaver_weave_69 : decode b_Weaver_weave 69 = .ok (.getfield 20, 3) := by decide +kernel
theorem d_Weaver_weave_72 : decode b_Weaver_weave 72 = .ok (.iload 5, 2) := by decide +kernel
theorem d_Weaver_weave_74 : decode b_Weaver_weave 74 = .ok (.iaload, 1) := by decide +kernel
theorem d_Weaver_weave_75 : decode b_Weaver_weave 75 = .ok (.goto 5, 3) := by decide +kernel
theorem d_Weaver_weave_78 : decode b_Weaver_weave 78 = .ok (.iload 5, 2) := by decide +kernel
theorem d_Weaver_weave_80 : decode b_Weaver_weave 80 = .ok (.invokevirtual 46, 3) := by decide +kernel
theorem d_Weaver_weave_83 : decode b_Weaver_weave 83 = .ok (.iinc 3 1, 3) := by decide +kernel
theorem d_Weaver_weave_86 : decode b_Weaver_weave 86 = .ok (.goto (-70), 3) := by decide +kernel
theorem d_Weaver_weave_89 : decode b_Weaver_weave 89 = .ok (.return_, 1) := by decide +kernel
end
section
set_option maxHeartbeats 4000000 in
set_option maxRecDepth 100000 in
theorem c_Weaver_appendStateCheck (l : Launch) (D : va_G) (cI cZ cL : ClassId) (w w1 v v1 v2 M z : Nat) (fo f g : Nat → Int32) (x y : Int32) (hM : M < 2 ^ 31) (hz : z + 4 ≤ M) : pl_V l y_Weaver_appendStateCheck b_Weaver_appendStateCheck 3 ({ frames := 1, cells := 0, slots := 0, locals := 22 } : Room) pl_E0 D classes (TY cI cZ cL) [.ref w, .int x, .int y] [(w, .inr (3, [.ref v, .ref w1])), (w1, .inl (cI, 24, .inl fo)), (v, .inr (0, [.ref v1, .ref v2, .int (nI z)])), (v1, .inl (cI, M, .inl f)), (v2, .inl (cI, M, .inl g))] (fun _ : Unit => True) (fun (_ : Unit) => [(w, .inr (3, [.ref v, .ref w1])), (w1, .inl (cI, 24, .inl fo)), (v, .inr (0, [.ref v1, .ref v2, .int (nI (z + 4))])), (v1, .inl (cI, M, .inl (apd f z [nI 5, nI 0, nI 3, nI 8]))), (v2, .inl (cI, M, .inl (apd g z [nI 7, x, nI 0, y])))]) := by
  refine pl_startV (by decide) (Nat.le_of_ble_eq_true rfl) ?_
  intro p e s m args below meth c A ls X hr hlk hin hK hP hD hS hA hE hl
  have X : CallFix p m c b_Weaver_appendStateCheck 3 s args TG R_Weaver := X
  have hx := X.1
  have hb := X.2.1
  have hl : lv_has ls 3 [(0, .ref w), (1, .int x), (2, .int y)] := hl
  refine lv_aload_n hx hb d_Weaver_appendStateCheck_0 rfl (lv_at hl 0 rfl) ?_
  refine pl_get X fw_Weaver_14 hK hP 0 rfl (v := .ref v) rfl d_Weaver_appendStateCheck_1 ?_
  refine lv_iconst (v := nI 5) hx hb d_Weaver_appendStateCheck_4 (by decide) ?_
  refine lv_bipush (v := nI 7) hx hb d_Weaver_appendStateCheck_5 (by decide) ?_
  refine pl_callVV X (rest := []) (As := [.int (nI 5), .int (nI 7)]) (b := v) (c_Listing_append l D cI cZ cL v v1 v2 M z f g (nI 5) (nI 7) hM (by omega)) ck_Weaver_46 pl_E0_ok trivial hK hP hD hS hA (T := F_Listing) (N := N_Listing) (ci := 0) rfl 2 rfl [2, 3, 4] [0, 1] [0, 1, 2, 3, 4] rfl (by decide) (wr := [(w, .inr (3, [.ref v, .ref w1])), (w1, .inl (cI, 24, .inl fo))]) rfl (by decide) (by decide) (wf := fun _ => [(w, .inr (3, [.ref v, .ref w1])), (w1, .inl (cI, 24, .inl fo)), (v, .inr (0, [.ref v1, .ref v2, .int (nI (z + 1))])), (v1, .inl (cI, M, .inl (upd f z (nI 5)))), (v2, .inl (cI, M, .inl (upd g z (nI 7))))]) (fun _ => rfl) (by decide) rfl hl.1 rfl (Nat.le_of_ble_eq_true rfl) (by decide) (by decide) d_Weaver_appendStateCheck_7 (fun u0 H locs hcq hP hD hS => ?_)
  refine lv_aload_n hx hb d_Weaver_appendStateCheck_10 rfl (lv_at hl 0 rfl) ?_
  refine pl_get X fw_Weaver_14 hK hP 0 rfl (v := .ref v) rfl d_Weaver_appendStateCheck_11 ?_
  refine lv_iconst (v := nI 0) hx hb d_Weaver_appendStateCheck_14 (by decide) ?_
  refine lv_iload_n hx hb d_Weaver_appendStateCheck_15 rfl (lv_at hl 1 rfl) ?_
  refine pl_callVV X (rest := []) (As := [.int (nI 0), .int x]) (b := v) (c_Listing_append l D cI cZ cL v v1 v2 M (z + 1) (upd f z (nI 5)) (upd g z (nI 7)) (nI 0) x hM (by omega)) ck_Weaver_46 pl_E0_ok trivial hK hP hD hS hA (T := F_Listing) (N := N_Listing) (ci := 0) rfl 2 rfl [2, 3, 4] [0, 1] [0, 1, 2, 3, 4] rfl (by decide) (wr := [(w, .inr (3, [.ref v, .ref w1])), (w1, .inl (cI, 24, .inl fo))]) rfl (by decide) (by decide) (wf := fun _ => [(w, .inr (3, [.ref v, .ref w1])), (w1, .inl (cI, 24, .inl fo)), (v, .inr (0, [.ref v1, .ref v2, .int (nI (z + 1 + 1))])), (v1, .inl (cI, M, .inl (upd (upd f z (nI 5)) (z + 1) (nI 0)))), (v2, .inl (cI, M, .inl (upd (upd g z (nI 7)) (z + 1) x)))]) (fun _ => rfl) (by decide) rfl hl.1 rfl (Nat.le_of_ble_eq_true rfl) (by decide) (by decide) d_Weaver_appendStateCheck_16 (fun u0 H locs hcq hP hD hS => ?_)
  refine lv_aload_n hx hb d_Weaver_appendStateCheck_19 rfl (lv_at hl 0 rfl) ?_
  refine pl_get X fw_Weaver_14 hK hP 0 rfl (v := .ref v) rfl d_Weaver_appendStateCheck_20 ?_
  refine lv_iconst (v := nI 3) hx hb d_Weaver_appendStateCheck_23 (by decide) ?_
  refine lv_iconst (v := nI 0) hx hb d_Weaver_appendStateCheck_24 (by decide) ?_
  refine pl_callVV X (rest := []) (As := [.int (nI 3), .int (nI 0)]) (b := v) (c_Listing_append l D cI cZ cL v v1 v2 M (z + 1 + 1) (upd (upd f z (nI 5)) (z + 1) (nI 0)) (upd (upd g z (nI 7)) (z + 1) x) (nI 3) (nI 0) hM (by omega)) ck_Weaver_46 pl_E0_ok trivial hK hP hD hS hA (T := F_Listing) (N := N_Listing) (ci := 0) rfl 2 rfl [2, 3, 4] [0, 1] [0, 1, 2, 3, 4] rfl (by decide) (wr := [(w, .inr (3, [.ref v, .ref w1])), (w1, .inl (cI, 24, .inl fo))]) rfl (by decide) (by decide) (wf := fun _ => [(w, .inr (3, [.ref v, .ref w1])), (w1, .inl (cI, 24, .inl fo)), (v, .inr (0, [.ref v1, .ref v2, .int (nI (z + 1 + 1 + 1))])), (v1, .inl (cI, M, .inl (upd (upd (upd f z (nI 5)) (z + 1) (nI 0)) (z + 1 + 1) (nI 3)))), (v2, .inl (cI, M, .inl (upd (upd (upd g z (nI 7)) (z + 1) x) (z + 1 + 1) (nI 0))))]) (fun _ => rfl) (by decide) rfl hl.1 rfl (Nat.le_of_ble_eq_true rfl) (by decide) (by decide) d_Weaver_appendStateCheck_25 (fun u0 H locs hcq hP hD hS => ?_)
  refine lv_aload_n hx hb d_Weaver_appendStateCheck_28 rfl (lv_at hl 0 rfl) ?_
  refine pl_get X fw_Weaver_14 hK hP 0 rfl (v := .ref v) rfl d_Weaver_appendStateCheck_29 ?_
  refine lv_bipush (v := nI 8) hx hb d_Weaver_appendStateCheck_32 (by decide) ?_
  refine lv_iload_n hx hb d_Weaver_appendStateCheck_34 rfl (lv_at hl 2 rfl) ?_
  refine pl_callVV X (rest := []) (As := [.int (nI 8), .int y]) (b := v) (c_Listing_append l D cI cZ cL v v1 v2 M (z + 1 + 1 + 1) (upd (upd (upd f z (nI 5)) (z + 1) (nI 0)) (z + 1 + 1) (nI 3)) (upd (upd (upd g z (nI 7)) (z + 1) x) (z + 1 + 1) (nI 0)) (nI 8) y hM (by omega)) ck_Weaver_46 pl_E0_ok trivial hK hP hD hS hA (T := F_Listing) (N := N_Listing) (ci := 0) rfl 2 rfl [2, 3, 4] [0, 1] [0, 1, 2, 3, 4] rfl (by decide) (wr := [(w, .inr (3, [.ref v, .ref w1])), (w1, .inl (cI, 24, .inl fo))]) rfl (by decide) (by decide) (wf := fun _ => [(w, .inr (3, [.ref v, .ref w1])), (w1, .inl (cI, 24, .inl fo)), (v, .inr (0, [.ref v1, .ref v2, .int (nI (z + 1 + 1 + 1 + 1))])), (v1, .inl (cI, M, .inl (upd (upd (upd (upd f z (nI 5)) (z + 1) (nI 0)) (z + 1 + 1) (nI 3)) (z + 1 + 1 + 1) (nI 8)))), (v2, .inl (cI, M, .inl (upd (upd (upd (upd g z (nI 7)) (z + 1) x) (z + 1 + 1) (nI 0)) (z + 1 + 1 + 1) y)))]) (fun _ => rfl) (by decide) rfl hl.1 rfl (Nat.le_of_ble_eq_true rfl) (by decide) (by decide) d_Weaver_appendStateCheck_35 (fun u0 H locs hcq hP hD hS => ?_)
  exact pl_vret X hr hlk hK () trivial hP hD hS d_Weaver_appendStateCheck_38

set_option maxHeartbeats 4000000 in
set_option maxRecDepth 100000 in
theorem c_Weaver_appendRangeCheck (l : Launch) (D : va_G) (cI cZ cL : ClassId) (w w1 v v1 v2 M z : Nat) (fo f g : Nat → Int32) (x y x2 : Int32) (hM : M < 2 ^ 31) (hz : z + 9 ≤ M) : pl_V l y_Weaver_appendRangeCheck b_Weaver_appendRangeCheck 4 ({ frames := 1, cells := 0, slots := 0, locals := 22 } : Room) pl_E0 D classes (TY cI cZ cL) [.ref w, .int x, .int y, .int x2] [(w, .inr (3, [.ref v, .ref w1])), (w1, .inl (cI, 24, .inl fo)), (v, .inr (0, [.ref v1, .ref v2, .int (nI z)])), (v1, .inl (cI, M, .inl f)), (v2, .inl (cI, M, .inl g))] (fun _ : Unit => True) (fun (_ : Unit) => [(w, .inr (3, [.ref v, .ref w1])), (w1, .inl (cI, 24, .inl fo)), (v, .inr (0, [.ref v1, .ref v2, .int (nI (z + 9))])), (v1, .inl (cI, M, .inl (apd f z [nI 11, nI 0, nI 4, nI 8, nI 11, nI 0, nI 10, nI 4, nI 8]))), (v2, .inl (cI, M, .inl (apd g z [nI 0, x, nI 0, x2, nI 0, y, nI 0, nI 0, x2])))]) := by
  refine pl_startV (by decide) (Nat.le_of_ble_eq_true rfl) ?_
  intro p e s m args below meth c A ls X hr hlk hin hK hP hD hS hA hE hl
  have X : CallFix p m c b_Weaver_appendRangeCheck 4 s args TG R_Weaver := X
  have hx := X.1
  have hb := X.2.1
  have hl : lv_has ls 4 [(0, .ref w), (1, .int x), (2, .int y), (3, .int x2)] := hl
  refine lv_aload_n hx hb d_Weaver_appendRangeCheck_0 rfl (lv_at hl 0 rfl) ?_
  refine pl_get X fw_Weaver_14 hK hP 0 rfl (v := .ref v) rfl d_Weaver_appendRangeCheck_1 ?_
  refine lv_bipush (v := nI 11) hx hb d_Weaver_appendRangeCheck_4 (by decide) ?_
  refine lv_iconst (v := nI 0) hx hb d_Weaver_appendRangeCheck_6 (by decide) ?_
  refine pl_callVV X (rest := []) (As := [.int (nI 11), .int (nI 0)]) (b := v) (c_Listing_append l D cI cZ cL v v1 v2 M z f g (nI 11) (nI 0) hM (by omega)) ck_Weaver_46 pl_E0_ok trivial hK hP hD hS hA (T := F_Listing) (N := N_Listing) (ci := 0) rfl 2 rfl [2, 3, 4] [0, 1] [0, 1, 2, 3, 4] rfl (by decide) (wr := [(w, .inr (3, [.ref v, .ref w1])), (w1, .inl (cI, 24, .inl fo))]) rfl (by decide) (by decide) (wf := fun _ => [(w, .inr (3, [.ref v, .ref w1])), (w1, .inl (cI, 24, .inl fo)), (v, .inr (0, [.ref v1, .ref v2, .int (nI (z + 1))])), (v1, .inl (cI, M, .inl (upd f z (nI 11)))), (v2, .inl (cI, M, .inl (upd g z (nI 0))))]) (fun _ => rfl) (by decide) rfl hl.1 rfl (Nat.le_of_ble_eq_true rfl) (by decide) (by decide) d_Weaver_appendRangeCheck_7 (fun u0 H locs hcq hP hD hS => ?_)
  refine lv_aload_n hx hb d_Weaver_appendRangeCheck_10 rfl (lv_at hl 0 rfl) ?_
  refine pl_get X fw_Weaver_14 hK hP 0 rfl (v := .ref v) rfl d_Weaver_appendRangeCheck_11 ?_
  refine lv_iconst (v := nI 0) hx hb d_Weaver_appendRangeCheck_14 (by decide) ?_
  refine lv_iload_n hx hb d_Weaver_appendRangeCheck_15 rfl (lv_at hl 1 rfl) ?_
  refine pl_callVV X (rest := []) (As := [.int (nI 0), .int x]) (b := v) (c_Listing_append l D cI cZ cL v v1 v2 M (z + 1) (upd f z (nI 11)) (upd g z (nI 0)) (nI 0) x hM (by omega)) ck_Weaver_46 pl_E0_ok trivial hK hP hD hS hA (T := F_Listing) (N := N_Listing) (ci := 0) rfl 2 rfl [2, 3, 4] [0, 1] [0, 1, 2, 3, 4] rfl (by decide) (wr := [(w, .inr (3, [.ref v, .ref w1])), (w1, .inl (cI, 24, .inl fo))]) rfl (by decide) (by decide) (wf := fun _ => [(w, .inr (3, [.ref v, .ref w1])), (w1, .inl (cI, 24, .inl fo)), (v, .inr (0, [.ref v1, .ref v2, .int (nI (z + 1 + 1))])), (v1, .inl (cI, M, .inl (upd (upd f z (nI 11)) (z + 1) (nI 0)))), (v2, .inl (cI, M, .inl (upd (upd g z (nI 0)) (z + 1) x)))]) (fun _ => rfl) (by decide) rfl hl.1 rfl (Nat.le_of_ble_eq_true rfl) (by decide) (by decide) d_Weaver_appendRangeCheck_16 (fun u0 H locs hcq hP hD hS => ?_)
  refine lv_aload_n hx hb d_Weaver_appendRangeCheck_19 rfl (lv_at hl 0 rfl) ?_
  refine pl_get X fw_Weaver_14 hK hP 0 rfl (v := .ref v) rfl d_Weaver_appendRangeCheck_20 ?_
  refine lv_iconst (v := nI 4) hx hb d_Weaver_appendRangeCheck_23 (by decide) ?_
  refine lv_iconst (v := nI 0) hx hb d_Weaver_appendRangeCheck_24 (by decide) ?_
  refine pl_callVV X (rest := []) (As := [.int (nI 4), .int (nI 0)]) (b := v) (c_Listing_append l D cI cZ cL v v1 v2 M (z + 1 + 1) (upd (upd f z (nI 11)) (z + 1) (nI 0)) (upd (upd g z (nI 0)) (z + 1) x) (nI 4) (nI 0) hM (by omega)) ck_Weaver_46 pl_E0_ok trivial hK hP hD hS hA (T := F_Listing) (N := N_Listing) (ci := 0) rfl 2 rfl [2, 3, 4] [0, 1] [0, 1, 2, 3, 4] rfl (by decide) (wr := [(w, .inr (3, [.ref v, .ref w1])), (w1, .inl (cI, 24, .inl fo))]) rfl (by decide) (by decide) (wf := fun _ => [(w, .inr (3, [.ref v, .ref w1])), (w1, .inl (cI, 24, .inl fo)), (v, .inr (0, [.ref v1, .ref v2, .int (nI (z + 1 + 1 + 1))])), (v1, .inl (cI, M, .inl (upd (upd (upd f z (nI 11)) (z + 1) (nI 0)) (z + 1 + 1) (nI 4)))), (v2, .inl (cI, M, .inl (upd (upd (upd g z (nI 0)) (z + 1) x) (z + 1 + 1) (nI 0))))]) (fun _ => rfl) (by decide) rfl hl.1 rfl (Nat.le_of_ble_eq_true rfl) (by decide) (by decide) d_Weaver_appendRangeCheck_25 (fun u0 H locs hcq hP hD hS => ?_)
  refine lv_aload_n hx hb d_Weaver_appendRangeCheck_28 rfl (lv_at hl 0 rfl) ?_
  refine pl_get X fw_Weaver_14 hK hP 0 rfl (v := .ref v) rfl d_Weaver_appendRangeCheck_29 ?_
  refine lv_bipush (v := nI 8) hx hb d_Weaver_appendRangeCheck_32 (by decide) ?_
  refine lv_iload_n hx hb d_Weaver_appendRangeCheck_34 rfl (lv_at hl 3 rfl) ?_
  refine pl_callVV X (rest := []) (As := [.int (nI 8), .int x2]) (b := v) (c_Listing_append l D cI cZ cL v v1 v2 M (z + 1 + 1 + 1) (upd (upd (upd f z (nI 11)) (z + 1) (nI 0)) (z + 1 + 1) (nI 4)) (upd (upd (upd g z (nI 0)) (z + 1) x) (z + 1 + 1) (nI 0)) (nI 8) x2 hM (by omega)) ck_Weaver_46 pl_E0_ok trivial hK hP hD hS hA (T := F_Listing) (N := N_Listing) (ci := 0) rfl 2 rfl [2, 3, 4] [0, 1] [0, 1, 2, 3, 4] rfl (by decide) (wr := [(w, .inr (3, [.ref v, .ref w1])), (w1, .inl (cI, 24, .inl fo))]) rfl (by decide) (by decide) (wf := fun _ => [(w, .inr (3, [.ref v, .ref w1])), (w1, .inl (cI, 24, .inl fo)), (v, .inr (0, [.ref v1, .ref v2, .int (nI (z + 1 + 1 + 1 + 1))])), (v1, .inl (cI, M, .inl (upd (upd (upd (upd f z (nI 11)) (z + 1) (nI 0)) (z + 1 + 1) (nI 4)) (z + 1 + 1 + 1) (nI 8)))), (v2, .inl (cI, M, .inl (upd (upd (upd (upd g z (nI 0)) (z + 1) x) (z + 1 + 1) (nI 0)) (z + 1 + 1 + 1) x2)))]) (fun _ => rfl) (by decide) rfl hl.1 rfl (Nat.le_of_ble_eq_true rfl) (by decide) (by decide) d_Weaver_appendRangeCheck_35 (fun u0 H locs hcq hP hD hS => ?_)
  refine lv_aload_n hx hb d_Weaver_appendRangeCheck_38 rfl (lv_at hl 0 rfl) ?_
  refine pl_get X fw_Weaver_14 hK hP 0 rfl (v := .ref v) rfl d_Weaver_appendRangeCheck_39 ?_
  refine lv_bipush (v := nI 11) hx hb d_Weaver_appendRangeCheck_42 (by decide) ?_
  refine lv_iconst (v := nI 0) hx hb d_Weaver_appendRangeCheck_44 (by decide) ?_
  refine pl_callVV X (rest := []) (As := [.int (nI 11), .int (nI 0)]) (b := v) (c_Listing_append l D cI cZ cL v v1 v2 M (z + 1 + 1 + 1 + 1) (upd (upd (upd (upd f z (nI 11)) (z + 1) (nI 0)) (z + 1 + 1) (nI 4)) (z + 1 + 1 + 1) (nI 8)) (upd (upd (upd (upd g z (nI 0)) (z + 1) x) (z + 1 + 1) (nI 0)) (z + 1 + 1 + 1) x2) (nI 11) (nI 0) hM (by omega)) ck_Weaver_46 pl_E0_ok trivial hK hP hD hS hA (T := F_Listing) (N := N_Listing) (ci := 0) rfl 2 rfl [2, 3, 4] [0, 1] [0, 1, 2, 3, 4] rfl (by decide) (wr := [(w, .inr (3, [.ref v, .ref w1])), (w1, .inl (cI, 24, .inl fo))]) rfl (by decide) (by decide) (wf := fun _ => [(w, .inr (3, [.ref v, .ref w1])), (w1, .inl (cI, 24, .inl fo)), (v, .inr (0, [.ref v1, .ref v2, .int (nI (z + 1 + 1 + 1 + 1 + 1))])), (v1, .inl (cI, M, .inl (upd (upd (upd (upd (upd f z (nI 11)) (z + 1) (nI 0)) (z + 1 + 1) (nI 4)) (z + 1 + 1 + 1) (nI 8)) (z + 1 + 1 + 1 + 1) (nI 11)))), (v2, .inl (cI, M, .inl (upd (upd (upd (upd (upd g z (nI 0)) (z + 1) x) (z + 1 + 1) (nI 0)) (z + 1 + 1 + 1) x2) (z + 1 + 1 + 1 + 1) (nI 0))))]) (fun _ => rfl) (by decide) rfl hl.1 rfl (Nat.le_of_ble_eq_true rfl) (by decide) (by decide) d_Weaver_appendRangeCheck_45 (fun u0 H locs hcq hP hD hS => ?_)
  refine lv_aload_n hx hb d_Weaver_appendRangeCheck_48 rfl (lv_at hl 0 rfl) ?_
  refine pl_get X fw_Weaver_14 hK hP 0 rfl (v := .ref v) rfl d_Weaver_appendRangeCheck_49 ?_
  refine lv_iconst (v := nI 0) hx hb d_Weaver_appendRangeCheck_52 (by decide) ?_
  refine lv_iload_n hx hb d_Weaver_appendRangeCheck_53 rfl (lv_at hl 2 rfl) ?_
  refine pl_callVV X (rest := []) (As := [.int (nI 0), .int y]) (b := v) (c_Listing_append l D cI cZ cL v v1 v2 M (z + 1 + 1 + 1 + 1 + 1) (upd (upd (upd (upd (upd f z (nI 11)) (z + 1) (nI 0)) (z + 1 + 1) (nI 4)) (z + 1 + 1 + 1) (nI 8)) (z + 1 + 1 + 1 + 1) (nI 11)) (upd (upd (upd (upd (upd g z (nI 0)) (z + 1) x) (z + 1 + 1) (nI 0)) (z + 1 + 1 + 1) x2) (z + 1 + 1 + 1 + 1) (nI 0)) (nI 0) y hM (by omega)) ck_Weaver_46 pl_E0_ok trivial hK hP hD hS hA (T := F_Listing) (N := N_Listing) (ci := 0) rfl 2 rfl [2, 3, 4] [0, 1] [0, 1, 2, 3, 4] rfl (by decide) (wr := [(w, .inr (3, [.ref v, .ref w1])), (w1, .inl (cI, 24, .inl fo))]) rfl (by decide) (by decide) (wf := fun _ => [(w, .inr (3, [.ref v, .ref w1])), (w1, .inl (cI, 24, .inl fo)), (v, .inr (0, [.ref v1, .ref v2, .int (nI (z + 1 + 1 + 1 + 1 + 1 + 1))])), (v1, .inl (cI, M, .inl (upd (upd (upd (upd (upd (upd f z (nI 11)) (z + 1) (nI 0)) (z + 1 + 1) (nI 4)) (z + 1 + 1 + 1) (nI 8)) (z + 1 + 1 + 1 + 1) (nI 11)) (z + 1 + 1 + 1 + 1 + 1) (nI 0)))), (v2, .inl (cI, M, .inl (upd (upd (upd (upd (upd (upd g z (nI 0)) (z + 1) x) (z + 1 + 1) (nI 0)) (z + 1 + 1 + 1) x2) (z + 1 + 1 + 1 + 1) (nI 0)) (z + 1 + 1 + 1 + 1 + 1) y)))]) (fun _ => rfl) (by decide) rfl hl.1 rfl (Nat.le_of_ble_eq_true rfl) (by decide) (by decide) d_Weaver_appendRangeCheck_54 (fun u0 H locs hcq hP hD hS => ?_)
  refine lv_aload_n hx hb d_Weaver_appendRangeCheck_57 rfl (lv_at hl 0 rfl) ?_
  refine pl_get X fw_Weaver_14 hK hP 0 rfl (v := .ref v) rfl d_Weaver_appendRangeCheck_58 ?_
  refine lv_bipush (v := nI 10) hx hb d_Weaver_appendRangeCheck_61 (by decide) ?_
  refine lv_iconst (v := nI 0) hx hb d_Weaver_appendRangeCheck_63 (by decide) ?_
  refine pl_callVV X (rest := []) (As := [.int (nI 10), .int (nI 0)]) (b := v) (c_Listing_append l D cI cZ cL v v1 v2 M (z + 1 + 1 + 1 + 1 + 1 + 1) (upd (upd (upd (upd (upd (upd f z (nI 11)) (z + 1) (nI 0)) (z + 1 + 1) (nI 4)) (z + 1 + 1 + 1) (nI 8)) (z + 1 + 1 + 1 + 1) (nI 11)) (z + 1 + 1 + 1 + 1 + 1) (nI 0)) (upd (upd (upd (upd (upd (upd g z (nI 0)) (z + 1) x) (z + 1 + 1) (nI 0)) (z + 1 + 1 + 1) x2) (z + 1 + 1 + 1 + 1) (nI 0)) (z + 1 + 1 + 1 + 1 + 1) y) (nI 10) (nI 0) hM (by omega)) ck_Weaver_46 pl_E0_ok trivial hK hP hD hS hA (T := F_Listing) (N := N_Listing) (ci := 0) rfl 2 rfl [2, 3, 4] [0, 1] [0, 1, 2, 3, 4] rfl (by decide) (wr := [(w, .inr (3, [.ref v, .ref w1])), (w1, .inl (cI, 24, .inl fo))]) rfl (by decide) (by decide) (wf := fun _ => [(w, .inr (3, [.ref v, .ref w1])), (w1, .inl (cI, 24, .inl fo)), (v, .inr (0, [.ref v1, .ref v2, .int (nI (z + 1 + 1 + 1 + 1 + 1 + 1 + 1))])), (v1, .inl (cI, M, .inl (upd (upd (upd (upd (upd (upd (upd f z (nI 11)) (z + 1) (nI 0)) (z + 1 + 1) (nI 4)) (z + 1 + 1 + 1) (nI 8)) (z + 1 + 1 + 1 + 1) (nI 11)) (z + 1 + 1 + 1 + 1 + 1) (nI 0)) (z + 1 + 1 + 1 + 1 + 1 + 1) (nI 10)))), (v2, .inl (cI, M, .inl (upd (upd (upd (upd (upd (upd (upd g z (nI 0)) (z + 1) x) (z + 1 + 1) (nI 0)) (z + 1 + 1 + 1) x2) (z + 1 + 1 + 1 + 1) (nI 0)) (z + 1 + 1 + 1 + 1 + 1) y) (z + 1 + 1 + 1 + 1 + 1 + 1) (nI 0))))]) (fun _ => rfl) (by decide) rfl hl.1 rfl (Nat.le_of_ble_eq_true rfl) (by decide) (by decide) d_Weaver_appendRangeCheck_64 (fun u0 H locs hcq hP hD hS => ?_)
  refine lv_aload_n hx hb d_Weaver_appendRangeCheck_67 rfl (lv_at hl 0 rfl) ?_
  refine pl_get X fw_Weaver_14 hK hP 0 rfl (v := .ref v) rfl d_Weaver_appendRangeCheck_68 ?_
  refine lv_iconst (v := nI 4) hx hb d_Weaver_appendRangeCheck_71 (by decide) ?_
  refine lv_iconst (v := nI 0) hx hb d_Weaver_appendRangeCheck_72 (by decide) ?_
  refine pl_callVV X (rest := []) (As := [.int (nI 4), .int (nI 0)]) (b := v) (c_Listing_append l D cI cZ cL v v1 v2 M (z + 1 + 1 + 1 + 1 + 1 + 1 + 1) (upd (upd (upd (upd (upd (upd (upd f z (nI 11)) (z + 1) (nI 0)) (z + 1 + 1) (nI 4)) (z + 1 + 1 + 1) (nI 8)) (z + 1 + 1 + 1 + 1) (nI 11)) (z + 1 + 1 + 1 + 1 + 1) (nI 0)) (z + 1 + 1 + 1 + 1 + 1 + 1) (nI 10)) (upd (upd (upd (upd (upd (upd (upd g z (nI 0)) (z + 1) x) (z + 1 + 1) (nI 0)) (z + 1 + 1 + 1) x2) (z + 1 + 1 + 1 + 1) (nI 0)) (z + 1 + 1 + 1 + 1 + 1) y) (z + 1 + 1 + 1 + 1 + 1 + 1) (nI 0)) (nI 4) (nI 0) hM (by omega)) ck_Weaver_46 pl_E0_ok trivial hK hP hD hS hA (T := F_Listing) (N := N_Listing) (ci := 0) rfl 2 rfl [2, 3, 4] [0, 1] [0, 1, 2, 3, 4] rfl (by decide) (wr := [(w, .inr (3, [.ref v, .ref w1])), (w1, .inl (cI, 24, .inl fo))]) rfl (by decide) (by decide) (wf := fun _ => [(w, .inr (3, [.ref v, .ref w1])), (w1, .inl (cI, 24, .inl fo)), (v, .inr (0, [.ref v1, .ref v2, .int (nI (z + 1 + 1 + 1 + 1 + 1 + 1 + 1 + 1))])), (v1, .inl (cI, M, .inl (upd (upd (upd (upd (upd (upd (upd (upd f z (nI 11)) (z + 1) (nI 0)) (z + 1 + 1) (nI 4)) (z + 1 + 1 + 1) (nI 8)) (z + 1 + 1 + 1 + 1) (nI 11)) (z + 1 + 1 + 1 + 1 + 1) (nI 0)) (z + 1 + 1 + 1 + 1 + 1 + 1) (nI 10)) (z + 1 + 1 + 1 + 1 + 1 + 1 + 1) (nI 4)))), (v2, .inl (cI, M, .inl (upd (upd (upd (upd (upd (upd (upd (upd g z (nI 0)) (z + 1) x) (z + 1 + 1) (nI 0)) (z + 1 + 1 + 1) x2) (z + 1 + 1 + 1 + 1) (nI 0)) (z + 1 + 1 + 1 + 1 + 1) y) (z + 1 + 1 + 1 + 1 + 1 + 1) (nI 0)) (z + 1 + 1 + 1 + 1 + 1 + 1 + 1) (nI 0))))]) (fun _ => rfl) (by decide) rfl hl.1 rfl (Nat.le_of_ble_eq_true rfl) (by decide) (by decide) d_Weaver_appendRangeCheck_73 (fun u0 H locs hcq hP hD hS => ?_)
  refine lv_aload_n hx hb d_Weaver_appendRangeCheck_76 rfl (lv_at hl 0 rfl) ?_
  refine pl_get X fw_Weaver_14 hK hP 0 rfl (v := .ref v) rfl d_Weaver_appendRangeCheck_77 ?_
  refine lv_bipush (v := nI 8) hx hb d_Weaver_appendRangeCheck_80 (by decide) ?_
  refine lv_iload_n hx hb d_Weaver_appendRangeCheck_82 rfl (lv_at hl 3 rfl) ?_
  refine pl_callVV X (rest := []) (As := [.int (nI 8), .int x2]) (b := v) (c_Listing_append l D cI cZ cL v v1 v2 M (z + 1 + 1 + 1 + 1 + 1 + 1 + 1 + 1) (upd (upd (upd (upd (upd (upd (upd (upd f z (nI 11)) (z + 1) (nI 0)) (z + 1 + 1) (nI 4)) (z + 1 + 1 + 1) (nI 8)) (z + 1 + 1 + 1 + 1) (nI 11)) (z + 1 + 1 + 1 + 1 + 1) (nI 0)) (z + 1 + 1 + 1 + 1 + 1 + 1) (nI 10)) (z + 1 + 1 + 1 + 1 + 1 + 1 + 1) (nI 4)) (upd (upd (upd (upd (upd (upd (upd (upd g z (nI 0)) (z + 1) x) (z + 1 + 1) (nI 0)) (z + 1 + 1 + 1) x2) (z + 1 + 1 + 1 + 1) (nI 0)) (z + 1 + 1 + 1 + 1 + 1) y) (z + 1 + 1 + 1 + 1 + 1 + 1) (nI 0)) (z + 1 + 1 + 1 + 1 + 1 + 1 + 1) (nI 0)) (nI 8) x2 hM (by omega)) ck_Weaver_46 pl_E0_ok trivial hK hP hD hS hA (T := F_Listing) (N := N_Listing) (ci := 0) rfl 2 rfl [2, 3, 4] [0, 1] [0, 1, 2, 3, 4] rfl (by decide) (wr := [(w, .inr (3, [.ref v, .ref w1])), (w1, .inl (cI, 24, .inl fo))]) rfl (by decide) (by decide) (wf := fun _ => [(w, .inr (3, [.ref v, .ref w1])), (w1, .inl (cI, 24, .inl fo)), (v, .inr (0, [.ref v1, .ref v2, .int (nI (z + 1 + 1 + 1 + 1 + 1 + 1 + 1 + 1 + 1))])), (v1, .inl (cI, M, .inl (upd (upd (upd (upd (upd (upd (upd (upd (upd f z (nI 11)) (z + 1) (nI 0)) (z + 1 + 1) (nI 4)) (z + 1 + 1 + 1) (nI 8)) (z + 1 + 1 + 1 + 1) (nI 11)) (z + 1 + 1 + 1 + 1 + 1) (nI 0)) (z + 1 + 1 + 1 + 1 + 1 + 1) (nI 10)) (z + 1 + 1 + 1 + 1 + 1 + 1 + 1) (nI 4)) (z + 1 + 1 + 1 + 1 + 1 + 1 + 1 + 1) (nI 8)))), (v2, .inl (cI, M, .inl (upd (upd (upd (upd (upd (upd (upd (upd (upd g z (nI 0)) (z + 1) x) (z + 1 + 1) (nI 0)) (z + 1 + 1 + 1) x2) (z + 1 + 1 + 1 + 1) (nI 0)) (z + 1 + 1 + 1 + 1 + 1) y) (z + 1 + 1 + 1 + 1 + 1 + 1) (nI 0)) (z + 1 + 1 + 1 + 1 + 1 + 1 + 1) (nI 0)) (z + 1 + 1 + 1 + 1 + 1 + 1 + 1 + 1) x2)))]) (fun _ => rfl) (by decide) rfl hl.1 rfl (Nat.le_of_ble_eq_true rfl) (by decide) (by decide) d_Weaver_appendRangeCheck_83 (fun u0 H locs hcq hP hD hS => ?_)
  exact pl_vret X hr hlk hK () trivial hP hD hS d_Weaver_appendRangeCheck_86

set_option maxHeartbeats 4000000 in
set_option maxRecDepth 100000 in
theorem c_Weaver_appendMove (l : Launch) (D : va_G) (cI cZ cL : ClassId) (w w1 v v1 v2 M z : Nat) (fo f g : Nat → Int32) (x y : Int32) (hM : M < 2 ^ 31) (hz : z + 3 ≤ M) : pl_V l y_Weaver_appendMove b_Weaver_appendMove 3 ({ frames := 1, cells := 0, slots := 0, locals := 22 } : Room) pl_E0 D classes (TY cI cZ cL) [.ref w, .int x, .int y] [(w, .inr (3, [.ref v, .ref w1])), (w1, .inl (cI, 24, .inl fo)), (v, .inr (0, [.ref v1, .ref v2, .int (nI z)])), (v1, .inl (cI, M, .inl f)), (v2, .inl (cI, M, .inl g))] (fun _ : Unit => True) (fun (_ : Unit) => [(w, .inr (3, [.ref v, .ref w1])), (w1, .inl (cI, 24, .inl fo)), (v, .inr (0, [.ref v1, .ref v2, .int (nI (z + 3))])), (v1, .inl (cI, M, .inl (apd f z [nI 0, nI 6, nI 7]))), (v2, .inl (cI, M, .inl (apd g z [x, nI 7, y])))]) := by
  refine pl_startV (by decide) (Nat.le_of_ble_eq_true rfl) ?_
  intro p e s m args below meth c A ls X hr hlk hin hK hP hD hS hA hE hl
  have X : CallFix p m c b_Weaver_appendMove 3 s args TG R_Weaver := X
  have hx := X.1
  have hb := X.2.1
  have hl : lv_has ls 3 [(0, .ref w), (1, .int x), (2, .int y)] := hl
  refine lv_aload_n hx hb d_Weaver_appendMove_0 rfl (lv_at hl 0 rfl) ?_
  refine pl_get X fw_Weaver_14 hK hP 0 rfl (v := .ref v) rfl d_Weaver_appendMove_1 ?_
  refine lv_iconst (v := nI 0) hx hb d_Weaver_appendMove_4 (by decide) ?_
  refine lv_iload_n hx hb d_Weaver_appendMove_5 rfl (lv_at hl 1 rfl) ?_
  refine pl_callVV X (rest := []) (As := [.int (nI 0), .int x]) (b := v) (c_Listing_append l D cI cZ cL v v1 v2 M z f g (nI 0) x hM (by omega)) ck_Weaver_46 pl_E0_ok trivial hK hP hD hS hA (T := F_Listing) (N := N_Listing) (ci := 0) rfl 2 rfl [2, 3, 4] [0, 1] [0, 1, 2, 3, 4] rfl (by decide) (wr := [(w, .inr (3, [.ref v, .ref w1])), (w1, .inl (cI, 24, .inl fo))]) rfl (by decide) (by decide) (wf := fun _ => [(w, .inr (3, [.ref v, .ref w1])), (w1, .inl (cI, 24, .inl fo)), (v, .inr (0, [.ref v1, .ref v2, .int (nI (z + 1))])), (v1, .inl (cI, M, .inl (upd f z (nI 0)))), (v2, .inl (cI, M, .inl (upd g z x)))]) (fun _ => rfl) (by decide) rfl hl.1 rfl (Nat.le_of_ble_eq_true rfl) (by decide) (by decide) d_Weaver_appendMove_6 (fun u0 H locs hcq hP hD hS => ?_)
  refine lv_aload_n hx hb d_Weaver_appendMove_9 rfl (lv_at hl 0 rfl) ?_
  refine pl_get X fw_Weaver_14 hK hP 0 rfl (v := .ref v) rfl d_Weaver_appendMove_10 ?_
  refine lv_bipush (v := nI 6) hx hb d_Weaver_appendMove_13 (by decide) ?_
  refine lv_bipush (v := nI 7) hx hb d_Weaver_appendMove_15 (by decide) ?_
  refine pl_callVV X (rest := []) (As := [.int (nI 6), .int (nI 7)]) (b := v) (c_Listing_append l D cI cZ cL v v1 v2 M (z + 1) (upd f z (nI 0)) (upd g z x) (nI 6) (nI 7) hM (by omega)) ck_Weaver_46 pl_E0_ok trivial hK hP hD hS hA (T := F_Listing) (N := N_Listing) (ci := 0) rfl 2 rfl [2, 3, 4] [0, 1] [0, 1, 2, 3, 4] rfl (by decide) (wr := [(w, .inr (3, [.ref v, .ref w1])), (w1, .inl (cI, 24, .inl fo))]) rfl (by decide) (by decide) (wf := fun _ => [(w, .inr (3, [.ref v, .ref w1])), (w1, .inl (cI, 24, .inl fo)), (v, .inr (0, [.ref v1, .ref v2, .int (nI (z + 1 + 1))])), (v1, .inl (cI, M, .inl (upd (upd f z (nI 0)) (z + 1) (nI 6)))), (v2, .inl (cI, M, .inl (upd (upd g z x) (z + 1) (nI 7))))]) (fun _ => rfl) (by decide) rfl hl.1 rfl (Nat.le_of_ble_eq_true rfl) (by decide) (by decide) d_Weaver_appendMove_17 (fun u0 H locs hcq hP hD hS => ?_)
  refine lv_aload_n hx hb d_Weaver_appendMove_20 rfl (lv_at hl 0 rfl) ?_
  refine pl_get X fw_Weaver_14 hK hP 0 rfl (v := .ref v) rfl d_Weaver_appendMove_21 ?_
  refine lv_bipush (v := nI 7) hx hb d_Weaver_appendMove_24 (by decide) ?_
  refine lv_iload_n hx hb d_Weaver_appendMove_26 rfl (lv_at hl 2 rfl) ?_
  refine pl_callVV X (rest := []) (As := [.int (nI 7), .int y]) (b := v) (c_Listing_append l D cI cZ cL v v1 v2 M (z + 1 + 1) (upd (upd f z (nI 0)) (z + 1) (nI 6)) (upd (upd g z x) (z + 1) (nI 7)) (nI 7) y hM (by omega)) ck_Weaver_46 pl_E0_ok trivial hK hP hD hS hA (T := F_Listing) (N := N_Listing) (ci := 0) rfl 2 rfl [2, 3, 4] [0, 1] [0, 1, 2, 3, 4] rfl (by decide) (wr := [(w, .inr (3, [.ref v, .ref w1])), (w1, .inl (cI, 24, .inl fo))]) rfl (by decide) (by decide) (wf := fun _ => [(w, .inr (3, [.ref v, .ref w1])), (w1, .inl (cI, 24, .inl fo)), (v, .inr (0, [.ref v1, .ref v2, .int (nI (z + 1 + 1 + 1))])), (v1, .inl (cI, M, .inl (upd (upd (upd f z (nI 0)) (z + 1) (nI 6)) (z + 1 + 1) (nI 7)))), (v2, .inl (cI, M, .inl (upd (upd (upd g z x) (z + 1) (nI 7)) (z + 1 + 1) y)))]) (fun _ => rfl) (by decide) rfl hl.1 rfl (Nat.le_of_ble_eq_true rfl) (by decide) (by decide) d_Weaver_appendMove_27 (fun u0 H locs hcq hP hD hS => ?_)
  exact pl_vret X hr hlk hK () trivial hP hD hS d_Weaver_appendMove_30

set_option maxHeartbeats 4000000 in
set_option maxRecDepth 100000 in
theorem c_Weaver_guardLength (l : Launch) (D : va_G) (cI cZ cL : ClassId) (h a1 a2 a3 n : Nat) (lo hi th : Nat → Int32) (t : Nat) (hn : n ≤ 4) (ht : t < 8) : pl_I l y_Weaver_guardLength b_Weaver_guardLength 2 .int ({ frames := 2, cells := 0, slots := 0, locals := 44 } : Room) pl_E0 D classes (TY cI cZ cL) [.ref h, .int (nI t)] [(h, .inr (1, [.ref a1, .ref a2, .ref a3, .int (nI n)])), (a1, .inl (cI, 32, .inl lo)), (a2, .inl (cI, 32, .inl hi)), (a3, .inl (cI, 32, .inl th))] (fun (r : Int32) (_ : Unit) => r = nI (cntR th t n * 16 + 1)) (fun (_ : Unit) => [(h, .inr (1, [.ref a1, .ref a2, .ref a3, .int (nI n)])), (a1, .inl (cI, 32, .inl lo)), (a2, .inl (cI, 32, .inl hi)), (a3, .inl (cI, 32, .inl th))]) := by
  refine pl_startI (by decide) (Nat.le_of_ble_eq_true rfl) ?_
  intro p e s m args below meth c A ls X hr hlk hin hK hP hD hS hA hE hl
  have X : CallFix p m c b_Weaver_guardLength 2 s args TG R_Weaver := X
  have hx := X.1
  have hb := X.2.1
  have hl : lv_has ls 2 [(0, .ref h), (1, .int (nI t))] := hl
  refine lv_aload_n hx hb d_Weaver_guardLength_0 rfl (lv_at hl 0 rfl) ?_
  refine lv_iload_n hx hb d_Weaver_guardLength_1 rfl (lv_at hl 1 rfl) ?_
  refine pl_callVI X (rest := []) (As := [.int (nI t)]) (b := h) (c_Automaton_countRules l D cI cZ cL h a1 a2 a3 n lo hi th t hn ht) ck_Weaver_54 pl_E0_ok trivial hK hP hD hS hA (T := F_Automaton) (N := N_Automaton) (ci := 1) rfl 0 rfl [0, 1, 2, 3] [] [0, 1, 2, 3] rfl (by decide) (wr := []) rfl (by decide) (by decide) (wf := fun _ => [(h, .inr (1, [.ref a1, .ref a2, .ref a3, .int (nI n)])), (a1, .inl (cI, 32, .inl lo)), (a2, .inl (cI, 32, .inl hi)), (a3, .inl (cI, 32, .inl th))]) (fun _ => rfl) (by decide) rfl hl.1 rfl (Nat.le_of_ble_eq_true rfl) (by decide) (by decide) d_Weaver_guardLength_2 (fun r u0 H locs hcq hP hD hS => ?_)
  subst hcq
  refine lv_bipush (v := nI 16) hx hb d_Weaver_guardLength_5 (by decide) ?_
  refine pl_imul X d_Weaver_guardLength_7 (z := nI (cntR th t n * 16)) (pk_mul _ _) ?_
  refine lv_iconst (v := nI 1) hx hb d_Weaver_guardLength_8 (by decide) ?_
  refine pl_iadd X d_Weaver_guardLength_9 (z := nI (cntR th t n * 16 + 1)) (nI_add _ _) ?_
  exact pl_iret X hr hlk hK rfl () rfl hP hD hS d_Weaver_guardLength_10

set_option maxHeartbeats 4000000 in
set_option maxRecDepth 100000 in
theorem c_Weaver_appendGuard (l : Launch) (D : va_G) (cI cZ cL : ClassId) (w w1 v v1 v2 M z : Nat) (fo f g : Nat → Int32) (h a1 a2 a3 n : Nat) (lo hi th : Nat → Int32) (t : Nat) (hM : M < 2 ^ 31) (hn : n ≤ 4) (ht : t < 8) (hz : z + 16 * cntR th t n + 1 ≤ M) : pl_V l y_Weaver_appendGuard b_Weaver_appendGuard 6 ({ frames := 3, cells := 0, slots := 0, locals := 65 } : Room) pl_E0 D classes (TY cI cZ cL) [.ref w, .ref h, .int (nI t)] [(w, .inr (3, [.ref v, .ref w1])), (w1, .inl (cI, 24, .inl fo)), (v, .inr (0, [.ref v1, .ref v2, .int (nI z)])), (v1, .inl (cI, M, .inl f)), (v2, .inl (cI, M, .inl g)), (h, .inr (1, [.ref a1, .ref a2, .ref a3, .int (nI n)])), (a1, .inl (cI, 32, .inl lo)), (a2, .inl (cI, 32, .inl hi)), (a3, .inl (cI, 32, .inl th))] (fun _ : Unit => True) (fun (_ : Unit) => [(w, .inr (3, [.ref v, .ref w1])), (w1, .inl (cI, 24, .inl fo)), (v, .inr (0, [.ref v1, .ref v2, .int (nI (z + 16 * cntR th t n + 1))])), (v1, .inl (cI, M, .inl (apd f z (gO th t n ++ [nI 12])))), (v2, .inl (cI, M, .inl (apd g z (gK lo hi th t z (z + cntR th t n * 16) n ++ [nI 0])))), (h, .inr (1, [.ref a1, .ref a2, .ref a3, .int (nI n)])), (a1, .inl (cI, 32, .inl lo)), (a2, .inl (cI, 32, .inl hi)), (a3, .inl (cI, 32, .inl th))]) := by
  refine pl_startV (by decide) (Nat.le_of_ble_eq_true rfl) ?_
  intro p e s m args below meth c A ls X hr hlk hin hK hP hD hS hA hE hl
  have X : CallFix p m c b_Weaver_appendGuard 6 s args TG R_Weaver := X
  have hx := X.1
  have hb := X.2.1
  have hl : lv_has ls 6 [(0, .ref w), (1, .ref h), (2, .int (nI t))] := hl
  refine lv_aload_n hx hb d_Weaver_appendGuard_0 rfl (lv_at hl 0 rfl) ?_
  refine pl_get X fw_Weaver_14 hK hP 0 rfl (v := .ref v) rfl d_Weaver_appendGuard_1 ?_
  refine pl_get X fw_Weaver_28 hK hP 2 rfl (v := .int (nI z)) rfl d_Weaver_appendGuard_4 ?_
  refine lv_aload_n hx hb d_Weaver_appendGuard_7 rfl (lv_at hl 1 rfl) ?_
  refine lv_iload_n hx hb d_Weaver_appendGuard_8 rfl (lv_at hl 2 rfl) ?_
  refine pl_callSI X (rest := [.int (nI z)]) (As := [.ref h, .int (nI t)]) (c_Weaver_guardLength l D cI cZ cL h a1 a2 a3 n lo hi th t hn ht) ck_Weaver_50 pl_E0_ok trivial hK hP hD hS hA [5, 6, 7, 8] [0, 1, 2, 3, 4] [0, 1, 2, 3, 4, 5, 6, 7, 8] rfl (by decide) (wr := [(w, .inr (3, [.ref v, .ref w1])), (w1, .inl (cI, 24, .inl fo)), (v, .inr (0, [.ref v1, .ref v2, .int (nI z)])), (v1, .inl (cI, M, .inl f)), (v2, .inl (cI, M, .inl g))]) rfl (by decide) (by decide) (wf := fun _ => [(w, .inr (3, [.ref v, .ref w1])), (w1, .inl (cI, 24, .inl fo)), (v, .inr (0, [.ref v1, .ref v2, .int (nI z)])), (v1, .inl (cI, M, .inl f)), (v2, .inl (cI, M, .inl g)), (h, .inr (1, [.ref a1, .ref a2, .ref a3, .int (nI n)])), (a1, .inl (cI, 32, .inl lo)), (a2, .inl (cI, 32, .inl hi)), (a3, .inl (cI, 32, .inl th))]) (fun _ => rfl) (by decide) rfl hl.1 rfl (Nat.le_of_ble_eq_true rfl) (by decide) (by decide) d_Weaver_appendGuard_9 (fun r u0 H locs hcq hP hD hS => ?_)
  subst hcq
  refine pl_iadd X d_Weaver_appendGuard_12 (z := nI (z + (cntR th t n * 16 + 1))) (nI_add _ _) ?_
  refine lv_iconst (v := nI 1) hx hb d_Weaver_appendGuard_13 (by decide) ?_
  refine pl_isub X d_Weaver_appendGuard_14 (z := nI (z + cntR th t n * 16)) (nI_dec (z + cntR th t n * 16)) ?_
  refine lv_istore_n hx hb d_Weaver_appendGuard_15 rfl hl (by decide) (lv' := [(3, .int (nI (z + cntR th t n * 16))), (0, .ref w), (1, .ref h), (2, .int (nI t))]) rfl (fun ls hl => ?_)
  refine lv_iconst (v := nI 0) hx hb d_Weaver_appendGuard_16 (by decide) ?_
  refine lv_istore hx hb d_Weaver_appendGuard_17 hl (by decide) (lv' := [(4, .int (nI 0)), (3, .int (nI (z + cntR th t n * 16))), (0, .ref w), (1, .ref h), (2, .int (nI t))]) rfl (fun ls hl => ?_)
  have loop_19 : ∀ (k : Nat) (i : Nat) (H : Heap) (locs : List Loc) (ls : Array Slot), n - i = k → (i ≤ n) → va_P D classes [(w, .inr (3, [.ref v, .ref w1])), (w1, .inl (cI, 24, .inl fo)), (v, .inr (0, [.ref v1, .ref v2, .int (nI (z + 16 * cntR th t i))])), (v1, .inl (cI, M, .inl (apd f z (gO th t i)))), (v2, .inl (cI, M, .inl (apd g z (gK lo hi th t z (z + cntR th t n * 16) i)))), (h, .inr (1, [.ref a1, .ref a2, .ref a3, .int (nI n)])), (a1, .inl (cI, 32, .inl lo)), (a2, .inl (cI, 32, .inl hi)), (a3, .inl (cI, 32, .inl th))] H → va_D A [(w, .inr (3, [.ref v, .ref w1])), (w1, .inl (cI, 24, .inl fo)), (v, .inr (0, [.ref v1, .ref v2, .int (nI (z + 16 * cntR th t i))])), (v1, .inl (cI, M, .inl (apd f z (gO th t i)))), (v2, .inl (cI, M, .inl (apd g z (gK lo hi th t z (z + cntR th t n * 16) i)))), (h, .inr (1, [.ref a1, .ref a2, .ref a3, .int (nI n)])), (a1, .inl (cI, 32, .inl lo)), (a2, .inl (cI, 32, .inl hi)), (a3, .inl (cI, 32, .inl th))] → va_S A s.heap H locs → lv_has ls 6 [(4, .int (nI i)), (3, .int (nI (z + cntR th t n * 16))), (0, .ref w), (1, .ref h), (2, .int (nI t))] → W p l e ({ frames := 3, cells := 0, slots := 0, locals := 65 } : Room) s m args below meth c H locs 0 0 (MQ below (va_Qv (fun _ : Unit => True) (fun u => pl_out D classes (TY cI cZ cL) A ((fun (_ : Unit) => [(w, .inr (3, [.ref v, .ref w1])), (w1, .inl (cI, 24, .inl fo)), (v, .inr (0, [.ref v1, .ref v2, .int (nI (z + 16 * cntR th t n + 1))])), (v1, .inl (cI, M, .inl (apd f z (gO th t n ++ [nI 12])))), (v2, .inl (cI, M, .inl (apd g z (gK lo hi th t z (z + cntR th t n * 16) n ++ [nI 0])))), (h, .inr (1, [.ref a1, .ref a2, .ref a3, .int (nI n)])), (a1, .inl (cI, 32, .inl lo)), (a2, .inl (cI, 32, .inl hi)), (a3, .inl (cI, 32, .inl th))]) u)) A) args s 0 0 A) (F0 m 19 ls []) := by
    intro k
    induction k using Nat.strongRecOn with
    | _ k ih =>
    intro i H locs ls hk hi0 hP hD hS hl
    have hc1 := cntR_mono th t hi0
    refine lv_iload hx hb d_Weaver_appendGuard_19 (lv_at hl 0 rfl) ?_
    refine lv_aload_n hx hb d_Weaver_appendGuard_21 rfl (lv_at hl 3 rfl) ?_
    refine pl_get X fw_Weaver_60 hK hP 5 rfl (v := .int (nI n)) rfl d_Weaver_appendGuard_22 ?_
    refine pl_icmp_ge X (by omega) (by omega) d_Weaver_appendGuard_25 rfl (fun g25 => ?_) (fun g25 => ?_)
    · skip
      have hin2 : n = i := by omega
      subst hin2
      refine lv_aload_n hx hb d_Weaver_appendGuard_100 rfl (lv_at hl 2 rfl) ?_
      refine pl_get X fw_Weaver_14 hK hP 0 rfl (v := .ref v) rfl d_Weaver_appendGuard_101 ?_
      refine lv_bipush (v := nI 12) hx hb d_Weaver_appendGuard_104 (by decide) ?_
      refine lv_iconst (v := nI 0) hx hb d_Weaver_appendGuard_106 (by decide) ?_
      refine pl_callVV X (rest := []) (As := [.int (nI 12), .int (nI 0)]) (b := v) (c_Listing_append l D cI cZ cL v v1 v2 M (z + 16 * cntR th t n) (apd f z (gO th t n)) (apd g z (gK lo hi th t z (z + cntR th t n * 16) n)) (nI 12) (nI 0) hM (by omega)) ck_Weaver_46 pl_E0_ok trivial hK hP hD hS hA (T := F_Listing) (N := N_Listing) (ci := 0) rfl 2 rfl [2, 3, 4] [0, 1, 5, 6, 7, 8] [0, 1, 6, 7, 8, 2, 3, 4, 5] rfl (by decide) (wr := [(w, .inr (3, [.ref v, .ref w1])), (w1, .inl (cI, 24, .inl fo)), (h, .inr (1, [.ref a1, .ref a2, .ref a3, .int (nI n)])), (a1, .inl (cI, 32, .inl lo)), (a2, .inl (cI, 32, .inl hi)), (a3, .inl (cI, 32, .inl th))]) rfl (by decide) (by decide) (wf := fun _ => [(w, .inr (3, [.ref v, .ref w1])), (w1, .inl (cI, 24, .inl fo)), (v, .inr (0, [.ref v1, .ref v2, .int (nI (z + 16 * cntR th t n + 1))])), (v1, .inl (cI, M, .inl (upd (apd f z (gO th t n)) (z + 16 * cntR th t n) (nI 12)))), (v2, .inl (cI, M, .inl (upd (apd g z (gK lo hi th t z (z + cntR th t n * 16) n)) (z + 16 * cntR th t n) (nI 0)))), (h, .inr (1, [.ref a1, .ref a2, .ref a3, .int (nI n)])), (a1, .inl (cI, 32, .inl lo)), (a2, .inl (cI, 32, .inl hi)), (a3, .inl (cI, 32, .inl th))]) (fun _ => rfl) (by decide) rfl hl.1 rfl (Nat.le_of_ble_eq_true rfl) (by decide) (by decide) d_Weaver_appendGuard_107 (fun u0 H locs hcq hP hD hS => ?_)
      have e1 := gO_end f z th t n (nI 12)
      have e2 := gK_end lo hi g z (z + cntR th t n * 16) th t n (nI 0)
      have hP : va_P D classes [(w, .inr (3, [.ref v, .ref w1])), (w1, .inl (cI, 24, .inl fo)), (v, .inr (0, [.ref v1, .ref v2, .int (nI (z + 16 * cntR th t n + 1))])), (v1, .inl (cI, M, .inl (apd f z (gO th t n ++ [nI 12])))), (v2, .inl (cI, M, .inl (apd g z (gK lo hi th t z (z + cntR th t n * 16) n ++ [nI 0])))), (h, .inr (1, [.ref a1, .ref a2, .ref a3, .int (nI n)])), (a1, .inl (cI, 32, .inl lo)), (a2, .inl (cI, 32, .inl hi)), (a3, .inl (cI, 32, .inl th))] H := by rw [e1, e2]; exact hP
      have hD : va_D A [(w, .inr (3, [.ref v, .ref w1])), (w1, .inl (cI, 24, .inl fo)), (v, .inr (0, [.ref v1, .ref v2, .int (nI (z + 16 * cntR th t n + 1))])), (v1, .inl (cI, M, .inl (apd f z (gO th t n ++ [nI 12])))), (v2, .inl (cI, M, .inl (apd g z (gK lo hi th t z (z + cntR th t n * 16) n ++ [nI 0])))), (h, .inr (1, [.ref a1, .ref a2, .ref a3, .int (nI n)])), (a1, .inl (cI, 32, .inl lo)), (a2, .inl (cI, 32, .inl hi)), (a3, .inl (cI, 32, .inl th))] := by rw [e1, e2]; exact hD
      exact pl_vret X hr hlk hK () trivial hP hD hS d_Weaver_appendGuard_110
    · skip
      refine lv_iload hx hb d_Weaver_appendGuard_28 (lv_at hl 0 rfl) ?_
      refine lv_iload_n hx hb d_Weaver_appendGuard_30 rfl (lv_at hl 4 rfl) ?_
      refine pl_callSI X (rest := []) (As := [.int (nI i), .int (nI t)]) (c_Automaton_place l D cI cZ cL i t) ck_Weaver_61 pl_E0_ok trivial hK hP hD hS hA [] [0, 1, 2, 3, 4, 5, 6, 7, 8] [0, 1, 2, 3, 4, 5, 6, 7, 8] rfl (by decide) (wr := [(w, .inr (3, [.ref v, .ref w1])), (w1, .inl (cI, 24, .inl fo)), (v, .inr (0, [.ref v1, .ref v2, .int (nI (z + 16 * cntR th t i))])), (v1, .inl (cI, M, .inl (apd f z (gO th t i)))), (v2, .inl (cI, M, .inl (apd g z (gK lo hi th t z (z + cntR th t n * 16) i)))), (h, .inr (1, [.ref a1, .ref a2, .ref a3, .int (nI n)])), (a1, .inl (cI, 32, .inl lo)), (a2, .inl (cI, 32, .inl hi)), (a3, .inl (cI, 32, .inl th))]) rfl (by decide) (by decide) (wf := fun _ => [(w, .inr (3, [.ref v, .ref w1])), (w1, .inl (cI, 24, .inl fo)), (v, .inr (0, [.ref v1, .ref v2, .int (nI (z + 16 * cntR th t i))])), (v1, .inl (cI, M, .inl (apd f z (gO th t i)))), (v2, .inl (cI, M, .inl (apd g z (gK lo hi th t z (z + cntR th t n * 16) i)))), (h, .inr (1, [.ref a1, .ref a2, .ref a3, .int (nI n)])), (a1, .inl (cI, 32, .inl lo)), (a2, .inl (cI, 32, .inl hi)), (a3, .inl (cI, 32, .inl th))]) (fun _ => rfl) (by decide) rfl hl.1 rfl (Nat.le_of_ble_eq_true rfl) (by decide) (by decide) d_Weaver_appendGuard_31 (fun r u0 H locs hcq hP hD hS => ?_)
      subst hcq
      refine lv_istore hx hb d_Weaver_appendGuard_34 hl (by decide) (lv' := [(5, .int (nI (i * 8 + t))), (4, .int (nI i)), (3, .int (nI (z + cntR th t n * 16))), (0, .ref w), (1, .ref h), (2, .int (nI t))]) rfl (fun ls hl => ?_)
      refine lv_aload_n hx hb d_Weaver_appendGuard_36 rfl (lv_at hl 4 rfl) ?_
      refine lv_iload hx hb d_Weaver_appendGuard_37 (lv_at hl 0 rfl) ?_
      refine pl_callVI X (rest := []) (As := [.int (nI (i * 8 + t))]) (b := h) (c_Automaton_hasRule l D cI cZ cL h a1 a2 a3 n lo hi th (i * 8 + t) (by omega)) ck_Weaver_65 pl_E0_ok trivial hK hP hD hS hA (T := F_Automaton) (N := N_Automaton) (ci := 1) rfl 5 rfl [5, 6, 7, 8] [0, 1, 2, 3, 4] [0, 1, 2, 3, 4, 5, 6, 7, 8] rfl (by decide) (wr := [(w, .inr (3, [.ref v, .ref w1])), (w1, .inl (cI, 24, .inl fo)), (v, .inr (0, [.ref v1, .ref v2, .int (nI (z + 16 * cntR th t i))])), (v1, .inl (cI, M, .inl (apd f z (gO th t i)))), (v2, .inl (cI, M, .inl (apd g z (gK lo hi th t z (z + cntR th t n * 16) i))))]) rfl (by decide) (by decide) (wf := fun _ => [(w, .inr (3, [.ref v, .ref w1])), (w1, .inl (cI, 24, .inl fo)), (v, .inr (0, [.ref v1, .ref v2, .int (nI (z + 16 * cntR th t i))])), (v1, .inl (cI, M, .inl (apd f z (gO th t i)))), (v2, .inl (cI, M, .inl (apd g z (gK lo hi th t z (z + cntR th t n * 16) i)))), (h, .inr (1, [.ref a1, .ref a2, .ref a3, .int (nI n)])), (a1, .inl (cI, 32, .inl lo)), (a2, .inl (cI, 32, .inl hi)), (a3, .inl (cI, 32, .inl th))]) (fun _ => rfl) (by decide) rfl hl.1 rfl (Nat.le_of_ble_eq_true rfl) (by decide) (by decide) d_Weaver_appendGuard_39 (fun r u0 H locs hcq hP hD hS => ?_)
      subst hcq
      refine pl_ifB_eq X d_Weaver_appendGuard_42 rfl (fun g42 => ?_) (fun g42 => ?_)
      · skip
        have e1 : gO th t (i + 1) = gO th t i := gO_no g42
        have e2 : gK lo hi th t z (z + cntR th t n * 16) (i + 1) = gK lo hi th t z (z + cntR th t n * 16) i := gK_no g42
        have e3 : cntR th t (i + 1) = cntR th t i := cntR_no g42
        have hP : va_P D classes [(w, .inr (3, [.ref v, .ref w1])), (w1, .inl (cI, 24, .inl fo)), (v, .inr (0, [.ref v1, .ref v2, .int (nI (z + 16 * cntR th t (i + 1)))])), (v1, .inl (cI, M, .inl (apd f z (gO th t (i + 1))))), (v2, .inl (cI, M, .inl (apd g z (gK lo hi th t z (z + cntR th t n * 16) (i + 1))))), (h, .inr (1, [.ref a1, .ref a2, .ref a3, .int (nI n)])), (a1, .inl (cI, 32, .inl lo)), (a2, .inl (cI, 32, .inl hi)), (a3, .inl (cI, 32, .inl th))] H := by rw [e1, e2, e3]; exact hP
        have hD : va_D A [(w, .inr (3, [.ref v, .ref w1])), (w1, .inl (cI, 24, .inl fo)), (v, .inr (0, [.ref v1, .ref v2, .int (nI (z + 16 * cntR th t (i + 1)))])), (v1, .inl (cI, M, .inl (apd f z (gO th t (i + 1))))), (v2, .inl (cI, M, .inl (apd g z (gK lo hi th t z (z + cntR th t n * 16) (i + 1))))), (h, .inr (1, [.ref a1, .ref a2, .ref a3, .int (nI n)])), (a1, .inl (cI, 32, .inl lo)), (a2, .inl (cI, 32, .inl hi)), (a3, .inl (cI, 32, .inl th))] := by rw [e1, e2, e3]; exact hD
        refine lv_iinc hx hb d_Weaver_appendGuard_94 hl (k := 1) rfl (nI_inc1 _) (by decide) (lv' := [(4, .int (nI (i + 1))), (5, .int (nI (i * 8 + t))), (3, .int (nI (z + cntR th t n * 16))), (0, .ref w), (1, .ref h), (2, .int (nI t))]) rfl (fun ls hl => ?_)
        refine lv_goto hx hb d_Weaver_appendGuard_97 rfl ?_
        exact ih _ (by omega) (i + 1) _ _ _ rfl (by omega) hP hD hS (lv_sub hl [0, 2, 3, 4, 5] rfl)
      · skip
        have hc2 := cntR_yes g42
        have hc3 := cntR_mono th t (show i + 1 ≤ n by omega)
        refine lv_aload_n hx hb d_Weaver_appendGuard_45 rfl (lv_at hl 3 rfl) ?_
        refine lv_iload hx hb d_Weaver_appendGuard_46 (lv_at hl 1 rfl) ?_
        refine lv_aload_n hx hb d_Weaver_appendGuard_48 rfl (lv_at hl 3 rfl) ?_
        refine pl_get X fw_Weaver_14 hK hP 0 rfl (v := .ref v) rfl d_Weaver_appendGuard_49 ?_
        refine pl_get X fw_Weaver_28 hK hP 2 rfl (v := .int (nI (z + 16 * cntR th t i))) rfl d_Weaver_appendGuard_52 ?_
        refine lv_bipush (v := nI 16) hx hb d_Weaver_appendGuard_55 (by decide) ?_
        refine pl_iadd X d_Weaver_appendGuard_57 (z := nI (z + 16 * cntR th t i + 16)) (nI_add _ _) ?_
        refine pl_callVV X (rest := []) (As := [.int (nI i), .int (nI (z + 16 * cntR th t i + 16))]) (b := w) (c_Weaver_appendStateCheck l D cI cZ cL w w1 v v1 v2 M (z + 16 * cntR th t i) fo (apd f z (gO th t i)) (apd g z (gK lo hi th t z (z + cntR th t n * 16) i)) (nI i) (nI (z + 16 * cntR th t i + 16)) hM (by omega)) ck_Weaver_68 pl_E0_ok trivial hK hP hD hS hA (T := F_Weaver) (N := N_Weaver) (ci := 3) rfl 0 rfl [0, 1, 2, 3, 4] [5, 6, 7, 8] [4, 5, 6, 7, 8, 0, 1, 2, 3] rfl (by decide) (wr := [(h, .inr (1, [.ref a1, .ref a2, .ref a3, .int (nI n)])), (a1, .inl (cI, 32, .inl lo)), (a2, .inl (cI, 32, .inl hi)), (a3, .inl (cI, 32, .inl th))]) rfl (by decide) (by decide) (wf := fun _ => [(w, .inr (3, [.ref v, .ref w1])), (w1, .inl (cI, 24, .inl fo)), (v, .inr (0, [.ref v1, .ref v2, .int (nI (z + 16 * cntR th t i + 4))])), (v1, .inl (cI, M, .inl (apd (apd f z (gO th t i)) (z + 16 * cntR th t i) l4o))), (v2, .inl (cI, M, .inl (apd (apd g z (gK lo hi th t z (z + cntR th t n * 16) i)) (z + 16 * cntR th t i) (l4k i (z + 16 * cntR th t i))))), (h, .inr (1, [.ref a1, .ref a2, .ref a3, .int (nI n)])), (a1, .inl (cI, 32, .inl lo)), (a2, .inl (cI, 32, .inl hi)), (a3, .inl (cI, 32, .inl th))]) (fun _ => rfl) (by decide) rfl hl.1 rfl (Nat.le_of_ble_eq_true rfl) (by decide) (by decide) d_Weaver_appendGuard_58 (fun u0 H locs hcq hP hD hS => ?_)
        refine lv_aload_n hx hb d_Weaver_appendGuard_61 rfl (lv_at hl 3 rfl) ?_
        refine lv_aload_n hx hb d_Weaver_appendGuard_62 rfl (lv_at hl 4 rfl) ?_
        refine pl_get X fw_Weaver_71 hK hP 5 rfl (v := .ref a1) rfl d_Weaver_appendGuard_63 ?_
        refine lv_iload hx hb d_Weaver_appendGuard_66 (lv_at hl 0 rfl) ?_
        refine pl_iald X hK hP 6 0 rfl rfl (i * 8 + t) (by omega) (by decide) (z := lo (i * 8 + t)) rfl d_Weaver_appendGuard_68 ?_
        refine lv_aload_n hx hb d_Weaver_appendGuard_69 rfl (lv_at hl 4 rfl) ?_
        refine pl_get X fw_Weaver_74 hK hP 5 rfl (v := .ref a2) rfl d_Weaver_appendGuard_70 ?_
        refine lv_iload hx hb d_Weaver_appendGuard_73 (lv_at hl 0 rfl) ?_
        refine pl_iald X hK hP 7 0 rfl rfl (i * 8 + t) (by omega) (by decide) (z := hi (i * 8 + t)) rfl d_Weaver_appendGuard_75 ?_
        refine lv_iload_n hx hb d_Weaver_appendGuard_76 rfl (lv_at hl 2 rfl) ?_
        refine pl_callVV X (rest := []) (As := [.int (lo (i * 8 + t)), .int (hi (i * 8 + t)), .int (nI (z + cntR th t n * 16))]) (b := w) (c_Weaver_appendRangeCheck l D cI cZ cL w w1 v v1 v2 M (z + 16 * cntR th t i + 4) fo (apd (apd f z (gO th t i)) (z + 16 * cntR th t i) l4o) (apd (apd g z (gK lo hi th t z (z + cntR th t n * 16) i)) (z + 16 * cntR th t i) (l4k i (z + 16 * cntR th t i))) (lo (i * 8 + t)) (hi (i * 8 + t)) (nI (z + cntR th t n * 16)) hM (by omega)) ck_Weaver_77 pl_E0_ok trivial hK hP hD hS hA (T := F_Weaver) (N := N_Weaver) (ci := 3) rfl 0 rfl [0, 1, 2, 3, 4] [5, 6, 7, 8] [4, 5, 6, 7, 8, 0, 1, 2, 3] rfl (by decide) (wr := [(h, .inr (1, [.ref a1, .ref a2, .ref a3, .int (nI n)])), (a1, .inl (cI, 32, .inl lo)), (a2, .inl (cI, 32, .inl hi)), (a3, .inl (cI, 32, .inl th))]) rfl (by decide) (by decide) (wf := fun _ => [(w, .inr (3, [.ref v, .ref w1])), (w1, .inl (cI, 24, .inl fo)), (v, .inr (0, [.ref v1, .ref v2, .int (nI (z + 16 * cntR th t i + 4 + 9))])), (v1, .inl (cI, M, .inl (apd (apd (apd f z (gO th t i)) (z + 16 * cntR th t i) l4o) (z + 16 * cntR th t i + 4) l9o))), (v2, .inl (cI, M, .inl (apd (apd (apd g z (gK lo hi th t z (z + cntR th t n * 16) i)) (z + 16 * cntR th t i) (l4k i (z + 16 * cntR th t i))) (z + 16 * cntR th t i + 4) (l9k (lo (i * 8 + t)) (hi (i * 8 + t)) (z + cntR th t n * 16))))), (h, .inr (1, [.ref a1, .ref a2, .ref a3, .int (nI n)])), (a1, .inl (cI, 32, .inl lo)), (a2, .inl (cI, 32, .inl hi)), (a3, .inl (cI, 32, .inl th))]) (fun _ => rfl) (by decide) rfl hl.1 rfl (Nat.le_of_ble_eq_true rfl) (by decide) (by decide) d_Weaver_appendGuard_77 (fun u0 H locs hcq hP hD hS => ?_)
        refine lv_aload_n hx hb d_Weaver_appendGuard_80 rfl (lv_at hl 3 rfl) ?_
        refine lv_aload_n hx hb d_Weaver_appendGuard_81 rfl (lv_at hl 4 rfl) ?_
        refine pl_get X fw_Weaver_81 hK hP 5 rfl (v := .ref a3) rfl d_Weaver_appendGuard_82 ?_
        refine lv_iload hx hb d_Weaver_appendGuard_85 (lv_at hl 0 rfl) ?_
        refine pl_iald X hK hP 8 0 rfl rfl (i * 8 + t) (by omega) (by decide) (z := th (i * 8 + t)) rfl d_Weaver_appendGuard_87 ?_
        refine lv_iload_n hx hb d_Weaver_appendGuard_88 rfl (lv_at hl 2 rfl) ?_
        refine lv_iconst (v := nI 1) hx hb d_Weaver_appendGuard_89 (by decide) ?_
        refine pl_iadd X d_Weaver_appendGuard_90 (z := nI (z + cntR th t n * 16 + 1)) (nI_add _ _) ?_
        refine pl_callVV X (rest := []) (As := [.int (th (i * 8 + t)), .int (nI (z + cntR th t n * 16 + 1))]) (b := w) (c_Weaver_appendMove l D cI cZ cL w w1 v v1 v2 M (z + 16 * cntR th t i + 4 + 9) fo (apd (apd (apd f z (gO th t i)) (z + 16 * cntR th t i) l4o) (z + 16 * cntR th t i + 4) l9o) (apd (apd (apd g z (gK lo hi th t z (z + cntR th t n * 16) i)) (z + 16 * cntR th t i) (l4k i (z + 16 * cntR th t i))) (z + 16 * cntR th t i + 4) (l9k (lo (i * 8 + t)) (hi (i * 8 + t)) (z + cntR th t n * 16))) (th (i * 8 + t)) (nI (z + cntR th t n * 16 + 1)) hM (by omega)) ck_Weaver_84 pl_E0_ok trivial hK hP hD hS hA (T := F_Weaver) (N := N_Weaver) (ci := 3) rfl 0 rfl [0, 1, 2, 3, 4] [5, 6, 7, 8] [4, 5, 6, 7, 8, 0, 1, 2, 3] rfl (by decide) (wr := [(h, .inr (1, [.ref a1, .ref a2, .ref a3, .int (nI n)])), (a1, .inl (cI, 32, .inl lo)), (a2, .inl (cI, 32, .inl hi)), (a3, .inl (cI, 32, .inl th))]) rfl (by decide) (by decide) (wf := fun _ => [(w, .inr (3, [.ref v, .ref w1])), (w1, .inl (cI, 24, .inl fo)), (v, .inr (0, [.ref v1, .ref v2, .int (nI (z + 16 * cntR th t i + 4 + 9 + 3))])), (v1, .inl (cI, M, .inl (apd (apd (apd (apd f z (gO th t i)) (z + 16 * cntR th t i) l4o) (z + 16 * cntR th t i + 4) l9o) (z + 16 * cntR th t i + 4 + 9) l3o))), (v2, .inl (cI, M, .inl (apd (apd (apd (apd g z (gK lo hi th t z (z + cntR th t n * 16) i)) (z + 16 * cntR th t i) (l4k i (z + 16 * cntR th t i))) (z + 16 * cntR th t i + 4) (l9k (lo (i * 8 + t)) (hi (i * 8 + t)) (z + cntR th t n * 16))) (z + 16 * cntR th t i + 4 + 9) (l3k (th (i * 8 + t)) (z + cntR th t n * 16))))), (h, .inr (1, [.ref a1, .ref a2, .ref a3, .int (nI n)])), (a1, .inl (cI, 32, .inl lo)), (a2, .inl (cI, 32, .inl hi)), (a3, .inl (cI, 32, .inl th))]) (fun _ => rfl) (by decide) rfl hl.1 rfl (Nat.le_of_ble_eq_true rfl) (by decide) (by decide) d_Weaver_appendGuard_91 (fun u0 H locs hcq hP hD hS => ?_)
        have e1 := gO_yes f z g42
        have e2 := gK_yes lo hi g z (z + cntR th t n * 16) g42
        have e3 : z + 16 * cntR th t (i + 1) = z + 16 * cntR th t i + 4 + 9 + 3 := by rw [cntR_yes g42]; omega
        have hP : va_P D classes [(w, .inr (3, [.ref v, .ref w1])), (w1, .inl (cI, 24, .inl fo)), (v, .inr (0, [.ref v1, .ref v2, .int (nI (z + 16 * cntR th t (i + 1)))])), (v1, .inl (cI, M, .inl (apd f z (gO th t (i + 1))))), (v2, .inl (cI, M, .inl (apd g z (gK lo hi th t z (z + cntR th t n * 16) (i + 1))))), (h, .inr (1, [.ref a1, .ref a2, .ref a3, .int (nI n)])), (a1, .inl (cI, 32, .inl lo)), (a2, .inl (cI, 32, .inl hi)), (a3, .inl (cI, 32, .inl th))] H := by rw [e1, e2, e3]; exact hP
        have hD : va_D A [(w, .inr (3, [.ref v, .ref w1])), (w1, .inl (cI, 24, .inl fo)), (v, .inr (0, [.ref v1, .ref v2, .int (nI (z + 16 * cntR th t (i + 1)))])), (v1, .inl (cI, M, .inl (apd f z (gO th t (i + 1))))), (v2, .inl (cI, M, .inl (apd g z (gK lo hi th t z (z + cntR th t n * 16) (i + 1))))), (h, .inr (1, [.ref a1, .ref a2, .ref a3, .int (nI n)])), (a1, .inl (cI, 32, .inl lo)), (a2, .inl (cI, 32, .inl hi)), (a3, .inl (cI, 32, .inl th))] := by rw [e1, e2, e3]; exact hD
        refine lv_iinc hx hb d_Weaver_appendGuard_94 hl (k := 1) rfl (nI_inc1 _) (by decide) (lv' := [(4, .int (nI (i + 1))), (5, .int (nI (i * 8 + t))), (3, .int (nI (z + cntR th t n * 16))), (0, .ref w), (1, .ref h), (2, .int (nI t))]) rfl (fun ls hl => ?_)
        refine lv_goto hx hb d_Weaver_appendGuard_97 rfl ?_
        exact ih _ (by omega) (i + 1) _ _ _ rfl (by omega) hP hD hS (lv_sub hl [0, 2, 3, 4, 5] rfl)
  exact loop_19 _ 0 _ _ _ rfl (Nat.zero_le _) hP hD hS hl
end
section
set_option maxHeartbeats 4000000 in
set_option maxRecDepth 100000 in
theorem c_Weaver_findFirsts (l : Launch) (D : va_G) (cI cZ cL : ClassId) (w w1 v : Nat) (fo : Nat → Int32) (p0 p1 p2 np : Nat) (P K : Nat → Int32) (h a1 a2 a3 n : Nat) (lo hi th : Nat → Int32) (hn : n ≤ 4) (hnp : np ≤ 24) (hop : okP P np) (hok : okK P K np) : pl_V l y_Weaver_findFirsts b_Weaver_findFirsts 5 ({ frames := 3, cells := 0, slots := 0, locals := 65 } : Room) pl_E0 D classes (TY cI cZ cL) [.ref w, .ref p0, .ref h] [(w, .inr (3, [.ref v, .ref w1])), (w1, .inl (cI, 24, .inl fo)), (p0, .inr (0, [.ref p1, .ref p2, .int (nI np)])), (p1, .inl (cI, 24, .inl P)), (p2, .inl (cI, 24, .inl K)), (h, .inr (1, [.ref a1, .ref a2, .ref a3, .int (nI n)])), (a1, .inl (cI, 32, .inl lo)), (a2, .inl (cI, 32, .inl hi)), (a3, .inl (cI, 32, .inl th))] (fun u : Nat → Int32 => ∀ j, j < np → u j = nI (plc P K th n j)) (fun (u : Nat → Int32) => [(w, .inr (3, [.ref v, .ref w1])), (w1, .inl (cI, 24, .inl u)), (p0, .inr (0, [.ref p1, .ref p2, .int (nI np)])), (p1, .inl (cI, 24, .inl P)), (p2, .inl (cI, 24, .inl K)), (h, .inr (1, [.ref a1, .ref a2, .ref a3, .int (nI n)])), (a1, .inl (cI, 32, .inl lo)), (a2, .inl (cI, 32, .inl hi)), (a3, .inl (cI, 32, .inl th))]) := by
  refine pl_startV (by decide) (Nat.le_of_ble_eq_true rfl) ?_
  intro p e s m args below meth c A ls X hr hlk hin hK hP hD hS hA hE hl
  have X : CallFix p m c b_Weaver_findFirsts 5 s args TG R_Weaver := X
  have hx := X.1
  have hb := X.2.1
  have hl : lv_has ls 5 [(0, .ref w), (1, .ref p0), (2, .ref h)] := hl
  refine lv_iconst (v := nI 0) hx hb d_Weaver_findFirsts_0 (by decide) ?_
  refine lv_istore_n hx hb d_Weaver_findFirsts_1 rfl hl (by decide) (lv' := [(3, .int (nI 0)), (0, .ref w), (1, .ref p0), (2, .ref h)]) rfl (fun ls hl => ?_)
  refine lv_iconst (v := nI 0) hx hb d_Weaver_findFirsts_2 (by decide) ?_
  refine lv_istore hx hb d_Weaver_findFirsts_3 hl (by decide) (lv' := [(4, .int (nI 0)), (3, .int (nI 0)), (0, .ref w), (1, .ref p0), (2, .ref h)]) rfl (fun ls hl => ?_)
  have loop_5 : ∀ (k : Nat) (i c0 : Nat) (g : Nat → Int32) (H : Heap) (locs : List Loc) (ls : Array Slot), np - i = k → (i ≤ np) → (c0 = plc P K th n i) → (∀ j, j < i → g j = nI (plc P K th n j)) → va_P D classes [(w, .inr (3, [.ref v, .ref w1])), (w1, .inl (cI, 24, .inl g)), (p0, .inr (0, [.ref p1, .ref p2, .int (nI np)])), (p1, .inl (cI, 24, .inl P)), (p2, .inl (cI, 24, .inl K)), (h, .inr (1, [.ref a1, .ref a2, .ref a3, .int (nI n)])), (a1, .inl (cI, 32, .inl lo)), (a2, .inl (cI, 32, .inl hi)), (a3, .inl (cI, 32, .inl th))] H → va_D A [(w, .inr (3, [.ref v, .ref w1])), (w1, .inl (cI, 24, .inl g)), (p0, .inr (0, [.ref p1, .ref p2, .int (nI np)])), (p1, .inl (cI, 24, .inl P)), (p2, .inl (cI, 24, .inl K)), (h, .inr (1, [.ref a1, .ref a2, .ref a3, .int (nI n)])), (a1, .inl (cI, 32, .inl lo)), (a2, .inl (cI, 32, .inl hi)), (a3, .inl (cI, 32, .inl th))] → va_S A s.heap H locs → lv_has ls 5 [(4, .int (nI i)), (3, .int (nI c0)), (0, .ref w), (1, .ref p0), (2, .ref h)] → W p l e ({ frames := 3, cells := 0, slots := 0, locals := 65 } : Room) s m args below meth c H locs 0 0 (MQ below (va_Qv (fun u : Nat → Int32 => ∀ j, j < np → u j = nI (plc P K th n j)) (fun u => pl_out D classes (TY cI cZ cL) A ((fun (u : Nat → Int32) => [(w, .inr (3, [.ref v, .ref w1])), (w1, .inl (cI, 24, .inl u)), (p0, .inr (0, [.ref p1, .ref p2, .int (nI np)])), (p1, .inl (cI, 24, .inl P)), (p2, .inl (cI, 24, .inl K)), (h, .inr (1, [.ref a1, .ref a2, .ref a3, .int (nI n)])), (a1, .inl (cI, 32, .inl lo)), (a2, .inl (cI, 32, .inl hi)), (a3, .inl (cI, 32, .inl th))]) u)) A) args s 0 0 A) (F0 m 5 ls []) := by
    intro k
    induction k using Nat.strongRecOn with
    | _ k ih =>
    intro i c0 g H locs ls hk hi0 hc hg hP hD hS hl
    refine lv_iload hx hb d_Weaver_findFirsts_5 (lv_at hl 0 rfl) ?_
    refine lv_aload_n hx hb d_Weaver_findFirsts_7 rfl (lv_at hl 3 rfl) ?_
    refine pl_get X fw_Weaver_28 hK hP 2 rfl (v := .int (nI np)) rfl d_Weaver_findFirsts_8 ?_
    refine pl_icmp_ge X (by omega) (by omega) d_Weaver_findFirsts_11 rfl (fun g11 => ?_) (fun g11 => ?_)
    · skip
      exact pl_vret X hr hlk hK g (fun j hj => hg j (by omega)) hP hD hS d_Weaver_findFirsts_57
    · skip
      obtain ⟨ho1, ho2⟩ := hop i g11
      refine lv_aload_n hx hb d_Weaver_findFirsts_14 rfl (lv_at hl 2 rfl) ?_
      refine pl_get X fw_Weaver_20 hK hP 0 rfl (v := .ref w1) rfl d_Weaver_findFirsts_15 ?_
      refine lv_iload hx hb d_Weaver_findFirsts_18 (lv_at hl 0 rfl) ?_
      refine lv_iload_n hx hb d_Weaver_findFirsts_20 rfl (lv_at hl 1 rfl) ?_
      refine pl_iast X hK hP hD hS 1 0 rfl rfl i (by omega) (by decide) d_Weaver_findFirsts_21 (ws' := [(w, .inr (3, [.ref v, .ref w1])), (w1, .inl (cI, 24, .inl (upd g i (nI c0)))), (p0, .inr (0, [.ref p1, .ref p2, .int (nI np)])), (p1, .inl (cI, 24, .inl P)), (p2, .inl (cI, 24, .inl K)), (h, .inr (1, [.ref a1, .ref a2, .ref a3, .int (nI n)])), (a1, .inl (cI, 32, .inl lo)), (a2, .inl (cI, 32, .inl hi)), (a3, .inl (cI, 32, .inl th))]) rfl (fun H locs hP hD hS => ?_)
      refine lv_aload_n hx hb d_Weaver_findFirsts_22 rfl (lv_at hl 3 rfl) ?_
      refine pl_get X fw_Weaver_32 hK hP 2 rfl (v := .ref p1) rfl d_Weaver_findFirsts_23 ?_
      refine lv_iload hx hb d_Weaver_findFirsts_26 (lv_at hl 0 rfl) ?_
      refine pl_iald X hK hP 3 0 rfl rfl i (by omega) (by decide) (z := nI (opn P i)) ho1 d_Weaver_findFirsts_28 ?_
      refine lv_bipush (v := nI 9) hx hb d_Weaver_findFirsts_29 (by decide) ?_
      refine pl_icmp_ne X (by omega) (by decide) d_Weaver_findFirsts_31 rfl (fun g31 => ?_) (fun g31 => ?_)
      · skip
        refine lv_iinc hx hb d_Weaver_findFirsts_48 hl (k := 1) rfl (nI_inc1 _) (by decide) (lv' := [(3, .int (nI (c0 + 1))), (4, .int (nI i)), (0, .ref w), (1, .ref p0), (2, .ref h)]) rfl (fun ls hl => ?_)
        refine lv_iinc hx hb d_Weaver_findFirsts_51 hl (k := 1) rfl (nI_inc1 _) (by decide) (lv' := [(4, .int (nI (i + 1))), (3, .int (nI (c0 + 1))), (0, .ref w), (1, .ref p0), (2, .ref h)]) rfl (fun ls hl => ?_)
        refine lv_goto hx hb d_Weaver_findFirsts_54 rfl ?_
        exact ih _ (by omega) (i + 1) (c0 + 1) (upd g i (nI c0)) _ _ _ rfl (by omega) (by subst hc; simp only [plc, ahd]; rw [if_neg g31]) (fun j hj => by rcases Nat.lt_succ_iff_lt_or_eq.mp hj with q | q; (rw [upd_n (Nat.ne_of_lt q)]; exact hg j q); (rw [q, upd_s, hc])) hP hD hS hl
      · skip
        obtain ⟨hk1, hk2⟩ := okK_9 hok g11 g31
        refine lv_iload_n hx hb d_Weaver_findFirsts_34 rfl (lv_at hl 1 rfl) ?_
        refine lv_aload_n hx hb d_Weaver_findFirsts_35 rfl (lv_at hl 4 rfl) ?_
        refine lv_aload_n hx hb d_Weaver_findFirsts_36 rfl (lv_at hl 3 rfl) ?_
        refine pl_get X fw_Weaver_35 hK hP 2 rfl (v := .ref p2) rfl d_Weaver_findFirsts_37 ?_
        refine lv_iload hx hb d_Weaver_findFirsts_40 (lv_at hl 0 rfl) ?_
        refine pl_iald X hK hP 4 0 rfl rfl i (by omega) (by decide) (z := nI (kn K i)) hk1 d_Weaver_findFirsts_42 ?_
        refine pl_callSI X (rest := [.int (nI c0)]) (As := [.ref h, .int (nI (kn K i))]) (c_Weaver_guardLength l D cI cZ cL h a1 a2 a3 n lo hi th (kn K i) hn hk2) ck_Weaver_50 pl_E0_ok trivial hK hP hD hS hA [5, 6, 7, 8] [0, 1, 2, 3, 4] [0, 1, 2, 3, 4, 5, 6, 7, 8] rfl (by decide) (wr := [(w, .inr (3, [.ref v, .ref w1])), (w1, .inl (cI, 24, .inl (upd g i (nI c0)))), (p0, .inr (0, [.ref p1, .ref p2, .int (nI np)])), (p1, .inl (cI, 24, .inl P)), (p2, .inl (cI, 24, .inl K))]) rfl (by decide) (by decide) (wf := fun _ => [(w, .inr (3, [.ref v, .ref w1])), (w1, .inl (cI, 24, .inl (upd g i (nI c0)))), (p0, .inr (0, [.ref p1, .ref p2, .int (nI np)])), (p1, .inl (cI, 24, .inl P)), (p2, .inl (cI, 24, .inl K)), (h, .inr (1, [.ref a1, .ref a2, .ref a3, .int (nI n)])), (a1, .inl (cI, 32, .inl lo)), (a2, .inl (cI, 32, .inl hi)), (a3, .inl (cI, 32, .inl th))]) (fun _ => rfl) (by decide) rfl hl.1 rfl (Nat.le_of_ble_eq_true rfl) (by decide) (by decide) d_Weaver_findFirsts_43 (fun r u0 H locs hcq hP hD hS => ?_)
        subst hcq
        refine pl_iadd X d_Weaver_findFirsts_46 (z := nI (c0 + (cntR th (kn K i) n * 16 + 1))) (nI_add _ _) ?_
        refine lv_istore_n hx hb d_Weaver_findFirsts_47 rfl hl (by decide) (lv' := [(3, .int (nI (c0 + (cntR th (kn K i) n * 16 + 1)))), (4, .int (nI i)), (0, .ref w), (1, .ref p0), (2, .ref h)]) rfl (fun ls hl => ?_)
        refine lv_iinc hx hb d_Weaver_findFirsts_48 hl (k := 0) rfl (nI_inc1 _) (by decide) (lv' := [(3, .int (nI (c0 + (cntR th (kn K i) n * 16 + 1) + 1))), (4, .int (nI i)), (0, .ref w), (1, .ref p0), (2, .ref h)]) rfl (fun ls hl => ?_)
        refine lv_iinc hx hb d_Weaver_findFirsts_51 hl (k := 1) rfl (nI_inc1 _) (by decide) (lv' := [(4, .int (nI (i + 1))), (3, .int (nI (c0 + (cntR th (kn K i) n * 16 + 1) + 1))), (0, .ref w), (1, .ref p0), (2, .ref h)]) rfl (fun ls hl => ?_)
        refine lv_goto hx hb d_Weaver_findFirsts_54 rfl ?_
        exact ih _ (by omega) (i + 1) (c0 + (cntR th (kn K i) n * 16 + 1) + 1) (upd g i (nI c0)) _ _ _ rfl (by omega) (by subst hc; simp only [plc, ahd]; rw [if_pos g31]) (fun j hj => by rcases Nat.lt_succ_iff_lt_or_eq.mp hj with q | q; (rw [upd_n (Nat.ne_of_lt q)]; exact hg j q); (rw [q, upd_s, hc])) hP hD hS hl
  exact loop_5 _ 0 0 fo _ _ _ rfl (Nat.zero_le _) rfl (fun j hj => absurd hj (Nat.not_lt_zero j)) hP hD hS hl

set_option maxHeartbeats 4000000 in
set_option maxRecDepth 100000 in
theorem c_Weaver_weave (l : Launch) (D : va_G) (cI cZ cL : ClassId) (t1 t2 : Nat) (w w1 v v1 v2 M z : Nat) (fo f g : Nat → Int32) (p0 p1 p2 np : Nat) (P K : Nat → Int32) (h a1 a2 a3 n : Nat) (lo hi th : Nat → Int32) (hM : M < 2 ^ 31) (hz : plc P K th n np ≤ M) (hn : n ≤ 4) (hnp : np ≤ 24) (hop : okP P np) (hok : okK P K np) : pl_V l y_Weaver_weave b_Weaver_weave 6 ({ frames := 4, cells := 0, slots := 0, locals := 90 } : Room) (EV t1 t2) D classes (TY cI cZ cL) [.ref w, .ref p0, .ref h] [(w, .inr (3, [.ref v, .ref w1])), (w1, .inl (cI, 24, .inl fo)), (v, .inr (0, [.ref v1, .ref v2, .int (nI z)])), (v1, .inl (cI, M, .inl f)), (v2, .inl (cI, M, .inl g)), (p0, .inr (0, [.ref p1, .ref p2, .int (nI np)])), (p1, .inl (cI, 24, .inl P)), (p2, .inl (cI, 24, .inl K)), (h, .inr (1, [.ref a1, .ref a2, .ref a3, .int (nI n)])), (a1, .inl (cI, 32, .inl lo)), (a2, .inl (cI, 32, .inl hi)), (a3, .inl (cI, 32, .inl th))] (fun u : Nat → Int32 => ∀ j, j < np → u j = nI (plc P K th n j)) (fun (u : Nat → Int32) => [(w, .inr (3, [.ref v, .ref w1])), (w1, .inl (cI, 24, .inl u)), (v, .inr (0, [.ref v1, .ref v2, .int (nI (plc P K th n np))])), (v1, .inl (cI, M, .inl (apd f 0 (wO P K th n np)))), (v2, .inl (cI, M, .inl (apd g 0 (wK P K lo hi th n np)))), (p0, .inr (0, [.ref p1, .ref p2, .int (nI np)])), (p1, .inl (cI, 24, .inl P)), (p2, .inl (cI, 24, .inl K)), (h, .inr (1, [.ref a1, .ref a2, .ref a3, .int (nI n)])), (a1, .inl (cI, 32, .inl lo)), (a2, .inl (cI, 32, .inl hi)), (a3, .inl (cI, 32, .inl th))]) := by
  refine pl_startV (by decide) (Nat.le_of_ble_eq_true rfl) ?_
  intro p e s m args below meth c A ls X hr hlk hin hK hP hD hS hA hE hl
  have X : CallFix p m c b_Weaver_weave 6 s args TG R_Weaver := X
  have hx := X.1
  have hb := X.2.1
  have hl : lv_has ls 6 [(0, .ref w), (1, .ref p0), (2, .ref h)] := hl
  refine lv_aload_n hx hb d_Weaver_weave_0 rfl (lv_at hl 0 rfl) ?_
  refine lv_aload_n hx hb d_Weaver_weave_1 rfl (lv_at hl 1 rfl) ?_
  refine lv_aload_n hx hb d_Weaver_weave_2 rfl (lv_at hl 2 rfl) ?_
  refine pl_callVV X (rest := []) (As := [.ref p0, .ref h]) (b := w) (c_Weaver_findFirsts l D cI cZ cL w w1 v fo p0 p1 p2 np P K h a1 a2 a3 n lo hi th hn hnp hop hok) ck_Weaver_24 pl_E0_ok trivial hK hP hD hS hA (T := F_Weaver) (N := N_Weaver) (ci := 3) rfl 0 rfl [0, 1, 5, 6, 7, 8, 9, 10, 11] [2, 3, 4] [3, 4, 0, 1, 2, 5, 6, 7, 8, 9, 10, 11] rfl (by decide) (wr := [(v, .inr (0, [.ref v1, .ref v2, .int (nI z)])), (v1, .inl (cI, M, .inl f)), (v2, .inl (cI, M, .inl g))]) rfl (by decide) (by decide) (wf := fun (u : Nat → Int32) => [(w, .inr (3, [.ref v, .ref w1])), (w1, .inl (cI, 24, .inl u)), (v, .inr (0, [.ref v1, .ref v2, .int (nI z)])), (v1, .inl (cI, M, .inl f)), (v2, .inl (cI, M, .inl g)), (p0, .inr (0, [.ref p1, .ref p2, .int (nI np)])), (p1, .inl (cI, 24, .inl P)), (p2, .inl (cI, 24, .inl K)), (h, .inr (1, [.ref a1, .ref a2, .ref a3, .int (nI n)])), (a1, .inl (cI, 32, .inl lo)), (a2, .inl (cI, 32, .inl hi)), (a3, .inl (cI, 32, .inl th))]) (fun _ => rfl) (by decide) rfl hl.1 rfl (Nat.le_of_ble_eq_true rfl) (by decide) (by decide) d_Weaver_weave_3 (fun u H locs hcq hP hD hS => ?_)
  have hfo := hcq
  refine lv_aload_n hx hb d_Weaver_weave_6 rfl (lv_at hl 0 rfl) ?_
  refine pl_get X fw_Weaver_14 hK hP 0 rfl (v := .ref v) rfl d_Weaver_weave_7 ?_
  refine lv_iconst (v := nI 0) hx hb d_Weaver_weave_10 (by decide) ?_
  refine pl_put X fw_Weaver_28 fp_Listing rfl hK hP hD hS 2 rfl (v := .int (nI 0)) rfl rfl (Nat.le_of_ble_eq_true rfl) d_Weaver_weave_11 (ws' := [(w, .inr (3, [.ref v, .ref w1])), (w1, .inl (cI, 24, .inl u)), (v, .inr (0, [.ref v1, .ref v2, .int (nI 0)])), (v1, .inl (cI, M, .inl f)), (v2, .inl (cI, M, .inl g)), (p0, .inr (0, [.ref p1, .ref p2, .int (nI np)])), (p1, .inl (cI, 24, .inl P)), (p2, .inl (cI, 24, .inl K)), (h, .inr (1, [.ref a1, .ref a2, .ref a3, .int (nI n)])), (a1, .inl (cI, 32, .inl lo)), (a2, .inl (cI, 32, .inl hi)), (a3, .inl (cI, 32, .inl th))]) rfl (fun H locs hP hD hS => ?_)
  refine lv_iconst (v := nI 0) hx hb d_Weaver_weave_14 (by decide) ?_
  refine lv_istore_n hx hb d_Weaver_weave_15 rfl hl (by decide) (lv' := [(3, .int (nI 0)), (0, .ref w), (1, .ref p0), (2, .ref h)]) rfl (fun ls hl => ?_)
  have loop_16 : ∀ (k : Nat) (i : Nat) (H : Heap) (locs : List Loc) (ls : Array Slot), np - i = k → (i ≤ np) → va_P D classes [(w, .inr (3, [.ref v, .ref w1])), (w1, .inl (cI, 24, .inl u)), (v, .inr (0, [.ref v1, .ref v2, .int (nI (plc P K th n i))])), (v1, .inl (cI, M, .inl (apd f 0 (wO P K th n i)))), (v2, .inl (cI, M, .inl (apd g 0 (wK P K lo hi th n i)))), (p0, .inr (0, [.ref p1, .ref p2, .int (nI np)])), (p1, .inl (cI, 24, .inl P)), (p2, .inl (cI, 24, .inl K)), (h, .inr (1, [.ref a1, .ref a2, .ref a3, .int (nI n)])), (a1, .inl (cI, 32, .inl lo)), (a2, .inl (cI, 32, .inl hi)), (a3, .inl (cI, 32, .inl th))] H → va_D A [(w, .inr (3, [.ref v, .ref w1])), (w1, .inl (cI, 24, .inl u)), (v, .inr (0, [.ref v1, .ref v2, .int (nI (plc P K th n i))])), (v1, .inl (cI, M, .inl (apd f 0 (wO P K th n i)))), (v2, .inl (cI, M, .inl (apd g 0 (wK P K lo hi th n i)))), (p0, .inr (0, [.ref p1, .ref p2, .int (nI np)])), (p1, .inl (cI, 24, .inl P)), (p2, .inl (cI, 24, .inl K)), (h, .inr (1, [.ref a1, .ref a2, .ref a3, .int (nI n)])), (a1, .inl (cI, 32, .inl lo)), (a2, .inl (cI, 32, .inl hi)), (a3, .inl (cI, 32, .inl th))] → va_S A s.heap H locs → lv_has ls 6 [(3, .int (nI i)), (0, .ref w), (1, .ref p0), (2, .ref h)] → W p l e ({ frames := 4, cells := 0, slots := 0, locals := 90 } : Room) s m args below meth c H locs 0 0 (MQ below (va_Qv (fun u : Nat → Int32 => ∀ j, j < np → u j = nI (plc P K th n j)) (fun u => pl_out D classes (TY cI cZ cL) A ((fun (u : Nat → Int32) => [(w, .inr (3, [.ref v, .ref w1])), (w1, .inl (cI, 24, .inl u)), (v, .inr (0, [.ref v1, .ref v2, .int (nI (plc P K th n np))])), (v1, .inl (cI, M, .inl (apd f 0 (wO P K th n np)))), (v2, .inl (cI, M, .inl (apd g 0 (wK P K lo hi th n np)))), (p0, .inr (0, [.ref p1, .ref p2, .int (nI np)])), (p1, .inl (cI, 24, .inl P)), (p2, .inl (cI, 24, .inl K)), (h, .inr (1, [.ref a1, .ref a2, .ref a3, .int (nI n)])), (a1, .inl (cI, 32, .inl lo)), (a2, .inl (cI, 32, .inl hi)), (a3, .inl (cI, 32, .inl th))]) u)) A) args s 0 0 A) (F0 m 16 ls []) := by
    intro k
    induction k using Nat.strongRecOn with
    | _ k ih =>
    intro i H locs ls hk hi0 hP hD hS hl
    refine lv_iload_n hx hb d_Weaver_weave_16 rfl (lv_at hl 0 rfl) ?_
    refine lv_aload_n hx hb d_Weaver_weave_17 rfl (lv_at hl 2 rfl) ?_
    refine pl_get X fw_Weaver_28 hK hP 5 rfl (v := .int (nI np)) rfl d_Weaver_weave_18 ?_
    refine pl_icmp_ge X (by omega) (by omega) d_Weaver_weave_21 rfl (fun g21 => ?_) (fun g21 => ?_)
    · skip
      have hin2 : np = i := by omega
      subst hin2
      exact pl_vret X hr hlk hK u hfo hP hD hS d_Weaver_weave_89
    · skip
      obtain ⟨ho1, ho2⟩ := hop i g21
      refine lv_aload_n hx hb d_Weaver_weave_24 rfl (lv_at hl 2 rfl) ?_
      refine pl_get X fw_Weaver_32 hK hP 5 rfl (v := .ref p1) rfl d_Weaver_weave_25 ?_
      refine lv_iload_n hx hb d_Weaver_weave_28 rfl (lv_at hl 0 rfl) ?_
      refine pl_iald X hK hP 6 0 rfl rfl i (by omega) (by decide) (z := nI (opn P i)) ho1 d_Weaver_weave_29 ?_
      refine lv_istore hx hb d_Weaver_weave_30 hl (by decide) (lv' := [(4, .int (nI (opn P i))), (3, .int (nI i)), (0, .ref w), (1, .ref p0), (2, .ref h)]) rfl (fun ls hl => ?_)
      refine lv_aload_n hx hb d_Weaver_weave_32 rfl (lv_at hl 3 rfl) ?_
      refine pl_get X fw_Weaver_35 hK hP 5 rfl (v := .ref p2) rfl d_Weaver_weave_33 ?_
      refine lv_iload_n hx hb d_Weaver_weave_36 rfl (lv_at hl 1 rfl) ?_
      refine pl_iald X hK hP 7 0 rfl rfl i (by omega) (by decide) (z := K i) rfl d_Weaver_weave_37 ?_
      refine lv_istore hx hb d_Weaver_weave_38 hl (by decide) (lv' := [(5, .int (K i)), (4, .int (nI (opn P i))), (3, .int (nI i)), (0, .ref w), (1, .ref p0), (2, .ref h)]) rfl (fun ls hl => ?_)
      refine lv_iload hx hb d_Weaver_weave_40 (lv_at hl 1 rfl) ?_
      refine lv_bipush (v := nI 9) hx hb d_Weaver_weave_42 (by decide) ?_
      refine pl_icmp_ne X (by omega) (by decide) d_Weaver_weave_44 rfl (fun g44 => ?_) (fun g44 => ?_)
      · skip
        have e3 := plc_n (K := K) (th := th) (ns := n) g44
        have hm1 := plc_mono P K th n (show i + 1 ≤ np by omega)
        refine lv_aload_n hx hb d_Weaver_weave_54 rfl (lv_at hl 3 rfl) ?_
        refine pl_get X fw_Weaver_14 hK hP 0 rfl (v := .ref v) rfl d_Weaver_weave_55 ?_
        refine lv_iload hx hb d_Weaver_weave_58 (lv_at hl 1 rfl) ?_
        refine lv_iload hx hb d_Weaver_weave_60 (lv_at hl 1 rfl) ?_
        refine pl_callNI X (rest := [.int (nI (opn P i)), .ref v]) (As := [.int (nI (opn P i))]) (c_Loom_goesElsewhere l D cI cZ cL (opn P i) (by omega)) ckN_goes hE.2.1 pl_E0_ok trivial hK hP hD hS hA [] [0, 1, 2, 3, 4, 5, 6, 7, 8, 9, 10, 11] [0, 1, 2, 3, 4, 5, 6, 7, 8, 9, 10, 11] rfl (by decide) (wr := [(w, .inr (3, [.ref v, .ref w1])), (w1, .inl (cI, 24, .inl u)), (v, .inr (0, [.ref v1, .ref v2, .int (nI (plc P K th n i))])), (v1, .inl (cI, M, .inl (apd f 0 (wO P K th n i)))), (v2, .inl (cI, M, .inl (apd g 0 (wK P K lo hi th n i)))), (p0, .inr (0, [.ref p1, .ref p2, .int (nI np)])), (p1, .inl (cI, 24, .inl P)), (p2, .inl (cI, 24, .inl K)), (h, .inr (1, [.ref a1, .ref a2, .ref a3, .int (nI n)])), (a1, .inl (cI, 32, .inl lo)), (a2, .inl (cI, 32, .inl hi)), (a3, .inl (cI, 32, .inl th))]) rfl (by decide) (by decide) (wf := fun _ => [(w, .inr (3, [.ref v, .ref w1])), (w1, .inl (cI, 24, .inl u)), (v, .inr (0, [.ref v1, .ref v2, .int (nI (plc P K th n i))])), (v1, .inl (cI, M, .inl (apd f 0 (wO P K th n i)))), (v2, .inl (cI, M, .inl (apd g 0 (wK P K lo hi th n i)))), (p0, .inr (0, [.ref p1, .ref p2, .int (nI np)])), (p1, .inl (cI, 24, .inl P)), (p2, .inl (cI, 24, .inl K)), (h, .inr (1, [.ref a1, .ref a2, .ref a3, .int (nI n)])), (a1, .inl (cI, 32, .inl lo)), (a2, .inl (cI, 32, .inl hi)), (a3, .inl (cI, 32, .inl th))]) (fun _ => rfl) (by decide) rfl hl.1 rfl (Nat.le_of_ble_eq_true rfl) (by decide) (by decide) d_Weaver_weave_62 (fun r u0 H locs hcq hP hD hS => ?_)
        subst hcq
        refine pl_ifB_eq X d_Weaver_weave_65 rfl (fun g65 => ?_) (fun g65 => ?_)
        · skip
          have hgo := of_decide_eq_false g65
          refine lv_iload hx hb d_Weaver_weave_78 (lv_at hl 0 rfl) ?_
          refine pl_callVV X (rest := []) (As := [.int (nI (opn P i)), .int (K i)]) (b := v) (c_Listing_append l D cI cZ cL v v1 v2 M (plc P K th n i) (apd f 0 (wO P K th n i)) (apd g 0 (wK P K lo hi th n i)) (nI (opn P i)) (K i) hM (by omega)) ck_Weaver_46 pl_E0_ok trivial hK hP hD hS hA (T := F_Listing) (N := N_Listing) (ci := 0) rfl 2 rfl [2, 3, 4] [0, 1, 5, 6, 7, 8, 9, 10, 11] [0, 1, 9, 10, 11, 2, 3, 4, 5, 6, 7, 8] rfl (by decide) (wr := [(w, .inr (3, [.ref v, .ref w1])), (w1, .inl (cI, 24, .inl u)), (p0, .inr (0, [.ref p1, .ref p2, .int (nI np)])), (p1, .inl (cI, 24, .inl P)), (p2, .inl (cI, 24, .inl K)), (h, .inr (1, [.ref a1, .ref a2, .ref a3, .int (nI n)])), (a1, .inl (cI, 32, .inl lo)), (a2, .inl (cI, 32, .inl hi)), (a3, .inl (cI, 32, .inl th))]) rfl (by decide) (by decide) (wf := fun _ => [(w, .inr (3, [.ref v, .ref w1])), (w1, .inl (cI, 24, .inl u)), (v, .inr (0, [.ref v1, .ref v2, .int (nI (plc P K th n i + 1))])), (v1, .inl (cI, M, .inl (upd (apd f 0 (wO P K th n i)) (plc P K th n i) (nI (opn P i))))), (v2, .inl (cI, M, .inl (upd (apd g 0 (wK P K lo hi th n i)) (plc P K th n i) (K i)))), (p0, .inr (0, [.ref p1, .ref p2, .int (nI np)])), (p1, .inl (cI, 24, .inl P)), (p2, .inl (cI, 24, .inl K)), (h, .inr (1, [.ref a1, .ref a2, .ref a3, .int (nI n)])), (a1, .inl (cI, 32, .inl lo)), (a2, .inl (cI, 32, .inl hi)), (a3, .inl (cI, 32, .inl th))]) (fun _ => rfl) (by decide) rfl hl.1 rfl (Nat.le_of_ble_eq_true rfl) (by decide) (by decide) d_Weaver_weave_80 (fun u0 H locs hcq hP hD hS => ?_)
          have e1 := wO_n (K := K) (th := th) (ns := n) f g44
          have e2 := wK_n (K := K) (lo := lo) (hi := hi) (th := th) (ns := n) g g44
          have e4 : tgt P K th n i = K i := tgt_n hgo
          have hP : va_P D classes [(w, .inr (3, [.ref v, .ref w1])), (w1, .inl (cI, 24, .inl u)), (v, .inr (0, [.ref v1, .ref v2, .int (nI (plc P K th n (i + 1)))])), (v1, .inl (cI, M, .inl (apd f 0 (wO P K th n (i + 1))))), (v2, .inl (cI, M, .inl (apd g 0 (wK P K lo hi th n (i + 1))))), (p0, .inr (0, [.ref p1, .ref p2, .int (nI np)])), (p1, .inl (cI, 24, .inl P)), (p2, .inl (cI, 24, .inl K)), (h, .inr (1, [.ref a1, .ref a2, .ref a3, .int (nI n)])), (a1, .inl (cI, 32, .inl lo)), (a2, .inl (cI, 32, .inl hi)), (a3, .inl (cI, 32, .inl th))] H := by rw [e1, e2, e3, e4]; exact hP
          have hD : va_D A [(w, .inr (3, [.ref v, .ref w1])), (w1, .inl (cI, 24, .inl u)), (v, .inr (0, [.ref v1, .ref v2, .int (nI (plc P K th n (i + 1)))])), (v1, .inl (cI, M, .inl (apd f 0 (wO P K th n (i + 1))))), (v2, .inl (cI, M, .inl (apd g 0 (wK P K lo hi th n (i + 1))))), (p0, .inr (0, [.ref p1, .ref p2, .int (nI np)])), (p1, .inl (cI, 24, .inl P)), (p2, .inl (cI, 24, .inl K)), (h, .inr (1, [.ref a1, .ref a2, .ref a3, .int (nI n)])), (a1, .inl (cI, 32, .inl lo)), (a2, .inl (cI, 32, .inl hi)), (a3, .inl (cI, 32, .inl th))] := by rw [e1, e2, e3, e4]; exact hD
          refine lv_iinc hx hb d_Weaver_weave_83 hl (k := 2) rfl (nI_inc1 _) (by decide) (lv' := [(3, .int (nI (i + 1))), (5, .int (K i)), (4, .int (nI (opn P i))), (0, .ref w), (1, .ref p0), (2, .ref h)]) rfl (fun ls hl => ?_)
          refine lv_goto hx hb d_Weaver_weave_86 rfl ?_
          exact ih _ (by omega) (i + 1) _ _ _ rfl (by omega) hP hD hS (lv_sub hl [0, 3, 4, 5] rfl)
        · skip
          have hgo := of_decide_eq_true g65
          obtain ⟨hk1, hk2⟩ := okK_7 (by omega) hok g21 hgo
          have hl : lv_has ls 6 [(5, .int (nI (kn K i))), (4, .int (nI (opn P i))), (3, .int (nI i)), (0, .ref w), (1, .ref p0), (2, .ref h)] := by rw [← hk1]; exact hl
          refine lv_aload_n hx hb d_Weaver_weave_68 rfl (lv_at hl 3 rfl) ?_
          refine pl_get X fw_Weaver_20 hK hP 0 rfl (v := .ref w1) rfl d_Weaver_weave_69 ?_
          refine lv_iload hx hb d_Weaver_weave_72 (lv_at hl 0 rfl) ?_
          refine pl_iald X hK hP 1 0 rfl rfl (kn K i) (by omega) (by decide) (z := nI (plc P K th n (kn K i))) (hfo _ hk2) d_Weaver_weave_74 ?_
          refine lv_goto hx hb d_Weaver_weave_75 rfl ?_
          refine pl_callVV X (rest := []) (As := [.int (nI (opn P i)), .int (nI (plc P K th n (kn K i)))]) (b := v) (c_Listing_append l D cI cZ cL v v1 v2 M (plc P K th n i) (apd f 0 (wO P K th n i)) (apd g 0 (wK P K lo hi th n i)) (nI (opn P i)) (nI (plc P K th n (kn K i))) hM (by omega)) ck_Weaver_46 pl_E0_ok trivial hK hP hD hS hA (T := F_Listing) (N := N_Listing) (ci := 0) rfl 2 rfl [2, 3, 4] [0, 1, 5, 6, 7, 8, 9, 10, 11] [0, 1, 9, 10, 11, 2, 3, 4, 5, 6, 7, 8] rfl (by decide) (wr := [(w, .inr (3, [.ref v, .ref w1])), (w1, .inl (cI, 24, .inl u)), (p0, .inr (0, [.ref p1, .ref p2, .int (nI np)])), (p1, .inl (cI, 24, .inl P)), (p2, .inl (cI, 24, .inl K)), (h, .inr (1, [.ref a1, .ref a2, .ref a3, .int (nI n)])), (a1, .inl (cI, 32, .inl lo)), (a2, .inl (cI, 32, .inl hi)), (a3, .inl (cI, 32, .inl th))]) rfl (by decide) (by decide) (wf := fun _ => [(w, .inr (3, [.ref v, .ref w1])), (w1, .inl (cI, 24, .inl u)), (v, .inr (0, [.ref v1, .ref v2, .int (nI (plc P K th n i + 1))])), (v1, .inl (cI, M, .inl (upd (apd f 0 (wO P K th n i)) (plc P K th n i) (nI (opn P i))))), (v2, .inl (cI, M, .inl (upd (apd g 0 (wK P K lo hi th n i)) (plc P K th n i) (nI (plc P K th n (kn K i)))))), (p0, .inr (0, [.ref p1, .ref p2, .int (nI np)])), (p1, .inl (cI, 24, .inl P)), (p2, .inl (cI, 24, .inl K)), (h, .inr (1, [.ref a1, .ref a2, .ref a3, .int (nI n)])), (a1, .inl (cI, 32, .inl lo)), (a2, .inl (cI, 32, .inl hi)), (a3, .inl (cI, 32, .inl th))]) (fun _ => rfl) (by decide) rfl hl.1 rfl (Nat.le_of_ble_eq_true rfl) (by decide) (by decide) d_Weaver_weave_80 (fun u0 H locs hcq hP hD hS => ?_)
          have e1 := wO_n (K := K) (th := th) (ns := n) f g44
          have e2 := wK_n (K := K) (lo := lo) (hi := hi) (th := th) (ns := n) g g44
          have e4 : tgt P K th n i = nI (plc P K th n (kn K i)) := tgt_g hgo
          have hP : va_P D classes [(w, .inr (3, [.ref v, .ref w1])), (w1, .inl (cI, 24, .inl u)), (v, .inr (0, [.ref v1, .ref v2, .int (nI (plc P K th n (i + 1)))])), (v1, .inl (cI, M, .inl (apd f 0 (wO P K th n (i + 1))))), (v2, .inl (cI, M, .inl (apd g 0 (wK P K lo hi th n (i + 1))))), (p0, .inr (0, [.ref p1, .ref p2, .int (nI np)])), (p1, .inl (cI, 24, .inl P)), (p2, .inl (cI, 24, .inl K)), (h, .inr (1, [.ref a1, .ref a2, .ref a3, .int (nI n)])), (a1, .inl (cI, 32, .inl lo)), (a2, .inl (cI, 32, .inl hi)), (a3, .inl (cI, 32, .inl th))] H := by rw [e1, e2, e3, e4]; exact hP
          have hD : va_D A [(w, .inr (3, [.ref v, .ref w1])), (w1, .inl (cI, 24, .inl u)), (v, .inr (0, [.ref v1, .ref v2, .int (nI (plc P K th n (i + 1)))])), (v1, .inl (cI, M, .inl (apd f 0 (wO P K th n (i + 1))))), (v2, .inl (cI, M, .inl (apd g 0 (wK P K lo hi th n (i + 1))))), (p0, .inr (0, [.ref p1, .ref p2, .int (nI np)])), (p1, .inl (cI, 24, .inl P)), (p2, .inl (cI, 24, .inl K)), (h, .inr (1, [.ref a1, .ref a2, .ref a3, .int (nI n)])), (a1, .inl (cI, 32, .inl lo)), (a2, .inl (cI, 32, .inl hi)), (a3, .inl (cI, 32, .inl th))] := by rw [e1, e2, e3, e4]; exact hD
          refine lv_iinc hx hb d_Weaver_weave_83 hl (k := 2) rfl (nI_inc1 _) (by decide) (lv' := [(3, .int (nI (i + 1))), (5, .int (nI (kn K i))), (4, .int (nI (opn P i))), (0, .ref w), (1, .ref p0), (2, .ref h)]) rfl (fun ls hl => ?_)
          refine lv_goto hx hb d_Weaver_weave_86 rfl ?_
          exact ih _ (by omega) (i + 1) _ _ _ rfl (by omega) hP hD hS (lv_sub hl [0, 3, 4, 5] rfl)
      · skip
        obtain ⟨hk1, hk2⟩ := okK_9 hok g21 g44
        have hl : lv_has ls 6 [(5, .int (nI (kn K i))), (4, .int (nI (opn P i))), (3, .int (nI i)), (0, .ref w), (1, .ref p0), (2, .ref h)] := by rw [← hk1]; exact hl
        have e3 := plc_9 (K := K) (th := th) (ns := n) g44
        have hm1 := plc_mono P K th n (show i + 1 ≤ np by omega)
        refine lv_aload_n hx hb d_Weaver_weave_47 rfl (lv_at hl 3 rfl) ?_
        refine lv_aload_n hx hb d_Weaver_weave_48 rfl (lv_at hl 5 rfl) ?_
        refine lv_iload hx hb d_Weaver_weave_49 (lv_at hl 0 rfl) ?_
        refine pl_callVV X (rest := []) (As := [.ref h, .int (nI (kn K i))]) (b := w) (c_Weaver_appendGuard l D cI cZ cL w w1 v v1 v2 M (plc P K th n i) u (apd f 0 (wO P K th n i)) (apd g 0 (wK P K lo hi th n i)) h a1 a2 a3 n lo hi th (kn K i) hM hn hk2 (by omega)) ck_Weaver_38 pl_E0_ok trivial hK hP hD hS hA (T := F_Weaver) (N := N_Weaver) (ci := 3) rfl 0 rfl [0, 1, 2, 3, 4, 8, 9, 10, 11] [5, 6, 7] [3, 4, 5, 6, 7, 0, 1, 2, 8, 9, 10, 11] rfl (by decide) (wr := [(p0, .inr (0, [.ref p1, .ref p2, .int (nI np)])), (p1, .inl (cI, 24, .inl P)), (p2, .inl (cI, 24, .inl K))]) rfl (by decide) (by decide) (wf := fun _ => [(w, .inr (3, [.ref v, .ref w1])), (w1, .inl (cI, 24, .inl u)), (v, .inr (0, [.ref v1, .ref v2, .int (nI (plc P K th n i + 16 * cntR th (kn K i) n + 1))])), (v1, .inl (cI, M, .inl (apd (apd f 0 (wO P K th n i)) (plc P K th n i) (gO th (kn K i) n ++ [nI 12])))), (v2, .inl (cI, M, .inl (apd (apd g 0 (wK P K lo hi th n i)) (plc P K th n i) (gK lo hi th (kn K i) (plc P K th n i) (plc P K th n i + cntR th (kn K i) n * 16) n ++ [nI 0])))), (p0, .inr (0, [.ref p1, .ref p2, .int (nI np)])), (p1, .inl (cI, 24, .inl P)), (p2, .inl (cI, 24, .inl K)), (h, .inr (1, [.ref a1, .ref a2, .ref a3, .int (nI n)])), (a1, .inl (cI, 32, .inl lo)), (a2, .inl (cI, 32, .inl hi)), (a3, .inl (cI, 32, .inl th))]) (fun _ => rfl) (by decide) rfl hl.1 rfl (Nat.le_of_ble_eq_true rfl) (by decide) (by decide) d_Weaver_weave_51 (fun u0 H locs hcq hP hD hS => ?_)
        refine lv_aload_n hx hb d_Weaver_weave_54 rfl (lv_at hl 3 rfl) ?_
        refine pl_get X fw_Weaver_14 hK hP 0 rfl (v := .ref v) rfl d_Weaver_weave_55 ?_
        refine lv_iload hx hb d_Weaver_weave_58 (lv_at hl 1 rfl) ?_
        refine lv_iload hx hb d_Weaver_weave_60 (lv_at hl 1 rfl) ?_
        refine pl_callNI X (rest := [.int (nI (opn P i)), .ref v]) (As := [.int (nI (opn P i))]) (c_Loom_goesElsewhere l D cI cZ cL (opn P i) (by omega)) ckN_goes hE.2.1 pl_E0_ok trivial hK hP hD hS hA [] [0, 1, 2, 3, 4, 5, 6, 7, 8, 9, 10, 11] [0, 1, 2, 3, 4, 5, 6, 7, 8, 9, 10, 11] rfl (by decide) (wr := [(w, .inr (3, [.ref v, .ref w1])), (w1, .inl (cI, 24, .inl u)), (v, .inr (0, [.ref v1, .ref v2, .int (nI (plc P K th n i + 16 * cntR th (kn K i) n + 1))])), (v1, .inl (cI, M, .inl (apd (apd f 0 (wO P K th n i)) (plc P K th n i) (gO th (kn K i) n ++ [nI 12])))), (v2, .inl (cI, M, .inl (apd (apd g 0 (wK P K lo hi th n i)) (plc P K th n i) (gK lo hi th (kn K i) (plc P K th n i) (plc P K th n i + cntR th (kn K i) n * 16) n ++ [nI 0])))), (p0, .inr (0, [.ref p1, .ref p2, .int (nI np)])), (p1, .inl (cI, 24, .inl P)), (p2, .inl (cI, 24, .inl K)), (h, .inr (1, [.ref a1, .ref a2, .ref a3, .int (nI n)])), (a1, .inl (cI, 32, .inl lo)), (a2, .inl (cI, 32, .inl hi)), (a3, .inl (cI, 32, .inl th))]) rfl (by decide) (by decide) (wf := fun _ => [(w, .inr (3, [.ref v, .ref w1])), (w1, .inl (cI, 24, .inl u)), (v, .inr (0, [.ref v1, .ref v2, .int (nI (plc P K th n i + 16 * cntR th (kn K i) n + 1))])), (v1, .inl (cI, M, .inl (apd (apd f 0 (wO P K th n i)) (plc P K th n i) (gO th (kn K i) n ++ [nI 12])))), (v2, .inl (cI, M, .inl (apd (apd g 0 (wK P K lo hi th n i)) (plc P K th n i) (gK lo hi th (kn K i) (plc P K th n i) (plc P K th n i + cntR th (kn K i) n * 16) n ++ [nI 0])))), (p0, .inr (0, [.ref p1, .ref p2, .int (nI np)])), (p1, .inl (cI, 24, .inl P)), (p2, .inl (cI, 24, .inl K)), (h, .inr (1, [.ref a1, .ref a2, .ref a3, .int (nI n)])), (a1, .inl (cI, 32, .inl lo)), (a2, .inl (cI, 32, .inl hi)), (a3, .inl (cI, 32, .inl th))]) (fun _ => rfl) (by decide) rfl hl.1 rfl (Nat.le_of_ble_eq_true rfl) (by decide) (by decide) d_Weaver_weave_62 (fun r u0 H locs hcq hP hD hS => ?_)
        subst hcq
        refine pl_ifB_eq X d_Weaver_weave_65 rfl (fun g65 => ?_) (fun g65 => ?_)
        · skip
          have hgo := of_decide_eq_false g65
          refine lv_iload hx hb d_Weaver_weave_78 (lv_at hl 0 rfl) ?_
          refine pl_callVV X (rest := []) (As := [.int (nI (opn P i)), .int (nI (kn K i))]) (b := v) (c_Listing_append l D cI cZ cL v v1 v2 M (plc P K th n i + 16 * cntR th (kn K i) n + 1) (apd (apd f 0 (wO P K th n i)) (plc P K th n i) (gO th (kn K i) n ++ [nI 12])) (apd (apd g 0 (wK P K lo hi th n i)) (plc P K th n i) (gK lo hi th (kn K i) (plc P K th n i) (plc P K th n i + cntR th (kn K i) n * 16) n ++ [nI 0])) (nI (opn P i)) (nI (kn K i)) hM (by omega)) ck_Weaver_46 pl_E0_ok trivial hK hP hD hS hA (T := F_Listing) (N := N_Listing) (ci := 0) rfl 2 rfl [2, 3, 4] [0, 1, 5, 6, 7, 8, 9, 10, 11] [0, 1, 9, 10, 11, 2, 3, 4, 5, 6, 7, 8] rfl (by decide) (wr := [(w, .inr (3, [.ref v, .ref w1])), (w1, .inl (cI, 24, .inl u)), (p0, .inr (0, [.ref p1, .ref p2, .int (nI np)])), (p1, .inl (cI, 24, .inl P)), (p2, .inl (cI, 24, .inl K)), (h, .inr (1, [.ref a1, .ref a2, .ref a3, .int (nI n)])), (a1, .inl (cI, 32, .inl lo)), (a2, .inl (cI, 32, .inl hi)), (a3, .inl (cI, 32, .inl th))]) rfl (by decide) (by decide) (wf := fun _ => [(w, .inr (3, [.ref v, .ref w1])), (w1, .inl (cI, 24, .inl u)), (v, .inr (0, [.ref v1, .ref v2, .int (nI (plc P K th n i + 16 * cntR th (kn K i) n + 1 + 1))])), (v1, .inl (cI, M, .inl (upd (apd (apd f 0 (wO P K th n i)) (plc P K th n i) (gO th (kn K i) n ++ [nI 12])) (plc P K th n i + 16 * cntR th (kn K i) n + 1) (nI (opn P i))))), (v2, .inl (cI, M, .inl (upd (apd (apd g 0 (wK P K lo hi th n i)) (plc P K th n i) (gK lo hi th (kn K i) (plc P K th n i) (plc P K th n i + cntR th (kn K i) n * 16) n ++ [nI 0])) (plc P K th n i + 16 * cntR th (kn K i) n + 1) (nI (kn K i))))), (p0, .inr (0, [.ref p1, .ref p2, .int (nI np)])), (p1, .inl (cI, 24, .inl P)), (p2, .inl (cI, 24, .inl K)), (h, .inr (1, [.ref a1, .ref a2, .ref a3, .int (nI n)])), (a1, .inl (cI, 32, .inl lo)), (a2, .inl (cI, 32, .inl hi)), (a3, .inl (cI, 32, .inl th))]) (fun _ => rfl) (by decide) rfl hl.1 rfl (Nat.le_of_ble_eq_true rfl) (by decide) (by decide) d_Weaver_weave_80 (fun u0 H locs hcq hP hD hS => ?_)
          have e1 := wO_9 (K := K) (th := th) (ns := n) f g44
          have e2 := wK_9 (K := K) (lo := lo) (hi := hi) (th := th) (ns := n) g g44
          have e4 : tgt P K th n i = nI (kn K i) := (tgt_n hgo).trans hk1
          have hP : va_P D classes [(w, .inr (3, [.ref v, .ref w1])), (w1, .inl (cI, 24, .inl u)), (v, .inr (0, [.ref v1, .ref v2, .int (nI (plc P K th n (i + 1)))])), (v1, .inl (cI, M, .inl (apd f 0 (wO P K th n (i + 1))))), (v2, .inl (cI, M, .inl (apd g 0 (wK P K lo hi th n (i + 1))))), (p0, .inr (0, [.ref p1, .ref p2, .int (nI np)])), (p1, .inl (cI, 24, .inl P)), (p2, .inl (cI, 24, .inl K)), (h, .inr (1, [.ref a1, .ref a2, .ref a3, .int (nI n)])), (a1, .inl (cI, 32, .inl lo)), (a2, .inl (cI, 32, .inl hi)), (a3, .inl (cI, 32, .inl th))] H := by rw [e1, e2, e3, e4]; exact hP
          have hD : va_D A [(w, .inr (3, [.ref v, .ref w1])), (w1, .inl (cI, 24, .inl u)), (v, .inr (0, [.ref v1, .ref v2, .int (nI (plc P K th n (i + 1)))])), (v1, .inl (cI, M, .inl (apd f 0 (wO P K th n (i + 1))))), (v2, .inl (cI, M, .inl (apd g 0 (wK P K lo hi th n (i + 1))))), (p0, .inr (0, [.ref p1, .ref p2, .int (nI np)])), (p1, .inl (cI, 24, .inl P)), (p2, .inl (cI, 24, .inl K)), (h, .inr (1, [.ref a1, .ref a2, .ref a3, .int (nI n)])), (a1, .inl (cI, 32, .inl lo)), (a2, .inl (cI, 32, .inl hi)), (a3, .inl (cI, 32, .inl th))] := by rw [e1, e2, e3, e4]; exact hD
          refine lv_iinc hx hb d_Weaver_weave_83 hl (k := 2) rfl (nI_inc1 _) (by decide) (lv' := [(3, .int (nI (i + 1))), (5, .int (nI (kn K i))), (4, .int (nI (opn P i))), (0, .ref w), (1, .ref p0), (2, .ref h)]) rfl (fun ls hl => ?_)
          refine lv_goto hx hb d_Weaver_weave_86 rfl ?_
          exact ih _ (by omega) (i + 1) _ _ _ rfl (by omega) hP hD hS (lv_sub hl [0, 3, 4, 5] rfl)
        · skip
          exact absurd g65 (by rw [g44]; decide)
  exact loop_16 _ 0 _ _ _ rfl (Nat.zero_le _) hP hD hS hl
end
section
/-! Decode rows of Heights. -/
theorem d_Heights_numberFits_0 : decode b_Heights_numberFits 0 = .ok (.iload_n 0, 1) := by decide +kernel
theorem d_Heights_numberFits_1 : decode b_Heights_numberFits 1 = .ok (.tableswitch 82 5 9 #[35, 35, 51, 51, 66], 35) := by decide +kernel
theorem d_Heights_numberFits_36 : decode b_Heights_numberFits 36 = .ok (.iload_n 1, 1) := by decide +kernel
theorem d_Heights_numberFits_37 : decode b_Heights_numberFits 37 = .ok (.ifCond .lt 13, 3) := by decide +kernel
theorem d_Heights_numberFits_40 : decode b_Heights_numberFits 40 = .ok (.iload_n 1, 1) := by decide +kernel
theorem d_Heights_numberFits_41 : decode b_Heights_numberFits 41 = .ok (.bipush 7, 2) := by decide +kernel
theorem d_Heights_numberFits_43 : decode b_Heights_numberFits 43 = .ok (.if_icmp .ge 7, 3) := by decide +kernel
theorem d_Heights_numberFits_46 : decode b_Heights_numberFits 46 = .ok (.iconst 1, 1) := by decide +kernel
theorem d_Heights_numberFits_47 : decode b_Heights_numberFits 47 = .ok (.goto 4, 3) := by decide +kernel
theorem d_Heights_numberFits_50 : decode b_Heights_numberFits 50 = .ok (.iconst 0, 1) := by decide +kernel
theorem d_Heights_numberFits_51 : decode b_Heights_numberFits 51 = .ok (.ireturn, 1) := by decide +kernel
theorem d_Heights_numberFits_52 : decode b_Heights_numberFits 52 = .ok (.iload_n 1, 1) := by decide +kernel
theorem d_Heights_numberFits_53 : decode b_Heights_numberFits 53 = .ok (.ifCond .lt 12, 3) := by decide +kernel
theorem d_Heights_numberFits_56 : decode b_Heights_numberFits 56 = .ok (.iload_n 1, 1) := by decide +kernel
theorem d_Heights_numberFits_57 : decode b_Heights_numberFits 57 = .ok (.iload_n 2, 1) := by decide +kernel
theorem d_Heights_numberFits_58 : decode b_Heights_numberFits 58 = .ok (.if_icmp .ge 7, 3) := by decide +kernel
theorem d_Heights_numberFits_61 : decode b_Heights_numberFits 61 = .ok (.iconst 1, 1) := by decide +kernel
theorem d_Heights_numberFits_62 : decode b_Heights_numberFits 62 = .ok (.goto 4, 3) := by decide +kernel
theorem d_Heights_numberFits_65 : decode b_Heights_numberFits 65 = .ok (.iconst 0, 1) := by decide +kernel
theorem d_Heights_numberFits_66 : decode b_Heights_numberFits 66 = .ok (.ireturn, 1) := by decide +kernel
theorem d_Heights_numberFits_67 : decode b_Heights_numberFits 67 = .ok (.iload_n 1, 1) := by decide +kernel
theorem d_Heights_numberFits_68 : decode b_Heights_numberFits 68 = .ok (.ifCond .lt 13, 3) := by decide +kernel
theorem d_Heights_numberFits_71 : decode b_Heights_numberFits 71 = .ok (.iload_n 1, 1) := by decide +kernel
theorem d_Heights_numberFits_72 : decode b_Heights_numberFits 72 = .ok (.bipush 8, 2) := by decide +kernel
theorem d_Heights_numberFits_74 : decode b_Heights_numberFits 74 = .ok (.if_icmp .ge 7, 3) := by decide +kernel
theorem d_Heights_numberFits_77 : decode b_Heights_numberFits 77 = .ok (.iconst 1, 1) := by decide +kernel
theorem d_Heights_numberFits_78 : decode b_Heights_numberFits 78 = .ok (.goto 4, 3) := by decide +kernel
theorem d_Heights_numberFits_81 : decode b_Heights_numberFits 81 = .ok (.iconst 0, 1) := by decide +kernel
theorem d_Heights_numberFits_82 : decode b_Heights_numberFits 82 = .ok (.ireturn, 1) := by decide +kernel
theorem d_Heights_numberFits_83 : decode b_Heights_numberFits 83 = .ok (.iconst 1, 1) := by decide +kernel
theorem d_Heights_numberFits_84 : decode b_Heights_numberFits 84 = .ok (.ireturn, 1) := by decide +kernel
theorem d_Heights_numbersFit_0 : decode b_Heights_numbersFit 0 = .ok (.iconst 0, 1) := by decide +kernel
theorem d_Heights_numbersFit_1 : decode b_Heights_numbersFit 1 = .ok (.istore_n 1, 1) := by decide +kernel
theorem d_Heights_numbersFit_2 : decode b_Heights_numbersFit 2 = .ok (.iload_n 1, 1) := by decide +kernel
theorem d_Heights_numbersFit_3 : decode b_Heights_numbersFit 3 = .ok (.aload_n 0, 1) := by decide +kernel
theorem d_Heights_numbersFit_4 : decode b_Heights_numbersFit 4 = .ok (.getfield 26, 3) := by decide +kernel
theorem d_Heights_numbersFit_7 : decode b_Heights_numbersFit 7 = .ok (.if_icmp .ge 33, 3) := by decide +kernel
theorem d_Heights_numbersFit_10 : decode b_Heights_numbersFit 10 = .ok (.aload_n 0, 1) := by decide +kernel
theorem d_Heights_numbersFit_11 : decode b_Heights_numbersFit 11 = .ok (.getfield 38, 3) := by decide +kernel
theorem d_Heights_numbersFit_14 : decode b_Heights_numbersFit 14 = .ok (.iload_n 1, 1) := by decide +kernel
theorem d_Heights_numbersFit_15 : decode b_Heights_numbersFit 15 = .ok (.iaload, 1) := by decide +kernel
theorem d_Heights_numbersFit_16 : decode b_Heights_numbersFit 16 = .ok (.aload_n 0, 1) := by decide +kernel
theorem d_Heights_numbersFit_17 : decode b_Heights_numbersFit 17 = .ok (.getfield 41, 3) := by decide +kernel
theorem d_Heights_numbersFit_20 : decode b_Heights_numbersFit 20 = .ok (.iload_n 1, 1) := by decide +kernel
theorem d_Heights_numbersFit_21 : decode b_Heights_numbersFit 21 = .ok (.iaload, 1) := by decide +kernel
theorem d_Heights_numbersFit_22 : decode b_Heights_numbersFit 22 = .ok (.aload_n 0, 1) := by decide +kernel
theorem d_Heights_numbersFit_23 : decode b_Heights_numbersFit 23 = .ok (.getfield 26, 3) := by decide +kernel
theorem d_Heights_numbersFit_26 : decode b_Heights_numbersFit 26 = .ok (.invokestatic 44, 3) := by decide +kernel
theorem d_Heights_numbersFit_29 : decode b_Heights_numbersFit 29 = .ok (.ifCond .ne 5, 3) := by decide +kernel
theorem d_Heights_numbersFit_32 : decode b_Heights_numbersFit 32 = .ok (.iconst 0, 1) := by decide +kernel
theorem d_Heights_numbersFit_33 : decode b_Heights_numbersFit 33 = .ok (.ireturn, 1) := by decide +kernel
theorem d_Heights_numbersFit_34 : decode b_Heights_numbersFit 34 = .ok (.iinc 1 1, 3) := by decide +kernel
theorem d_Heights_numbersFit_37 : decode b_Heights_numbersFit 37 = .ok (.goto (-35), 3) := by decide +kernel
theorem d_Heights_numbersFit_40 : decode b_Heights_numbersFit 40 = .ok (.iconst 1, 1) := by decide +kernel
theorem d_Heights_numbersFit_41 : decode b_Heights_numbersFit 41 = .ok (.ireturn, 1) := by decide +kernel
theorem d_Heights_reach_0 : decode b_Heights_reach 0 = .ok (.iload_n 2, 1) := by decide +kernel
theorem d_Heights_reach_1 : decode b_Heights_reach 1 = .ok (.ifCond .lt 11, 3) := by decide +kernel
theorem d_Heights_reach_4 : decode b_Heights_reach 4 = .ok (.iload_n 2, 1) := by decide +kernel
theorem d_Heights_reach_5 : decode b_Heights_reach 5 = .ok (.aload_n 1, 1) := by decide +kernel
theorem d_Heights_reach_6 : decode b_Heights_reach 6 = .ok (.getfield 26, 3) := by decide +kernel
theorem d_Heights_reach_9 : decode b_Heights_reach 9 = .ok (.if_icmp .lt 5, 3) := by decide +kernel
theorem d_Heights_reach_12 : decode b_Heights_reach 12 = .ok (.iconst 0, 1) := by decide +kernel
theorem d_Heights_reach_13 : decode b_Heights_reach 13 = .ok (.ireturn, 1) := by decide +kernel
theorem d_Heights_reach_14 : decode b_Heights_reach 14 = .ok (.aload_n 0, 1) := by decide +kernel
theorem d_Heights_reach_15 : decode b_Heights_reach 15 = .ok (.getfield 9, 3) := by decide +kernel
theorem d_Heights_reach_18 : decode b_Heights_reach 18 = .ok (.iload_n 2, 1) := by decide +kernel
theorem d_Heights_reach_19 : decode b_Heights_reach 19 = .ok (.iaload, 1) := by decide +kernel
theorem d_Heights_reach_20 : decode b_Heights_reach 20 = .ok (.iconst (-1), 1) := by decide +kernel
theorem d_Heights_reach_21 : decode b_Heights_reach 21 = .ok (.if_icmp .ne 30, 3) := by decide +kernel
theorem d_Heights_reach_24 : decode b_Heights_reach 24 = .ok (.aload_n 0, 1) := by decide +kernel
theorem d_Heights_reach_25 : decode b_Heights_reach 25 = .ok (.getfield 9, 3) := by decide +kernel
theorem d_Heights_reach_28 : decode b_Heights_reach 28 = .ok (.iload_n 2, 1) := by decide +kernel
theorem d_Heights_reach_29 : decode b_Heights_reach 29 = .ok (.iload_n 3, 1) := by decide +kernel
theorem d_Heights_reach_30 : decode b_Heights_reach 30 = .ok (.iastore, 1) := by decide +kernel
theorem d_Heights_reach_31 : decode b_Heights_reach 31 = .ok (.aload_n 0, 1) := by decide +kernel
theorem d_Heights_reach_32 : decode b_Heights_reach 32 = .ok (.getfield 15, 3) := by decide +kernel
theorem d_Heights_reach_35 : decode b_Heights_reach 35 = .ok (.aload_n 0, 1) := by decide +kernel
theorem d_Heights_reach_36 : decode b_Heights_reach 36 = .ok (.getfield 18, 3) := by decide +kernel
theorem d_Heights_reach_39 : decode b_Heights_reach 39 = .ok (.iload_n 2, 1) := by decide +kernel
theorem d_Heights_reach_40 : decode b_Heights_reach 40 = .ok (.iastore, 1) := by decide +kernel
theorem d_Heights_reach_41 : decode b_Heights_reach 41 = .ok (.aload_n 0, 1) := by decide +kernel
theorem d_Heights_reach_42 : decode b_Heights_reach 42 = .ok (.dup, 1) := by decide +kernel
theorem d_Heights_reach_43 : decode b_Heights_reach 43 = .ok (.getfield 18, 3) := by decide +kernel
theorem d_Heights_reach_46 : decode b_Heights_reach 46 = .ok (.iconst 1, 1) := by decide +kernel
theorem d_Heights_reach_47 : decode b_Heights_reach 47 = .ok (.iadd, 1) := by decide +kernel
theorem d_Heights_reach_48 : decode b_Heights_reach 48 = .ok (.putfield 18, 3) := by decide +kernel
theorem d_Heights_reach_51 : decode b_Heights_reach 51 = .ok (.aload_n 0, 1) := by decide +kernel
theorem d_Heights_reach_52 : decode b_Heights_reach 52 = .ok (.getfield 9, 3) := by decide +kernel
theorem d_Heights_reach_55 : decode b_Heights_reach 55 = .ok (.iload_n 2, 1) := by decide +kernel
theorem d_Heights_reach_56 : decode b_Heights_reach 56 = .ok (.iaload, 1) := by decide +kernel
theorem d_Heights_reach_57 : decode b_Heights_reach 57 = .ok (.iload_n 3, 1) := by decide +kernel
theorem d_Heights_reach_58 : decode b_Heights_reach 58 = .ok (.if_icmp .ne 7, 3) := by decide +kernel
theorem d_Heights_reach_61 : decode b_Heights_reach 61 = .ok (.iconst 1, 1) := by decide +kernel
theorem d_Heights_reach_62 : decode b_Heights_reach 62 = .ok (.goto 4, 3) := by decide +kernel
theorem d_Heights_reach_65 : decode b_Heights_reach 65 = .ok (.iconst 0, 1) := by decide +kernel
theorem d_Heights_reach_66 : decode b_Heights_reach 66 = .ok (.ireturn, 1) := by decide +kernel
theorem d_Heights_waysOnFit_0 : decode b_Heights_waysOnFit 0 = .ok (.aload_n 1, 1) := by decide +kernel
theorem d_Heights_waysOnFit_1 : decode b_Heights_waysOnFit 1 = .ok (.getfield 38, 3) := by decide +kernel
theorem d_Heights_waysOnFit_4 : decode b_Heights_waysOnFit 4 = .ok (.iload_n 2, 1) := by decide +kernel
theorem d_Heights_waysOnFit_5 : decode b_Heights_waysOnFit 5 = .ok (.iaload, 1) := by decide +kernel
theorem d_Heights_waysOnFit_6 : decode b_Heights_waysOnFit 6 = .ok (.istore_n 3, 1) := by decide +kernel
theorem d_Heights_waysOnFit_7 : decode b_Heights_waysOnFit 7 = .ok (.aload_n 0, 1) := by decide +kernel
theorem d_Heights_waysOnFit_8 : decode b_Heights_waysOnFit 8 = .ok (.getfield 9, 3) := by decide +kernel
theorem d_Heights_waysOnFit_11 : decode b_Heights_waysOnFit 11 = .ok (.iload_n 2, 1) := by decide +kernel
theorem d_Heights_waysOnFit_12 : decode b_Heights_waysOnFit 12 = .ok (.iaload, 1) := by decide +kernel
theorem d_Heights_waysOnFit_13 : decode b_Heights_waysOnFit 13 = .ok (.getstatic 56, 3) := by decide +kernel
theorem d_Heights_waysOnFit_16 : decode b_Heights_waysOnFit 16 = .ok (.iload_n 3, 1) := by decide +kernel
theorem d_Heights_waysOnFit_17 : decode b_Heights_waysOnFit 17 = .ok (.iaload, 1) := by decide +kernel
theorem d_Heights_waysOnFit_18 : decode b_Heights_waysOnFit 18 = .ok (.isub, 1) := by decide +kernel
theorem d_Heights_waysOnFit_19 : decode b_Heights_waysOnFit 19 = .ok (.istore 4, 2) := by decide +kernel
theorem d_Heights_waysOnFit_21 : decode b_Heights_waysOnFit 21 = .ok (.iload 4, 2) := by decide +kernel
theorem d_Heights_waysOnFit_23 : decode b_Heights_waysOnFit 23 = .ok (.getstatic 59, 3) := by decide +kernel
theorem d_Heights_waysOnFit_26 : decode b_Heights_waysOnFit 26 = .ok (.iload_n 3, 1) := by decide +kernel
theorem d_Heights_waysOnFit_27 : decode b_Heights_waysOnFit 27 = .ok (.iaload, 1) := by decide +kernel
theorem d_Heights_waysOnFit_28 : decode b_Heights_waysOnFit 28 = .ok (.iadd, 1) := by decide +kernel
theorem d_Heights_waysOnFit_29 : decode b_Heights_waysOnFit 29 = .ok (.istore 5, 2) := by decide +kernel
theorem d_Heights_waysOnFit_31 : decode b_Heights_waysOnFit 31 = .ok (.iload 4, 2) := by decide +kernel
theorem d_Heights_waysOnFit_33 : decode b_Heights_waysOnFit 33 = .ok (.ifCond .lt 10, 3) := by decide +kernel
theorem d_Heights_waysOnFit_36 : decode b_Heights_waysOnFit 36 = .ok (.iload 5, 2) := by decide +kernel
theorem d_Heights_waysOnFit_38 : decode b_Heights_waysOnFit 38 = .ok (.bipush 12, 2) := by decide +kernel
theorem d_Heights_waysOnFit_40 : decode b_Heights_waysOnFit 40 = .ok (.if_icmp .le 5, 3) := by decide +kernel
theorem d_Heights_waysOnFit_43 : decode b_Heights_waysOnFit 43 = .ok (.iconst 0, 1) := by decide +kernel
theorem d_Heights_waysOnFit_44 : decode b_Heights_waysOnFit 44 = .ok (.ireturn, 1) := by decide +kernel
theorem d_Heights_waysOnFit_45 : decode b_Heights_waysOnFit 45 = .ok (.iload_n 3, 1) := by decide +kernel
theorem d_Heights_waysOnFit_46 : decode b_Heights_waysOnFit 46 = .ok (.invokestatic 62, 3) := by decide +kernel
theorem d_Heights_waysOnFit_49 : decode b_Heights_waysOnFit 49 = .ok (.ifCond .eq 21, 3) := by decide +kernel
theorem d_Heights_waysOnFit_52 : decode b_Heights_waysOnFit 52 = .ok (.aload_n 0, 1) := by decide +kernel
theorem d_Heights_waysOnFit_53 : decode b_Heights_waysOnFit 53 = .ok (.aload_n 1, 1) := by decide +kernel
theorem d_Heights_waysOnFit_54 : decode b_Heights_waysOnFit 54 = .ok (.aload_n 1, 1) := by decide +kernel
theorem d_Heights_waysOnFit_55 : decode b_Heights_waysOnFit 55 = .ok (.getfield 41, 3) := by decide +kernel
theorem d_Heights_waysOnFit_58 : decode b_Heights_waysOnFit 58 = .ok (.iload_n 2, 1) := by decide +kernel
theorem d_Heights_waysOnFit_59 : decode b_Heights_waysOnFit 59 = .ok (.iaload, 1) := by decide +kernel
theorem d_Heights_waysOnFit_60 : decode b_Heights_waysOnFit 60 = .ok (.iload 5, 2) := by decide +kernel
theorem d_Heights_waysOnFit_62 : decode b_Heights_waysOnFit 62 = .ok (.invokevirtual 48, 3) := by decide +kernel
theorem d_Heights_waysOnFit_65 : decode b_Heights_waysOnFit 65 = .ok (.ifCond .ne 5, 3) := by decide +kernel
theorem d_Heights_waysOnFit_68 : decode b_Heights_waysOnFit 68 = .ok (.iconst 0, 1) := by decide +kernel
theorem d_Heights_waysOnFit_69 : decode b_Heights_waysOnFit 69 = .ok (.ireturn, 1) := by decide +kernel
theorem d_Heights_waysOnFit_70 : decode b_Heights_waysOnFit 70 = .ok (.iload_n 3, 1) := by decide +kernel
theorem d_Heights_waysOnFit_71 : decode b_Heights_waysOnFit 71 = .ok (.bipush 7, 2) := by decide +kernel
theorem d_Heights_waysOnFit_73 : decode b_Heights_waysOnFit 73 = .ok (.if_icmp .eq 22, 3) := by decide +kernel
theorem d_Heights_waysOnFit_76 : decode b_Heights_waysOnFit 76 = .ok (.iload_n 3, 1) := by decide +kernel
theorem d_Heights_waysOnFit_77 : decode b_Heights_waysOnFit 77 = .ok (.bipush 12, 2) := by decide +kernel
theorem d_Heights_waysOnFit_79 : decode b_Heights_waysOnFit 79 = .ok (.if_icmp .eq 16, 3) := by decide +kernel
theorem d_Heights_waysOnFit_82 : decode b_Heights_waysOnFit 82 = .ok (.aload_n 0, 1) := by decide +kernel
theorem d_Heights_waysOnFit_83 : decode b_Heights_waysOnFit 83 = .ok (.aload_n 1, 1) := by decide +kernel
theorem d_Heights_waysOnFit_84 : decode b_Heights_waysOnFit 84 = .ok (.iload_n 2, 1) := by decide +kernel
theorem d_Heights_waysOnFit_85 : decode b_Heights_waysOnFit 85 = .ok (.iconst 1, 1) := by decide +kernel
theorem d_Heights_waysOnFit_86 : decode b_Heights_waysOnFit 86 = .ok (.iadd, 1) := by decide +kernel
theorem d_Heights_waysOnFit_87 : decode b_Heights_waysOnFit 87 = .ok (.iload 5, 2) := by decide +kernel
theorem d_Heights_waysOnFit_89 : decode b_Heights_waysOnFit 89 = .ok (.invokevirtual 48, 3) := by decide +kernel
theorem d_Heights_waysOnFit_92 : decode b_Heights_waysOnFit 92 = .ok (.ifCond .eq 7, 3) := by decide +kernel
theorem d_Heights_waysOnFit_95 : decode b_Heights_waysOnFit 95 = .ok (.iconst 1, 1) := by decide +kernel
theorem d_Heights_waysOnFit_96 : decode b_Heights_waysOnFit 96 = .ok (.goto 4, 3) := by decide +kernel
theorem d_Heights_waysOnFit_99 : decode b_Heights_waysOnFit 99 = .ok (.iconst 0, 1) := by decide +kernel
theorem d_Heights_waysOnFit_100 : decode b_Heights_waysOnFit 100 = .ok (.ireturn, 1) := by decide +kernel
theorem d_Heights_heightsFit_0 : decode b_Heights_heightsFit 0 = .ok (.iconst 0, 1) := by decide +kernel
theorem d_Heights_heightsFit_1 : decode b_Heights_heightsFit 1 = .ok (.istore_n 2, 1) := by decide +kernel
theorem d_Heights_heightsFit_2 : decode b_Heights_heightsFit 2 = .ok (.iload_n 2, 1) := by decide +kernel
theorem d_Heights_heightsFit_3 : decode b_Heights_heightsFit 3 = .ok (.aload_n 1, 1) := by decide +kernel
theorem d_Heights_heightsFit_4 : decode b_Heights_heightsFit 4 = .ok (.getfield 26, 3) := by decide +kernel
theorem d_Heights_heightsFit_7 : decode b_Heights_heightsFit 7 = .ok (.if_icmp .ge 16, 3) := by decide +kernel
theorem d_Heights_heightsFit_10 : decode b_Heights_heightsFit 10 = .ok (.aload_n 0, 1) := by decide +kernel
theorem d_Heights_heightsFit_11 : decode b_Heights_heightsFit 11 = .ok (.getfield 9, 3) := by decide +kernel
theorem d_Heights_heightsFit_14 : decode b_Heights_heightsFit 14 = .ok (.iload_n 2, 1) := by decide +kernel
theorem d_Heights_heightsFit_15 : decode b_Heights_heightsFit 15 = .ok (.iconst (-1), 1) := by decide +kernel
theorem d_Heights_heightsFit_16 : decode b_Heights_heightsFit 16 = .ok (.iastore, 1) := by decide +kernel
theorem d_Heights_heightsFit_17 : decode b_Heights_heightsFit 17 = .ok (.iinc 2 1, 3) := by decide +kernel
theorem d_Heights_heightsFit_20 : decode b_Heights_heightsFit 20 = .ok (.goto (-18), 3) := by decide +kernel
theorem d_Heights_heightsFit_23 : decode b_Heights_heightsFit 23 = .ok (.aload_n 0, 1) := by decide +kernel
theorem d_Heights_heightsFit_24 : decode b_Heights_heightsFit 24 = .ok (.iconst 0, 1) := by decide +kernel
theorem d_Heights_heightsFit_25 : decode b_Heights_heightsFit 25 = .ok (.putfield 18, 3) := by decide +kernel
theorem d_Heights_heightsFit_28 : decode b_Heights_heightsFit 28 = .ok (.aload_n 0, 1) := by decide +kernel
theorem d_Heights_heightsFit_29 : decode b_Heights_heightsFit 29 = .ok (.aload_n 1, 1) := by decide +kernel
theorem d_Heights_heightsFit_30 : decode b_Heights_heightsFit 30 = .ok (.iconst 0, 1) := by decide +kernel
theorem d_Heights_heightsFit_31 : decode b_Heights_heightsFit 31 = .ok (.iconst 0, 1) := by decide +kernel
theorem d_Heights_heightsFit_32 : decode b_Heights_heightsFit 32 = .ok (.invokevirtual 48, 3) := by decide +kernel
theorem d_Heights_heightsFit_35 : decode b_Heights_heightsFit 35 = .ok (.pop, 1) := by decide +kernel
theorem d_Heights_heightsFit_36 : decode b_Heights_heightsFit 36 = .ok (.iconst 0, 1) := by decide +kernel
theorem d_Heights_heightsFit_37 : decode b_Heights_heightsFit 37 = .ok (.istore_n 2, 1) := by decide +kernel
theorem d_Heights_heightsFit_38 : decode b_Heights_heightsFit 38 = .ok (.iload_n 2, 1) := by decide +kernel
theorem d_Heights_heightsFit_39 : decode b_Heights_heightsFit 39 = .ok (.aload_n 0, 1) := by decide +kernel
theorem d_Heights_heightsFit_40 : decode b_Heights_heightsFit 40 = .ok (.getfield 18, 3) := by decide +kernel
theorem d_Heights_heightsFit_43 : decode b_Heights_heightsFit 43 = .ok (.if_icmp .ge 33, 3) := by decide +kernel
theorem d_Heights_heightsFit_46 : decode b_Heights_heightsFit 46 = .ok (.iload_n 2, 1) := by decide +kernel
theorem d_Heights_heightsFit_47 : decode b_Heights_heightsFit 47 = .ok (.aload_n 1, 1) := by decide +kernel
theorem d_Heights_heightsFit_48 : decode b_Heights_heightsFit 48 = .ok (.getfield 26, 3) := by decide +kernel
theorem d_Heights_heightsFit_51 : decode b_Heights_heightsFit 51 = .ok (.if_icmp .ge 25, 3) := by decide +kernel
theorem d_Heights_heightsFit_54 : decode b_Heights_heightsFit 54 = .ok (.aload_n 0, 1) := by decide +kernel
theorem d_Heights_heightsFit_55 : decode b_Heights_heightsFit 55 = .ok (.aload_n 1, 1) := by decide +kernel
theorem d_Heights_heightsFit_56 : decode b_Heights_heightsFit 56 = .ok (.aload_n 0, 1) := by decide +kernel
theorem d_Heights_heightsFit_57 : decode b_Heights_heightsFit 57 = .ok (.getfield 15, 3) := by decide +kernel
theorem d_Heights_heightsFit_60 : decode b_Heights_heightsFit 60 = .ok (.iload_n 2, 1) := by decide +kernel
theorem d_Heights_heightsFit_61 : decode b_Heights_heightsFit 61 = .ok (.iaload, 1) := by decide +kernel
theorem d_Heights_heightsFit_62 : decode b_Heights_heightsFit 62 = .ok (.invokevirtual 52, 3) := by decide +kernel
theorem d_Heights_heightsFit_65 : decode b_Heights_heightsFit 65 = .ok (.ifCond .ne 5, 3) := by decide +kernel
theorem d_Heights_heightsFit_68 : decode b_Heights_heightsFit 68 = .ok (.iconst 0, 1) := by decide +kernel
theorem d_Heights_heightsFit_69 : decode b_Heights_heightsFit 69 = .ok (.ireturn, 1) := by decide +kernel
theorem d_Heights_heightsFit_70 : decode b_Heights_heightsFit 70 = .ok (.iinc 2 1, 3) := by decide +kernel
theorem d_Heights_heightsFit_73 : decode b_Heights_heightsFit 73 = .ok (.goto (-35), 3) := by decide +kernel
theorem d_Heights_heightsFit_76 : decode b_Heights_heightsFit 76 = .ok (.iconst 1, 1) := by decide +kernel
theorem d_Heights_heightsFit_77 : decode b_Heights_heightsFit 77 = .ok (.ireturn, 1) := by decide +kernel
theorem d_Heights_examine_0 : decode b_Heights_examine 0 = .ok (.aload_n 0, 1) := by decide +kernel
theorem d_Heights_examine_1 : decode b_Heights_examine 1 = .ok (.aload_n 1, 1) := by decide +kernel
theorem d_Heights_examine_2 : decode b_Heights_examine 2 = .ok (.getfield 26, 3) := by decide +kernel
theorem d_Heights_examine_5 : decode b_Heights_examine 5 = .ok (.ifCond .le 22, 3) := by decide +kernel
theorem d_Heights_examine_8 : decode b_Heights_examine 8 = .ok (.aload_n 1, 1) := by decide +kernel
theorem d_Heights_examine_9 : decode b_Heights_examine 9 = .ok (.invokestatic 31, 3) := by decide +kernel
theorem d_Heights_examine_12 : decode b_Heights_examine 12 = .ok (.ifCond .eq 15, 3) := by decide +kernel
theorem d_Heights_examine_15 : decode b_Heights_examine 15 = .ok (.aload_n 0, 1) := by decide +kernel
theorem d_Heights_examine_16 : decode b_Heights_examine 16 = .ok (.aload_n 1, 1) := by decide +kernel
theorem d_Heights_examine_17 : decode b_Heights_examine 17 = .ok (.invokevirtual 35, 3) := by decide +kernel
theorem d_Heights_examine_20 : decode b_Heights_examine 20 = .ok (.ifCond .eq 7, 3) := by decide +kernel
theorem d_Heights_examine_23 : decode b_Heights_examine 23 = .ok (.iconst 1, 1) := by decide +kernel
theorem d_Heights_examine_24 : decode b_Heights_examine 24 = .ok (.goto 4, 3) := by decide +kernel
theorem d_Heights_examine_27 : decode b_Heights_examine 27 = .ok (.iconst 0, 1) := by decide +kernel
theorem d_Heights_examine_28 : decode b_Heights_examine 28 = .ok (.putfield 22, 3) := by decide +kernel
theorem d_Heights_examine_31 : decode b_Heights_examine 31 = .ok (.return_, 1) := by decide +kernel
end
section
set_option maxHeartbeats 4000000 in
set_option maxRecDepth 100000 in
theorem c_Heights_numberFits_0 (l : Launch) (D : va_G) (cI cZ cL : ClassId) (k : Int32) (n : Nat) (hn : n < 2 ^ 31) : pl_I l y_Heights_numberFits b_Heights_numberFits 3 .boolean ({ frames := 0, cells := 0, slots := 0, locals := 0 } : Room) pl_E0 D classes (TY cI cZ cL) [.int (nI 0), .int k, .int (nI n)] [] (fun (r : Int32) (_ : Unit) => r = bI (numFit 0 k n)) (fun (_ : Unit) => []) := by
  refine pl_startI (by decide) (Nat.le_of_ble_eq_true rfl) ?_
  intro p e s m args below meth c A ls X hr hlk hin hK hP hD hS hA hE hl
  have X : CallFix p m c b_Heights_numberFits 3 s args TG R_Heights := X
  have hx := X.1
  have hb := X.2.1
  have hl : lv_has ls 3 [(0, .int (nI 0)), (1, .int k), (2, .int (nI n))] := hl
  refine lv_iload_n hx hb d_Heights_numberFits_0 rfl (lv_at hl 0 rfl) ?_
  refine lv_tableOut hx hb d_Heights_numberFits_1 (by decide) (tgt := 83) rfl ?_
  refine lv_iconst (v := nI 1) hx hb d_Heights_numberFits_83 (by decide) ?_
  exact pl_iret X hr hlk hK rfl () rfl hP hD hS d_Heights_numberFits_84

set_option maxHeartbeats 4000000 in
set_option maxRecDepth 100000 in
theorem c_Heights_numberFits_1 (l : Launch) (D : va_G) (cI cZ cL : ClassId) (k : Int32) (n : Nat) (hn : n < 2 ^ 31) : pl_I l y_Heights_numberFits b_Heights_numberFits 3 .boolean ({ frames := 0, cells := 0, slots := 0, locals := 0 } : Room) pl_E0 D classes (TY cI cZ cL) [.int (nI 1), .int k, .int (nI n)] [] (fun (r : Int32) (_ : Unit) => r = bI (numFit 1 k n)) (fun (_ : Unit) => []) := by
  refine pl_startI (by decide) (Nat.le_of_ble_eq_true rfl) ?_
  intro p e s m args below meth c A ls X hr hlk hin hK hP hD hS hA hE hl
  have X : CallFix p m c b_Heights_numberFits 3 s args TG R_Heights := X
  have hx := X.1
  have hb := X.2.1
  have hl : lv_has ls 3 [(0, .int (nI 1)), (1, .int k), (2, .int (nI n))] := hl
  refine lv_iload_n hx hb d_Heights_numberFits_0 rfl (lv_at hl 0 rfl) ?_
  refine lv_tableOut hx hb d_Heights_numberFits_1 (by decide) (tgt := 83) rfl ?_
  refine lv_iconst (v := nI 1) hx hb d_Heights_numberFits_83 (by decide) ?_
  exact pl_iret X hr hlk hK rfl () rfl hP hD hS d_Heights_numberFits_84

set_option maxHeartbeats 4000000 in
set_option maxRecDepth 100000 in
theorem c_Heights_numberFits_2 (l : Launch) (D : va_G) (cI cZ cL : ClassId) (k : Int32) (n : Nat) (hn : n < 2 ^ 31) : pl_I l y_Heights_numberFits b_Heights_numberFits 3 .boolean ({ frames := 0, cells := 0, slots := 0, locals := 0 } : Room) pl_E0 D classes (TY cI cZ cL) [.int (nI 2), .int k, .int (nI n)] [] (fun (r : Int32) (_ : Unit) => r = bI (numFit 2 k n)) (fun (_ : Unit) => []) := by
  refine pl_startI (by decide) (Nat.le_of_ble_eq_true rfl) ?_
  intro p e s m args below meth c A ls X hr hlk hin hK hP hD hS hA hE hl
  have X : CallFix p m c b_Heights_numberFits 3 s args TG R_Heights := X
  have hx := X.1
  have hb := X.2.1
  have hl : lv_has ls 3 [(0, .int (nI 2)), (1, .int k), (2, .int (nI n))] := hl
  refine lv_iload_n hx hb d_Heights_numberFits_0 rfl (lv_at hl 0 rfl) ?_
  refine lv_tableOut hx hb d_Heights_numberFits_1 (by decide) (tgt := 83) rfl ?_
  refine lv_iconst (v := nI 1) hx hb d_Heights_numberFits_83 (by decide) ?_
  exact pl_iret X hr hlk hK rfl () rfl hP hD hS d_Heights_numberFits_84

set_option maxHeartbeats 4000000 in
set_option maxRecDepth 100000 in
theorem c_Heights_numberFits_3 (l : Launch) (D : va_G) (cI cZ cL : ClassId) (k : Int32) (n : Nat) (hn : n < 2 ^ 31) : pl_I l y_Heights_numberFits b_Heights_numberFits 3 .boolean ({ frames := 0, cells := 0, slots := 0, locals := 0 } : Room) pl_E0 D classes (TY cI cZ cL) [.int (nI 3), .int k, .int (nI n)] [] (fun (r : Int32) (_ : Unit) => r = bI (numFit 3 k n)) (fun (_ : Unit) => []) := by
  refine pl_startI (by decide) (Nat.le_of_ble_eq_true rfl) ?_
  intro p e s m args below meth c A ls X hr hlk hin hK hP hD hS hA hE hl
  have X : CallFix p m c b_Heights_numberFits 3 s args TG R_Heights := X
  have hx := X.1
  have hb := X.2.1
  have hl : lv_has ls 3 [(0, .int (nI 3)), (1, .int k), (2, .int (nI n))] := hl
  refine lv_iload_n hx hb d_Heights_numberFits_0 rfl (lv_at hl 0 rfl) ?_
  refine lv_tableOut hx hb d_Heights_numberFits_1 (by decide) (tgt := 83) rfl ?_
  refine lv_iconst (v := nI 1) hx hb d_Heights_numberFits_83 (by decide) ?_
  exact pl_iret X hr hlk hK rfl () rfl hP hD hS d_Heights_numberFits_84

set_option maxHeartbeats 4000000 in
set_option maxRecDepth 100000 in
theorem c_Heights_numberFits_4 (l : Launch) (D : va_G) (cI cZ cL : ClassId) (k : Int32) (n : Nat) (hn : n < 2 ^ 31) : pl_I l y_Heights_numberFits b_Heights_numberFits 3 .boolean ({ frames := 0, cells := 0, slots := 0, locals := 0 } : Room) pl_E0 D classes (TY cI cZ cL) [.int (nI 4), .int k, .int (nI n)] [] (fun (r : Int32) (_ : Unit) => r = bI (numFit 4 k n)) (fun (_ : Unit) => []) := by
  refine pl_startI (by decide) (Nat.le_of_ble_eq_true rfl) ?_
  intro p e s m args below meth c A ls X hr hlk hin hK hP hD hS hA hE hl
  have X : CallFix p m c b_Heights_numberFits 3 s args TG R_Heights := X
  have hx := X.1
  have hb := X.2.1
  have hl : lv_has ls 3 [(0, .int (nI 4)), (1, .int k), (2, .int (nI n))] := hl
  refine lv_iload_n hx hb d_Heights_numberFits_0 rfl (lv_at hl 0 rfl) ?_
  refine lv_tableOut hx hb d_Heights_numberFits_1 (by decide) (tgt := 83) rfl ?_
  refine lv_iconst (v := nI 1) hx hb d_Heights_numberFits_83 (by decide) ?_
  exact pl_iret X hr hlk hK rfl () rfl hP hD hS d_Heights_numberFits_84

set_option maxHeartbeats 4000000 in
set_option maxRecDepth 100000 in
theorem c_Heights_numberFits_5 (l : Launch) (D : va_G) (cI cZ cL : ClassId) (k : Int32) (n : Nat) (hn : n < 2 ^ 31) : pl_I l y_Heights_numberFits b_Heights_numberFits 3 .boolean ({ frames := 0, cells := 0, slots := 0, locals := 0 } : Room) pl_E0 D classes (TY cI cZ cL) [.int (nI 5), .int k, .int (nI n)] [] (fun (r : Int32) (_ : Unit) => r = bI (numFit 5 k n)) (fun (_ : Unit) => []) := by
  refine pl_startI (by decide) (Nat.le_of_ble_eq_true rfl) ?_
  intro p e s m args below meth c A ls X hr hlk hin hK hP hD hS hA hE hl
  have X : CallFix p m c b_Heights_numberFits 3 s args TG R_Heights := X
  have hx := X.1
  have hb := X.2.1
  have hl : lv_has ls 3 [(0, .int (nI 5)), (1, .int k), (2, .int (nI n))] := hl
  refine lv_iload_n hx hb d_Heights_numberFits_0 rfl (lv_at hl 0 rfl) ?_
  refine lv_tableIn hx hb d_Heights_numberFits_1 (by decide) (by decide) (off := 35) (by decide) (tgt := 36) rfl ?_
  refine lv_iload_n hx hb d_Heights_numberFits_36 rfl (lv_at hl 1 rfl) ?_
  refine lv_if_lt hx hb d_Heights_numberFits_37 rfl (fun g37 => ?_) (fun g37 => ?_)
  · skip
    refine lv_iconst (v := nI 0) hx hb d_Heights_numberFits_50 (by decide) ?_
    exact pl_iret X hr hlk hK rfl () (bI_f (nf5.trans (inB_lo g37))) hP hD hS d_Heights_numberFits_51
  · skip
    refine lv_iload_n hx hb d_Heights_numberFits_40 rfl (lv_at hl 1 rfl) ?_
    refine lv_bipush (v := nI 7) hx hb d_Heights_numberFits_41 (by decide) ?_
    refine lv_icmp_ge hx hb d_Heights_numberFits_43 rfl (fun g43 => ?_) (fun g43 => ?_)
    · skip
      refine lv_iconst (v := nI 0) hx hb d_Heights_numberFits_50 (by decide) ?_
      exact pl_iret X hr hlk hK rfl () (bI_f (nf5.trans (inB_hi (by decide) g43))) hP hD hS d_Heights_numberFits_51
    · skip
      refine lv_iconst (v := nI 1) hx hb d_Heights_numberFits_46 (by decide) ?_
      refine lv_goto hx hb d_Heights_numberFits_47 rfl ?_
      exact pl_iret X hr hlk hK rfl () (bI_t (nf5.trans (inB_in (by decide) g37 g43))) hP hD hS d_Heights_numberFits_51

set_option maxHeartbeats 4000000 in
set_option maxRecDepth 100000 in
theorem c_Heights_numberFits_6 (l : Launch) (D : va_G) (cI cZ cL : ClassId) (k : Int32) (n : Nat) (hn : n < 2 ^ 31) : pl_I l y_Heights_numberFits b_Heights_numberFits 3 .boolean ({ frames := 0, cells := 0, slots := 0, locals := 0 } : Room) pl_E0 D classes (TY cI cZ cL) [.int (nI 6), .int k, .int (nI n)] [] (fun (r : Int32) (_ : Unit) => r = bI (numFit 6 k n)) (fun (_ : Unit) => []) := by
  refine pl_startI (by decide) (Nat.le_of_ble_eq_true rfl) ?_
  intro p e s m args below meth c A ls X hr hlk hin hK hP hD hS hA hE hl
  have X : CallFix p m c b_Heights_numberFits 3 s args TG R_Heights := X
  have hx := X.1
  have hb := X.2.1
  have hl : lv_has ls 3 [(0, .int (nI 6)), (1, .int k), (2, .int (nI n))] := hl
  refine lv_iload_n hx hb d_Heights_numberFits_0 rfl (lv_at hl 0 rfl) ?_
  refine lv_tableIn hx hb d_Heights_numberFits_1 (by decide) (by decide) (off := 35) (by decide) (tgt := 36) rfl ?_
  refine lv_iload_n hx hb d_Heights_numberFits_36 rfl (lv_at hl 1 rfl) ?_
  refine lv_if_lt hx hb d_Heights_numberFits_37 rfl (fun g37 => ?_) (fun g37 => ?_)
  · skip
    refine lv_iconst (v := nI 0) hx hb d_Heights_numberFits_50 (by decide) ?_
    exact pl_iret X hr hlk hK rfl () (bI_f (nf6.trans (inB_lo g37))) hP hD hS d_Heights_numberFits_51
  · skip
    refine lv_iload_n hx hb d_Heights_numberFits_40 rfl (lv_at hl 1 rfl) ?_
    refine lv_bipush (v := nI 7) hx hb d_Heights_numberFits_41 (by decide) ?_
    refine lv_icmp_ge hx hb d_Heights_numberFits_43 rfl (fun g43 => ?_) (fun g43 => ?_)
    · skip
      refine lv_iconst (v := nI 0) hx hb d_Heights_numberFits_50 (by decide) ?_
      exact pl_iret X hr hlk hK rfl () (bI_f (nf6.trans (inB_hi (by decide) g43))) hP hD hS d_Heights_numberFits_51
    · skip
      refine lv_iconst (v := nI 1) hx hb d_Heights_numberFits_46 (by decide) ?_
      refine lv_goto hx hb d_Heights_numberFits_47 rfl ?_
      exact pl_iret X hr hlk hK rfl () (bI_t (nf6.trans (inB_in (by decide) g37 g43))) hP hD hS d_Heights_numberFits_51

set_option maxHeartbeats 4000000 in
set_option maxRecDepth 100000 in
theorem c_Heights_numberFits_7 (l : Launch) (D : va_G) (cI cZ cL : ClassId) (k : Int32) (n : Nat) (hn : n < 2 ^ 31) : pl_I l y_Heights_numberFits b_Heights_numberFits 3 .boolean ({ frames := 0, cells := 0, slots := 0, locals := 0 } : Room) pl_E0 D classes (TY cI cZ cL) [.int (nI 7), .int k, .int (nI n)] [] (fun (r : Int32) (_ : Unit) => r = bI (numFit 7 k n)) (fun (_ : Unit) => []) := by
  refine pl_startI (by decide) (Nat.le_of_ble_eq_true rfl) ?_
  intro p e s m args below meth c A ls X hr hlk hin hK hP hD hS hA hE hl
  have X : CallFix p m c b_Heights_numberFits 3 s args TG R_Heights := X
  have hx := X.1
  have hb := X.2.1
  have hl : lv_has ls 3 [(0, .int (nI 7)), (1, .int k), (2, .int (nI n))] := hl
  refine lv_iload_n hx hb d_Heights_numberFits_0 rfl (lv_at hl 0 rfl) ?_
  refine lv_tableIn hx hb d_Heights_numberFits_1 (by decide) (by decide) (off := 51) (by decide) (tgt := 52) rfl ?_
  refine lv_iload_n hx hb d_Heights_numberFits_52 rfl (lv_at hl 1 rfl) ?_
  refine lv_if_lt hx hb d_Heights_numberFits_53 rfl (fun g53 => ?_) (fun g53 => ?_)
  · skip
    refine lv_iconst (v := nI 0) hx hb d_Heights_numberFits_65 (by decide) ?_
    exact pl_iret X hr hlk hK rfl () (bI_f (nf7.trans (inB_lo g53))) hP hD hS d_Heights_numberFits_66
  · skip
    refine lv_iload_n hx hb d_Heights_numberFits_56 rfl (lv_at hl 1 rfl) ?_
    refine lv_iload_n hx hb d_Heights_numberFits_57 rfl (lv_at hl 2 rfl) ?_
    refine lv_icmp_ge hx hb d_Heights_numberFits_58 rfl (fun g58 => ?_) (fun g58 => ?_)
    · skip
      refine lv_iconst (v := nI 0) hx hb d_Heights_numberFits_65 (by decide) ?_
      exact pl_iret X hr hlk hK rfl () (bI_f (nf7.trans (inB_hi (by omega) g58))) hP hD hS d_Heights_numberFits_66
    · skip
      refine lv_iconst (v := nI 1) hx hb d_Heights_numberFits_61 (by decide) ?_
      refine lv_goto hx hb d_Heights_numberFits_62 rfl ?_
      exact pl_iret X hr hlk hK rfl () (bI_t (nf7.trans (inB_in (by omega) g53 g58))) hP hD hS d_Heights_numberFits_66

set_option maxHeartbeats 4000000 in
set_option maxRecDepth 100000 in
theorem c_Heights_numberFits_8 (l : Launch) (D : va_G) (cI cZ cL : ClassId) (k : Int32) (n : Nat) (hn : n < 2 ^ 31) : pl_I l y_Heights_numberFits b_Heights_numberFits 3 .boolean ({ frames := 0, cells := 0, slots := 0, locals := 0 } : Room) pl_E0 D classes (TY cI cZ cL) [.int (nI 8), .int k, .int (nI n)] [] (fun (r : Int32) (_ : Unit) => r = bI (numFit 8 k n)) (fun (_ : Unit) => []) := by
  refine pl_startI (by decide) (Nat.le_of_ble_eq_true rfl) ?_
  intro p e s m args below meth c A ls X hr hlk hin hK hP hD hS hA hE hl
  have X : CallFix p m c b_Heights_numberFits 3 s args TG R_Heights := X
  have hx := X.1
  have hb := X.2.1
  have hl : lv_has ls 3 [(0, .int (nI 8)), (1, .int k), (2, .int (nI n))] := hl
  refine lv_iload_n hx hb d_Heights_numberFits_0 rfl (lv_at hl 0 rfl) ?_
  refine lv_tableIn hx hb d_Heights_numberFits_1 (by decide) (by decide) (off := 51) (by decide) (tgt := 52) rfl ?_
  refine lv_iload_n hx hb d_Heights_numberFits_52 rfl (lv_at hl 1 rfl) ?_
  refine lv_if_lt hx hb d_Heights_numberFits_53 rfl (fun g53 => ?_) (fun g53 => ?_)
  · skip
    refine lv_iconst (v := nI 0) hx hb d_Heights_numberFits_65 (by decide) ?_
    exact pl_iret X hr hlk hK rfl () (bI_f (nf8.trans (inB_lo g53))) hP hD hS d_Heights_numberFits_66
  · skip
    refine lv_iload_n hx hb d_Heights_numberFits_56 rfl (lv_at hl 1 rfl) ?_
    refine lv_iload_n hx hb d_Heights_numberFits_57 rfl (lv_at hl 2 rfl) ?_
    refine lv_icmp_ge hx hb d_Heights_numberFits_58 rfl (fun g58 => ?_) (fun g58 => ?_)
    · skip
      refine lv_iconst (v := nI 0) hx hb d_Heights_numberFits_65 (by decide) ?_
      exact pl_iret X hr hlk hK rfl () (bI_f (nf8.trans (inB_hi (by omega) g58))) hP hD hS d_Heights_numberFits_66
    · skip
      refine lv_iconst (v := nI 1) hx hb d_Heights_numberFits_61 (by decide) ?_
      refine lv_goto hx hb d_Heights_numberFits_62 rfl ?_
      exact pl_iret X hr hlk hK rfl () (bI_t (nf8.trans (inB_in (by omega) g53 g58))) hP hD hS d_Heights_numberFits_66

set_option maxHeartbeats 4000000 in
set_option maxRecDepth 100000 in
theorem c_Heights_numberFits_9 (l : Launch) (D : va_G) (cI cZ cL : ClassId) (k : Int32) (n : Nat) (hn : n < 2 ^ 31) : pl_I l y_Heights_numberFits b_Heights_numberFits 3 .boolean ({ frames := 0, cells := 0, slots := 0, locals := 0 } : Room) pl_E0 D classes (TY cI cZ cL) [.int (nI 9), .int k, .int (nI n)] [] (fun (r : Int32) (_ : Unit) => r = bI (numFit 9 k n)) (fun (_ : Unit) => []) := by
  refine pl_startI (by decide) (Nat.le_of_ble_eq_true rfl) ?_
  intro p e s m args below meth c A ls X hr hlk hin hK hP hD hS hA hE hl
  have X : CallFix p m c b_Heights_numberFits 3 s args TG R_Heights := X
  have hx := X.1
  have hb := X.2.1
  have hl : lv_has ls 3 [(0, .int (nI 9)), (1, .int k), (2, .int (nI n))] := hl
  refine lv_iload_n hx hb d_Heights_numberFits_0 rfl (lv_at hl 0 rfl) ?_
  refine lv_tableIn hx hb d_Heights_numberFits_1 (by decide) (by decide) (off := 66) (by decide) (tgt := 67) rfl ?_
  refine lv_iload_n hx hb d_Heights_numberFits_67 rfl (lv_at hl 1 rfl) ?_
  refine lv_if_lt hx hb d_Heights_numberFits_68 rfl (fun g68 => ?_) (fun g68 => ?_)
  · skip
    refine lv_iconst (v := nI 0) hx hb d_Heights_numberFits_81 (by decide) ?_
    exact pl_iret X hr hlk hK rfl () (bI_f (nf9.trans (inB_lo g68))) hP hD hS d_Heights_numberFits_82
  · skip
    refine lv_iload_n hx hb d_Heights_numberFits_71 rfl (lv_at hl 1 rfl) ?_
    refine lv_bipush (v := nI 8) hx hb d_Heights_numberFits_72 (by decide) ?_
    refine lv_icmp_ge hx hb d_Heights_numberFits_74 rfl (fun g74 => ?_) (fun g74 => ?_)
    · skip
      refine lv_iconst (v := nI 0) hx hb d_Heights_numberFits_81 (by decide) ?_
      exact pl_iret X hr hlk hK rfl () (bI_f (nf9.trans (inB_hi (by decide) g74))) hP hD hS d_Heights_numberFits_82
    · skip
      refine lv_iconst (v := nI 1) hx hb d_Heights_numberFits_77 (by decide) ?_
      refine lv_goto hx hb d_Heights_numberFits_78 rfl ?_
      exact pl_iret X hr hlk hK rfl () (bI_t (nf9.trans (inB_in (by decide) g68 g74))) hP hD hS d_Heights_numberFits_82

set_option maxHeartbeats 4000000 in
set_option maxRecDepth 100000 in
theorem c_Heights_numberFits_10 (l : Launch) (D : va_G) (cI cZ cL : ClassId) (k : Int32) (n : Nat) (hn : n < 2 ^ 31) : pl_I l y_Heights_numberFits b_Heights_numberFits 3 .boolean ({ frames := 0, cells := 0, slots := 0, locals := 0 } : Room) pl_E0 D classes (TY cI cZ cL) [.int (nI 10), .int k, .int (nI n)] [] (fun (r : Int32) (_ : Unit) => r = bI (numFit 10 k n)) (fun (_ : Unit) => []) := by
  refine pl_startI (by decide) (Nat.le_of_ble_eq_true rfl) ?_
  intro p e s m args below meth c A ls X hr hlk hin hK hP hD hS hA hE hl
  have X : CallFix p m c b_Heights_numberFits 3 s args TG R_Heights := X
  have hx := X.1
  have hb := X.2.1
  have hl : lv_has ls 3 [(0, .int (nI 10)), (1, .int k), (2, .int (nI n))] := hl
  refine lv_iload_n hx hb d_Heights_numberFits_0 rfl (lv_at hl 0 rfl) ?_
  refine lv_tableOut hx hb d_Heights_numberFits_1 (by decide) (tgt := 83) rfl ?_
  refine lv_iconst (v := nI 1) hx hb d_Heights_numberFits_83 (by decide) ?_
  exact pl_iret X hr hlk hK rfl () rfl hP hD hS d_Heights_numberFits_84

set_option maxHeartbeats 4000000 in
set_option maxRecDepth 100000 in
theorem c_Heights_numberFits_11 (l : Launch) (D : va_G) (cI cZ cL : ClassId) (k : Int32) (n : Nat) (hn : n < 2 ^ 31) : pl_I l y_Heights_numberFits b_Heights_numberFits 3 .boolean ({ frames := 0, cells := 0, slots := 0, locals := 0 } : Room) pl_E0 D classes (TY cI cZ cL) [.int (nI 11), .int k, .int (nI n)] [] (fun (r : Int32) (_ : Unit) => r = bI (numFit 11 k n)) (fun (_ : Unit) => []) := by
  refine pl_startI (by decide) (Nat.le_of_ble_eq_true rfl) ?_
  intro p e s m args below meth c A ls X hr hlk hin hK hP hD hS hA hE hl
  have X : CallFix p m c b_Heights_numberFits 3 s args TG R_Heights := X
  have hx := X.1
  have hb := X.2.1
  have hl : lv_has ls 3 [(0, .int (nI 11)), (1, .int k), (2, .int (nI n))] := hl
  refine lv_iload_n hx hb d_Heights_numberFits_0 rfl (lv_at hl 0 rfl) ?_
  refine lv_tableOut hx hb d_Heights_numberFits_1 (by decide) (tgt := 83) rfl ?_
  refine lv_iconst (v := nI 1) hx hb d_Heights_numberFits_83 (by decide) ?_
  exact pl_iret X hr hlk hK rfl () rfl hP hD hS d_Heights_numberFits_84

set_option maxHeartbeats 4000000 in
set_option maxRecDepth 100000 in
theorem c_Heights_numberFits_12 (l : Launch) (D : va_G) (cI cZ cL : ClassId) (k : Int32) (n : Nat) (hn : n < 2 ^ 31) : pl_I l y_Heights_numberFits b_Heights_numberFits 3 .boolean ({ frames := 0, cells := 0, slots := 0, locals := 0 } : Room) pl_E0 D classes (TY cI cZ cL) [.int (nI 12), .int k, .int (nI n)] [] (fun (r : Int32) (_ : Unit) => r = bI (numFit 12 k n)) (fun (_ : Unit) => []) := by
  refine pl_startI (by decide) (Nat.le_of_ble_eq_true rfl) ?_
  intro p e s m args below meth c A ls X hr hlk hin hK hP hD hS hA hE hl
  have X : CallFix p m c b_Heights_numberFits 3 s args TG R_Heights := X
  have hx := X.1
  have hb := X.2.1
  have hl : lv_has ls 3 [(0, .int (nI 12)), (1, .int k), (2, .int (nI n))] := hl
  refine lv_iload_n hx hb d_Heights_numberFits_0 rfl (lv_at hl 0 rfl) ?_
  refine lv_tableOut hx hb d_Heights_numberFits_1 (by decide) (tgt := 83) rfl ?_
  refine lv_iconst (v := nI 1) hx hb d_Heights_numberFits_83 (by decide) ?_
  exact pl_iret X hr hlk hK rfl () rfl hP hD hS d_Heights_numberFits_84

theorem c_Heights_numberFits (l : Launch) (D : va_G) (cI cZ cL : ClassId) (o : Nat) (k : Int32) (n : Nat) (hn : n < 2 ^ 31) (ho : o ≤ 12) : pl_I l y_Heights_numberFits b_Heights_numberFits 3 .boolean ({ frames := 0, cells := 0, slots := 0, locals := 0 } : Room) pl_E0 D classes (TY cI cZ cL) [.int (nI o), .int k, .int (nI n)] [] (fun (r : Int32) (_ : Unit) => r = bI (numFit o k n)) (fun (_ : Unit) => []) := by
  rcases (show o = 0 ∨ o = 1 ∨ o = 2 ∨ o = 3 ∨ o = 4 ∨ o = 5 ∨ o = 6 ∨ o = 7 ∨ o = 8 ∨ o = 9 ∨ o = 10 ∨ o = 11 ∨ o = 12 by omega) with rfl | rfl | rfl | rfl | rfl | rfl | rfl | rfl | rfl | rfl | rfl | rfl | rfl
  · exact c_Heights_numberFits_0 l D cI cZ cL k n hn
  · exact c_Heights_numberFits_1 l D cI cZ cL k n hn
  · exact c_Heights_numberFits_2 l D cI cZ cL k n hn
  · exact c_Heights_numberFits_3 l D cI cZ cL k n hn
  · exact c_Heights_numberFits_4 l D cI cZ cL k n hn
  · exact c_Heights_numberFits_5 l D cI cZ cL k n hn
  · exact c_Heights_numberFits_6 l D cI cZ cL k n hn
  · exact c_Heights_numberFits_7 l D cI cZ cL k n hn
  · exact c_Heights_numberFits_8 l D cI cZ cL k n hn
  · exact c_Heights_numberFits_9 l D cI cZ cL k n hn
  · exact c_Heights_numberFits_10 l D cI cZ cL k n hn
  · exact c_Heights_numberFits_11 l D cI cZ cL k n hn
  · exact c_Heights_numberFits_12 l D cI cZ cL k n hn

set_option maxHeartbeats 4000000 in
set_option maxRecDepth 100000 in
theorem c_Heights_numbersFit (l : Launch) (D : va_G) (cI cZ cL : ClassId) (p0 p1 p2 np : Nat) (P K : Nat → Int32) (hnp : np ≤ 24) (hop : okP P np) : pl_I l y_Heights_numbersFit b_Heights_numbersFit 2 .boolean ({ frames := 1, cells := 0, slots := 0, locals := 22 } : Room) pl_E0 D classes (TY cI cZ cL) [.ref p0] [(p0, .inr (0, [.ref p1, .ref p2, .int (nI np)])), (p1, .inl (cI, 24, .inl P)), (p2, .inl (cI, 24, .inl K))] (fun (r : Int32) (b : Bool) => r = bI b ∧ (b = true ↔ okK P K np)) (fun (_ : Bool) => [(p0, .inr (0, [.ref p1, .ref p2, .int (nI np)])), (p1, .inl (cI, 24, .inl P)), (p2, .inl (cI, 24, .inl K))]) := by
  refine pl_startI (by decide) (Nat.le_of_ble_eq_true rfl) ?_
  intro p e s m args below meth c A ls X hr hlk hin hK hP hD hS hA hE hl
  have X : CallFix p m c b_Heights_numbersFit 2 s args TG R_Heights := X
  have hx := X.1
  have hb := X.2.1
  have hl : lv_has ls 2 [(0, .ref p0)] := hl
  refine lv_iconst (v := nI 0) hx hb d_Heights_numbersFit_0 (by decide) ?_
  refine lv_istore_n hx hb d_Heights_numbersFit_1 rfl hl (by decide) (lv' := [(1, .int (nI 0)), (0, .ref p0)]) rfl (fun ls hl => ?_)
  have loop_2 : ∀ (k : Nat) (i : Nat) (H : Heap) (locs : List Loc) (ls : Array Slot), np - i = k → (i ≤ np) → (∀ j, j < i → numFit (opn P j) (K j) np = true) → va_P D classes [(p0, .inr (0, [.ref p1, .ref p2, .int (nI np)])), (p1, .inl (cI, 24, .inl P)), (p2, .inl (cI, 24, .inl K))] H → va_D A [(p0, .inr (0, [.ref p1, .ref p2, .int (nI np)])), (p1, .inl (cI, 24, .inl P)), (p2, .inl (cI, 24, .inl K))] → va_S A s.heap H locs → lv_has ls 2 [(1, .int (nI i)), (0, .ref p0)] → W p l e ({ frames := 1, cells := 0, slots := 0, locals := 22 } : Room) s m args below meth c H locs 0 0 (MQ below (va_Qi (fun (r : Int32) (b : Bool) => r = bI b ∧ (b = true ↔ okK P K np)) (fun u => pl_out D classes (TY cI cZ cL) A ((fun (_ : Bool) => [(p0, .inr (0, [.ref p1, .ref p2, .int (nI np)])), (p1, .inl (cI, 24, .inl P)), (p2, .inl (cI, 24, .inl K))]) u)) A) args s 0 0 A) (F0 m 2 ls []) := by
    intro k
    induction k using Nat.strongRecOn with
    | _ k ih =>
    intro i H locs ls hk hi0 hg hP hD hS hl
    refine lv_iload_n hx hb d_Heights_numbersFit_2 rfl (lv_at hl 0 rfl) ?_
    refine lv_aload_n hx hb d_Heights_numbersFit_3 rfl (lv_at hl 1 rfl) ?_
    refine pl_get X fw_Heights_26 hK hP 0 rfl (v := .int (nI np)) rfl d_Heights_numbersFit_4 ?_
    refine pl_icmp_ge X (by omega) (by omega) d_Heights_numbersFit_7 rfl (fun g7 => ?_) (fun g7 => ?_)
    · skip
      refine lv_iconst (v := nI 1) hx hb d_Heights_numbersFit_40 (by decide) ?_
      exact pl_iret X hr hlk hK rfl true ⟨bI_t rfl, ⟨fun _ j hj => hg j (by omega), fun _ => rfl⟩⟩ hP hD hS d_Heights_numbersFit_41
    · skip
      obtain ⟨ho1, ho2⟩ := hop i g7
      refine lv_aload_n hx hb d_Heights_numbersFit_10 rfl (lv_at hl 1 rfl) ?_
      refine pl_get X fw_Heights_38 hK hP 0 rfl (v := .ref p1) rfl d_Heights_numbersFit_11 ?_
      refine lv_iload_n hx hb d_Heights_numbersFit_14 rfl (lv_at hl 0 rfl) ?_
      refine pl_iald X hK hP 1 0 rfl rfl i (by omega) (by decide) (z := nI (opn P i)) ho1 d_Heights_numbersFit_15 ?_
      refine lv_aload_n hx hb d_Heights_numbersFit_16 rfl (lv_at hl 1 rfl) ?_
      refine pl_get X fw_Heights_41 hK hP 0 rfl (v := .ref p2) rfl d_Heights_numbersFit_17 ?_
      refine lv_iload_n hx hb d_Heights_numbersFit_20 rfl (lv_at hl 0 rfl) ?_
      refine pl_iald X hK hP 2 0 rfl rfl i (by omega) (by decide) (z := K i) rfl d_Heights_numbersFit_21 ?_
      refine lv_aload_n hx hb d_Heights_numbersFit_22 rfl (lv_at hl 1 rfl) ?_
      refine pl_get X fw_Heights_26 hK hP 0 rfl (v := .int (nI np)) rfl d_Heights_numbersFit_23 ?_
      refine pl_callSI X (rest := []) (As := [.int (nI (opn P i)), .int (K i), .int (nI np)]) (c_Heights_numberFits l D cI cZ cL (opn P i) (K i) np (by omega) ho2) ck_Heights_44 pl_E0_ok trivial hK hP hD hS hA [] [0, 1, 2] [0, 1, 2] rfl (by decide) (wr := [(p0, .inr (0, [.ref p1, .ref p2, .int (nI np)])), (p1, .inl (cI, 24, .inl P)), (p2, .inl (cI, 24, .inl K))]) rfl (by decide) (by decide) (wf := fun _ => [(p0, .inr (0, [.ref p1, .ref p2, .int (nI np)])), (p1, .inl (cI, 24, .inl P)), (p2, .inl (cI, 24, .inl K))]) (fun _ => rfl) (by decide) rfl hl.1 rfl (Nat.le_of_ble_eq_true rfl) (by decide) (by decide) d_Heights_numbersFit_26 (fun r u0 H locs hcq hP hD hS => ?_)
      subst hcq
      refine pl_ifB_ne X d_Heights_numbersFit_29 rfl (fun g29 => ?_) (fun g29 => ?_)
      · skip
        refine lv_iinc hx hb d_Heights_numbersFit_34 hl (k := 0) rfl (nI_inc1 _) (by decide) (lv' := [(1, .int (nI (i + 1))), (0, .ref p0)]) rfl (fun ls hl => ?_)
        refine lv_goto hx hb d_Heights_numbersFit_37 rfl ?_
        exact ih _ (by omega) (i + 1) _ _ _ rfl (by omega) (fun j hj => by rcases Nat.lt_succ_iff_lt_or_eq.mp hj with q | q; (exact hg j q); (rw [q]; exact g29)) hP hD hS hl
      · skip
        refine lv_iconst (v := nI 0) hx hb d_Heights_numbersFit_32 (by decide) ?_
        exact pl_iret X hr hlk hK rfl false ⟨bI_f rfl, ⟨fun q => absurd q (by decide), fun q => by rw [q i g7] at g29; exact absurd g29 (by decide)⟩⟩ hP hD hS d_Heights_numbersFit_33
  exact loop_2 _ 0 _ _ _ rfl (Nat.zero_le _) (fun j hj => absurd hj (Nat.not_lt_zero j)) hP hD hS hl

set_option maxHeartbeats 4000000 in
set_option maxRecDepth 100000 in
theorem c_Heights_reach_new (l : Launch) (D : va_G) (cI cZ cL : ClassId) (e0 e1 e2 : Nat) (F Qu : Nat → Int32) (qd : Nat) (wf : Value) (p0 p1 p2 np : Nat) (P K : Nat → Int32) (i h : Nat) (hnp : np ≤ 24) (hi : i < np) (hF : F i = -1) (hqd : qd < 24) (hh : h < 2 ^ 31) : pl_I l y_Heights_reach b_Heights_reach 4 .boolean ({ frames := 0, cells := 0, slots := 0, locals := 0 } : Room) pl_E0 D classes (TY cI cZ cL) [.ref e0, .ref p0, .int (nI i), .int (nI h)] [(e0, .inr (2, [.ref e1, .ref e2, .int (nI qd), wf])), (e1, .inl (cI, 24, .inl F)), (e2, .inl (cI, 24, .inl Qu)), (p0, .inr (0, [.ref p1, .ref p2, .int (nI np)])), (p1, .inl (cI, 24, .inl P)), (p2, .inl (cI, 24, .inl K))] (fun (r : Int32) (_ : Unit) => r = nI 1) (fun (_ : Unit) => [(e0, .inr (2, [.ref e1, .ref e2, .int (nI (qd + 1)), wf])), (e1, .inl (cI, 24, .inl (upd F i (nI h)))), (e2, .inl (cI, 24, .inl (upd Qu qd (nI i)))), (p0, .inr (0, [.ref p1, .ref p2, .int (nI np)])), (p1, .inl (cI, 24, .inl P)), (p2, .inl (cI, 24, .inl K))]) := by
  refine pl_startI (by decide) (Nat.le_of_ble_eq_true rfl) ?_
  intro p e s m args below meth c A ls X hr hlk hin hK hP hD hS hA hE hl
  have X : CallFix p m c b_Heights_reach 4 s args TG R_Heights := X
  have hx := X.1
  have hb := X.2.1
  have hl : lv_has ls 4 [(0, .ref e0), (1, .ref p0), (2, .int (nI i)), (3, .int (nI h))] := hl
  refine lv_iload_n hx hb d_Heights_reach_0 rfl (lv_at hl 2 rfl) ?_
  refine pl_if_lt X (by omega) d_Heights_reach_1 rfl ?_
  refine lv_iload_n hx hb d_Heights_reach_4 rfl (lv_at hl 2 rfl) ?_
  refine lv_aload_n hx hb d_Heights_reach_5 rfl (lv_at hl 1 rfl) ?_
  refine pl_get X fw_Heights_26 hK hP 3 rfl (v := .int (nI np)) rfl d_Heights_reach_6 ?_
  refine pl_icmp_lt X (by omega) (by omega) d_Heights_reach_9 rfl (fun g9 => ?_) (fun g9 => ?_)
  · skip
    refine lv_aload_n hx hb d_Heights_reach_14 rfl (lv_at hl 0 rfl) ?_
    refine pl_get X fw_Heights_9 hK hP 0 rfl (v := .ref e1) rfl d_Heights_reach_15 ?_
    refine lv_iload_n hx hb d_Heights_reach_18 rfl (lv_at hl 2 rfl) ?_
    refine pl_iald X hK hP 1 0 rfl rfl i (by omega) (by decide) (z := -1) hF d_Heights_reach_19 ?_
    refine lv_iconst (v := -1) hx hb d_Heights_reach_20 (by decide) ?_
    refine lv_icmp_ne hx hb d_Heights_reach_21 rfl (fun g21 => ?_) (fun g21 => ?_)
    · skip
      exact absurd rfl g21
    · skip
      refine lv_aload_n hx hb d_Heights_reach_24 rfl (lv_at hl 0 rfl) ?_
      refine pl_get X fw_Heights_9 hK hP 0 rfl (v := .ref e1) rfl d_Heights_reach_25 ?_
      refine lv_iload_n hx hb d_Heights_reach_28 rfl (lv_at hl 2 rfl) ?_
      refine lv_iload_n hx hb d_Heights_reach_29 rfl (lv_at hl 3 rfl) ?_
      refine pl_iast X hK hP hD hS 1 0 rfl rfl i (by omega) (by decide) d_Heights_reach_30 (ws' := [(e0, .inr (2, [.ref e1, .ref e2, .int (nI qd), wf])), (e1, .inl (cI, 24, .inl (upd F i (nI h)))), (e2, .inl (cI, 24, .inl Qu)), (p0, .inr (0, [.ref p1, .ref p2, .int (nI np)])), (p1, .inl (cI, 24, .inl P)), (p2, .inl (cI, 24, .inl K))]) rfl (fun H locs hP hD hS => ?_)
      refine lv_aload_n hx hb d_Heights_reach_31 rfl (lv_at hl 0 rfl) ?_
      refine pl_get X fw_Heights_15 hK hP 0 rfl (v := .ref e2) rfl d_Heights_reach_32 ?_
      refine lv_aload_n hx hb d_Heights_reach_35 rfl (lv_at hl 0 rfl) ?_
      refine pl_get X fw_Heights_18 hK hP 0 rfl (v := .int (nI qd)) rfl d_Heights_reach_36 ?_
      refine lv_iload_n hx hb d_Heights_reach_39 rfl (lv_at hl 2 rfl) ?_
      refine pl_iast X hK hP hD hS 2 0 rfl rfl qd (by omega) (by decide) d_Heights_reach_40 (ws' := [(e0, .inr (2, [.ref e1, .ref e2, .int (nI qd), wf])), (e1, .inl (cI, 24, .inl (upd F i (nI h)))), (e2, .inl (cI, 24, .inl (upd Qu qd (nI i)))), (p0, .inr (0, [.ref p1, .ref p2, .int (nI np)])), (p1, .inl (cI, 24, .inl P)), (p2, .inl (cI, 24, .inl K))]) rfl (fun H locs hP hD hS => ?_)
      refine lv_aload_n hx hb d_Heights_reach_41 rfl (lv_at hl 0 rfl) ?_
      refine lv_dup hx hb d_Heights_reach_42 rfl ?_
      refine pl_get X fw_Heights_18 hK hP 0 rfl (v := .int (nI qd)) rfl d_Heights_reach_43 ?_
      refine lv_iconst (v := nI 1) hx hb d_Heights_reach_46 (by decide) ?_
      refine pl_iadd X d_Heights_reach_47 (z := nI (qd + 1)) (nI_add _ _) ?_
      refine pl_put X fw_Heights_18 fp_Heights rfl hK hP hD hS 0 rfl (v := .int (nI (qd + 1))) rfl rfl (Nat.le_of_ble_eq_true rfl) d_Heights_reach_48 (ws' := [(e0, .inr (2, [.ref e1, .ref e2, .int (nI (qd + 1)), wf])), (e1, .inl (cI, 24, .inl (upd F i (nI h)))), (e2, .inl (cI, 24, .inl (upd Qu qd (nI i)))), (p0, .inr (0, [.ref p1, .ref p2, .int (nI np)])), (p1, .inl (cI, 24, .inl P)), (p2, .inl (cI, 24, .inl K))]) rfl (fun H locs hP hD hS => ?_)
      refine lv_aload_n hx hb d_Heights_reach_51 rfl (lv_at hl 0 rfl) ?_
      refine pl_get X fw_Heights_9 hK hP 0 rfl (v := .ref e1) rfl d_Heights_reach_52 ?_
      refine lv_iload_n hx hb d_Heights_reach_55 rfl (lv_at hl 2 rfl) ?_
      refine pl_iald X hK hP 1 0 rfl rfl i (by omega) (by decide) (z := nI h) upd_s d_Heights_reach_56 ?_
      refine lv_iload_n hx hb d_Heights_reach_57 rfl (lv_at hl 3 rfl) ?_
      refine pl_icmp_ne X (by omega) (by omega) d_Heights_reach_58 rfl (fun g58 => ?_) (fun g58 => ?_)
      · skip
        exact absurd rfl g58
      · skip
        refine lv_iconst (v := nI 1) hx hb d_Heights_reach_61 (by decide) ?_
        refine lv_goto hx hb d_Heights_reach_62 rfl ?_
        exact pl_iret X hr hlk hK rfl () rfl hP hD hS d_Heights_reach_66
  · skip
    exact absurd hi (by omega)

set_option maxHeartbeats 4000000 in
set_option maxRecDepth 100000 in
theorem c_Heights_reach_old (l : Launch) (D : va_G) (cI cZ cL : ClassId) (e0 e1 e2 : Nat) (F Qu : Nat → Int32) (qd : Nat) (wf : Value) (p0 p1 p2 np : Nat) (P K : Nat → Int32) (i h : Nat) (hnp : np ≤ 24) (hi : i < np) (hF : ¬ F i = -1) : pl_I l y_Heights_reach b_Heights_reach 4 .boolean ({ frames := 0, cells := 0, slots := 0, locals := 0 } : Room) pl_E0 D classes (TY cI cZ cL) [.ref e0, .ref p0, .int (nI i), .int (nI h)] [(e0, .inr (2, [.ref e1, .ref e2, .int (nI qd), wf])), (e1, .inl (cI, 24, .inl F)), (e2, .inl (cI, 24, .inl Qu)), (p0, .inr (0, [.ref p1, .ref p2, .int (nI np)])), (p1, .inl (cI, 24, .inl P)), (p2, .inl (cI, 24, .inl K))] (fun (r : Int32) (_ : Unit) => r = bI (decide (F i = nI h))) (fun (_ : Unit) => [(e0, .inr (2, [.ref e1, .ref e2, .int (nI qd), wf])), (e1, .inl (cI, 24, .inl F)), (e2, .inl (cI, 24, .inl Qu)), (p0, .inr (0, [.ref p1, .ref p2, .int (nI np)])), (p1, .inl (cI, 24, .inl P)), (p2, .inl (cI, 24, .inl K))]) := by
  refine pl_startI (by decide) (Nat.le_of_ble_eq_true rfl) ?_
  intro p e s m args below meth c A ls X hr hlk hin hK hP hD hS hA hE hl
  have X : CallFix p m c b_Heights_reach 4 s args TG R_Heights := X
  have hx := X.1
  have hb := X.2.1
  have hl : lv_has ls 4 [(0, .ref e0), (1, .ref p0), (2, .int (nI i)), (3, .int (nI h))] := hl
  refine lv_iload_n hx hb d_Heights_reach_0 rfl (lv_at hl 2 rfl) ?_
  refine pl_if_lt X (by omega) d_Heights_reach_1 rfl ?_
  refine lv_iload_n hx hb d_Heights_reach_4 rfl (lv_at hl 2 rfl) ?_
  refine lv_aload_n hx hb d_Heights_reach_5 rfl (lv_at hl 1 rfl) ?_
  refine pl_get X fw_Heights_26 hK hP 3 rfl (v := .int (nI np)) rfl d_Heights_reach_6 ?_
  refine pl_icmp_lt X (by omega) (by omega) d_Heights_reach_9 rfl (fun g9 => ?_) (fun g9 => ?_)
  · skip
    refine lv_aload_n hx hb d_Heights_reach_14 rfl (lv_at hl 0 rfl) ?_
    refine pl_get X fw_Heights_9 hK hP 0 rfl (v := .ref e1) rfl d_Heights_reach_15 ?_
    refine lv_iload_n hx hb d_Heights_reach_18 rfl (lv_at hl 2 rfl) ?_
    refine pl_iald X hK hP 1 0 rfl rfl i (by omega) (by decide) (z := F i) rfl d_Heights_reach_19 ?_
    refine lv_iconst (v := -1) hx hb d_Heights_reach_20 (by decide) ?_
    refine lv_icmp_ne hx hb d_Heights_reach_21 rfl (fun g21 => ?_) (fun g21 => ?_)
    · skip
      refine lv_aload_n hx hb d_Heights_reach_51 rfl (lv_at hl 0 rfl) ?_
      refine pl_get X fw_Heights_9 hK hP 0 rfl (v := .ref e1) rfl d_Heights_reach_52 ?_
      refine lv_iload_n hx hb d_Heights_reach_55 rfl (lv_at hl 2 rfl) ?_
      refine pl_iald X hK hP 1 0 rfl rfl i (by omega) (by decide) (z := F i) rfl d_Heights_reach_56 ?_
      refine lv_iload_n hx hb d_Heights_reach_57 rfl (lv_at hl 3 rfl) ?_
      refine lv_icmp_ne hx hb d_Heights_reach_58 rfl (fun g58 => ?_) (fun g58 => ?_)
      · skip
        refine lv_iconst (v := nI 0) hx hb d_Heights_reach_65 (by decide) ?_
        exact pl_iret X hr hlk hK rfl () (bI_f (decide_eq_false g58)) hP hD hS d_Heights_reach_66
      · skip
        refine lv_iconst (v := nI 1) hx hb d_Heights_reach_61 (by decide) ?_
        refine lv_goto hx hb d_Heights_reach_62 rfl ?_
        exact pl_iret X hr hlk hK rfl () (bI_t (decide_eq_true g58)) hP hD hS d_Heights_reach_66
    · skip
      exact absurd g21 hF
  · skip
    exact absurd hi (by omega)

set_option maxHeartbeats 4000000 in
set_option maxRecDepth 100000 in
theorem c_Heights_reach_out (l : Launch) (D : va_G) (cI cZ cL : ClassId) (e0 e1 e2 : Nat) (F Qu : Nat → Int32) (qd : Nat) (wf : Value) (p0 p1 p2 np : Nat) (P K : Nat → Int32) (i h : Nat) (hnp : np ≤ 24) (hi : np ≤ i) (hi2 : i < 2 ^ 31) : pl_I l y_Heights_reach b_Heights_reach 4 .boolean ({ frames := 0, cells := 0, slots := 0, locals := 0 } : Room) pl_E0 D classes (TY cI cZ cL) [.ref e0, .ref p0, .int (nI i), .int (nI h)] [(e0, .inr (2, [.ref e1, .ref e2, .int (nI qd), wf])), (e1, .inl (cI, 24, .inl F)), (e2, .inl (cI, 24, .inl Qu)), (p0, .inr (0, [.ref p1, .ref p2, .int (nI np)])), (p1, .inl (cI, 24, .inl P)), (p2, .inl (cI, 24, .inl K))] (fun (r : Int32) (_ : Unit) => r = nI 0) (fun (_ : Unit) => [(e0, .inr (2, [.ref e1, .ref e2, .int (nI qd), wf])), (e1, .inl (cI, 24, .inl F)), (e2, .inl (cI, 24, .inl Qu)), (p0, .inr (0, [.ref p1, .ref p2, .int (nI np)])), (p1, .inl (cI, 24, .inl P)), (p2, .inl (cI, 24, .inl K))]) := by
  refine pl_startI (by decide) (Nat.le_of_ble_eq_true rfl) ?_
  intro p e s m args below meth c A ls X hr hlk hin hK hP hD hS hA hE hl
  have X : CallFix p m c b_Heights_reach 4 s args TG R_Heights := X
  have hx := X.1
  have hb := X.2.1
  have hl : lv_has ls 4 [(0, .ref e0), (1, .ref p0), (2, .int (nI i)), (3, .int (nI h))] := hl
  refine lv_iload_n hx hb d_Heights_reach_0 rfl (lv_at hl 2 rfl) ?_
  refine pl_if_lt X (by omega) d_Heights_reach_1 rfl ?_
  refine lv_iload_n hx hb d_Heights_reach_4 rfl (lv_at hl 2 rfl) ?_
  refine lv_aload_n hx hb d_Heights_reach_5 rfl (lv_at hl 1 rfl) ?_
  refine pl_get X fw_Heights_26 hK hP 3 rfl (v := .int (nI np)) rfl d_Heights_reach_6 ?_
  refine pl_icmp_lt X (by omega) (by omega) d_Heights_reach_9 rfl (fun g9 => ?_) (fun g9 => ?_)
  · skip
    exact absurd hi (by omega)
  · skip
    refine lv_iconst (v := nI 0) hx hb d_Heights_reach_12 (by decide) ?_
    exact pl_iret X hr hlk hK rfl () rfl hP hD hS d_Heights_reach_13

set_option maxHeartbeats 4000000 in
set_option maxRecDepth 100000 in
theorem c_Heights_waysOnFit (l : Launch) (D : va_G) (cI cZ cL : ClassId) (t1 t2 : Nat) (e0 e1 e2 : Nat) (F Qu : Nat → Int32) (qd : Nat) (wf : Value) (p0 p1 p2 np : Nat) (P K : Nat → Int32) (i h0 : Nat) (hnp : np ≤ 24) (hop : okP P np) (hok : okK P K np) (hv : hInv P K np F Qu qd) (hi : i < np) (hh : h0 ≤ 12) (hF : F i = nI h0) : pl_I l y_Heights_waysOnFit b_Heights_waysOnFit 6 .boolean ({ frames := 1, cells := 0, slots := 0, locals := 23 } : Room) (EV t1 t2) D classes (TY cI cZ cL) [.ref e0, .ref p0, .int (nI i)] [(e0, .inr (2, [.ref e1, .ref e2, .int (nI qd), wf])), (e1, .inl (cI, 24, .inl F)), (e2, .inl (cI, 24, .inl Qu)), (p0, .inr (0, [.ref p1, .ref p2, .int (nI np)])), (p1, .inl (cI, 24, .inl P)), (p2, .inl (cI, 24, .inl K))] (wayP P K np i h0 F Qu qd) (fun (u : HS) => [(e0, .inr (2, [.ref e1, .ref e2, .int (nI u.2.2.1), wf])), (e1, .inl (cI, 24, .inl u.1)), (e2, .inl (cI, 24, .inl u.2.1)), (p0, .inr (0, [.ref p1, .ref p2, .int (nI np)])), (p1, .inl (cI, 24, .inl P)), (p2, .inl (cI, 24, .inl K))]) := by
  refine pl_startI (by decide) (Nat.le_of_ble_eq_true rfl) ?_
  intro p e s m args below meth c A ls X hr hlk hin hK hP hD hS hA hE hl
  have X : CallFix p m c b_Heights_waysOnFit 6 s args TG R_Heights := X
  have hx := X.1
  have hb := X.2.1
  have hl : lv_has ls 6 [(0, .ref e0), (1, .ref p0), (2, .int (nI i))] := hl
  obtain ⟨ho1, ho2⟩ := hop i hi
  have htk := tkN_le (opn P i)
  have hlv := lvN_le (opn P i)
  refine lv_aload_n hx hb d_Heights_waysOnFit_0 rfl (lv_at hl 1 rfl) ?_
  refine pl_get X fw_Heights_38 hK hP 3 rfl (v := .ref p1) rfl d_Heights_waysOnFit_1 ?_
  refine lv_iload_n hx hb d_Heights_waysOnFit_4 rfl (lv_at hl 2 rfl) ?_
  refine pl_iald X hK hP 4 0 rfl rfl i (by omega) (by decide) (z := nI (opn P i)) ho1 d_Heights_waysOnFit_5 ?_
  refine lv_istore_n hx hb d_Heights_waysOnFit_6 rfl hl (by decide) (lv' := [(3, .int (nI (opn P i))), (0, .ref e0), (1, .ref p0), (2, .int (nI i))]) rfl (fun ls hl => ?_)
  refine lv_aload_n hx hb d_Heights_waysOnFit_7 rfl (lv_at hl 1 rfl) ?_
  refine pl_get X fw_Heights_9 hK hP 0 rfl (v := .ref e1) rfl d_Heights_waysOnFit_8 ?_
  refine lv_iload_n hx hb d_Heights_waysOnFit_11 rfl (lv_at hl 3 rfl) ?_
  refine pl_iald X hK hP 1 0 rfl rfl i (by omega) (by decide) (z := nI h0) hF d_Heights_waysOnFit_12 ?_
  refine va_gets hx hb hE.2.2.1 hS X.2.2.2.1 (X.2.2.2.2 _ fs_Heights_56) (fun _ h => h) d_Heights_waysOnFit_13 ?_
  refine lv_iload_n hx hb d_Heights_waysOnFit_16 rfl (lv_at hl 0 rfl) ?_
  refine pl_ti X hE.2.2.2.1 hS (opn P i) (by omega) (by decide) (v := .int (nI (tkN (opn P i)))) rfl d_Heights_waysOnFit_17 ?_
  by_cases gb : tkN (opn P i) ≤ h0
  · skip
    refine pl_isub X d_Heights_waysOnFit_18 (z := nI (h0 - tkN (opn P i))) (pk_sub gb) ?_
    refine lv_istore hx hb d_Heights_waysOnFit_19 hl (by decide) (lv' := [(4, .int (nI (h0 - tkN (opn P i)))), (3, .int (nI (opn P i))), (0, .ref e0), (1, .ref p0), (2, .int (nI i))]) rfl (fun ls hl => ?_)
    refine lv_iload hx hb d_Heights_waysOnFit_21 (lv_at hl 0 rfl) ?_
    refine va_gets hx hb hE.2.2.2.2.1 hS X.2.2.2.1 (X.2.2.2.2 _ fs_Heights_59) (fun _ h => h) d_Heights_waysOnFit_23 ?_
    refine lv_iload_n hx hb d_Heights_waysOnFit_26 rfl (lv_at hl 1 rfl) ?_
    refine pl_ti X hE.2.2.2.2.2 hS (opn P i) (by omega) (by decide) (v := .int (nI (lvN (opn P i)))) rfl d_Heights_waysOnFit_27 ?_
    refine pl_iadd X d_Heights_waysOnFit_28 (z := nI (h0 - tkN (opn P i) + lvN (opn P i))) (nI_add _ _) ?_
    refine lv_istore hx hb d_Heights_waysOnFit_29 hl (by decide) (lv' := [(5, .int (nI (h0 - tkN (opn P i) + lvN (opn P i)))), (4, .int (nI (h0 - tkN (opn P i)))), (3, .int (nI (opn P i))), (0, .ref e0), (1, .ref p0), (2, .int (nI i))]) rfl (fun ls hl => ?_)
    refine lv_iload hx hb d_Heights_waysOnFit_31 (lv_at hl 1 rfl) ?_
    refine pl_if_lt X (by omega) d_Heights_waysOnFit_33 rfl ?_
    refine lv_iload hx hb d_Heights_waysOnFit_36 (lv_at hl 0 rfl) ?_
    refine lv_bipush (v := nI 12) hx hb d_Heights_waysOnFit_38 (by decide) ?_
    refine pl_icmp_le X (by omega) (by decide) d_Heights_waysOnFit_40 rfl (fun g40 => ?_) (fun g40 => ?_)
    · skip
      have join_70 : ∀ (F1 Qu1 : Nat → Int32) (qd1 : Nat) (H : Heap) (locs : List Loc) (ls : Array Slot), (hInv P K np F1 Qu1 qd1) → (hExt np F F1) → (qd ≤ qd1 ∧ ∀ a, a < qd → Qu1 a = Qu a) → ((opn P i = 7 ∨ opn P i = 8) → kn K i < np ∧ F1 (kn K i) = nI (h0 - tkN (opn P i) + lvN (opn P i))) → va_P D classes [(e0, .inr (2, [.ref e1, .ref e2, .int (nI qd1), wf])), (e1, .inl (cI, 24, .inl F1)), (e2, .inl (cI, 24, .inl Qu1)), (p0, .inr (0, [.ref p1, .ref p2, .int (nI np)])), (p1, .inl (cI, 24, .inl P)), (p2, .inl (cI, 24, .inl K))] H → va_D A [(e0, .inr (2, [.ref e1, .ref e2, .int (nI qd1), wf])), (e1, .inl (cI, 24, .inl F1)), (e2, .inl (cI, 24, .inl Qu1)), (p0, .inr (0, [.ref p1, .ref p2, .int (nI np)])), (p1, .inl (cI, 24, .inl P)), (p2, .inl (cI, 24, .inl K))] → va_S A s.heap H locs → lv_has ls 6 [(5, .int (nI (h0 - tkN (opn P i) + lvN (opn P i)))), (4, .int (nI (h0 - tkN (opn P i)))), (3, .int (nI (opn P i))), (0, .ref e0), (1, .ref p0), (2, .int (nI i))] → W p l e ({ frames := 1, cells := 0, slots := 0, locals := 23 } : Room) s m args below meth c H locs 0 0 (MQ below (va_Qi (wayP P K np i h0 F Qu qd) (fun u => pl_out D classes (TY cI cZ cL) A ((fun (u : HS) => [(e0, .inr (2, [.ref e1, .ref e2, .int (nI u.2.2.1), wf])), (e1, .inl (cI, 24, .inl u.1)), (e2, .inl (cI, 24, .inl u.2.1)), (p0, .inr (0, [.ref p1, .ref p2, .int (nI np)])), (p1, .inl (cI, 24, .inl P)), (p2, .inl (cI, 24, .inl K))]) u)) A) args s 0 0 A) (F0 m 70 ls []) := by
        intro F1 Qu1 qd1 H locs ls hv1 hx1 hq1 hg1 hP hD hS hl
        refine lv_iload_n hx hb d_Heights_waysOnFit_70 rfl (lv_at hl 2 rfl) ?_
        refine lv_bipush (v := nI 7) hx hb d_Heights_waysOnFit_71 (by decide) ?_
        refine pl_icmp_eq X (by omega) (by decide) d_Heights_waysOnFit_73 rfl (fun g73 => ?_) (fun g73 => ?_)
        · skip
          refine lv_iconst (v := nI 1) hx hb d_Heights_waysOnFit_95 (by decide) ?_
          refine lv_goto hx hb d_Heights_waysOnFit_96 rfl ?_
          exact pl_iret X hr hlk hK rfl (F1, Qu1, qd1, true) (wayP_t hv1 hx1 hq1 ⟨gb, g40, hg1, fun q _ => absurd g73 q⟩) hP hD hS d_Heights_waysOnFit_100
        · skip
          refine lv_iload_n hx hb d_Heights_waysOnFit_76 rfl (lv_at hl 2 rfl) ?_
          refine lv_bipush (v := nI 12) hx hb d_Heights_waysOnFit_77 (by decide) ?_
          refine pl_icmp_eq X (by omega) (by decide) d_Heights_waysOnFit_79 rfl (fun g79 => ?_) (fun g79 => ?_)
          · skip
            refine lv_iconst (v := nI 1) hx hb d_Heights_waysOnFit_95 (by decide) ?_
            refine lv_goto hx hb d_Heights_waysOnFit_96 rfl ?_
            exact pl_iret X hr hlk hK rfl (F1, Qu1, qd1, true) (wayP_t hv1 hx1 hq1 ⟨gb, g40, hg1, fun _ q => absurd g79 q⟩) hP hD hS d_Heights_waysOnFit_100
          · skip
            refine lv_aload_n hx hb d_Heights_waysOnFit_82 rfl (lv_at hl 3 rfl) ?_
            refine lv_aload_n hx hb d_Heights_waysOnFit_83 rfl (lv_at hl 4 rfl) ?_
            refine lv_iload_n hx hb d_Heights_waysOnFit_84 rfl (lv_at hl 5 rfl) ?_
            refine lv_iconst (v := nI 1) hx hb d_Heights_waysOnFit_85 (by decide) ?_
            refine pl_iadd X d_Heights_waysOnFit_86 (z := nI (i + 1)) (nI_add _ _) ?_
            refine lv_iload hx hb d_Heights_waysOnFit_87 (lv_at hl 0 rfl) ?_
            by_cases gi : i + 1 < np
            · skip
              by_cases gf : F1 (i + 1) = -1
              · skip
                refine pl_callVI X (rest := []) (As := [.ref p0, .int (nI (i + 1)), .int (nI (h0 - tkN (opn P i) + lvN (opn P i)))]) (b := e0) (c_Heights_reach_new l D cI cZ cL e0 e1 e2 F1 Qu1 qd1 wf p0 p1 p2 np P K (i + 1) (h0 - tkN (opn P i) + lvN (opn P i)) hnp gi gf (by have := hv1.ql gi gf; omega) (by omega)) ck_Heights_48 pl_E0_ok trivial hK hP hD hS hA (T := F_Heights) (N := N_Heights) (ci := 2) rfl 0 rfl [0, 1, 2, 3, 4, 5] [] [0, 1, 2, 3, 4, 5] rfl (by decide) (wr := []) rfl (by decide) (by decide) (wf := fun _ => [(e0, .inr (2, [.ref e1, .ref e2, .int (nI (qd1 + 1)), wf])), (e1, .inl (cI, 24, .inl (upd F1 (i + 1) (nI (h0 - tkN (opn P i) + lvN (opn P i)))))), (e2, .inl (cI, 24, .inl (upd Qu1 qd1 (nI (i + 1))))), (p0, .inr (0, [.ref p1, .ref p2, .int (nI np)])), (p1, .inl (cI, 24, .inl P)), (p2, .inl (cI, 24, .inl K))]) (fun _ => rfl) (by decide) rfl hl.1 rfl (Nat.le_of_ble_eq_true rfl) (by decide) (by decide) d_Heights_waysOnFit_89 (fun r u0 H locs hcq hP hD hS => ?_)
                subst hcq
                refine pl_if_eq X (by decide) d_Heights_waysOnFit_92 rfl (fun g92 => ?_) (fun g92 => ?_)
                · skip
                  exact absurd g92 (by decide)
                · skip
                  refine lv_iconst (v := nI 1) hx hb d_Heights_waysOnFit_95 (by decide) ?_
                  refine lv_goto hx hb d_Heights_waysOnFit_96 rfl ?_
                  have hF1i : F1 i = nI h0 := (show F1 i = nI h0 by rw [hx1 i hi (by rw [hF]; exact nI_nm1 (by omega))]; exact hF)
                  have hx2 : hExt np F1 (upd F1 (i + 1) (nI (h0 - tkN (opn P i) + lvN (opn P i)))) := hExt.new gf
                  exact pl_iret X hr hlk hK rfl (upd F1 (i + 1) (nI (h0 - tkN (opn P i) + lvN (opn P i))), upd Qu1 qd1 (nI (i + 1)), qd1 + 1, true) (wayP_t (hv1.new gi (show h0 - tkN (opn P i) + lvN (opn P i) ≤ 12 from g40) gf (nx_G hv1 hi hh hF1i g73 g79)) (hx1.trans hx2) ⟨by omega, fun a ha => by rw [upd_n (by omega)]; exact hq1.2 a ha⟩ ⟨gb, g40, fun o => ⟨(hg1 o).1, by rw [hx2 _ (hg1 o).1 (by rw [(hg1 o).2]; exact nI_nm1 (by omega))]; exact (hg1 o).2⟩, fun _ _ => ⟨gi, upd_s⟩⟩) hP hD hS d_Heights_waysOnFit_100
              · skip
                refine pl_callVI X (rest := []) (As := [.ref p0, .int (nI (i + 1)), .int (nI (h0 - tkN (opn P i) + lvN (opn P i)))]) (b := e0) (c_Heights_reach_old l D cI cZ cL e0 e1 e2 F1 Qu1 qd1 wf p0 p1 p2 np P K (i + 1) (h0 - tkN (opn P i) + lvN (opn P i)) hnp gi gf) ck_Heights_48 pl_E0_ok trivial hK hP hD hS hA (T := F_Heights) (N := N_Heights) (ci := 2) rfl 0 rfl [0, 1, 2, 3, 4, 5] [] [0, 1, 2, 3, 4, 5] rfl (by decide) (wr := []) rfl (by decide) (by decide) (wf := fun _ => [(e0, .inr (2, [.ref e1, .ref e2, .int (nI qd1), wf])), (e1, .inl (cI, 24, .inl F1)), (e2, .inl (cI, 24, .inl Qu1)), (p0, .inr (0, [.ref p1, .ref p2, .int (nI np)])), (p1, .inl (cI, 24, .inl P)), (p2, .inl (cI, 24, .inl K))]) (fun _ => rfl) (by decide) rfl hl.1 rfl (Nat.le_of_ble_eq_true rfl) (by decide) (by decide) d_Heights_waysOnFit_89 (fun r u0 H locs hcq hP hD hS => ?_)
                subst hcq
                refine pl_ifB_eq X d_Heights_waysOnFit_92 rfl (fun g92 => ?_) (fun g92 => ?_)
                · skip
                  refine lv_iconst (v := nI 0) hx hb d_Heights_waysOnFit_99 (by decide) ?_
                  have hF1i : F1 i = nI h0 := (show F1 i = nI h0 by rw [hx1 i hi (by rw [hF]; exact nI_nm1 (by omega))]; exact hF)
                  exact pl_iret X hr hlk hK rfl (F1, Qu1, qd1, false) (wayP_f hv1 hx1 hq1 (no_old hv1 gi gf (nx_G hv1 hi hh hF1i g73 g79) (of_decide_eq_false g92))) hP hD hS d_Heights_waysOnFit_100
                · skip
                  refine lv_iconst (v := nI 1) hx hb d_Heights_waysOnFit_95 (by decide) ?_
                  refine lv_goto hx hb d_Heights_waysOnFit_96 rfl ?_
                  exact pl_iret X hr hlk hK rfl (F1, Qu1, qd1, true) (wayP_t hv1 hx1 hq1 ⟨gb, g40, hg1, fun _ _ => ⟨gi, of_decide_eq_true g92⟩⟩) hP hD hS d_Heights_waysOnFit_100
            · skip
              refine pl_callVI X (rest := []) (As := [.ref p0, .int (nI (i + 1)), .int (nI (h0 - tkN (opn P i) + lvN (opn P i)))]) (b := e0) (c_Heights_reach_out l D cI cZ cL e0 e1 e2 F1 Qu1 qd1 wf p0 p1 p2 np P K (i + 1) (h0 - tkN (opn P i) + lvN (opn P i)) hnp (by omega) (by omega)) ck_Heights_48 pl_E0_ok trivial hK hP hD hS hA (T := F_Heights) (N := N_Heights) (ci := 2) rfl 0 rfl [0, 1, 2, 3, 4, 5] [] [0, 1, 2, 3, 4, 5] rfl (by decide) (wr := []) rfl (by decide) (by decide) (wf := fun _ => [(e0, .inr (2, [.ref e1, .ref e2, .int (nI qd1), wf])), (e1, .inl (cI, 24, .inl F1)), (e2, .inl (cI, 24, .inl Qu1)), (p0, .inr (0, [.ref p1, .ref p2, .int (nI np)])), (p1, .inl (cI, 24, .inl P)), (p2, .inl (cI, 24, .inl K))]) (fun _ => rfl) (by decide) rfl hl.1 rfl (Nat.le_of_ble_eq_true rfl) (by decide) (by decide) d_Heights_waysOnFit_89 (fun r u0 H locs hcq hP hD hS => ?_)
              subst hcq
              refine pl_if_eq X (by decide) d_Heights_waysOnFit_92 rfl (fun g92 => ?_) (fun g92 => ?_)
              · skip
                refine lv_iconst (v := nI 0) hx hb d_Heights_waysOnFit_99 (by decide) ?_
                have hF1i : F1 i = nI h0 := (show F1 i = nI h0 by rw [hx1 i hi (by rw [hF]; exact nI_nm1 (by omega))]; exact hF)
                exact pl_iret X hr hlk hK rfl (F1, Qu1, qd1, false) (wayP_f hv1 hx1 hq1 (no_out hv1 hi hh hF1i g73 g79 gi)) hP hD hS d_Heights_waysOnFit_100
              · skip
                exact absurd rfl g92
      refine lv_iload_n hx hb d_Heights_waysOnFit_45 rfl (lv_at hl 2 rfl) ?_
      refine pl_callNI X (rest := []) (As := [.int (nI (opn P i))]) (c_Loom_goesElsewhere l D cI cZ cL (opn P i) ho2) ckN_goes hE.1 pl_E0_ok trivial hK hP hD hS hA [] [0, 1, 2, 3, 4, 5] [0, 1, 2, 3, 4, 5] rfl (by decide) (wr := [(e0, .inr (2, [.ref e1, .ref e2, .int (nI qd), wf])), (e1, .inl (cI, 24, .inl F)), (e2, .inl (cI, 24, .inl Qu)), (p0, .inr (0, [.ref p1, .ref p2, .int (nI np)])), (p1, .inl (cI, 24, .inl P)), (p2, .inl (cI, 24, .inl K))]) rfl (by decide) (by decide) (wf := fun _ => [(e0, .inr (2, [.ref e1, .ref e2, .int (nI qd), wf])), (e1, .inl (cI, 24, .inl F)), (e2, .inl (cI, 24, .inl Qu)), (p0, .inr (0, [.ref p1, .ref p2, .int (nI np)])), (p1, .inl (cI, 24, .inl P)), (p2, .inl (cI, 24, .inl K))]) (fun _ => rfl) (by decide) rfl hl.1 rfl (Nat.le_of_ble_eq_true rfl) (by decide) (by decide) d_Heights_waysOnFit_46 (fun r u0 H locs hcq hP hD hS => ?_)
      subst hcq
      refine pl_ifB_eq X d_Heights_waysOnFit_49 rfl (fun g49 => ?_) (fun g49 => ?_)
      · skip
        have hgo := of_decide_eq_false g49
        exact join_70 F Qu qd _ _ _ hv hExt.refl (⟨Nat.le_refl _, fun _ _ => rfl⟩) (fun q => absurd q hgo) hP hD hS hl
      · skip
        have hgo := of_decide_eq_true g49
        obtain ⟨hk1, hk2⟩ := okK_7 (by omega) hok hi hgo
        refine lv_aload_n hx hb d_Heights_waysOnFit_52 rfl (lv_at hl 3 rfl) ?_
        refine lv_aload_n hx hb d_Heights_waysOnFit_53 rfl (lv_at hl 4 rfl) ?_
        refine lv_aload_n hx hb d_Heights_waysOnFit_54 rfl (lv_at hl 4 rfl) ?_
        refine pl_get X fw_Heights_41 hK hP 3 rfl (v := .ref p2) rfl d_Heights_waysOnFit_55 ?_
        refine lv_iload_n hx hb d_Heights_waysOnFit_58 rfl (lv_at hl 5 rfl) ?_
        refine pl_iald X hK hP 5 0 rfl rfl i (by omega) (by decide) (z := nI (kn K i)) hk1 d_Heights_waysOnFit_59 ?_
        refine lv_iload hx hb d_Heights_waysOnFit_60 (lv_at hl 0 rfl) ?_
        by_cases gf : F (kn K i) = -1
        · skip
          refine pl_callVI X (rest := []) (As := [.ref p0, .int (nI (kn K i)), .int (nI (h0 - tkN (opn P i) + lvN (opn P i)))]) (b := e0) (c_Heights_reach_new l D cI cZ cL e0 e1 e2 F Qu qd wf p0 p1 p2 np P K (kn K i) (h0 - tkN (opn P i) + lvN (opn P i)) hnp hk2 gf (by have := hv.ql hk2 gf; omega) (by omega)) ck_Heights_48 pl_E0_ok trivial hK hP hD hS hA (T := F_Heights) (N := N_Heights) (ci := 2) rfl 0 rfl [0, 1, 2, 3, 4, 5] [] [0, 1, 2, 3, 4, 5] rfl (by decide) (wr := []) rfl (by decide) (by decide) (wf := fun _ => [(e0, .inr (2, [.ref e1, .ref e2, .int (nI (qd + 1)), wf])), (e1, .inl (cI, 24, .inl (upd F (kn K i) (nI (h0 - tkN (opn P i) + lvN (opn P i)))))), (e2, .inl (cI, 24, .inl (upd Qu qd (nI (kn K i))))), (p0, .inr (0, [.ref p1, .ref p2, .int (nI np)])), (p1, .inl (cI, 24, .inl P)), (p2, .inl (cI, 24, .inl K))]) (fun _ => rfl) (by decide) rfl hl.1 rfl (Nat.le_of_ble_eq_true rfl) (by decide) (by decide) d_Heights_waysOnFit_62 (fun r u0 H locs hcq hP hD hS => ?_)
          subst hcq
          refine pl_if_ne X (by decide) d_Heights_waysOnFit_65 rfl (fun g65 => ?_) (fun g65 => ?_)
          · skip
            exact join_70 (upd F (kn K i) (nI (h0 - tkN (opn P i) + lvN (opn P i)))) (upd Qu qd (nI (kn K i))) (qd + 1) _ _ _ (hv.new hk2 (show h0 - tkN (opn P i) + lvN (opn P i) ≤ 12 from g40) gf (go_G hv hi hh hF hgo)) (hExt.new gf) (⟨by omega, fun a ha => upd_n (by omega)⟩) (fun _ => ⟨hk2, upd_s⟩) hP hD hS hl
          · skip
            exact absurd g65 (by decide)
        · skip
          refine pl_callVI X (rest := []) (As := [.ref p0, .int (nI (kn K i)), .int (nI (h0 - tkN (opn P i) + lvN (opn P i)))]) (b := e0) (c_Heights_reach_old l D cI cZ cL e0 e1 e2 F Qu qd wf p0 p1 p2 np P K (kn K i) (h0 - tkN (opn P i) + lvN (opn P i)) hnp hk2 gf) ck_Heights_48 pl_E0_ok trivial hK hP hD hS hA (T := F_Heights) (N := N_Heights) (ci := 2) rfl 0 rfl [0, 1, 2, 3, 4, 5] [] [0, 1, 2, 3, 4, 5] rfl (by decide) (wr := []) rfl (by decide) (by decide) (wf := fun _ => [(e0, .inr (2, [.ref e1, .ref e2, .int (nI qd), wf])), (e1, .inl (cI, 24, .inl F)), (e2, .inl (cI, 24, .inl Qu)), (p0, .inr (0, [.ref p1, .ref p2, .int (nI np)])), (p1, .inl (cI, 24, .inl P)), (p2, .inl (cI, 24, .inl K))]) (fun _ => rfl) (by decide) rfl hl.1 rfl (Nat.le_of_ble_eq_true rfl) (by decide) (by decide) d_Heights_waysOnFit_62 (fun r u0 H locs hcq hP hD hS => ?_)
          subst hcq
          refine pl_ifB_ne X d_Heights_waysOnFit_65 rfl (fun g65 => ?_) (fun g65 => ?_)
          · skip
            exact join_70 F Qu qd _ _ _ hv hExt.refl (⟨Nat.le_refl _, fun _ _ => rfl⟩) (fun _ => ⟨hk2, of_decide_eq_true g65⟩) hP hD hS hl
          · skip
            refine lv_iconst (v := nI 0) hx hb d_Heights_waysOnFit_68 (by decide) ?_
            exact pl_iret X hr hlk hK rfl (F, Qu, qd, false) (wayP_f hv hExt.refl ⟨Nat.le_refl _, fun _ _ => rfl⟩ (no_old hv hk2 gf (go_G hv hi hh hF hgo) (of_decide_eq_false g65))) hP hD hS d_Heights_waysOnFit_69
    · skip
      refine lv_iconst (v := nI 0) hx hb d_Heights_waysOnFit_43 (by decide) ?_
      exact pl_iret X hr hlk hK rfl (F, Qu, qd, false) (wayP_f hv hExt.refl ⟨Nat.le_refl _, fun _ _ => rfl⟩ (no_hi hv hi hh hF (Nat.not_le.mpr g40))) hP hD hS d_Heights_waysOnFit_44
  · skip
    refine pl_isub X d_Heights_waysOnFit_18 (z := nI h0 - nI (tkN (opn P i))) rfl ?_
    refine lv_istore hx hb d_Heights_waysOnFit_19 hl (by decide) (lv' := [(4, .int (nI h0 - nI (tkN (opn P i)))), (3, .int (nI (opn P i))), (0, .ref e0), (1, .ref p0), (2, .int (nI i))]) rfl (fun ls hl => ?_)
    refine lv_iload hx hb d_Heights_waysOnFit_21 (lv_at hl 0 rfl) ?_
    refine va_gets hx hb hE.2.2.2.2.1 hS X.2.2.2.1 (X.2.2.2.2 _ fs_Heights_59) (fun _ h => h) d_Heights_waysOnFit_23 ?_
    refine lv_iload_n hx hb d_Heights_waysOnFit_26 rfl (lv_at hl 1 rfl) ?_
    refine pl_ti X hE.2.2.2.2.2 hS (opn P i) (by omega) (by decide) (v := .int (nI (lvN (opn P i)))) rfl d_Heights_waysOnFit_27 ?_
    refine pl_iadd X d_Heights_waysOnFit_28 (z := nI h0 - nI (tkN (opn P i)) + nI (lvN (opn P i))) rfl ?_
    refine lv_istore hx hb d_Heights_waysOnFit_29 hl (by decide) (lv' := [(5, .int (nI h0 - nI (tkN (opn P i)) + nI (lvN (opn P i)))), (4, .int (nI h0 - nI (tkN (opn P i)))), (3, .int (nI (opn P i))), (0, .ref e0), (1, .ref p0), (2, .int (nI i))]) rfl (fun ls hl => ?_)
    refine lv_iload hx hb d_Heights_waysOnFit_31 (lv_at hl 1 rfl) ?_
    refine lv_if_lt hx hb d_Heights_waysOnFit_33 rfl (fun g33 => ?_) (fun g33 => ?_)
    · skip
      refine lv_iconst (v := nI 0) hx hb d_Heights_waysOnFit_43 (by decide) ?_
      exact pl_iret X hr hlk hK rfl (F, Qu, qd, false) (wayP_f hv hExt.refl ⟨Nat.le_refl _, fun _ _ => rfl⟩ (no_lo hv hi hh hF gb)) hP hD hS d_Heights_waysOnFit_44
    · skip
      exact absurd (pk_sneg (by omega) (by omega)) g33

set_option maxHeartbeats 4000000 in
set_option maxRecDepth 100000 in
theorem c_Heights_heightsFit (l : Launch) (D : va_G) (cI cZ cL : ClassId) (t1 t2 : Nat) (e0 e1 e2 : Nat) (F Qu : Nat → Int32) (qd : Nat) (wf : Value) (p0 p1 p2 np : Nat) (P K : Nat → Int32) (hnp : np ≤ 24) (hp0 : 0 < np) (hop : okP P np) (hok : okK P K np) : pl_I l y_Heights_heightsFit b_Heights_heightsFit 3 .boolean ({ frames := 2, cells := 0, slots := 0, locals := 48 } : Room) (EV t1 t2) D classes (TY cI cZ cL) [.ref e0, .ref p0] [(e0, .inr (2, [.ref e1, .ref e2, .int (nI qd), wf])), (e1, .inl (cI, 24, .inl F)), (e2, .inl (cI, 24, .inl Qu)), (p0, .inr (0, [.ref p1, .ref p2, .int (nI np)])), (p1, .inl (cI, 24, .inl P)), (p2, .inl (cI, 24, .inl K))] (fitP P K np) (fun (u : HS) => [(e0, .inr (2, [.ref e1, .ref e2, .int (nI u.2.2.1), wf])), (e1, .inl (cI, 24, .inl u.1)), (e2, .inl (cI, 24, .inl u.2.1)), (p0, .inr (0, [.ref p1, .ref p2, .int (nI np)])), (p1, .inl (cI, 24, .inl P)), (p2, .inl (cI, 24, .inl K))]) := by
  refine pl_startI (by decide) (Nat.le_of_ble_eq_true rfl) ?_
  intro p e s m args below meth c A ls X hr hlk hin hK hP hD hS hA hE hl
  have X : CallFix p m c b_Heights_heightsFit 3 s args TG R_Heights := X
  have hx := X.1
  have hb := X.2.1
  have hl : lv_has ls 3 [(0, .ref e0), (1, .ref p0)] := hl
  refine lv_iconst (v := nI 0) hx hb d_Heights_heightsFit_0 (by decide) ?_
  refine lv_istore_n hx hb d_Heights_heightsFit_1 rfl hl (by decide) (lv' := [(2, .int (nI 0)), (0, .ref e0), (1, .ref p0)]) rfl (fun ls hl => ?_)
  have loop_2 : ∀ (k : Nat) (i : Nat) (g : Nat → Int32) (H : Heap) (locs : List Loc) (ls : Array Slot), np - i = k → (i ≤ np) → (∀ j, j < i → g j = -1) → va_P D classes [(e0, .inr (2, [.ref e1, .ref e2, .int (nI qd), wf])), (e1, .inl (cI, 24, .inl g)), (e2, .inl (cI, 24, .inl Qu)), (p0, .inr (0, [.ref p1, .ref p2, .int (nI np)])), (p1, .inl (cI, 24, .inl P)), (p2, .inl (cI, 24, .inl K))] H → va_D A [(e0, .inr (2, [.ref e1, .ref e2, .int (nI qd), wf])), (e1, .inl (cI, 24, .inl g)), (e2, .inl (cI, 24, .inl Qu)), (p0, .inr (0, [.ref p1, .ref p2, .int (nI np)])), (p1, .inl (cI, 24, .inl P)), (p2, .inl (cI, 24, .inl K))] → va_S A s.heap H locs → lv_has ls 3 [(2, .int (nI i)), (0, .ref e0), (1, .ref p0)] → W p l e ({ frames := 2, cells := 0, slots := 0, locals := 48 } : Room) s m args below meth c H locs 0 0 (MQ below (va_Qi (fitP P K np) (fun u => pl_out D classes (TY cI cZ cL) A ((fun (u : HS) => [(e0, .inr (2, [.ref e1, .ref e2, .int (nI u.2.2.1), wf])), (e1, .inl (cI, 24, .inl u.1)), (e2, .inl (cI, 24, .inl u.2.1)), (p0, .inr (0, [.ref p1, .ref p2, .int (nI np)])), (p1, .inl (cI, 24, .inl P)), (p2, .inl (cI, 24, .inl K))]) u)) A) args s 0 0 A) (F0 m 2 ls []) := by
    intro k
    induction k using Nat.strongRecOn with
    | _ k ih =>
    intro i g H locs ls hk hi0 hg hP hD hS hl
    refine lv_iload_n hx hb d_Heights_heightsFit_2 rfl (lv_at hl 0 rfl) ?_
    refine lv_aload_n hx hb d_Heights_heightsFit_3 rfl (lv_at hl 2 rfl) ?_
    refine pl_get X fw_Heights_26 hK hP 3 rfl (v := .int (nI np)) rfl d_Heights_heightsFit_4 ?_
    refine pl_icmp_ge X (by omega) (by omega) d_Heights_heightsFit_7 rfl (fun g7 => ?_) (fun g7 => ?_)
    · skip
      refine lv_aload_n hx hb d_Heights_heightsFit_23 rfl (lv_at hl 1 rfl) ?_
      refine lv_iconst (v := nI 0) hx hb d_Heights_heightsFit_24 (by decide) ?_
      refine pl_put X fw_Heights_18 fp_Heights rfl hK hP hD hS 0 rfl (v := .int (nI 0)) rfl rfl (Nat.le_of_ble_eq_true rfl) d_Heights_heightsFit_25 (ws' := [(e0, .inr (2, [.ref e1, .ref e2, .int (nI 0), wf])), (e1, .inl (cI, 24, .inl g)), (e2, .inl (cI, 24, .inl Qu)), (p0, .inr (0, [.ref p1, .ref p2, .int (nI np)])), (p1, .inl (cI, 24, .inl P)), (p2, .inl (cI, 24, .inl K))]) rfl (fun H locs hP hD hS => ?_)
      refine lv_aload_n hx hb d_Heights_heightsFit_28 rfl (lv_at hl 1 rfl) ?_
      refine lv_aload_n hx hb d_Heights_heightsFit_29 rfl (lv_at hl 2 rfl) ?_
      refine lv_iconst (v := nI 0) hx hb d_Heights_heightsFit_30 (by decide) ?_
      refine lv_iconst (v := nI 0) hx hb d_Heights_heightsFit_31 (by decide) ?_
      refine pl_callVI X (rest := []) (As := [.ref p0, .int (nI 0), .int (nI 0)]) (b := e0) (c_Heights_reach_new l D cI cZ cL e0 e1 e2 g Qu 0 wf p0 p1 p2 np P K 0 0 hnp hp0 (hg 0 (by omega)) (by omega) (by omega)) ck_Heights_48 pl_E0_ok trivial hK hP hD hS hA (T := F_Heights) (N := N_Heights) (ci := 2) rfl 0 rfl [0, 1, 2, 3, 4, 5] [] [0, 1, 2, 3, 4, 5] rfl (by decide) (wr := []) rfl (by decide) (by decide) (wf := fun _ => [(e0, .inr (2, [.ref e1, .ref e2, .int (nI (0 + 1)), wf])), (e1, .inl (cI, 24, .inl (upd g 0 (nI 0)))), (e2, .inl (cI, 24, .inl (upd Qu 0 (nI 0)))), (p0, .inr (0, [.ref p1, .ref p2, .int (nI np)])), (p1, .inl (cI, 24, .inl P)), (p2, .inl (cI, 24, .inl K))]) (fun _ => rfl) (by decide) rfl hl.1 rfl (Nat.le_of_ble_eq_true rfl) (by decide) (by decide) d_Heights_heightsFit_32 (fun r u0 H locs hcq hP hD hS => ?_)
      subst hcq
      refine lv_pop hx hb d_Heights_heightsFit_35 rfl ?_
      refine lv_iconst (v := nI 0) hx hb d_Heights_heightsFit_36 (by decide) ?_
      refine lv_istore_n hx hb d_Heights_heightsFit_37 rfl hl (by decide) (lv' := [(2, .int (nI 0)), (0, .ref e0), (1, .ref p0)]) rfl (fun ls hl => ?_)
      have loop_38 : ∀ (k : Nat) (i : Nat) (F1 Qu1 : Nat → Int32) (qd1 : Nat) (H : Heap) (locs : List Loc) (ls : Array Slot), np - i = k → (i ≤ qd1) → (hInv P K np F1 Qu1 qd1) → (∀ a, a < i → ∀ j, j < np → Qu1 a = nI j → ∀ b, b ≤ 12 → F1 j = nI b → clo P K np F1 j b) → va_P D classes [(e0, .inr (2, [.ref e1, .ref e2, .int (nI qd1), wf])), (e1, .inl (cI, 24, .inl F1)), (e2, .inl (cI, 24, .inl Qu1)), (p0, .inr (0, [.ref p1, .ref p2, .int (nI np)])), (p1, .inl (cI, 24, .inl P)), (p2, .inl (cI, 24, .inl K))] H → va_D A [(e0, .inr (2, [.ref e1, .ref e2, .int (nI qd1), wf])), (e1, .inl (cI, 24, .inl F1)), (e2, .inl (cI, 24, .inl Qu1)), (p0, .inr (0, [.ref p1, .ref p2, .int (nI np)])), (p1, .inl (cI, 24, .inl P)), (p2, .inl (cI, 24, .inl K))] → va_S A s.heap H locs → lv_has ls 3 [(2, .int (nI i)), (0, .ref e0), (1, .ref p0)] → W p l e ({ frames := 2, cells := 0, slots := 0, locals := 48 } : Room) s m args below meth c H locs 0 0 (MQ below (va_Qi (fitP P K np) (fun u => pl_out D classes (TY cI cZ cL) A ((fun (u : HS) => [(e0, .inr (2, [.ref e1, .ref e2, .int (nI u.2.2.1), wf])), (e1, .inl (cI, 24, .inl u.1)), (e2, .inl (cI, 24, .inl u.2.1)), (p0, .inr (0, [.ref p1, .ref p2, .int (nI np)])), (p1, .inl (cI, 24, .inl P)), (p2, .inl (cI, 24, .inl K))]) u)) A) args s 0 0 A) (F0 m 38 ls []) := by
        intro k
        induction k using Nat.strongRecOn with
        | _ k ih =>
        intro i F1 Qu1 qd1 H locs ls hk hi1 hv1 hd1 hP hD hS hl
        have hqn := hv1.qn
        refine lv_iload_n hx hb d_Heights_heightsFit_38 rfl (lv_at hl 0 rfl) ?_
        refine lv_aload_n hx hb d_Heights_heightsFit_39 rfl (lv_at hl 1 rfl) ?_
        refine pl_get X fw_Heights_18 hK hP 0 rfl (v := .int (nI qd1)) rfl d_Heights_heightsFit_40 ?_
        refine pl_icmp_ge X (by omega) (by omega) d_Heights_heightsFit_43 rfl (fun g43 => ?_) (fun g43 => ?_)
        · skip
          refine lv_iconst (v := nI 1) hx hb d_Heights_heightsFit_76 (by decide) ?_
          exact pl_iret X hr hlk hK rfl (F1, Qu1, qd1, true) (fitP_t (hv1.done hp0 g43 hd1)) hP hD hS d_Heights_heightsFit_77
        · skip
          refine lv_iload_n hx hb d_Heights_heightsFit_46 rfl (lv_at hl 0 rfl) ?_
          refine lv_aload_n hx hb d_Heights_heightsFit_47 rfl (lv_at hl 2 rfl) ?_
          refine pl_get X fw_Heights_26 hK hP 3 rfl (v := .int (nI np)) rfl d_Heights_heightsFit_48 ?_
          refine pl_icmp_ge X (by omega) (by omega) d_Heights_heightsFit_51 rfl (fun g51 => ?_) (fun g51 => ?_)
          · skip
            exact absurd g51 (by omega)
          · skip
            obtain ⟨j, hj, hq1, hne⟩ := hv1.2.2.2.1 i g43
            obtain ⟨b0, hb0, hFj⟩ := hv1.lab hj hne
            refine lv_aload_n hx hb d_Heights_heightsFit_54 rfl (lv_at hl 1 rfl) ?_
            refine lv_aload_n hx hb d_Heights_heightsFit_55 rfl (lv_at hl 2 rfl) ?_
            refine lv_aload_n hx hb d_Heights_heightsFit_56 rfl (lv_at hl 1 rfl) ?_
            refine pl_get X fw_Heights_15 hK hP 0 rfl (v := .ref e2) rfl d_Heights_heightsFit_57 ?_
            refine lv_iload_n hx hb d_Heights_heightsFit_60 rfl (lv_at hl 0 rfl) ?_
            refine pl_iald X hK hP 2 0 rfl rfl i (by omega) (by decide) (z := nI j) hq1 d_Heights_heightsFit_61 ?_
            refine pl_callVI X (rest := []) (As := [.ref p0, .int (nI j)]) (b := e0) (c_Heights_waysOnFit l D cI cZ cL t1 t2 e0 e1 e2 F1 Qu1 qd1 wf p0 p1 p2 np P K j b0 hnp hop hok hv1 hj hb0 hFj) ck_Heights_52 (EV_ok t1 t2) (pl_pass (EV_ok t1 t2) hE hD hS hA [0, 1, 2, 3, 4, 5] rfl) hK hP hD hS hA (T := F_Heights) (N := N_Heights) (ci := 2) rfl 0 rfl [0, 1, 2, 3, 4, 5] [] [0, 1, 2, 3, 4, 5] rfl (by decide) (wr := []) rfl (by decide) (by decide) (wf := fun (u : HS) => [(e0, .inr (2, [.ref e1, .ref e2, .int (nI u.2.2.1), wf])), (e1, .inl (cI, 24, .inl u.1)), (e2, .inl (cI, 24, .inl u.2.1)), (p0, .inr (0, [.ref p1, .ref p2, .int (nI np)])), (p1, .inl (cI, 24, .inl P)), (p2, .inl (cI, 24, .inl K))]) (fun _ => rfl) (by decide) rfl hl.1 rfl (Nat.le_of_ble_eq_true rfl) (by decide) (by decide) d_Heights_heightsFit_62 (fun r u H locs hcq hP hD hS => ?_)
            obtain ⟨hcq, hw1, hw2, hw3, hw4, hw5⟩ := hcq
            subst hcq
            refine pl_ifB_ne X d_Heights_heightsFit_65 rfl (fun g65 => ?_) (fun g65 => ?_)
            · skip
              refine lv_iinc hx hb d_Heights_heightsFit_70 hl (k := 0) rfl (nI_inc1 _) (by decide) (lv' := [(2, .int (nI (i + 1))), (0, .ref e0), (1, .ref p0)]) rfl (fun ls hl => ?_)
              refine lv_goto hx hb d_Heights_heightsFit_73 rfl ?_
              exact ih _ (by omega) (i + 1) u.1 u.2.1 u.2.2.1 _ _ _ rfl (by have := hw3.1; omega) hw1 (fun a ha j2 hj2 q2 b2 hb2 e2 => by rcases Nat.lt_succ_iff_lt_or_eq.mp ha with q | q; (exact heights_old (by omega) hd1 hv1 hw2 hw3.2 (by omega) q hj2 q2 hb2 e2); (exact heights_now (by omega) hj hq1 (by rw [← hw3.2 i g43, ← q]; exact q2) hj2 hFj hw2 hb0 hb2 e2 (hw4 g65))) hP hD hS hl
            · skip
              refine lv_iconst (v := nI 0) hx hb d_Heights_heightsFit_68 (by decide) ?_
              exact pl_iret X hr hlk hK rfl (u.1, u.2.1, u.2.2.1, false) (fitP_f (hw5 g65)) hP hD hS d_Heights_heightsFit_69
      exact loop_38 _ 0 (upd g 0 (nI 0)) (upd Qu 0 (nI 0)) (0 + 1) _ _ _ rfl (Nat.zero_le _) (hInv.init hp0 (fun j hj => hg j (by omega))) (fun a ha => absurd ha (Nat.not_lt_zero a)) hP hD hS hl
    · skip
      refine lv_aload_n hx hb d_Heights_heightsFit_10 rfl (lv_at hl 1 rfl) ?_
      refine pl_get X fw_Heights_9 hK hP 0 rfl (v := .ref e1) rfl d_Heights_heightsFit_11 ?_
      refine lv_iload_n hx hb d_Heights_heightsFit_14 rfl (lv_at hl 0 rfl) ?_
      refine lv_iconst (v := -1) hx hb d_Heights_heightsFit_15 (by decide) ?_
      refine pl_iast X hK hP hD hS 1 0 rfl rfl i (by omega) (by decide) d_Heights_heightsFit_16 (ws' := [(e0, .inr (2, [.ref e1, .ref e2, .int (nI qd), wf])), (e1, .inl (cI, 24, .inl (upd g i (-1)))), (e2, .inl (cI, 24, .inl Qu)), (p0, .inr (0, [.ref p1, .ref p2, .int (nI np)])), (p1, .inl (cI, 24, .inl P)), (p2, .inl (cI, 24, .inl K))]) rfl (fun H locs hP hD hS => ?_)
      refine lv_iinc hx hb d_Heights_heightsFit_17 hl (k := 0) rfl (nI_inc1 _) (by decide) (lv' := [(2, .int (nI (i + 1))), (0, .ref e0), (1, .ref p0)]) rfl (fun ls hl => ?_)
      refine lv_goto hx hb d_Heights_heightsFit_20 rfl ?_
      exact ih _ (by omega) (i + 1) (upd g i (-1)) _ _ _ rfl (by omega) (fun j hj => by rcases Nat.lt_succ_iff_lt_or_eq.mp hj with q | q; (rw [upd_n (Nat.ne_of_lt q)]; exact hg j q); (rw [q]; exact upd_s)) hP hD hS hl
  exact loop_2 _ 0 F _ _ _ rfl (Nat.zero_le _) (fun j hj => absurd hj (Nat.not_lt_zero j)) hP hD hS hl

set_option maxHeartbeats 4000000 in
set_option maxRecDepth 100000 in
theorem c_Heights_examine (l : Launch) (D : va_G) (cI cZ cL : ClassId) (t1 t2 : Nat) (e0 e1 e2 : Nat) (F Qu : Nat → Int32) (qd : Nat) (wf : Value) (p0 p1 p2 np : Nat) (P K : Nat → Int32) (hnp : np ≤ 24) (hop : okP P np) : pl_V l y_Heights_examine b_Heights_examine 2 ({ frames := 3, cells := 0, slots := 0, locals := 70 } : Room) (EV t1 t2) D classes (TY cI cZ cL) [.ref e0, .ref p0] [(e0, .inr (2, [.ref e1, .ref e2, .int (nI qd), wf])), (e1, .inl (cI, 24, .inl F)), (e2, .inl (cI, 24, .inl Qu)), (p0, .inr (0, [.ref p1, .ref p2, .int (nI np)])), (p1, .inl (cI, 24, .inl P)), (p2, .inl (cI, 24, .inl K))] (exaP P K np) (fun (u : HS) => [(e0, .inr (2, [.ref e1, .ref e2, .int (nI u.2.2.1), .int (bI (u.2.2.2))])), (e1, .inl (cI, 24, .inl u.1)), (e2, .inl (cI, 24, .inl u.2.1)), (p0, .inr (0, [.ref p1, .ref p2, .int (nI np)])), (p1, .inl (cI, 24, .inl P)), (p2, .inl (cI, 24, .inl K))]) := by
  refine pl_startV (by decide) (Nat.le_of_ble_eq_true rfl) ?_
  intro p e s m args below meth c A ls X hr hlk hin hK hP hD hS hA hE hl
  have X : CallFix p m c b_Heights_examine 2 s args TG R_Heights := X
  have hx := X.1
  have hb := X.2.1
  have hl : lv_has ls 2 [(0, .ref e0), (1, .ref p0)] := hl
  refine lv_aload_n hx hb d_Heights_examine_0 rfl (lv_at hl 0 rfl) ?_
  refine lv_aload_n hx hb d_Heights_examine_1 rfl (lv_at hl 1 rfl) ?_
  refine pl_get X fw_Heights_26 hK hP 3 rfl (v := .int (nI np)) rfl d_Heights_examine_2 ?_
  refine pl_if_le X (by omega) d_Heights_examine_5 rfl (fun g5 => ?_) (fun g5 => ?_)
  · skip
    refine lv_iconst (v := nI 0) hx hb d_Heights_examine_27 (by decide) ?_
    refine pl_put X fw_Heights_22 fp_Heights rfl hK hP hD hS 0 rfl (v := .int (nI 0)) rfl rfl (Nat.le_of_ble_eq_true rfl) d_Heights_examine_28 (ws' := [(e0, .inr (2, [.ref e1, .ref e2, .int (nI qd), .int (nI 0)])), (e1, .inl (cI, 24, .inl F)), (e2, .inl (cI, 24, .inl Qu)), (p0, .inr (0, [.ref p1, .ref p2, .int (nI np)])), (p1, .inl (cI, 24, .inl P)), (p2, .inl (cI, 24, .inl K))]) rfl (fun H locs hP hD hS => ?_)
    exact pl_vret X hr hlk hK (F, Qu, qd, false) (exaP_f (fun q => q.2.elim (fun G g => absurd g.1 (by omega)))) hP hD hS d_Heights_examine_31
  · skip
    refine lv_aload_n hx hb d_Heights_examine_8 rfl (lv_at hl 1 rfl) ?_
    refine pl_callSI X (rest := [.ref e0]) (As := [.ref p0]) (c_Heights_numbersFit l D cI cZ cL p0 p1 p2 np P K hnp hop) ck_Heights_31 pl_E0_ok trivial hK hP hD hS hA [3, 4, 5] [0, 1, 2] [0, 1, 2, 3, 4, 5] rfl (by decide) (wr := [(e0, .inr (2, [.ref e1, .ref e2, .int (nI qd), wf])), (e1, .inl (cI, 24, .inl F)), (e2, .inl (cI, 24, .inl Qu))]) rfl (by decide) (by decide) (wf := fun (bn : Bool) => [(e0, .inr (2, [.ref e1, .ref e2, .int (nI qd), wf])), (e1, .inl (cI, 24, .inl F)), (e2, .inl (cI, 24, .inl Qu)), (p0, .inr (0, [.ref p1, .ref p2, .int (nI np)])), (p1, .inl (cI, 24, .inl P)), (p2, .inl (cI, 24, .inl K))]) (fun _ => rfl) (by decide) rfl hl.1 rfl (Nat.le_of_ble_eq_true rfl) (by decide) (by decide) d_Heights_examine_9 (fun r bn H locs hcq hP hD hS => ?_)
    obtain ⟨hcq, hnb⟩ := hcq
    subst hcq
    refine pl_ifB_eq X d_Heights_examine_12 rfl (fun g12 => ?_) (fun g12 => ?_)
    · skip
      refine lv_iconst (v := nI 0) hx hb d_Heights_examine_27 (by decide) ?_
      refine pl_put X fw_Heights_22 fp_Heights rfl hK hP hD hS 0 rfl (v := .int (nI 0)) rfl rfl (Nat.le_of_ble_eq_true rfl) d_Heights_examine_28 (ws' := [(e0, .inr (2, [.ref e1, .ref e2, .int (nI qd), .int (nI 0)])), (e1, .inl (cI, 24, .inl F)), (e2, .inl (cI, 24, .inl Qu)), (p0, .inr (0, [.ref p1, .ref p2, .int (nI np)])), (p1, .inl (cI, 24, .inl P)), (p2, .inl (cI, 24, .inl K))]) rfl (fun H locs hP hD hS => ?_)
      exact pl_vret X hr hlk hK (F, Qu, qd, false) (exaP_f (fun q => absurd (hnb.mpr q.1) (by rw [g12]; decide))) hP hD hS d_Heights_examine_31
    · skip
      refine lv_aload_n hx hb d_Heights_examine_15 rfl (lv_at hl 0 rfl) ?_
      refine lv_aload_n hx hb d_Heights_examine_16 rfl (lv_at hl 1 rfl) ?_
      refine pl_callVI X (rest := [.ref e0]) (As := [.ref p0]) (b := e0) (c_Heights_heightsFit l D cI cZ cL t1 t2 e0 e1 e2 F Qu qd wf p0 p1 p2 np P K hnp g5 hop (hnb.mp g12)) ck_Heights_35 (EV_ok t1 t2) (pl_pass (EV_ok t1 t2) hE hD hS hA [0, 1, 2, 3, 4, 5] rfl) hK hP hD hS hA (T := F_Heights) (N := N_Heights) (ci := 2) rfl 0 rfl [0, 1, 2, 3, 4, 5] [] [0, 1, 2, 3, 4, 5] rfl (by decide) (wr := []) rfl (by decide) (by decide) (wf := fun (u : HS) => [(e0, .inr (2, [.ref e1, .ref e2, .int (nI u.2.2.1), wf])), (e1, .inl (cI, 24, .inl u.1)), (e2, .inl (cI, 24, .inl u.2.1)), (p0, .inr (0, [.ref p1, .ref p2, .int (nI np)])), (p1, .inl (cI, 24, .inl P)), (p2, .inl (cI, 24, .inl K))]) (fun _ => rfl) (by decide) rfl hl.1 rfl (Nat.le_of_ble_eq_true rfl) (by decide) (by decide) d_Heights_examine_17 (fun r u H locs hcq hP hD hS => ?_)
      have hfit := hcq
      obtain ⟨hcq, -, -⟩ := hcq
      subst hcq
      refine pl_ifB_eq X d_Heights_examine_20 rfl (fun g20 => ?_) (fun g20 => ?_)
      · skip
        refine lv_iconst (v := nI 0) hx hb d_Heights_examine_27 (by decide) ?_
        refine pl_put X fw_Heights_22 fp_Heights rfl hK hP hD hS 0 rfl (v := .int (nI 0)) rfl rfl (Nat.le_of_ble_eq_true rfl) d_Heights_examine_28 (ws' := [(e0, .inr (2, [.ref e1, .ref e2, .int (nI u.2.2.1), .int (nI 0)])), (e1, .inl (cI, 24, .inl u.1)), (e2, .inl (cI, 24, .inl u.2.1)), (p0, .inr (0, [.ref p1, .ref p2, .int (nI np)])), (p1, .inl (cI, 24, .inl P)), (p2, .inl (cI, 24, .inl K))]) rfl (fun H locs hP hD hS => ?_)
        exact pl_vret X hr hlk hK (u.1, u.2.1, u.2.2.1, false) (exaP_f (fun q => q.2.elim (hfit.2.2 g20))) hP hD hS d_Heights_examine_31
      · skip
        refine lv_iconst (v := nI 1) hx hb d_Heights_examine_23 (by decide) ?_
        refine lv_goto hx hb d_Heights_examine_24 rfl ?_
        refine pl_put X fw_Heights_22 fp_Heights rfl hK hP hD hS 0 rfl (v := .int (nI 1)) rfl rfl (Nat.le_of_ble_eq_true rfl) d_Heights_examine_28 (ws' := [(e0, .inr (2, [.ref e1, .ref e2, .int (nI u.2.2.1), .int (nI 1)])), (e1, .inl (cI, 24, .inl u.1)), (e2, .inl (cI, 24, .inl u.2.1)), (p0, .inr (0, [.ref p1, .ref p2, .int (nI np)])), (p1, .inl (cI, 24, .inl P)), (p2, .inl (cI, 24, .inl K))]) rfl (fun H locs hP hD hS => ?_)
        exact pl_vret X hr hlk hK (u.1, u.2.1, u.2.2.1, true) (exaP_t ⟨hnb.mp g12, hfit.2.1 g20⟩) hP hD hS d_Heights_examine_31
end
section
/-! Decode rows of PolicyLoom. -/
theorem d_Loom_forgetWhatHungOnAutomaton_0 : decode b_Loom_forgetWhatHungOnAutomaton 0 = .ok (.aload_n 0, 1) := by decide +kernel
theorem d_Loom_forgetWhatHungOnAutomaton_1 : decode b_Loom_forgetWhatHungOnAutomaton 1 = .ok (.iconst 0, 1) := by decide +kernel
theorem d_Loom_forgetWhatHungOnAutomaton_2 : decode b_Loom_forgetWhatHungOnAutomaton 2 = .ok (.putfield 50, 3) := by decide +kernel
theorem d_Loom_forgetWhatHungOnAutomaton_5 : decode b_Loom_forgetWhatHungOnAutomaton 5 = .ok (.aload_n 0, 1) := by decide +kernel
theorem d_Loom_forgetWhatHungOnAutomaton_6 : decode b_Loom_forgetWhatHungOnAutomaton 6 = .ok (.getfield 42, 3) := by decide +kernel
theorem d_Loom_forgetWhatHungOnAutomaton_9 : decode b_Loom_forgetWhatHungOnAutomaton 9 = .ok (.iconst 0, 1) := by decide +kernel
theorem d_Loom_forgetWhatHungOnAutomaton_10 : decode b_Loom_forgetWhatHungOnAutomaton 10 = .ok (.putfield 130, 3) := by decide +kernel
theorem d_Loom_forgetWhatHungOnAutomaton_13 : decode b_Loom_forgetWhatHungOnAutomaton 13 = .ok (.return_, 1) := by decide +kernel
theorem d_Loom_forgetWhatHungOnProgram_0 : decode b_Loom_forgetWhatHungOnProgram 0 = .ok (.aload_n 0, 1) := by decide +kernel
theorem d_Loom_forgetWhatHungOnProgram_1 : decode b_Loom_forgetWhatHungOnProgram 1 = .ok (.iconst 0, 1) := by decide +kernel
theorem d_Loom_forgetWhatHungOnProgram_2 : decode b_Loom_forgetWhatHungOnProgram 2 = .ok (.putfield 46, 3) := by decide +kernel
theorem d_Loom_forgetWhatHungOnProgram_5 : decode b_Loom_forgetWhatHungOnProgram 5 = .ok (.aload_n 0, 1) := by decide +kernel
theorem d_Loom_forgetWhatHungOnProgram_6 : decode b_Loom_forgetWhatHungOnProgram 6 = .ok (.invokevirtual 78, 3) := by decide +kernel
theorem d_Loom_forgetWhatHungOnProgram_9 : decode b_Loom_forgetWhatHungOnProgram 9 = .ok (.return_, 1) := by decide +kernel
theorem d_Loom_clear_0 : decode b_Loom_clear 0 = .ok (.aload_n 0, 1) := by decide +kernel
theorem d_Loom_clear_1 : decode b_Loom_clear 1 = .ok (.invokevirtual 69, 3) := by decide +kernel
theorem d_Loom_clear_4 : decode b_Loom_clear 4 = .ok (.aload_n 0, 1) := by decide +kernel
theorem d_Loom_clear_5 : decode b_Loom_clear 5 = .ok (.getfield 14, 3) := by decide +kernel
theorem d_Loom_clear_8 : decode b_Loom_clear 8 = .ok (.iconst 0, 1) := by decide +kernel
theorem d_Loom_clear_9 : decode b_Loom_clear 9 = .ok (.putfield 60, 3) := by decide +kernel
theorem d_Loom_clear_12 : decode b_Loom_clear 12 = .ok (.return_, 1) := by decide +kernel
theorem d_Loom_isWellFormed_0 : decode b_Loom_isWellFormed 0 = .ok (.aload_n 0, 1) := by decide +kernel
theorem d_Loom_isWellFormed_1 : decode b_Loom_isWellFormed 1 = .ok (.getfield 46, 3) := by decide +kernel
theorem d_Loom_isWellFormed_4 : decode b_Loom_isWellFormed 4 = .ok (.ifCond .ne 19, 3) := by decide +kernel
theorem d_Loom_isWellFormed_7 : decode b_Loom_isWellFormed 7 = .ok (.aload_n 0, 1) := by decide +kernel
theorem d_Loom_isWellFormed_8 : decode b_Loom_isWellFormed 8 = .ok (.getfield 28, 3) := by decide +kernel
theorem d_Loom_isWellFormed_11 : decode b_Loom_isWellFormed 11 = .ok (.aload_n 0, 1) := by decide +kernel
theorem d_Loom_isWellFormed_12 : decode b_Loom_isWellFormed 12 = .ok (.getfield 14, 3) := by decide +kernel
theorem d_Loom_isWellFormed_15 : decode b_Loom_isWellFormed 15 = .ok (.invokevirtual 174, 3) := by decide +kernel
theorem d_Loom_isWellFormed_18 : decode b_Loom_isWellFormed 18 = .ok (.aload_n 0, 1) := by decide +kernel
theorem d_Loom_isWellFormed_19 : decode b_Loom_isWellFormed 19 = .ok (.iconst 1, 1) := by decide +kernel
theorem d_Loom_isWellFormed_20 : decode b_Loom_isWellFormed 20 = .ok (.putfield 46, 3) := by decide +kernel
theorem d_Loom_isWellFormed_23 : decode b_Loom_isWellFormed 23 = .ok (.aload_n 0, 1) := by decide +kernel
theorem d_Loom_isWellFormed_24 : decode b_Loom_isWellFormed 24 = .ok (.getfield 28, 3) := by decide +kernel
theorem d_Loom_isWellFormed_27 : decode b_Loom_isWellFormed 27 = .ok (.getfield 178, 3) := by decide +kernel
theorem d_Loom_isWellFormed_30 : decode b_Loom_isWellFormed 30 = .ok (.ireturn, 1) := by decide +kernel
theorem d_Loom_well_0 : decode b_Loom_well 0 = .ok (.aload_n 0, 1) := by decide +kernel
theorem d_Loom_well_1 : decode b_Loom_well 1 = .ok (.invokevirtual 102, 3) := by decide +kernel
theorem d_Loom_well_4 : decode b_Loom_well 4 = .ok (.ireturn, 1) := by decide +kernel
theorem d_Loom_requireWellFormed_0 : decode b_Loom_requireWellFormed 0 = .ok (.aload_n 0, 1) := by decide +kernel
theorem d_Loom_requireWellFormed_1 : decode b_Loom_requireWellFormed 1 = .ok (.invokevirtual 102, 3) := by decide +kernel
theorem d_Loom_requireWellFormed_4 : decode b_Loom_requireWellFormed 4 = .ok (.ifCond .ne 13, 3) := by decide +kernel
theorem d_Loom_requireWellFormed_7 : decode b_Loom_requireWellFormed 7 = .ok (.new 133, 3) := by decide +kernel
theorem d_Loom_requireWellFormed_10 : decode b_Loom_requireWellFormed 10 = .ok (.dup, 1) := by decide +kernel
theorem d_Loom_requireWellFormed_11 : decode b_Loom_requireWellFormed 11 = .ok (.ldc 181, 2) := by decide +kernel
theorem d_Loom_requireWellFormed_13 : decode b_Loom_requireWellFormed 13 = .ok (.invokespecial 137, 3) := by decide +kernel
theorem d_Loom_requireWellFormed_16 : decode b_Loom_requireWellFormed 16 = .ok (.athrow, 1) := by decide +kernel
theorem d_Loom_requireWellFormed_17 : decode b_Loom_requireWellFormed 17 = .ok (.return_, 1) := by decide +kernel
theorem d_Loom_height_0 : decode b_Loom_height 0 = .ok (.aload_n 0, 1) := by decide +kernel
theorem d_Loom_height_1 : decode b_Loom_height 1 = .ok (.invokevirtual 106, 3) := by decide +kernel
theorem d_Loom_height_4 : decode b_Loom_height 4 = .ok (.iload_n 1, 1) := by decide +kernel
theorem d_Loom_height_5 : decode b_Loom_height 5 = .ok (.ifCond .lt 14, 3) := by decide +kernel
theorem d_Loom_height_8 : decode b_Loom_height 8 = .ok (.iload_n 1, 1) := by decide +kernel
theorem d_Loom_height_9 : decode b_Loom_height 9 = .ok (.aload_n 0, 1) := by decide +kernel
theorem d_Loom_height_10 : decode b_Loom_height 10 = .ok (.getfield 14, 3) := by decide +kernel
theorem d_Loom_height_13 : decode b_Loom_height 13 = .ok (.getfield 60, 3) := by decide +kernel
theorem d_Loom_height_16 : decode b_Loom_height 16 = .ok (.if_icmp .lt 13, 3) := by decide +kernel
theorem d_Loom_height_19 : decode b_Loom_height 19 = .ok (.new 64, 3) := by decide +kernel
theorem d_Loom_height_22 : decode b_Loom_height 22 = .ok (.dup, 1) := by decide +kernel
theorem d_Loom_height_23 : decode b_Loom_height 23 = .ok (.ldc 109, 2) := by decide +kernel
theorem d_Loom_height_25 : decode b_Loom_height 25 = .ok (.invokespecial 68, 3) := by decide +kernel
theorem d_Loom_height_28 : decode b_Loom_height 28 = .ok (.athrow, 1) := by decide +kernel
theorem d_Loom_height_29 : decode b_Loom_height 29 = .ok (.aload_n 0, 1) := by decide +kernel
theorem d_Loom_height_30 : decode b_Loom_height 30 = .ok (.getfield 28, 3) := by decide +kernel
theorem d_Loom_height_33 : decode b_Loom_height 33 = .ok (.getfield 111, 3) := by decide +kernel
theorem d_Loom_height_36 : decode b_Loom_height 36 = .ok (.iload_n 1, 1) := by decide +kernel
theorem d_Loom_height_37 : decode b_Loom_height 37 = .ok (.iaload, 1) := by decide +kernel
theorem d_Loom_height_38 : decode b_Loom_height 38 = .ok (.ireturn, 1) := by decide +kernel
theorem d_Loom_wovenListing_0 : decode b_Loom_wovenListing 0 = .ok (.aload_n 0, 1) := by decide +kernel
theorem d_Loom_wovenListing_1 : decode b_Loom_wovenListing 1 = .ok (.getfield 50, 3) := by decide +kernel
theorem d_Loom_wovenListing_4 : decode b_Loom_wovenListing 4 = .ok (.ifCond .ne 23, 3) := by decide +kernel
theorem d_Loom_wovenListing_7 : decode b_Loom_wovenListing 7 = .ok (.aload_n 0, 1) := by decide +kernel
theorem d_Loom_wovenListing_8 : decode b_Loom_wovenListing 8 = .ok (.getfield 35, 3) := by decide +kernel
theorem d_Loom_wovenListing_11 : decode b_Loom_wovenListing 11 = .ok (.aload_n 0, 1) := by decide +kernel
theorem d_Loom_wovenListing_12 : decode b_Loom_wovenListing 12 = .ok (.getfield 14, 3) := by decide +kernel
theorem d_Loom_wovenListing_15 : decode b_Loom_wovenListing 15 = .ok (.aload_n 0, 1) := by decide +kernel
theorem d_Loom_wovenListing_16 : decode b_Loom_wovenListing 16 = .ok (.getfield 21, 3) := by decide +kernel
theorem d_Loom_wovenListing_19 : decode b_Loom_wovenListing 19 = .ok (.invokevirtual 183, 3) := by decide +kernel
theorem d_Loom_wovenListing_22 : decode b_Loom_wovenListing 22 = .ok (.aload_n 0, 1) := by decide +kernel
theorem d_Loom_wovenListing_23 : decode b_Loom_wovenListing 23 = .ok (.iconst 1, 1) := by decide +kernel
theorem d_Loom_wovenListing_24 : decode b_Loom_wovenListing 24 = .ok (.putfield 50, 3) := by decide +kernel
theorem d_Loom_wovenListing_27 : decode b_Loom_wovenListing 27 = .ok (.aload_n 0, 1) := by decide +kernel
theorem d_Loom_wovenListing_28 : decode b_Loom_wovenListing 28 = .ok (.getfield 35, 3) := by decide +kernel
theorem d_Loom_wovenListing_31 : decode b_Loom_wovenListing 31 = .ok (.getfield 186, 3) := by decide +kernel
theorem d_Loom_wovenListing_34 : decode b_Loom_wovenListing 34 = .ok (.areturn, 1) := by decide +kernel
theorem d_Loom_enforce_0 : decode b_Loom_enforce 0 = .ok (.aload_n 0, 1) := by decide +kernel
theorem d_Loom_enforce_1 : decode b_Loom_enforce 1 = .ok (.invokevirtual 106, 3) := by decide +kernel
theorem d_Loom_enforce_4 : decode b_Loom_enforce 4 = .ok (.aload_n 0, 1) := by decide +kernel
theorem d_Loom_enforce_5 : decode b_Loom_enforce 5 = .ok (.invokevirtual 115, 3) := by decide +kernel
theorem d_Loom_enforce_8 : decode b_Loom_enforce 8 = .ok (.getfield 60, 3) := by decide +kernel
theorem d_Loom_enforce_11 : decode b_Loom_enforce 11 = .ok (.ireturn, 1) := by decide +kernel
theorem d_Loom_enforced_0 : decode b_Loom_enforced 0 = .ok (.aload_n 0, 1) := by decide +kernel
theorem d_Loom_enforced_1 : decode b_Loom_enforced 1 = .ok (.invokevirtual 106, 3) := by decide +kernel
theorem d_Loom_enforced_4 : decode b_Loom_enforced 4 = .ok (.aload_n 0, 1) := by decide +kernel
theorem d_Loom_enforced_5 : decode b_Loom_enforced 5 = .ok (.invokevirtual 115, 3) := by decide +kernel
theorem d_Loom_enforced_8 : decode b_Loom_enforced 8 = .ok (.astore_n 3, 1) := by decide +kernel
theorem d_Loom_enforced_9 : decode b_Loom_enforced 9 = .ok (.iload_n 1, 1) := by decide +kernel
theorem d_Loom_enforced_10 : decode b_Loom_enforced 10 = .ok (.ifCond .lt 11, 3) := by decide +kernel
theorem d_Loom_enforced_13 : decode b_Loom_enforced 13 = .ok (.iload_n 1, 1) := by decide +kernel
theorem d_Loom_enforced_14 : decode b_Loom_enforced 14 = .ok (.aload_n 3, 1) := by decide +kernel
theorem d_Loom_enforced_15 : decode b_Loom_enforced 15 = .ok (.getfield 60, 3) := by decide +kernel
theorem d_Loom_enforced_18 : decode b_Loom_enforced 18 = .ok (.if_icmp .lt 13, 3) := by decide +kernel
theorem d_Loom_enforced_21 : decode b_Loom_enforced 21 = .ok (.new 64, 3) := by decide +kernel
theorem d_Loom_enforced_24 : decode b_Loom_enforced 24 = .ok (.dup, 1) := by decide +kernel
theorem d_Loom_enforced_25 : decode b_Loom_enforced 25 = .ok (.ldc 109, 2) := by decide +kernel
theorem d_Loom_enforced_27 : decode b_Loom_enforced 27 = .ok (.invokespecial 68, 3) := by decide +kernel
theorem d_Loom_enforced_30 : decode b_Loom_enforced 30 = .ok (.athrow, 1) := by decide +kernel
theorem d_Loom_enforced_31 : decode b_Loom_enforced 31 = .ok (.iload_n 2, 1) := by decide +kernel
theorem d_Loom_enforced_32 : decode b_Loom_enforced 32 = .ok (.ifCond .eq 12, 3) := by decide +kernel
theorem d_Loom_enforced_35 : decode b_Loom_enforced 35 = .ok (.aload_n 3, 1) := by decide +kernel
theorem d_Loom_enforced_36 : decode b_Loom_enforced 36 = .ok (.getfield 119, 3) := by decide +kernel
theorem d_Loom_enforced_39 : decode b_Loom_enforced 39 = .ok (.iload_n 1, 1) := by decide +kernel
theorem d_Loom_enforced_40 : decode b_Loom_enforced 40 = .ok (.iaload, 1) := by decide +kernel
theorem d_Loom_enforced_41 : decode b_Loom_enforced 41 = .ok (.goto 9, 3) := by decide +kernel
theorem d_Loom_enforced_44 : decode b_Loom_enforced 44 = .ok (.aload_n 3, 1) := by decide +kernel
theorem d_Loom_enforced_45 : decode b_Loom_enforced 45 = .ok (.getfield 122, 3) := by decide +kernel
theorem d_Loom_enforced_48 : decode b_Loom_enforced 48 = .ok (.iload_n 1, 1) := by decide +kernel
theorem d_Loom_enforced_49 : decode b_Loom_enforced 49 = .ok (.iaload, 1) := by decide +kernel
theorem d_Loom_enforced_50 : decode b_Loom_enforced 50 = .ok (.ireturn, 1) := by decide +kernel
end
section
set_option maxHeartbeats 4000000 in
set_option maxRecDepth 100000 in
theorem c_Loom_forgetWhatHungOnAutomaton (l : Launch) (D : va_G) (cI cZ cL : ClassId) (x0 p0 p1 p2 h a1 a2 a3 e0 e1 e2 w w1 v v1 v2 r b1 b2 b3 b4 : Nat) (P K lo hi th F Qu fo f g sa ca ta tn : Nat → Int32) (np n qd z how stat pl q stt dn : Nat) (b ex wv : Bool)  : pl_V l y_Loom_forgetWhatHungOnAutomaton b_Loom_forgetWhatHungOnAutomaton 1 ({ frames := 0, cells := 0, slots := 0, locals := 0 } : Room) pl_E0 D classes (TY cI cZ cL) [.ref x0] [(x0, .inr (5, [.ref p0, .ref h, .ref e0, .ref w, .ref r, .int (bI (ex)), .int (bI (wv))])), (r, .inr (4, [.ref b1, .ref b2, .ref b3, .ref b4, .int (nI how), .int (nI stat), .int (nI pl), .int (nI q), .int (nI stt), .int (nI dn)])), (b1, .inl (cI, 14, .inl sa)), (b2, .inl (cI, 8, .inl ca)), (b3, .inl (cI, 60, .inl ta)), (b4, .inl (cI, 60, .inl tn))] (fun _ : Unit => True) (fun (_ : Unit) => [(x0, .inr (5, [.ref p0, .ref h, .ref e0, .ref w, .ref r, .int (bI (ex)), .int (bI (false))])), (r, .inr (4, [.ref b1, .ref b2, .ref b3, .ref b4, .int (nI how), .int (nI 0), .int (nI pl), .int (nI q), .int (nI stt), .int (nI dn)])), (b1, .inl (cI, 14, .inl sa)), (b2, .inl (cI, 8, .inl ca)), (b3, .inl (cI, 60, .inl ta)), (b4, .inl (cI, 60, .inl tn))]) := by
  refine pl_startV (by decide) (Nat.le_of_ble_eq_true rfl) ?_
  intro p e s m args below meth c A ls X hr hlk hin hK hP hD hS hA hE hl
  have X : CallFix p m c b_Loom_forgetWhatHungOnAutomaton 1 s args TG R_Loom := X
  have hx := X.1
  have hb := X.2.1
  have hl : lv_has ls 1 [(0, .ref x0)] := hl
  refine lv_aload_n hx hb d_Loom_forgetWhatHungOnAutomaton_0 rfl (lv_at hl 0 rfl) ?_
  refine lv_iconst (v := nI 0) hx hb d_Loom_forgetWhatHungOnAutomaton_1 (by decide) ?_
  refine pl_put X fw_Loom_50 fp_Loom rfl hK hP hD hS 0 rfl (v := .int (nI 0)) rfl rfl (Nat.le_of_ble_eq_true rfl) d_Loom_forgetWhatHungOnAutomaton_2 (ws' := [(x0, .inr (5, [.ref p0, .ref h, .ref e0, .ref w, .ref r, .int (bI (ex)), .int (nI 0)])), (r, .inr (4, [.ref b1, .ref b2, .ref b3, .ref b4, .int (nI how), .int (nI stat), .int (nI pl), .int (nI q), .int (nI stt), .int (nI dn)])), (b1, .inl (cI, 14, .inl sa)), (b2, .inl (cI, 8, .inl ca)), (b3, .inl (cI, 60, .inl ta)), (b4, .inl (cI, 60, .inl tn))]) rfl (fun H locs hP hD hS => ?_)
  refine lv_aload_n hx hb d_Loom_forgetWhatHungOnAutomaton_5 rfl (lv_at hl 0 rfl) ?_
  refine pl_get X fw_Loom_42 hK hP 0 rfl (v := .ref r) rfl d_Loom_forgetWhatHungOnAutomaton_6 ?_
  refine lv_iconst (v := nI 0) hx hb d_Loom_forgetWhatHungOnAutomaton_9 (by decide) ?_
  refine pl_put X fw_Loom_130 fp_Run rfl hK hP hD hS 1 rfl (v := .int (nI 0)) rfl rfl (Nat.le_of_ble_eq_true rfl) d_Loom_forgetWhatHungOnAutomaton_10 (ws' := [(x0, .inr (5, [.ref p0, .ref h, .ref e0, .ref w, .ref r, .int (bI (ex)), .int (nI 0)])), (r, .inr (4, [.ref b1, .ref b2, .ref b3, .ref b4, .int (nI how), .int (nI 0), .int (nI pl), .int (nI q), .int (nI stt), .int (nI dn)])), (b1, .inl (cI, 14, .inl sa)), (b2, .inl (cI, 8, .inl ca)), (b3, .inl (cI, 60, .inl ta)), (b4, .inl (cI, 60, .inl tn))]) rfl (fun H locs hP hD hS => ?_)
  exact pl_vret X hr hlk hK () trivial hP hD hS d_Loom_forgetWhatHungOnAutomaton_13

set_option maxHeartbeats 4000000 in
set_option maxRecDepth 100000 in
theorem c_Loom_forgetWhatHungOnProgram (l : Launch) (D : va_G) (cI cZ cL : ClassId) (x0 p0 p1 p2 h a1 a2 a3 e0 e1 e2 w w1 v v1 v2 r b1 b2 b3 b4 : Nat) (P K lo hi th F Qu fo f g sa ca ta tn : Nat → Int32) (np n qd z how stat pl q stt dn : Nat) (b ex wv : Bool)  : pl_V l y_Loom_forgetWhatHungOnProgram b_Loom_forgetWhatHungOnProgram 1 ({ frames := 1, cells := 0, slots := 0, locals := 20 } : Room) pl_E0 D classes (TY cI cZ cL) [.ref x0] [(x0, .inr (5, [.ref p0, .ref h, .ref e0, .ref w, .ref r, .int (bI (ex)), .int (bI (wv))])), (r, .inr (4, [.ref b1, .ref b2, .ref b3, .ref b4, .int (nI how), .int (nI stat), .int (nI pl), .int (nI q), .int (nI stt), .int (nI dn)])), (b1, .inl (cI, 14, .inl sa)), (b2, .inl (cI, 8, .inl ca)), (b3, .inl (cI, 60, .inl ta)), (b4, .inl (cI, 60, .inl tn))] (fun _ : Unit => True) (fun (_ : Unit) => [(x0, .inr (5, [.ref p0, .ref h, .ref e0, .ref w, .ref r, .int (bI (false)), .int (bI (false))])), (r, .inr (4, [.ref b1, .ref b2, .ref b3, .ref b4, .int (nI how), .int (nI 0), .int (nI pl), .int (nI q), .int (nI stt), .int (nI dn)])), (b1, .inl (cI, 14, .inl sa)), (b2, .inl (cI, 8, .inl ca)), (b3, .inl (cI, 60, .inl ta)), (b4, .inl (cI, 60, .inl tn))]) := by
  refine pl_startV (by decide) (Nat.le_of_ble_eq_true rfl) ?_
  intro p e s m args below meth c A ls X hr hlk hin hK hP hD hS hA hE hl
  have X : CallFix p m c b_Loom_forgetWhatHungOnProgram 1 s args TG R_Loom := X
  have hx := X.1
  have hb := X.2.1
  have hl : lv_has ls 1 [(0, .ref x0)] := hl
  refine lv_aload_n hx hb d_Loom_forgetWhatHungOnProgram_0 rfl (lv_at hl 0 rfl) ?_
  refine lv_iconst (v := nI 0) hx hb d_Loom_forgetWhatHungOnProgram_1 (by decide) ?_
  refine pl_put X fw_Loom_46 fp_Loom rfl hK hP hD hS 0 rfl (v := .int (nI 0)) rfl rfl (Nat.le_of_ble_eq_true rfl) d_Loom_forgetWhatHungOnProgram_2 (ws' := [(x0, .inr (5, [.ref p0, .ref h, .ref e0, .ref w, .ref r, .int (nI 0), .int (bI (wv))])), (r, .inr (4, [.ref b1, .ref b2, .ref b3, .ref b4, .int (nI how), .int (nI stat), .int (nI pl), .int (nI q), .int (nI stt), .int (nI dn)])), (b1, .inl (cI, 14, .inl sa)), (b2, .inl (cI, 8, .inl ca)), (b3, .inl (cI, 60, .inl ta)), (b4, .inl (cI, 60, .inl tn))]) rfl (fun H locs hP hD hS => ?_)
  refine lv_aload_n hx hb d_Loom_forgetWhatHungOnProgram_5 rfl (lv_at hl 0 rfl) ?_
  refine pl_callVV X (rest := []) (As := []) (b := x0) (c_Loom_forgetWhatHungOnAutomaton l D cI cZ cL x0 p0 p1 p2 h a1 a2 a3 e0 e1 e2 w w1 v v1 v2 r b1 b2 b3 b4 P K lo hi th F Qu fo f g sa ca ta tn np n qd z how stat pl q stt dn b false wv ) ck_Loom_78 pl_E0_ok trivial hK hP hD hS hA (T := F_Loom) (N := N_Loom) (ci := 5) rfl 0 rfl [0, 1, 2, 3, 4, 5] [] [0, 1, 2, 3, 4, 5] rfl (by decide) (wr := []) rfl (by decide) (by decide) (wf := fun _ => [(x0, .inr (5, [.ref p0, .ref h, .ref e0, .ref w, .ref r, .int (bI (false)), .int (bI (false))])), (r, .inr (4, [.ref b1, .ref b2, .ref b3, .ref b4, .int (nI how), .int (nI 0), .int (nI pl), .int (nI q), .int (nI stt), .int (nI dn)])), (b1, .inl (cI, 14, .inl sa)), (b2, .inl (cI, 8, .inl ca)), (b3, .inl (cI, 60, .inl ta)), (b4, .inl (cI, 60, .inl tn))]) (fun _ => rfl) (by decide) rfl hl.1 rfl (Nat.le_of_ble_eq_true rfl) (by decide) (by decide) d_Loom_forgetWhatHungOnProgram_6 (fun u0 H locs hcq hP hD hS => ?_)
  exact pl_vret X hr hlk hK () trivial hP hD hS d_Loom_forgetWhatHungOnProgram_9

set_option maxHeartbeats 4000000 in
set_option maxRecDepth 100000 in
theorem c_Loom_clear (l : Launch) (D : va_G) (cI cZ cL : ClassId) (x0 p0 p1 p2 h a1 a2 a3 e0 e1 e2 w w1 v v1 v2 r b1 b2 b3 b4 : Nat) (P K lo hi th F Qu fo f g sa ca ta tn : Nat → Int32) (np n qd z how stat pl q stt dn : Nat) (b ex wv : Bool)  : pl_V l y_Loom_clear b_Loom_clear 1 ({ frames := 2, cells := 0, slots := 0, locals := 40 } : Room) pl_E0 D classes (TY cI cZ cL) [.ref x0] [(x0, .inr (5, [.ref p0, .ref h, .ref e0, .ref w, .ref r, .int (bI (ex)), .int (bI (wv))])), (p0, .inr (0, [.ref p1, .ref p2, .int (nI np)])), (p1, .inl (cI, 24, .inl P)), (p2, .inl (cI, 24, .inl K)), (r, .inr (4, [.ref b1, .ref b2, .ref b3, .ref b4, .int (nI how), .int (nI stat), .int (nI pl), .int (nI q), .int (nI stt), .int (nI dn)])), (b1, .inl (cI, 14, .inl sa)), (b2, .inl (cI, 8, .inl ca)), (b3, .inl (cI, 60, .inl ta)), (b4, .inl (cI, 60, .inl tn))] (fun _ : Unit => True) (fun (_ : Unit) => [(x0, .inr (5, [.ref p0, .ref h, .ref e0, .ref w, .ref r, .int (bI (false)), .int (bI (false))])), (p0, .inr (0, [.ref p1, .ref p2, .int (nI 0)])), (p1, .inl (cI, 24, .inl P)), (p2, .inl (cI, 24, .inl K)), (r, .inr (4, [.ref b1, .ref b2, .ref b3, .ref b4, .int (nI how), .int (nI 0), .int (nI pl), .int (nI q), .int (nI stt), .int (nI dn)])), (b1, .inl (cI, 14, .inl sa)), (b2, .inl (cI, 8, .inl ca)), (b3, .inl (cI, 60, .inl ta)), (b4, .inl (cI, 60, .inl tn))]) := by
  refine pl_startV (by decide) (Nat.le_of_ble_eq_true rfl) ?_
  intro p e s m args below meth c A ls X hr hlk hin hK hP hD hS hA hE hl
  have X : CallFix p m c b_Loom_clear 1 s args TG R_Loom := X
  have hx := X.1
  have hb := X.2.1
  have hl : lv_has ls 1 [(0, .ref x0)] := hl
  refine lv_aload_n hx hb d_Loom_clear_0 rfl (lv_at hl 0 rfl) ?_
  refine pl_callVV X (rest := []) (As := []) (b := x0) (c_Loom_forgetWhatHungOnProgram l D cI cZ cL x0 p0 p1 p2 h a1 a2 a3 e0 e1 e2 w w1 v v1 v2 r b1 b2 b3 b4 P K lo hi th F Qu fo f g sa ca ta tn np n qd z how stat pl q stt dn b ex wv ) ck_Loom_69 pl_E0_ok trivial hK hP hD hS hA (T := F_Loom) (N := N_Loom) (ci := 5) rfl 0 rfl [0, 4, 5, 6, 7, 8] [1, 2, 3] [3, 0, 1, 2, 4, 5, 6, 7, 8] rfl (by decide) (wr := [(p0, .inr (0, [.ref p1, .ref p2, .int (nI np)])), (p1, .inl (cI, 24, .inl P)), (p2, .inl (cI, 24, .inl K))]) rfl (by decide) (by decide) (wf := fun _ => [(x0, .inr (5, [.ref p0, .ref h, .ref e0, .ref w, .ref r, .int (bI (false)), .int (bI (false))])), (p0, .inr (0, [.ref p1, .ref p2, .int (nI np)])), (p1, .inl (cI, 24, .inl P)), (p2, .inl (cI, 24, .inl K)), (r, .inr (4, [.ref b1, .ref b2, .ref b3, .ref b4, .int (nI how), .int (nI 0), .int (nI pl), .int (nI q), .int (nI stt), .int (nI dn)])), (b1, .inl (cI, 14, .inl sa)), (b2, .inl (cI, 8, .inl ca)), (b3, .inl (cI, 60, .inl ta)), (b4, .inl (cI, 60, .inl tn))]) (fun _ => rfl) (by decide) rfl hl.1 rfl (Nat.le_of_ble_eq_true rfl) (by decide) (by decide) d_Loom_clear_1 (fun u0 H locs hcq hP hD hS => ?_)
  refine lv_aload_n hx hb d_Loom_clear_4 rfl (lv_at hl 0 rfl) ?_
  refine pl_get X fw_Loom_14 hK hP 0 rfl (v := .ref p0) rfl d_Loom_clear_5 ?_
  refine lv_iconst (v := nI 0) hx hb d_Loom_clear_8 (by decide) ?_
  refine pl_put X fw_Loom_60 fp_Listing rfl hK hP hD hS 1 rfl (v := .int (nI 0)) rfl rfl (Nat.le_of_ble_eq_true rfl) d_Loom_clear_9 (ws' := [(x0, .inr (5, [.ref p0, .ref h, .ref e0, .ref w, .ref r, .int (bI (false)), .int (bI (false))])), (p0, .inr (0, [.ref p1, .ref p2, .int (nI 0)])), (p1, .inl (cI, 24, .inl P)), (p2, .inl (cI, 24, .inl K)), (r, .inr (4, [.ref b1, .ref b2, .ref b3, .ref b4, .int (nI how), .int (nI 0), .int (nI pl), .int (nI q), .int (nI stt), .int (nI dn)])), (b1, .inl (cI, 14, .inl sa)), (b2, .inl (cI, 8, .inl ca)), (b3, .inl (cI, 60, .inl ta)), (b4, .inl (cI, 60, .inl tn))]) rfl (fun H locs hP hD hS => ?_)
  exact pl_vret X hr hlk hK () trivial hP hD hS d_Loom_clear_12

set_option maxHeartbeats 4000000 in
set_option maxRecDepth 100000 in
theorem c_Loom_isWellFormed (l : Launch) (D : va_G) (cI cZ cL : ClassId) (t1 t2 : Nat) (x0 p0 p1 p2 h a1 a2 a3 e0 e1 e2 w w1 v v1 v2 r b1 b2 b3 b4 : Nat) (P K lo hi th F Qu fo f g sa ca ta tn : Nat → Int32) (np n qd z how stat pl q stt dn : Nat) (b ex wv : Bool) (hnp : np ≤ 24) (hop : okP P np) (hex : ex = true → exaP P K np (F, Qu, qd, b)) : pl_I l y_Loom_isWellFormed b_Loom_isWellFormed 1 .boolean ({ frames := 4, cells := 0, slots := 0, locals := 91 } : Room) (EV t1 t2) D classes (TY cI cZ cL) [.ref x0] [(x0, .inr (5, [.ref p0, .ref h, .ref e0, .ref w, .ref r, .int (bI (ex)), .int (bI (wv))])), (p0, .inr (0, [.ref p1, .ref p2, .int (nI np)])), (p1, .inl (cI, 24, .inl P)), (p2, .inl (cI, 24, .inl K)), (e0, .inr (2, [.ref e1, .ref e2, .int (nI qd), .int (bI (b))])), (e1, .inl (cI, 24, .inl F)), (e2, .inl (cI, 24, .inl Qu))] (fun (r : Int32) (u : HS) => r = bI u.2.2.2 ∧ exaP P K np u) (fun (u : HS) => [(x0, .inr (5, [.ref p0, .ref h, .ref e0, .ref w, .ref r, .int (bI (true)), .int (bI (wv))])), (p0, .inr (0, [.ref p1, .ref p2, .int (nI np)])), (p1, .inl (cI, 24, .inl P)), (p2, .inl (cI, 24, .inl K)), (e0, .inr (2, [.ref e1, .ref e2, .int (nI u.2.2.1), .int (bI (u.2.2.2))])), (e1, .inl (cI, 24, .inl u.1)), (e2, .inl (cI, 24, .inl u.2.1))]) := by
  refine pl_startI (by decide) (Nat.le_of_ble_eq_true rfl) ?_
  intro p e s m args below meth c A ls X hr hlk hin hK hP hD hS hA hE hl
  have X : CallFix p m c b_Loom_isWellFormed 1 s args TG R_Loom := X
  have hx := X.1
  have hb := X.2.1
  have hl : lv_has ls 1 [(0, .ref x0)] := hl
  refine lv_aload_n hx hb d_Loom_isWellFormed_0 rfl (lv_at hl 0 rfl) ?_
  refine pl_get X fw_Loom_46 hK hP 0 rfl (v := .int (bI (ex))) rfl d_Loom_isWellFormed_1 ?_
  refine pl_ifB_ne X d_Loom_isWellFormed_4 rfl (fun g4 => ?_) (fun g4 => ?_)
  · skip
    refine lv_aload_n hx hb d_Loom_isWellFormed_23 rfl (lv_at hl 0 rfl) ?_
    refine pl_get X fw_Loom_28 hK hP 0 rfl (v := .ref e0) rfl d_Loom_isWellFormed_24 ?_
    refine pl_get X fw_Loom_178 hK hP 4 rfl (v := .int (bI (b))) rfl d_Loom_isWellFormed_27 ?_
    subst g4
    exact pl_iret X hr hlk hK (bI_nar _) (F, Qu, qd, b) ⟨rfl, hex rfl⟩ hP hD hS d_Loom_isWellFormed_30
  · skip
    refine lv_aload_n hx hb d_Loom_isWellFormed_7 rfl (lv_at hl 0 rfl) ?_
    refine pl_get X fw_Loom_28 hK hP 0 rfl (v := .ref e0) rfl d_Loom_isWellFormed_8 ?_
    refine lv_aload_n hx hb d_Loom_isWellFormed_11 rfl (lv_at hl 0 rfl) ?_
    refine pl_get X fw_Loom_14 hK hP 0 rfl (v := .ref p0) rfl d_Loom_isWellFormed_12 ?_
    refine pl_callVV X (rest := []) (As := [.ref p0]) (b := e0) (c_Heights_examine l D cI cZ cL t1 t2 e0 e1 e2 F Qu qd (.int (bI b)) p0 p1 p2 np P K hnp hop) ck_Loom_174 (EV_ok t1 t2) (pl_pass (EV_ok t1 t2) hE hD hS hA [4, 5, 6, 1, 2, 3] rfl) hK hP hD hS hA (T := F_Heights) (N := N_Heights) (ci := 2) rfl 4 rfl [4, 5, 6, 1, 2, 3] [0] [0, 4, 5, 6, 1, 2, 3] rfl (by decide) (wr := [(x0, .inr (5, [.ref p0, .ref h, .ref e0, .ref w, .ref r, .int (bI (ex)), .int (bI (wv))]))]) rfl (by decide) (by decide) (wf := fun (u : HS) => [(x0, .inr (5, [.ref p0, .ref h, .ref e0, .ref w, .ref r, .int (bI (ex)), .int (bI (wv))])), (p0, .inr (0, [.ref p1, .ref p2, .int (nI np)])), (p1, .inl (cI, 24, .inl P)), (p2, .inl (cI, 24, .inl K)), (e0, .inr (2, [.ref e1, .ref e2, .int (nI u.2.2.1), .int (bI (u.2.2.2))])), (e1, .inl (cI, 24, .inl u.1)), (e2, .inl (cI, 24, .inl u.2.1))]) (fun _ => rfl) (by decide) rfl hl.1 rfl (Nat.le_of_ble_eq_true rfl) (by decide) (by decide) d_Loom_isWellFormed_15 (fun u H locs hcq hP hD hS => ?_)
    refine lv_aload_n hx hb d_Loom_isWellFormed_18 rfl (lv_at hl 0 rfl) ?_
    refine lv_iconst (v := nI 1) hx hb d_Loom_isWellFormed_19 (by decide) ?_
    refine pl_put X fw_Loom_46 fp_Loom rfl hK hP hD hS 0 rfl (v := .int (nI 1)) rfl rfl (Nat.le_of_ble_eq_true rfl) d_Loom_isWellFormed_20 (ws' := [(x0, .inr (5, [.ref p0, .ref h, .ref e0, .ref w, .ref r, .int (nI 1), .int (bI (wv))])), (p0, .inr (0, [.ref p1, .ref p2, .int (nI np)])), (p1, .inl (cI, 24, .inl P)), (p2, .inl (cI, 24, .inl K)), (e0, .inr (2, [.ref e1, .ref e2, .int (nI u.2.2.1), .int (bI (u.2.2.2))])), (e1, .inl (cI, 24, .inl u.1)), (e2, .inl (cI, 24, .inl u.2.1))]) rfl (fun H locs hP hD hS => ?_)
    refine lv_aload_n hx hb d_Loom_isWellFormed_23 rfl (lv_at hl 0 rfl) ?_
    refine pl_get X fw_Loom_28 hK hP 0 rfl (v := .ref e0) rfl d_Loom_isWellFormed_24 ?_
    refine pl_get X fw_Loom_178 hK hP 4 rfl (v := .int (bI (u.2.2.2))) rfl d_Loom_isWellFormed_27 ?_
    exact pl_iret X hr hlk hK (bI_nar _) u ⟨rfl, hcq⟩ hP hD hS d_Loom_isWellFormed_30

set_option maxHeartbeats 4000000 in
set_option maxRecDepth 100000 in
theorem c_Loom_well (l : Launch) (D : va_G) (cI cZ cL : ClassId) (t1 t2 : Nat) (x0 p0 p1 p2 h a1 a2 a3 e0 e1 e2 w w1 v v1 v2 r b1 b2 b3 b4 : Nat) (P K lo hi th F Qu fo f g sa ca ta tn : Nat → Int32) (np n qd z how stat pl q stt dn : Nat) (b ex wv : Bool) (hnp : np ≤ 24) (hop : okP P np) (hex : ex = true → exaP P K np (F, Qu, qd, b)) : pl_I l y_Loom_well b_Loom_well 1 .boolean ({ frames := 5, cells := 0, slots := 0, locals := 111 } : Room) (EV t1 t2) D classes (TY cI cZ cL) [.ref x0] [(x0, .inr (5, [.ref p0, .ref h, .ref e0, .ref w, .ref r, .int (bI (ex)), .int (bI (wv))])), (p0, .inr (0, [.ref p1, .ref p2, .int (nI np)])), (p1, .inl (cI, 24, .inl P)), (p2, .inl (cI, 24, .inl K)), (e0, .inr (2, [.ref e1, .ref e2, .int (nI qd), .int (bI (b))])), (e1, .inl (cI, 24, .inl F)), (e2, .inl (cI, 24, .inl Qu))] (fun (r : Int32) (u : HS) => r = bI u.2.2.2 ∧ exaP P K np u) (fun (u : HS) => [(x0, .inr (5, [.ref p0, .ref h, .ref e0, .ref w, .ref r, .int (bI (true)), .int (bI (wv))])), (p0, .inr (0, [.ref p1, .ref p2, .int (nI np)])), (p1, .inl (cI, 24, .inl P)), (p2, .inl (cI, 24, .inl K)), (e0, .inr (2, [.ref e1, .ref e2, .int (nI u.2.2.1), .int (bI (u.2.2.2))])), (e1, .inl (cI, 24, .inl u.1)), (e2, .inl (cI, 24, .inl u.2.1))]) := by
  refine pl_startI (by decide) (Nat.le_of_ble_eq_true rfl) ?_
  intro p e s m args below meth c A ls X hr hlk hin hK hP hD hS hA hE hl
  have X : CallFix p m c b_Loom_well 1 s args TG R_Loom := X
  have hx := X.1
  have hb := X.2.1
  have hl : lv_has ls 1 [(0, .ref x0)] := hl
  refine lv_aload_n hx hb d_Loom_well_0 rfl (lv_at hl 0 rfl) ?_
  refine pl_callVI X (rest := []) (As := []) (b := x0) (c_Loom_isWellFormed l D cI cZ cL t1 t2 x0 p0 p1 p2 h a1 a2 a3 e0 e1 e2 w w1 v v1 v2 r b1 b2 b3 b4 P K lo hi th F Qu fo f g sa ca ta tn np n qd z how stat pl q stt dn b ex wv hnp hop hex) ck_Loom_102 (EV_ok t1 t2) (pl_pass (EV_ok t1 t2) hE hD hS hA [0, 1, 2, 3, 4, 5, 6] rfl) hK hP hD hS hA (T := F_Loom) (N := N_Loom) (ci := 5) rfl 0 rfl [0, 1, 2, 3, 4, 5, 6] [] [0, 1, 2, 3, 4, 5, 6] rfl (by decide) (wr := []) rfl (by decide) (by decide) (wf := fun (u : HS) => [(x0, .inr (5, [.ref p0, .ref h, .ref e0, .ref w, .ref r, .int (bI (true)), .int (bI (wv))])), (p0, .inr (0, [.ref p1, .ref p2, .int (nI np)])), (p1, .inl (cI, 24, .inl P)), (p2, .inl (cI, 24, .inl K)), (e0, .inr (2, [.ref e1, .ref e2, .int (nI u.2.2.1), .int (bI (u.2.2.2))])), (e1, .inl (cI, 24, .inl u.1)), (e2, .inl (cI, 24, .inl u.2.1))]) (fun _ => rfl) (by decide) rfl hl.1 rfl (Nat.le_of_ble_eq_true rfl) (by decide) (by decide) d_Loom_well_1 (fun r u H locs hcq hP hD hS => ?_)
  obtain ⟨hcq, hxa⟩ := hcq
  subst hcq
  exact pl_iret X hr hlk hK (bI_nar _) u ⟨rfl, hxa⟩ hP hD hS d_Loom_well_4

set_option maxHeartbeats 4000000 in
set_option maxRecDepth 100000 in
theorem c_Loom_requireWellFormed (l : Launch) (D : va_G) (cI cZ cL : ClassId) (t1 t2 : Nat) (x0 p0 p1 p2 h a1 a2 a3 e0 e1 e2 w w1 v v1 v2 r b1 b2 b3 b4 : Nat) (P K lo hi th F Qu fo f g sa ca ta tn : Nat → Int32) (np n qd z how stat pl q stt dn : Nat) (b ex wv : Bool) (hl0 : l.stackTraces = false) (hnp : np ≤ 24) (hop : okP P np) (hex : ex = true → exaP P K np (F, Qu, qd, b)) : pl_TV l y_Loom_requireWellFormed b_Loom_requireWellFormed 1 ({ frames := 6, cells := 1, slots := 6, locals := 111 } : Room) (EX t1 t2) D classes (TY cI cZ cL) [.ref x0] [(x0, .inr (5, [.ref p0, .ref h, .ref e0, .ref w, .ref r, .int (bI (ex)), .int (bI (wv))])), (p0, .inr (0, [.ref p1, .ref p2, .int (nI np)])), (p1, .inl (cI, 24, .inl P)), (p2, .inl (cI, 24, .inl K)), (e0, .inr (2, [.ref e1, .ref e2, .int (nI qd), .int (bI (b))])), (e1, .inl (cI, 24, .inl F)), (e2, .inl (cI, 24, .inl Qu))] (fun (u : HS) => u.2.2.2 = true ∧ exaP P K np u) (fun (u : HS) => [(x0, .inr (5, [.ref p0, .ref h, .ref e0, .ref w, .ref r, .int (bI (true)), .int (bI (wv))])), (p0, .inr (0, [.ref p1, .ref p2, .int (nI np)])), (p1, .inl (cI, 24, .inl P)), (p2, .inl (cI, 24, .inl K)), (e0, .inr (2, [.ref e1, .ref e2, .int (nI u.2.2.1), .int (bI (u.2.2.2))])), (e1, .inl (cI, 24, .inl u.1)), (e2, .inl (cI, 24, .inl u.2.1))]) (fun (Nm : String) (u : HS) => Nm = iseS ∧ u.2.2.2 = false ∧ exaP P K np u) (fun (u : HS) => [(x0, .inr (5, [.ref p0, .ref h, .ref e0, .ref w, .ref r, .int (bI (true)), .int (bI (wv))])), (p0, .inr (0, [.ref p1, .ref p2, .int (nI np)])), (p1, .inl (cI, 24, .inl P)), (p2, .inl (cI, 24, .inl K)), (e0, .inr (2, [.ref e1, .ref e2, .int (nI u.2.2.1), .int (bI (u.2.2.2))])), (e1, .inl (cI, 24, .inl u.1)), (e2, .inl (cI, 24, .inl u.2.1))]) := by
  refine pl_startTV (by decide) (Nat.le_of_ble_eq_true rfl) ?_
  intro p e s m args below meth c A ls X hr hlk hno hK hP hD hS hA hE hl
  have X : CallFix p m c b_Loom_requireWellFormed 1 s args TG R_Loom := X
  have hx := X.1
  have hb := X.2.1
  have hl : lv_has ls 1 [(0, .ref x0)] := hl
  refine lv_aload_n hx hb d_Loom_requireWellFormed_0 rfl (lv_at hl 0 rfl) ?_
  refine pl_callVI X (rest := []) (As := []) (b := x0) (c_Loom_isWellFormed l D cI cZ cL t1 t2 x0 p0 p1 p2 h a1 a2 a3 e0 e1 e2 w w1 v v1 v2 r b1 b2 b3 b4 P K lo hi th F Qu fo f g sa ca ta tn np n qd z how stat pl q stt dn b ex wv hnp hop hex) ck_Loom_102 (EV_ok t1 t2) (pl_pass (EV_ok t1 t2) hE.1 hD hS hA [0, 1, 2, 3, 4, 5, 6] rfl) hK hP hD hS hA (T := F_Loom) (N := N_Loom) (ci := 5) rfl 0 rfl [0, 1, 2, 3, 4, 5, 6] [] [0, 1, 2, 3, 4, 5, 6] rfl (by decide) (wr := []) rfl (by decide) (by decide) (wf := fun (u : HS) => [(x0, .inr (5, [.ref p0, .ref h, .ref e0, .ref w, .ref r, .int (bI (true)), .int (bI (wv))])), (p0, .inr (0, [.ref p1, .ref p2, .int (nI np)])), (p1, .inl (cI, 24, .inl P)), (p2, .inl (cI, 24, .inl K)), (e0, .inr (2, [.ref e1, .ref e2, .int (nI u.2.2.1), .int (bI (u.2.2.2))])), (e1, .inl (cI, 24, .inl u.1)), (e2, .inl (cI, 24, .inl u.2.1))]) (fun _ => rfl) (by decide) rfl hl.1 rfl (Nat.le_of_ble_eq_true rfl) (by decide) (by decide) d_Loom_requireWellFormed_1 (fun r u H locs hcq hP hD hS => ?_)
  obtain ⟨hcq, hxa⟩ := hcq
  subst hcq
  refine pl_ifB_ne X d_Loom_requireWellFormed_4 rfl (fun g4 => ?_) (fun g4 => ?_)
  · skip
    exact pl_vretT X hr hlk hK u ⟨g4, hxa⟩ hP hD hS (by decide) (by decide) d_Loom_requireWellFormed_17
  · skip
    exact pl_throw (is := 181) (text := "the program is not well formed") X hl0 xw_iseS hE (by decide +kernel) hno hlk hK u ⟨rfl, g4, hxa⟩ hP hD hS hl.1 d_Loom_requireWellFormed_7 d_Loom_requireWellFormed_10 d_Loom_requireWellFormed_11 d_Loom_requireWellFormed_13 d_Loom_requireWellFormed_16 (by decide) (Nat.le_of_ble_eq_true rfl) (by decide) (by decide) (by decide) (by decide)

set_option maxHeartbeats 4000000 in
set_option maxRecDepth 100000 in
theorem c_Loom_height (l : Launch) (D : va_G) (cI cZ cL : ClassId) (t1 t2 : Nat) (x0 p0 p1 p2 h a1 a2 a3 e0 e1 e2 w w1 v v1 v2 r b1 b2 b3 b4 : Nat) (P K lo hi th F Qu fo f g sa ca ta tn : Nat → Int32) (np n qd z how stat pl q stt dn : Nat) (b ex wv : Bool) (x : Int32) (hl0 : l.stackTraces = false) (hnp : np ≤ 24) (hop : okP P np) (hex : ex = true → exaP P K np (F, Qu, qd, b)) : pl_TI l y_Loom_height b_Loom_height 2 .int ({ frames := 7, cells := 2, slots := 12, locals := 131 } : Room) (EX t1 t2) D classes (TY cI cZ cL) [.ref x0, .int x] [(x0, .inr (5, [.ref p0, .ref h, .ref e0, .ref w, .ref r, .int (bI (ex)), .int (bI (wv))])), (p0, .inr (0, [.ref p1, .ref p2, .int (nI np)])), (p1, .inl (cI, 24, .inl P)), (p2, .inl (cI, 24, .inl K)), (e0, .inr (2, [.ref e1, .ref e2, .int (nI qd), .int (bI (b))])), (e1, .inl (cI, 24, .inl F)), (e2, .inl (cI, 24, .inl Qu))] (fun (r : Int32) (u : HS) => exaP P K np u ∧ u.2.2.2 = true ∧ ∃ j, j < np ∧ x = nI j ∧ r = u.1 j) (fun (u : HS) => [(x0, .inr (5, [.ref p0, .ref h, .ref e0, .ref w, .ref r, .int (bI (true)), .int (bI (wv))])), (p0, .inr (0, [.ref p1, .ref p2, .int (nI np)])), (p1, .inl (cI, 24, .inl P)), (p2, .inl (cI, 24, .inl K)), (e0, .inr (2, [.ref e1, .ref e2, .int (nI u.2.2.1), .int (bI (u.2.2.2))])), (e1, .inl (cI, 24, .inl u.1)), (e2, .inl (cI, 24, .inl u.2.1))]) (fun (Nm : String) (u : HS) => exaP P K np u ∧ ((Nm = iseS ∧ u.2.2.2 = false) ∨ (Nm = iobS ∧ u.2.2.2 = true ∧ inB x np = false))) (fun (u : HS) => [(x0, .inr (5, [.ref p0, .ref h, .ref e0, .ref w, .ref r, .int (bI (true)), .int (bI (wv))])), (p0, .inr (0, [.ref p1, .ref p2, .int (nI np)])), (p1, .inl (cI, 24, .inl P)), (p2, .inl (cI, 24, .inl K)), (e0, .inr (2, [.ref e1, .ref e2, .int (nI u.2.2.1), .int (bI (u.2.2.2))])), (e1, .inl (cI, 24, .inl u.1)), (e2, .inl (cI, 24, .inl u.2.1))]) := by
  refine pl_startTI (by decide) (Nat.le_of_ble_eq_true rfl) ?_
  intro p e s m args below meth c A ls X hr hlk hno hK hP hD hS hA hE hl
  have X : CallFix p m c b_Loom_height 2 s args TG R_Loom := X
  have hx := X.1
  have hb := X.2.1
  have hl : lv_has ls 2 [(0, .ref x0), (1, .int x)] := hl
  refine lv_aload_n hx hb d_Loom_height_0 rfl (lv_at hl 0 rfl) ?_
  refine pl_callTV X (rest := []) (As := []) (b := x0) (c_Loom_requireWellFormed l D cI cZ cL t1 t2 x0 p0 p1 p2 h a1 a2 a3 e0 e1 e2 w w1 v v1 v2 r b1 b2 b3 b4 P K lo hi th F Qu fo f g sa ca ta tn np n qd z how stat pl q stt dn b ex wv hl0 hnp hop hex) ck_Loom_106 (EX_ok t1 t2) (pl_pass (EX_ok t1 t2) hE hD hS hA [0, 1, 2, 3, 4, 5, 6] rfl) hK hP hD hS hA (T := F_Loom) (N := N_Loom) (ci := 5) rfl 0 rfl [0, 1, 2, 3, 4, 5, 6] [] [0, 1, 2, 3, 4, 5, 6] [0, 1, 2, 3, 4, 5, 6] rfl (by decide) (wr := []) rfl (by decide) (by decide) (wf := fun (u : HS) => [(x0, .inr (5, [.ref p0, .ref h, .ref e0, .ref w, .ref r, .int (bI (true)), .int (bI (wv))])), (p0, .inr (0, [.ref p1, .ref p2, .int (nI np)])), (p1, .inl (cI, 24, .inl P)), (p2, .inl (cI, 24, .inl K)), (e0, .inr (2, [.ref e1, .ref e2, .int (nI u.2.2.1), .int (bI (u.2.2.2))])), (e1, .inl (cI, 24, .inl u.1)), (e2, .inl (cI, 24, .inl u.2.1))]) (fun _ => rfl) (by decide) (wfx := fun (ux : HS) => [(x0, .inr (5, [.ref p0, .ref h, .ref e0, .ref w, .ref r, .int (bI (true)), .int (bI (wv))])), (p0, .inr (0, [.ref p1, .ref p2, .int (nI np)])), (p1, .inl (cI, 24, .inl P)), (p2, .inl (cI, 24, .inl K)), (e0, .inr (2, [.ref e1, .ref e2, .int (nI ux.2.2.1), .int (bI (ux.2.2.2))])), (e1, .inl (cI, 24, .inl ux.1)), (e2, .inl (cI, 24, .inl ux.2.1))]) (fun _ => rfl) (by decide) rfl hl.1 rfl (Nat.le_of_ble_eq_true rfl) (by decide) (by decide) d_Loom_height_1 (fun Nm ce qx ux H locs hpx hP hD hS hce hcv hcl => ?_) (fun u H locs hcq hP hD hS => ?_)
  · skip
    exact pl_outT hno hlk hK hce hcv hcl ux ⟨hpx.2.2, Or.inl ⟨hpx.1, hpx.2.1⟩⟩ hP hD hS (by decide) (by decide)
  · skip
    obtain ⟨hub, hxa⟩ := hcq
    have hwf := hxa.1 hub
    refine lv_iload_n hx hb d_Loom_height_4 rfl (lv_at hl 1 rfl) ?_
    refine lv_if_lt hx hb d_Loom_height_5 rfl (fun g5 => ?_) (fun g5 => ?_)
    · skip
      exact pl_throw (is := 109) (text := "no instruction") X hl0 xw_iobS hE (by decide +kernel) hno hlk hK u ⟨hxa, Or.inr ⟨rfl, hub, inB_lo g5⟩⟩ hP hD hS hl.1 d_Loom_height_19 d_Loom_height_22 d_Loom_height_23 d_Loom_height_25 d_Loom_height_28 (by decide) (Nat.le_of_ble_eq_true rfl) (by decide) (by decide) (by decide) (by decide)
    · skip
      refine lv_iload_n hx hb d_Loom_height_8 rfl (lv_at hl 1 rfl) ?_
      refine lv_aload_n hx hb d_Loom_height_9 rfl (lv_at hl 0 rfl) ?_
      refine pl_get X fw_Loom_14 hK hP 0 rfl (v := .ref p0) rfl d_Loom_height_10 ?_
      refine pl_get X fw_Loom_60 hK hP 1 rfl (v := .int (nI np)) rfl d_Loom_height_13 ?_
      refine lv_icmp_lt hx hb d_Loom_height_16 rfl (fun g16 => ?_) (fun g16 => ?_)
      · skip
        obtain ⟨j, hj, hxj⟩ := inB_of (by omega) (inB_in (by omega) g5 (i_nle.mpr g16))
        have hl : lv_has ls 2 [(0, .ref x0), (1, .int (nI j))] := by rw [← hxj]; exact hl
        refine lv_aload_n hx hb d_Loom_height_29 rfl (lv_at hl 0 rfl) ?_
        refine pl_get X fw_Loom_28 hK hP 0 rfl (v := .ref e0) rfl d_Loom_height_30 ?_
        refine pl_get X fw_Loom_111 hK hP 4 rfl (v := .ref e1) rfl d_Loom_height_33 ?_
        refine lv_iload_n hx hb d_Loom_height_36 rfl (lv_at hl 1 rfl) ?_
        refine pl_iald X hK hP 5 0 rfl rfl j (by omega) (by decide) (z := u.1 j) rfl d_Loom_height_37 ?_
        exact pl_iretT X hr hlk hK rfl u ⟨hxa, hub, j, hj, hxj, rfl⟩ hP hD hS (by decide) (by decide) d_Loom_height_38
      · skip
        exact pl_throw (is := 109) (text := "no instruction") X hl0 xw_iobS hE (by decide +kernel) hno hlk hK u ⟨hxa, Or.inr ⟨rfl, hub, inB_hi (by omega) (i_nlt.mp g16)⟩⟩ hP hD hS hl.1 d_Loom_height_19 d_Loom_height_22 d_Loom_height_23 d_Loom_height_25 d_Loom_height_28 (by decide) (Nat.le_of_ble_eq_true rfl) (by decide) (by decide) (by decide) (by decide)

set_option maxHeartbeats 4000000 in
set_option maxRecDepth 100000 in
theorem c_Loom_wovenListing (l : Launch) (D : va_G) (cI cZ cL : ClassId) (t1 t2 : Nat) (x0 p0 p1 p2 h a1 a2 a3 e0 e1 e2 w w1 v v1 v2 r b1 b2 b3 b4 : Nat) (P K lo hi th F Qu fo f g sa ca ta tn : Nat → Int32) (np n qd z how stat pl q stt dn : Nat) (b ex wv : Bool) (hn : n ≤ 4) (hnp : np ≤ 24) (hop : okP P np) (hok : okK P K np) (hwv : wv = true → woP P K lo hi th n np f g z) : pl_R l y_Loom_wovenListing b_Loom_wovenListing 1 (.object "PolicyLoom$Listing") ({ frames := 5, cells := 0, slots := 0, locals := 115 } : Room) (EV t1 t2) D classes (TY cI cZ cL) [.ref x0] [(x0, .inr (5, [.ref p0, .ref h, .ref e0, .ref w, .ref r, .int (bI (ex)), .int (bI (wv))])), (p0, .inr (0, [.ref p1, .ref p2, .int (nI np)])), (p1, .inl (cI, 24, .inl P)), (p2, .inl (cI, 24, .inl K)), (h, .inr (1, [.ref a1, .ref a2, .ref a3, .int (nI n)])), (a1, .inl (cI, 32, .inl lo)), (a2, .inl (cI, 32, .inl hi)), (a3, .inl (cI, 32, .inl th)), (w, .inr (3, [.ref v, .ref w1])), (w1, .inl (cI, 24, .inl fo)), (v, .inr (0, [.ref v1, .ref v2, .int (nI z)])), (v1, .inl (cI, 1584, .inl f)), (v2, .inl (cI, 1584, .inl g))] v (fun (u : WS) => woP P K lo hi th n np u.2.1 u.2.2.1 u.2.2.2) (fun (u : WS) => [(x0, .inr (5, [.ref p0, .ref h, .ref e0, .ref w, .ref r, .int (bI (ex)), .int (bI (true))])), (p0, .inr (0, [.ref p1, .ref p2, .int (nI np)])), (p1, .inl (cI, 24, .inl P)), (p2, .inl (cI, 24, .inl K)), (h, .inr (1, [.ref a1, .ref a2, .ref a3, .int (nI n)])), (a1, .inl (cI, 32, .inl lo)), (a2, .inl (cI, 32, .inl hi)), (a3, .inl (cI, 32, .inl th)), (w, .inr (3, [.ref v, .ref w1])), (w1, .inl (cI, 24, .inl u.1)), (v, .inr (0, [.ref v1, .ref v2, .int (nI u.2.2.2)])), (v1, .inl (cI, 1584, .inl u.2.1)), (v2, .inl (cI, 1584, .inl u.2.2.1))]) := by
  refine pl_startR (by decide) (Nat.le_of_ble_eq_true rfl) ?_
  intro p e s m args below meth c A ls X hr hlk hin hK hP hD hS hA hE hl
  have X : CallFix p m c b_Loom_wovenListing 1 s args TG R_Loom := X
  have hx := X.1
  have hb := X.2.1
  have hl : lv_has ls 1 [(0, .ref x0)] := hl
  refine lv_aload_n hx hb d_Loom_wovenListing_0 rfl (lv_at hl 0 rfl) ?_
  refine pl_get X fw_Loom_50 hK hP 0 rfl (v := .int (bI (wv))) rfl d_Loom_wovenListing_1 ?_
  refine pl_ifB_ne X d_Loom_wovenListing_4 rfl (fun g4 => ?_) (fun g4 => ?_)
  · skip
    refine lv_aload_n hx hb d_Loom_wovenListing_27 rfl (lv_at hl 0 rfl) ?_
    refine pl_get X fw_Loom_35 hK hP 0 rfl (v := .ref w) rfl d_Loom_wovenListing_28 ?_
    refine pl_get X fw_Loom_186 hK hP 8 rfl (v := .ref v) rfl d_Loom_wovenListing_31 ?_
    subst g4
    exact pl_aret X hr hlk hK (fo, f, g, z) (hwv rfl) hP hD hS d_Loom_wovenListing_34
  · skip
    refine lv_aload_n hx hb d_Loom_wovenListing_7 rfl (lv_at hl 0 rfl) ?_
    refine pl_get X fw_Loom_35 hK hP 0 rfl (v := .ref w) rfl d_Loom_wovenListing_8 ?_
    refine lv_aload_n hx hb d_Loom_wovenListing_11 rfl (lv_at hl 0 rfl) ?_
    refine pl_get X fw_Loom_14 hK hP 0 rfl (v := .ref p0) rfl d_Loom_wovenListing_12 ?_
    refine lv_aload_n hx hb d_Loom_wovenListing_15 rfl (lv_at hl 0 rfl) ?_
    refine pl_get X fw_Loom_21 hK hP 0 rfl (v := .ref h) rfl d_Loom_wovenListing_16 ?_
    refine pl_callVV X (rest := []) (As := [.ref p0, .ref h]) (b := w) (c_Weaver_weave l D cI cZ cL t1 t2 w w1 v v1 v2 1584 z fo f g p0 p1 p2 np P K h a1 a2 a3 n lo hi th (by decide) (by have := plc_le P K th hn np; omega) hn hnp hop hok) ck_Loom_183 (EV_ok t1 t2) (pl_pass (EV_ok t1 t2) hE hD hS hA [8, 9, 10, 11, 12, 1, 2, 3, 4, 5, 6, 7] rfl) hK hP hD hS hA (T := F_Weaver) (N := N_Weaver) (ci := 3) rfl 8 rfl [8, 9, 10, 11, 12, 1, 2, 3, 4, 5, 6, 7] [0] [0, 6, 7, 8, 9, 10, 11, 12, 1, 2, 3, 4, 5] rfl (by decide) (wr := [(x0, .inr (5, [.ref p0, .ref h, .ref e0, .ref w, .ref r, .int (bI (ex)), .int (bI (wv))]))]) rfl (by decide) (by decide) (wf := fun (u : Nat → Int32) => [(x0, .inr (5, [.ref p0, .ref h, .ref e0, .ref w, .ref r, .int (bI (ex)), .int (bI (wv))])), (p0, .inr (0, [.ref p1, .ref p2, .int (nI np)])), (p1, .inl (cI, 24, .inl P)), (p2, .inl (cI, 24, .inl K)), (h, .inr (1, [.ref a1, .ref a2, .ref a3, .int (nI n)])), (a1, .inl (cI, 32, .inl lo)), (a2, .inl (cI, 32, .inl hi)), (a3, .inl (cI, 32, .inl th)), (w, .inr (3, [.ref v, .ref w1])), (w1, .inl (cI, 24, .inl u)), (v, .inr (0, [.ref v1, .ref v2, .int (nI (plc P K th n np))])), (v1, .inl (cI, 1584, .inl (apd f 0 (wO P K th n np)))), (v2, .inl (cI, 1584, .inl (apd g 0 (wK P K lo hi th n np))))]) (fun _ => rfl) (by decide) rfl hl.1 rfl (Nat.le_of_ble_eq_true rfl) (by decide) (by decide) d_Loom_wovenListing_19 (fun u H locs hcq hP hD hS => ?_)
    refine lv_aload_n hx hb d_Loom_wovenListing_22 rfl (lv_at hl 0 rfl) ?_
    refine lv_iconst (v := nI 1) hx hb d_Loom_wovenListing_23 (by decide) ?_
    refine pl_put X fw_Loom_50 fp_Loom rfl hK hP hD hS 0 rfl (v := .int (nI 1)) rfl rfl (Nat.le_of_ble_eq_true rfl) d_Loom_wovenListing_24 (ws' := [(x0, .inr (5, [.ref p0, .ref h, .ref e0, .ref w, .ref r, .int (bI (ex)), .int (nI 1)])), (p0, .inr (0, [.ref p1, .ref p2, .int (nI np)])), (p1, .inl (cI, 24, .inl P)), (p2, .inl (cI, 24, .inl K)), (h, .inr (1, [.ref a1, .ref a2, .ref a3, .int (nI n)])), (a1, .inl (cI, 32, .inl lo)), (a2, .inl (cI, 32, .inl hi)), (a3, .inl (cI, 32, .inl th)), (w, .inr (3, [.ref v, .ref w1])), (w1, .inl (cI, 24, .inl u)), (v, .inr (0, [.ref v1, .ref v2, .int (nI (plc P K th n np))])), (v1, .inl (cI, 1584, .inl (apd f 0 (wO P K th n np)))), (v2, .inl (cI, 1584, .inl (apd g 0 (wK P K lo hi th n np))))]) rfl (fun H locs hP hD hS => ?_)
    refine lv_aload_n hx hb d_Loom_wovenListing_27 rfl (lv_at hl 0 rfl) ?_
    refine pl_get X fw_Loom_35 hK hP 0 rfl (v := .ref w) rfl d_Loom_wovenListing_28 ?_
    refine pl_get X fw_Loom_186 hK hP 8 rfl (v := .ref v) rfl d_Loom_wovenListing_31 ?_
    exact pl_aret X hr hlk hK (u, apd f 0 (wO P K th n np), apd g 0 (wK P K lo hi th n np), plc P K th n np) (woP_new P K lo hi th n np f g) hP hD hS d_Loom_wovenListing_34

set_option maxHeartbeats 4000000 in
set_option maxRecDepth 100000 in
theorem c_Loom_enforce (l : Launch) (D : va_G) (cI cZ cL : ClassId) (t1 t2 : Nat) (x0 p0 p1 p2 h a1 a2 a3 e0 e1 e2 w w1 v v1 v2 r b1 b2 b3 b4 : Nat) (P K lo hi th F Qu fo f g sa ca ta tn : Nat → Int32) (np n qd z how stat pl q stt dn : Nat) (b ex wv : Bool) (hl0 : l.stackTraces = false) (hn : n ≤ 4) (hnp : np ≤ 24) (hop : okP P np) (hex : ex = true → exaP P K np (F, Qu, qd, b)) (hwv : wv = true → woP P K lo hi th n np f g z) : pl_TI l y_Loom_enforce b_Loom_enforce 1 .int ({ frames := 7, cells := 2, slots := 12, locals := 135 } : Room) (EX t1 t2) D classes (TY cI cZ cL) [.ref x0] [(x0, .inr (5, [.ref p0, .ref h, .ref e0, .ref w, .ref r, .int (bI (ex)), .int (bI (wv))])), (p0, .inr (0, [.ref p1, .ref p2, .int (nI np)])), (p1, .inl (cI, 24, .inl P)), (p2, .inl (cI, 24, .inl K)), (h, .inr (1, [.ref a1, .ref a2, .ref a3, .int (nI n)])), (a1, .inl (cI, 32, .inl lo)), (a2, .inl (cI, 32, .inl hi)), (a3, .inl (cI, 32, .inl th)), (e0, .inr (2, [.ref e1, .ref e2, .int (nI qd), .int (bI (b))])), (e1, .inl (cI, 24, .inl F)), (e2, .inl (cI, 24, .inl Qu)), (w, .inr (3, [.ref v, .ref w1])), (w1, .inl (cI, 24, .inl fo)), (v, .inr (0, [.ref v1, .ref v2, .int (nI z)])), (v1, .inl (cI, 1584, .inl f)), (v2, .inl (cI, 1584, .inl g))] (fun (r : Int32) (u : HS × WS) => exaP P K np u.1 ∧ u.1.2.2.2 = true ∧ woP P K lo hi th n np u.2.2.1 u.2.2.2.1 u.2.2.2.2 ∧ r = nI (plc P K th n np)) (fun (u : (HS × WS)) => [(x0, .inr (5, [.ref p0, .ref h, .ref e0, .ref w, .ref r, .int (bI (true)), .int (bI (true))])), (p0, .inr (0, [.ref p1, .ref p2, .int (nI np)])), (p1, .inl (cI, 24, .inl P)), (p2, .inl (cI, 24, .inl K)), (h, .inr (1, [.ref a1, .ref a2, .ref a3, .int (nI n)])), (a1, .inl (cI, 32, .inl lo)), (a2, .inl (cI, 32, .inl hi)), (a3, .inl (cI, 32, .inl th)), (e0, .inr (2, [.ref e1, .ref e2, .int (nI u.1.2.2.1), .int (bI (u.1.2.2.2))])), (e1, .inl (cI, 24, .inl u.1.1)), (e2, .inl (cI, 24, .inl u.1.2.1)), (w, .inr (3, [.ref v, .ref w1])), (w1, .inl (cI, 24, .inl u.2.1)), (v, .inr (0, [.ref v1, .ref v2, .int (nI u.2.2.2.2)])), (v1, .inl (cI, 1584, .inl u.2.2.1)), (v2, .inl (cI, 1584, .inl u.2.2.2.1))]) (fun (Nm : String) (u : HS) => Nm = iseS ∧ u.2.2.2 = false ∧ exaP P K np u) (fun (u : HS) => [(x0, .inr (5, [.ref p0, .ref h, .ref e0, .ref w, .ref r, .int (bI (true)), .int (bI (wv))])), (p0, .inr (0, [.ref p1, .ref p2, .int (nI np)])), (p1, .inl (cI, 24, .inl P)), (p2, .inl (cI, 24, .inl K)), (h, .inr (1, [.ref a1, .ref a2, .ref a3, .int (nI n)])), (a1, .inl (cI, 32, .inl lo)), (a2, .inl (cI, 32, .inl hi)), (a3, .inl (cI, 32, .inl th)), (e0, .inr (2, [.ref e1, .ref e2, .int (nI u.2.2.1), .int (bI (u.2.2.2))])), (e1, .inl (cI, 24, .inl u.1)), (e2, .inl (cI, 24, .inl u.2.1)), (w, .inr (3, [.ref v, .ref w1])), (w1, .inl (cI, 24, .inl fo)), (v, .inr (0, [.ref v1, .ref v2, .int (nI z)])), (v1, .inl (cI, 1584, .inl f)), (v2, .inl (cI, 1584, .inl g))]) := by
  refine pl_startTI (by decide) (Nat.le_of_ble_eq_true rfl) ?_
  intro p e s m args below meth c A ls X hr hlk hno hK hP hD hS hA hE hl
  have X : CallFix p m c b_Loom_enforce 1 s args TG R_Loom := X
  have hx := X.1
  have hb := X.2.1
  have hl : lv_has ls 1 [(0, .ref x0)] := hl
  refine lv_aload_n hx hb d_Loom_enforce_0 rfl (lv_at hl 0 rfl) ?_
  refine pl_callTV X (rest := []) (As := []) (b := x0) (c_Loom_requireWellFormed l D cI cZ cL t1 t2 x0 p0 p1 p2 h a1 a2 a3 e0 e1 e2 w w1 v v1 v2 r b1 b2 b3 b4 P K lo hi th F Qu fo f g sa ca ta tn np n qd z how stat pl q stt dn b ex wv hl0 hnp hop hex) ck_Loom_106 (EX_ok t1 t2) (pl_pass (EX_ok t1 t2) hE hD hS hA [0, 1, 2, 3, 8, 9, 10] rfl) hK hP hD hS hA (T := F_Loom) (N := N_Loom) (ci := 5) rfl 0 rfl [0, 1, 2, 3, 8, 9, 10] [4, 5, 6, 7, 11, 12, 13, 14, 15] [9, 10, 11, 12, 0, 1, 2, 3, 13, 14, 15, 4, 5, 6, 7, 8] [9, 10, 11, 12, 0, 1, 2, 3, 13, 14, 15, 4, 5, 6, 7, 8] rfl (by decide) (wr := [(h, .inr (1, [.ref a1, .ref a2, .ref a3, .int (nI n)])), (a1, .inl (cI, 32, .inl lo)), (a2, .inl (cI, 32, .inl hi)), (a3, .inl (cI, 32, .inl th)), (w, .inr (3, [.ref v, .ref w1])), (w1, .inl (cI, 24, .inl fo)), (v, .inr (0, [.ref v1, .ref v2, .int (nI z)])), (v1, .inl (cI, 1584, .inl f)), (v2, .inl (cI, 1584, .inl g))]) rfl (by decide) (by decide) (wf := fun (u : HS) => [(x0, .inr (5, [.ref p0, .ref h, .ref e0, .ref w, .ref r, .int (bI (true)), .int (bI (wv))])), (p0, .inr (0, [.ref p1, .ref p2, .int (nI np)])), (p1, .inl (cI, 24, .inl P)), (p2, .inl (cI, 24, .inl K)), (h, .inr (1, [.ref a1, .ref a2, .ref a3, .int (nI n)])), (a1, .inl (cI, 32, .inl lo)), (a2, .inl (cI, 32, .inl hi)), (a3, .inl (cI, 32, .inl th)), (e0, .inr (2, [.ref e1, .ref e2, .int (nI u.2.2.1), .int (bI (u.2.2.2))])), (e1, .inl (cI, 24, .inl u.1)), (e2, .inl (cI, 24, .inl u.2.1)), (w, .inr (3, [.ref v, .ref w1])), (w1, .inl (cI, 24, .inl fo)), (v, .inr (0, [.ref v1, .ref v2, .int (nI z)])), (v1, .inl (cI, 1584, .inl f)), (v2, .inl (cI, 1584, .inl g))]) (fun _ => rfl) (by decide) (wfx := fun (ux : HS) => [(x0, .inr (5, [.ref p0, .ref h, .ref e0, .ref w, .ref r, .int (bI (true)), .int (bI (wv))])), (p0, .inr (0, [.ref p1, .ref p2, .int (nI np)])), (p1, .inl (cI, 24, .inl P)), (p2, .inl (cI, 24, .inl K)), (h, .inr (1, [.ref a1, .ref a2, .ref a3, .int (nI n)])), (a1, .inl (cI, 32, .inl lo)), (a2, .inl (cI, 32, .inl hi)), (a3, .inl (cI, 32, .inl th)), (e0, .inr (2, [.ref e1, .ref e2, .int (nI ux.2.2.1), .int (bI (ux.2.2.2))])), (e1, .inl (cI, 24, .inl ux.1)), (e2, .inl (cI, 24, .inl ux.2.1)), (w, .inr (3, [.ref v, .ref w1])), (w1, .inl (cI, 24, .inl fo)), (v, .inr (0, [.ref v1, .ref v2, .int (nI z)])), (v1, .inl (cI, 1584, .inl f)), (v2, .inl (cI, 1584, .inl g))]) (fun _ => rfl) (by decide) rfl hl.1 rfl (Nat.le_of_ble_eq_true rfl) (by decide) (by decide) d_Loom_enforce_1 (fun Nm ce qx ux H locs hpx hP hD hS hce hcv hcl => ?_) (fun u H locs hcq hP hD hS => ?_)
  · skip
    exact pl_outT hno hlk hK hce hcv hcl ux hpx hP hD hS (by decide) (by decide)
  · skip
    obtain ⟨hub, hxa⟩ := hcq
    have hwf := hxa.1 hub
    refine lv_aload_n hx hb d_Loom_enforce_4 rfl (lv_at hl 0 rfl) ?_
    refine pl_callVR X (rest := []) (As := []) (b := x0) (c_Loom_wovenListing l D cI cZ cL t1 t2 x0 p0 p1 p2 h a1 a2 a3 e0 e1 e2 w w1 v v1 v2 r b1 b2 b3 b4 P K lo hi th u.1 u.2.1 fo f g sa ca ta tn np n u.2.2.1 z how stat pl q stt dn u.2.2.2 true wv hn hnp hop hwf.1 hwv) ck_Loom_115 (EV_ok t1 t2) (pl_pass (EV_ok t1 t2) hE.1 hD hS hA [0, 1, 2, 3, 4, 5, 6, 7, 11, 12, 13, 14, 15] rfl) hK hP hD hS hA (T := F_Loom) (N := N_Loom) (ci := 5) rfl 0 rfl [0, 1, 2, 3, 4, 5, 6, 7, 11, 12, 13, 14, 15] [8, 9, 10] [3, 4, 5, 6, 7, 8, 9, 10, 0, 1, 2, 11, 12, 13, 14, 15] rfl (by decide) (wr := [(e0, .inr (2, [.ref e1, .ref e2, .int (nI u.2.2.1), .int (bI (u.2.2.2))])), (e1, .inl (cI, 24, .inl u.1)), (e2, .inl (cI, 24, .inl u.2.1))]) rfl (by decide) (by decide) (wf := fun (y : WS) => [(x0, .inr (5, [.ref p0, .ref h, .ref e0, .ref w, .ref r, .int (bI (true)), .int (bI (true))])), (p0, .inr (0, [.ref p1, .ref p2, .int (nI np)])), (p1, .inl (cI, 24, .inl P)), (p2, .inl (cI, 24, .inl K)), (h, .inr (1, [.ref a1, .ref a2, .ref a3, .int (nI n)])), (a1, .inl (cI, 32, .inl lo)), (a2, .inl (cI, 32, .inl hi)), (a3, .inl (cI, 32, .inl th)), (e0, .inr (2, [.ref e1, .ref e2, .int (nI u.2.2.1), .int (bI (u.2.2.2))])), (e1, .inl (cI, 24, .inl u.1)), (e2, .inl (cI, 24, .inl u.2.1)), (w, .inr (3, [.ref v, .ref w1])), (w1, .inl (cI, 24, .inl y.1)), (v, .inr (0, [.ref v1, .ref v2, .int (nI y.2.2.2)])), (v1, .inl (cI, 1584, .inl y.2.1)), (v2, .inl (cI, 1584, .inl y.2.2.1))]) (fun _ => rfl) (by decide) rfl hl.1 rfl (Nat.le_of_ble_eq_true rfl) (by decide) (by decide) d_Loom_enforce_5 (fun y H locs hcq hP hD hS => ?_)
    have hwo := hcq
    refine pl_get X fw_Loom_60 hK hP 13 rfl (v := .int (nI y.2.2.2)) rfl d_Loom_enforce_8 ?_
    exact pl_iretT X hr hlk hK rfl (u, y) ⟨hxa, hub, hwo, congrArg nI hwo.1⟩ hP hD hS (by decide) (by decide) d_Loom_enforce_11

set_option maxHeartbeats 4000000 in
set_option maxRecDepth 100000 in
theorem c_Loom_enforced (l : Launch) (D : va_G) (cI cZ cL : ClassId) (t1 t2 : Nat) (x0 p0 p1 p2 h a1 a2 a3 e0 e1 e2 w w1 v v1 v2 r b1 b2 b3 b4 : Nat) (P K lo hi th F Qu fo f g sa ca ta tn : Nat → Int32) (np n qd z how stat pl q stt dn : Nat) (b ex wv : Bool) (x : Int32) (sc : Bool) (hl0 : l.stackTraces = false) (hn : n ≤ 4) (hnp : np ≤ 24) (hop : okP P np) (hex : ex = true → exaP P K np (F, Qu, qd, b)) (hwv : wv = true → woP P K lo hi th n np f g z) : pl_TI l y_Loom_enforced b_Loom_enforced 4 .int ({ frames := 7, cells := 2, slots := 12, locals := 135 } : Room) (EX t1 t2) D classes (TY cI cZ cL) [.ref x0, .int x, .int (bI (sc))] [(x0, .inr (5, [.ref p0, .ref h, .ref e0, .ref w, .ref r, .int (bI (ex)), .int (bI (wv))])), (p0, .inr (0, [.ref p1, .ref p2, .int (nI np)])), (p1, .inl (cI, 24, .inl P)), (p2, .inl (cI, 24, .inl K)), (h, .inr (1, [.ref a1, .ref a2, .ref a3, .int (nI n)])), (a1, .inl (cI, 32, .inl lo)), (a2, .inl (cI, 32, .inl hi)), (a3, .inl (cI, 32, .inl th)), (e0, .inr (2, [.ref e1, .ref e2, .int (nI qd), .int (bI (b))])), (e1, .inl (cI, 24, .inl F)), (e2, .inl (cI, 24, .inl Qu)), (w, .inr (3, [.ref v, .ref w1])), (w1, .inl (cI, 24, .inl fo)), (v, .inr (0, [.ref v1, .ref v2, .int (nI z)])), (v1, .inl (cI, 1584, .inl f)), (v2, .inl (cI, 1584, .inl g))] (fun (r : Int32) (u : HS × WS) => exaP P K np u.1 ∧ u.1.2.2.2 = true ∧ woP P K lo hi th n np u.2.2.1 u.2.2.2.1 u.2.2.2.2 ∧ ∃ j, j < plc P K th n np ∧ x = nI j ∧ r = if sc = true then (wK P K lo hi th n np).getD j 0 else (wO P K th n np).getD j 0) (fun (u : (HS × WS)) => [(x0, .inr (5, [.ref p0, .ref h, .ref e0, .ref w, .ref r, .int (bI (true)), .int (bI (true))])), (p0, .inr (0, [.ref p1, .ref p2, .int (nI np)])), (p1, .inl (cI, 24, .inl P)), (p2, .inl (cI, 24, .inl K)), (h, .inr (1, [.ref a1, .ref a2, .ref a3, .int (nI n)])), (a1, .inl (cI, 32, .inl lo)), (a2, .inl (cI, 32, .inl hi)), (a3, .inl (cI, 32, .inl th)), (e0, .inr (2, [.ref e1, .ref e2, .int (nI u.1.2.2.1), .int (bI (u.1.2.2.2))])), (e1, .inl (cI, 24, .inl u.1.1)), (e2, .inl (cI, 24, .inl u.1.2.1)), (w, .inr (3, [.ref v, .ref w1])), (w1, .inl (cI, 24, .inl u.2.1)), (v, .inr (0, [.ref v1, .ref v2, .int (nI u.2.2.2.2)])), (v1, .inl (cI, 1584, .inl u.2.2.1)), (v2, .inl (cI, 1584, .inl u.2.2.2.1))]) (fun (Nm : String) (u : HS × WS ⊕ HS) => match u with | .inl u => exaP P K np u.1 ∧ u.1.2.2.2 = true ∧ woP P K lo hi th n np u.2.2.1 u.2.2.2.1 u.2.2.2.2 ∧ Nm = iobS ∧ inB x (plc P K th n np) = false | .inr u => Nm = iseS ∧ u.2.2.2 = false ∧ exaP P K np u) (fun (u : (HS × WS ⊕ HS)) => match u with | .inl u => [(x0, .inr (5, [.ref p0, .ref h, .ref e0, .ref w, .ref r, .int (bI (true)), .int (bI (true))])), (p0, .inr (0, [.ref p1, .ref p2, .int (nI np)])), (p1, .inl (cI, 24, .inl P)), (p2, .inl (cI, 24, .inl K)), (h, .inr (1, [.ref a1, .ref a2, .ref a3, .int (nI n)])), (a1, .inl (cI, 32, .inl lo)), (a2, .inl (cI, 32, .inl hi)), (a3, .inl (cI, 32, .inl th)), (e0, .inr (2, [.ref e1, .ref e2, .int (nI u.1.2.2.1), .int (bI (u.1.2.2.2))])), (e1, .inl (cI, 24, .inl u.1.1)), (e2, .inl (cI, 24, .inl u.1.2.1)), (w, .inr (3, [.ref v, .ref w1])), (w1, .inl (cI, 24, .inl u.2.1)), (v, .inr (0, [.ref v1, .ref v2, .int (nI u.2.2.2.2)])), (v1, .inl (cI, 1584, .inl u.2.2.1)), (v2, .inl (cI, 1584, .inl u.2.2.2.1))] | .inr u => [(x0, .inr (5, [.ref p0, .ref h, .ref e0, .ref w, .ref r, .int (bI (true)), .int (bI (wv))])), (p0, .inr (0, [.ref p1, .ref p2, .int (nI np)])), (p1, .inl (cI, 24, .inl P)), (p2, .inl (cI, 24, .inl K)), (h, .inr (1, [.ref a1, .ref a2, .ref a3, .int (nI n)])), (a1, .inl (cI, 32, .inl lo)), (a2, .inl (cI, 32, .inl hi)), (a3, .inl (cI, 32, .inl th)), (e0, .inr (2, [.ref e1, .ref e2, .int (nI u.2.2.1), .int (bI (u.2.2.2))])), (e1, .inl (cI, 24, .inl u.1)), (e2, .inl (cI, 24, .inl u.2.1)), (w, .inr (3, [.ref v, .ref w1])), (w1, .inl (cI, 24, .inl fo)), (v, .inr (0, [.ref v1, .ref v2, .int (nI z)])), (v1, .inl (cI, 1584, .inl f)), (v2, .inl (cI, 1584, .inl g))]) := by
  refine pl_startTI (by decide) (Nat.le_of_ble_eq_true rfl) ?_
  intro p e s m args below meth c A ls X hr hlk hno hK hP hD hS hA hE hl
  have X : CallFix p m c b_Loom_enforced 4 s args TG R_Loom := X
  have hx := X.1
  have hb := X.2.1
  have hl : lv_has ls 4 [(0, .ref x0), (1, .int x), (2, .int (bI (sc)))] := hl
  refine lv_aload_n hx hb d_Loom_enforced_0 rfl (lv_at hl 0 rfl) ?_
  refine pl_callTV X (rest := []) (As := []) (b := x0) (c_Loom_requireWellFormed l D cI cZ cL t1 t2 x0 p0 p1 p2 h a1 a2 a3 e0 e1 e2 w w1 v v1 v2 r b1 b2 b3 b4 P K lo hi th F Qu fo f g sa ca ta tn np n qd z how stat pl q stt dn b ex wv hl0 hnp hop hex) ck_Loom_106 (EX_ok t1 t2) (pl_pass (EX_ok t1 t2) hE hD hS hA [0, 1, 2, 3, 8, 9, 10] rfl) hK hP hD hS hA (T := F_Loom) (N := N_Loom) (ci := 5) rfl 0 rfl [0, 1, 2, 3, 8, 9, 10] [4, 5, 6, 7, 11, 12, 13, 14, 15] [9, 10, 11, 12, 0, 1, 2, 3, 13, 14, 15, 4, 5, 6, 7, 8] [9, 10, 11, 12, 0, 1, 2, 3, 13, 14, 15, 4, 5, 6, 7, 8] rfl (by decide) (wr := [(h, .inr (1, [.ref a1, .ref a2, .ref a3, .int (nI n)])), (a1, .inl (cI, 32, .inl lo)), (a2, .inl (cI, 32, .inl hi)), (a3, .inl (cI, 32, .inl th)), (w, .inr (3, [.ref v, .ref w1])), (w1, .inl (cI, 24, .inl fo)), (v, .inr (0, [.ref v1, .ref v2, .int (nI z)])), (v1, .inl (cI, 1584, .inl f)), (v2, .inl (cI, 1584, .inl g))]) rfl (by decide) (by decide) (wf := fun (u : HS) => [(x0, .inr (5, [.ref p0, .ref h, .ref e0, .ref w, .ref r, .int (bI (true)), .int (bI (wv))])), (p0, .inr (0, [.ref p1, .ref p2, .int (nI np)])), (p1, .inl (cI, 24, .inl P)), (p2, .inl (cI, 24, .inl K)), (h, .inr (1, [.ref a1, .ref a2, .ref a3, .int (nI n)])), (a1, .inl (cI, 32, .inl lo)), (a2, .inl (cI, 32, .inl hi)), (a3, .inl (cI, 32, .inl th)), (e0, .inr (2, [.ref e1, .ref e2, .int (nI u.2.2.1), .int (bI (u.2.2.2))])), (e1, .inl (cI, 24, .inl u.1)), (e2, .inl (cI, 24, .inl u.2.1)), (w, .inr (3, [.ref v, .ref w1])), (w1, .inl (cI, 24, .inl fo)), (v, .inr (0, [.ref v1, .ref v2, .int (nI z)])), (v1, .inl (cI, 1584, .inl f)), (v2, .inl (cI, 1584, .inl g))]) (fun _ => rfl) (by decide) (wfx := fun (ux : HS) => [(x0, .inr (5, [.ref p0, .ref h, .ref e0, .ref w, .ref r, .int (bI (true)), .int (bI (wv))])), (p0, .inr (0, [.ref p1, .ref p2, .int (nI np)])), (p1, .inl (cI, 24, .inl P)), (p2, .inl (cI, 24, .inl K)), (h, .inr (1, [.ref a1, .ref a2, .ref a3, .int (nI n)])), (a1, .inl (cI, 32, .inl lo)), (a2, .inl (cI, 32, .inl hi)), (a3, .inl (cI, 32, .inl th)), (e0, .inr (2, [.ref e1, .ref e2, .int (nI ux.2.2.1), .int (bI (ux.2.2.2))])), (e1, .inl (cI, 24, .inl ux.1)), (e2, .inl (cI, 24, .inl ux.2.1)), (w, .inr (3, [.ref v, .ref w1])), (w1, .inl (cI, 24, .inl fo)), (v, .inr (0, [.ref v1, .ref v2, .int (nI z)])), (v1, .inl (cI, 1584, .inl f)), (v2, .inl (cI, 1584, .inl g))]) (fun _ => rfl) (by decide) rfl hl.1 rfl (Nat.le_of_ble_eq_true rfl) (by decide) (by decide) d_Loom_enforced_1 (fun Nm ce qx ux H locs hpx hP hD hS hce hcv hcl => ?_) (fun u H locs hcq hP hD hS => ?_)
  · skip
    exact pl_outT hno hlk hK hce hcv hcl (.inr ux) hpx hP hD hS (by decide) (by decide)
  · skip
    obtain ⟨hub, hxa⟩ := hcq
    have hwf := hxa.1 hub
    refine lv_aload_n hx hb d_Loom_enforced_4 rfl (lv_at hl 0 rfl) ?_
    refine pl_callVR X (rest := []) (As := []) (b := x0) (c_Loom_wovenListing l D cI cZ cL t1 t2 x0 p0 p1 p2 h a1 a2 a3 e0 e1 e2 w w1 v v1 v2 r b1 b2 b3 b4 P K lo hi th u.1 u.2.1 fo f g sa ca ta tn np n u.2.2.1 z how stat pl q stt dn u.2.2.2 true wv hn hnp hop hwf.1 hwv) ck_Loom_115 (EV_ok t1 t2) (pl_pass (EV_ok t1 t2) hE.1 hD hS hA [0, 1, 2, 3, 4, 5, 6, 7, 11, 12, 13, 14, 15] rfl) hK hP hD hS hA (T := F_Loom) (N := N_Loom) (ci := 5) rfl 0 rfl [0, 1, 2, 3, 4, 5, 6, 7, 11, 12, 13, 14, 15] [8, 9, 10] [3, 4, 5, 6, 7, 8, 9, 10, 0, 1, 2, 11, 12, 13, 14, 15] rfl (by decide) (wr := [(e0, .inr (2, [.ref e1, .ref e2, .int (nI u.2.2.1), .int (bI (u.2.2.2))])), (e1, .inl (cI, 24, .inl u.1)), (e2, .inl (cI, 24, .inl u.2.1))]) rfl (by decide) (by decide) (wf := fun (y : WS) => [(x0, .inr (5, [.ref p0, .ref h, .ref e0, .ref w, .ref r, .int (bI (true)), .int (bI (true))])), (p0, .inr (0, [.ref p1, .ref p2, .int (nI np)])), (p1, .inl (cI, 24, .inl P)), (p2, .inl (cI, 24, .inl K)), (h, .inr (1, [.ref a1, .ref a2, .ref a3, .int (nI n)])), (a1, .inl (cI, 32, .inl lo)), (a2, .inl (cI, 32, .inl hi)), (a3, .inl (cI, 32, .inl th)), (e0, .inr (2, [.ref e1, .ref e2, .int (nI u.2.2.1), .int (bI (u.2.2.2))])), (e1, .inl (cI, 24, .inl u.1)), (e2, .inl (cI, 24, .inl u.2.1)), (w, .inr (3, [.ref v, .ref w1])), (w1, .inl (cI, 24, .inl y.1)), (v, .inr (0, [.ref v1, .ref v2, .int (nI y.2.2.2)])), (v1, .inl (cI, 1584, .inl y.2.1)), (v2, .inl (cI, 1584, .inl y.2.2.1))]) (fun _ => rfl) (by decide) rfl hl.1 rfl (Nat.le_of_ble_eq_true rfl) (by decide) (by decide) d_Loom_enforced_5 (fun y H locs hcq hP hD hS => ?_)
    have hwo := hcq
    refine lv_astore_n hx hb d_Loom_enforced_8 rfl hl (by decide) (lv' := [(3, .ref v), (0, .ref x0), (1, .int x), (2, .int (bI (sc)))]) rfl (fun ls hl => ?_)
    refine lv_iload_n hx hb d_Loom_enforced_9 rfl (lv_at hl 2 rfl) ?_
    refine lv_if_lt hx hb d_Loom_enforced_10 rfl (fun g10 => ?_) (fun g10 => ?_)
    · skip
      exact pl_throw (is := 109) (text := "no instruction") X hl0 xw_iobS hE (by decide +kernel) hno hlk hK (.inl (u, y)) ⟨hxa, hub, hwo, rfl, inB_lo g10⟩ hP hD hS hl.1 d_Loom_enforced_21 d_Loom_enforced_24 d_Loom_enforced_25 d_Loom_enforced_27 d_Loom_enforced_30 (by decide) (Nat.le_of_ble_eq_true rfl) (by decide) (by decide) (by decide) (by decide)
    · skip
      refine lv_iload_n hx hb d_Loom_enforced_13 rfl (lv_at hl 2 rfl) ?_
      refine lv_aload_n hx hb d_Loom_enforced_14 rfl (lv_at hl 0 rfl) ?_
      refine pl_get X fw_Loom_60 hK hP 13 rfl (v := .int (nI y.2.2.2)) rfl d_Loom_enforced_15 ?_
      refine lv_icmp_lt hx hb d_Loom_enforced_18 rfl (fun g18 => ?_) (fun g18 => ?_)
      · skip
        have hzz : y.2.2.2 < 1585 := by have := plc_le P K th hn np; have := hwo.1; omega
        obtain ⟨j, hj, hxj⟩ := inB_of (show y.2.2.2 < 2 ^ 31 by omega) (inB_in (by omega) g10 (i_nle.mpr g18))
        have hl : lv_has ls 4 [(3, .ref v), (0, .ref x0), (1, .int (nI j)), (2, .int (bI (sc)))] := by rw [← hxj]; exact hl
        have hjj := hwo.2 j hj
        refine lv_iload_n hx hb d_Loom_enforced_31 rfl (lv_at hl 3 rfl) ?_
        refine pl_ifB_eq X d_Loom_enforced_32 rfl (fun g32 => ?_) (fun g32 => ?_)
        · skip
          refine lv_aload_n hx hb d_Loom_enforced_44 rfl (lv_at hl 0 rfl) ?_
          refine pl_get X fw_Loom_122 hK hP 13 rfl (v := .ref v1) rfl d_Loom_enforced_45 ?_
          refine lv_iload_n hx hb d_Loom_enforced_48 rfl (lv_at hl 2 rfl) ?_
          refine pl_iald X hK hP 14 0 rfl rfl j (by omega) (by decide) (z := y.2.1 j) rfl d_Loom_enforced_49 ?_
          exact pl_iretT X hr hlk hK rfl (u, y) ⟨hxa, hub, hwo, j, by rw [← hwo.1]; exact hj, hxj, by rw [if_neg (by rw [g32]; decide)]; exact hjj.1⟩ hP hD hS (by decide) (by decide) d_Loom_enforced_50
        · skip
          refine lv_aload_n hx hb d_Loom_enforced_35 rfl (lv_at hl 0 rfl) ?_
          refine pl_get X fw_Loom_119 hK hP 13 rfl (v := .ref v2) rfl d_Loom_enforced_36 ?_
          refine lv_iload_n hx hb d_Loom_enforced_39 rfl (lv_at hl 2 rfl) ?_
          refine pl_iald X hK hP 15 0 rfl rfl j (by omega) (by decide) (z := y.2.2.1 j) rfl d_Loom_enforced_40 ?_
          refine lv_goto hx hb d_Loom_enforced_41 rfl ?_
          exact pl_iretT X hr hlk hK rfl (u, y) ⟨hxa, hub, hwo, j, by rw [← hwo.1]; exact hj, hxj, by rw [if_pos g32]; exact hjj.2⟩ hP hD hS (by decide) (by decide) d_Loom_enforced_50
      · skip
        exact pl_throw (is := 109) (text := "no instruction") X hl0 xw_iobS hE (by decide +kernel) hno hlk hK (.inl (u, y)) ⟨hxa, hub, hwo, rfl, by rw [← hwo.1]; exact inB_hi (by have := plc_le P K th hn np; have := hwo.1; omega) (i_nlt.mp g18)⟩ hP hD hS hl.1 d_Loom_enforced_21 d_Loom_enforced_24 d_Loom_enforced_25 d_Loom_enforced_27 d_Loom_enforced_30 (by decide) (Nat.le_of_ble_eq_true rfl) (by decide) (by decide) (by decide) (by decide)
end
section
/-! Decode rows of PolicyLoom. -/
theorem d_Loom_code_0 : decode b_Loom_code 0 = .ok (.iload_n 1, 1) := by decide +kernel
theorem d_Loom_code_1 : decode b_Loom_code 1 = .ok (.ifCond .lt 9, 3) := by decide +kernel
theorem d_Loom_code_4 : decode b_Loom_code 4 = .ok (.iload_n 1, 1) := by decide +kernel
theorem d_Loom_code_5 : decode b_Loom_code 5 = .ok (.bipush 12, 2) := by decide +kernel
theorem d_Loom_code_7 : decode b_Loom_code 7 = .ok (.if_icmp .le 13, 3) := by decide +kernel
theorem d_Loom_code_10 : decode b_Loom_code 10 = .ok (.new 53, 3) := by decide +kernel
theorem d_Loom_code_13 : decode b_Loom_code 13 = .ok (.dup, 1) := by decide +kernel
theorem d_Loom_code_14 : decode b_Loom_code 14 = .ok (.ldc 55, 2) := by decide +kernel
theorem d_Loom_code_16 : decode b_Loom_code 16 = .ok (.invokespecial 57, 3) := by decide +kernel
theorem d_Loom_code_19 : decode b_Loom_code 19 = .ok (.athrow, 1) := by decide +kernel
theorem d_Loom_code_20 : decode b_Loom_code 20 = .ok (.aload_n 0, 1) := by decide +kernel
theorem d_Loom_code_21 : decode b_Loom_code 21 = .ok (.getfield 14, 3) := by decide +kernel
theorem d_Loom_code_24 : decode b_Loom_code 24 = .ok (.getfield 60, 3) := by decide +kernel
theorem d_Loom_code_27 : decode b_Loom_code 27 = .ok (.bipush 24, 2) := by decide +kernel
theorem d_Loom_code_29 : decode b_Loom_code 29 = .ok (.if_icmp .lt 13, 3) := by decide +kernel
theorem d_Loom_code_32 : decode b_Loom_code 32 = .ok (.new 64, 3) := by decide +kernel
theorem d_Loom_code_35 : decode b_Loom_code 35 = .ok (.dup, 1) := by decide +kernel
theorem d_Loom_code_36 : decode b_Loom_code 36 = .ok (.ldc 66, 2) := by decide +kernel
theorem d_Loom_code_38 : decode b_Loom_code 38 = .ok (.invokespecial 68, 3) := by decide +kernel
theorem d_Loom_code_41 : decode b_Loom_code 41 = .ok (.athrow, 1) := by decide +kernel
theorem d_Loom_code_42 : decode b_Loom_code 42 = .ok (.aload_n 0, 1) := by decide +kernel
theorem d_Loom_code_43 : decode b_Loom_code 43 = .ok (.invokevirtual 69, 3) := by decide +kernel
theorem d_Loom_code_46 : decode b_Loom_code 46 = .ok (.aload_n 0, 1) := by decide +kernel
theorem d_Loom_code_47 : decode b_Loom_code 47 = .ok (.getfield 14, 3) := by decide +kernel
theorem d_Loom_code_50 : decode b_Loom_code 50 = .ok (.iload_n 1, 1) := by decide +kernel
theorem d_Loom_code_51 : decode b_Loom_code 51 = .ok (.iload_n 2, 1) := by decide +kernel
theorem d_Loom_code_52 : decode b_Loom_code 52 = .ok (.invokevirtual 72, 3) := by decide +kernel
theorem d_Loom_code_55 : decode b_Loom_code 55 = .ok (.aload_n 0, 1) := by decide +kernel
theorem d_Loom_code_56 : decode b_Loom_code 56 = .ok (.getfield 14, 3) := by decide +kernel
theorem d_Loom_code_59 : decode b_Loom_code 59 = .ok (.getfield 60, 3) := by decide +kernel
theorem d_Loom_code_62 : decode b_Loom_code 62 = .ok (.iconst 1, 1) := by decide +kernel
theorem d_Loom_code_63 : decode b_Loom_code 63 = .ok (.isub, 1) := by decide +kernel
theorem d_Loom_code_64 : decode b_Loom_code 64 = .ok (.ireturn, 1) := by decide +kernel
theorem d_Loom_states_0 : decode b_Loom_states 0 = .ok (.iload_n 1, 1) := by decide +kernel
theorem d_Loom_states_1 : decode b_Loom_states 1 = .ok (.iconst 1, 1) := by decide +kernel
theorem d_Loom_states_2 : decode b_Loom_states 2 = .ok (.if_icmp .lt 8, 3) := by decide +kernel
theorem d_Loom_states_5 : decode b_Loom_states 5 = .ok (.iload_n 1, 1) := by decide +kernel
theorem d_Loom_states_6 : decode b_Loom_states 6 = .ok (.iconst 4, 1) := by decide +kernel
theorem d_Loom_states_7 : decode b_Loom_states 7 = .ok (.if_icmp .le 13, 3) := by decide +kernel
theorem d_Loom_states_10 : decode b_Loom_states 10 = .ok (.new 53, 3) := by decide +kernel
theorem d_Loom_states_13 : decode b_Loom_states 13 = .ok (.dup, 1) := by decide +kernel
theorem d_Loom_states_14 : decode b_Loom_states 14 = .ok (.ldc 76, 2) := by decide +kernel
theorem d_Loom_states_16 : decode b_Loom_states 16 = .ok (.invokespecial 57, 3) := by decide +kernel
theorem d_Loom_states_19 : decode b_Loom_states 19 = .ok (.athrow, 1) := by decide +kernel
theorem d_Loom_states_20 : decode b_Loom_states 20 = .ok (.aload_n 0, 1) := by decide +kernel
theorem d_Loom_states_21 : decode b_Loom_states 21 = .ok (.invokevirtual 78, 3) := by decide +kernel
theorem d_Loom_states_24 : decode b_Loom_states 24 = .ok (.aload_n 0, 1) := by decide +kernel
theorem d_Loom_states_25 : decode b_Loom_states 25 = .ok (.getfield 21, 3) := by decide +kernel
theorem d_Loom_states_28 : decode b_Loom_states 28 = .ok (.iload_n 1, 1) := by decide +kernel
theorem d_Loom_states_29 : decode b_Loom_states 29 = .ok (.invokevirtual 81, 3) := by decide +kernel
theorem d_Loom_states_32 : decode b_Loom_states 32 = .ok (.return_, 1) := by decide +kernel
theorem d_Loom_rule_0 : decode b_Loom_rule 0 = .ok (.aload_n 0, 1) := by decide +kernel
theorem d_Loom_rule_1 : decode b_Loom_rule 1 = .ok (.getfield 21, 3) := by decide +kernel
theorem d_Loom_rule_4 : decode b_Loom_rule 4 = .ok (.iload_n 1, 1) := by decide +kernel
theorem d_Loom_rule_5 : decode b_Loom_rule 5 = .ok (.invokevirtual 84, 3) := by decide +kernel
theorem d_Loom_rule_8 : decode b_Loom_rule 8 = .ok (.ifCond .eq 15, 3) := by decide +kernel
theorem d_Loom_rule_11 : decode b_Loom_rule 11 = .ok (.aload_n 0, 1) := by decide +kernel
theorem d_Loom_rule_12 : decode b_Loom_rule 12 = .ok (.getfield 21, 3) := by decide +kernel
theorem d_Loom_rule_15 : decode b_Loom_rule 15 = .ok (.iload 5, 2) := by decide +kernel
theorem d_Loom_rule_17 : decode b_Loom_rule 17 = .ok (.invokevirtual 84, 3) := by decide +kernel
theorem d_Loom_rule_20 : decode b_Loom_rule 20 = .ok (.ifCond .ne 13, 3) := by decide +kernel
theorem d_Loom_rule_23 : decode b_Loom_rule 23 = .ok (.new 53, 3) := by decide +kernel
theorem d_Loom_rule_26 : decode b_Loom_rule 26 = .ok (.dup, 1) := by decide +kernel
theorem d_Loom_rule_27 : decode b_Loom_rule 27 = .ok (.ldc 88, 2) := by decide +kernel
theorem d_Loom_rule_29 : decode b_Loom_rule 29 = .ok (.invokespecial 57, 3) := by decide +kernel
theorem d_Loom_rule_32 : decode b_Loom_rule 32 = .ok (.athrow, 1) := by decide +kernel
theorem d_Loom_rule_33 : decode b_Loom_rule 33 = .ok (.iload_n 2, 1) := by decide +kernel
theorem d_Loom_rule_34 : decode b_Loom_rule 34 = .ok (.ifCond .lt 9, 3) := by decide +kernel
theorem d_Loom_rule_37 : decode b_Loom_rule 37 = .ok (.iload_n 2, 1) := by decide +kernel
theorem d_Loom_rule_38 : decode b_Loom_rule 38 = .ok (.bipush 8, 2) := by decide +kernel
theorem d_Loom_rule_40 : decode b_Loom_rule 40 = .ok (.if_icmp .lt 13, 3) := by decide +kernel
theorem d_Loom_rule_43 : decode b_Loom_rule 43 = .ok (.new 53, 3) := by decide +kernel
theorem d_Loom_rule_46 : decode b_Loom_rule 46 = .ok (.dup, 1) := by decide +kernel
theorem d_Loom_rule_47 : decode b_Loom_rule 47 = .ok (.ldc 90, 2) := by decide +kernel
theorem d_Loom_rule_49 : decode b_Loom_rule 49 = .ok (.invokespecial 57, 3) := by decide +kernel
theorem d_Loom_rule_52 : decode b_Loom_rule 52 = .ok (.athrow, 1) := by decide +kernel
theorem d_Loom_rule_53 : decode b_Loom_rule 53 = .ok (.iload 4, 2) := by decide +kernel
theorem d_Loom_rule_55 : decode b_Loom_rule 55 = .ok (.iload_n 3, 1) := by decide +kernel
theorem d_Loom_rule_56 : decode b_Loom_rule 56 = .ok (.if_icmp .ge 13, 3) := by decide +kernel
theorem d_Loom_rule_59 : decode b_Loom_rule 59 = .ok (.new 53, 3) := by decide +kernel
theorem d_Loom_rule_62 : decode b_Loom_rule 62 = .ok (.dup, 1) := by decide +kernel
theorem d_Loom_rule_63 : decode b_Loom_rule 63 = .ok (.ldc 92, 2) := by decide +kernel
theorem d_Loom_rule_65 : decode b_Loom_rule 65 = .ok (.invokespecial 57, 3) := by decide +kernel
theorem d_Loom_rule_68 : decode b_Loom_rule 68 = .ok (.athrow, 1) := by decide +kernel
theorem d_Loom_rule_69 : decode b_Loom_rule 69 = .ok (.aload_n 0, 1) := by decide +kernel
theorem d_Loom_rule_70 : decode b_Loom_rule 70 = .ok (.invokevirtual 78, 3) := by decide +kernel
theorem d_Loom_rule_73 : decode b_Loom_rule 73 = .ok (.aload_n 0, 1) := by decide +kernel
theorem d_Loom_rule_74 : decode b_Loom_rule 74 = .ok (.getfield 21, 3) := by decide +kernel
theorem d_Loom_rule_77 : decode b_Loom_rule 77 = .ok (.iload_n 1, 1) := by decide +kernel
theorem d_Loom_rule_78 : decode b_Loom_rule 78 = .ok (.iload_n 2, 1) := by decide +kernel
theorem d_Loom_rule_79 : decode b_Loom_rule 79 = .ok (.invokestatic 94, 3) := by decide +kernel
theorem d_Loom_rule_82 : decode b_Loom_rule 82 = .ok (.iload_n 3, 1) := by decide +kernel
theorem d_Loom_rule_83 : decode b_Loom_rule 83 = .ok (.iload 4, 2) := by decide +kernel
theorem d_Loom_rule_85 : decode b_Loom_rule 85 = .ok (.iload 5, 2) := by decide +kernel
theorem d_Loom_rule_87 : decode b_Loom_rule 87 = .ok (.invokevirtual 98, 3) := by decide +kernel
theorem d_Loom_rule_90 : decode b_Loom_rule 90 = .ok (.return_, 1) := by decide +kernel
theorem d_Loom_start_0 : decode b_Loom_start 0 = .ok (.aload_n 0, 1) := by decide +kernel
theorem d_Loom_start_1 : decode b_Loom_start 1 = .ok (.invokevirtual 106, 3) := by decide +kernel
theorem d_Loom_start_4 : decode b_Loom_start 4 = .ok (.iload_n 1, 1) := by decide +kernel
theorem d_Loom_start_5 : decode b_Loom_start 5 = .ok (.ifCond .lt 8, 3) := by decide +kernel
theorem d_Loom_start_8 : decode b_Loom_start 8 = .ok (.iload_n 1, 1) := by decide +kernel
theorem d_Loom_start_9 : decode b_Loom_start 9 = .ok (.iconst 2, 1) := by decide +kernel
theorem d_Loom_start_10 : decode b_Loom_start 10 = .ok (.if_icmp .le 13, 3) := by decide +kernel
theorem d_Loom_start_13 : decode b_Loom_start 13 = .ok (.new 53, 3) := by decide +kernel
theorem d_Loom_start_16 : decode b_Loom_start 16 = .ok (.dup, 1) := by decide +kernel
theorem d_Loom_start_17 : decode b_Loom_start 17 = .ok (.ldc 125, 2) := by decide +kernel
theorem d_Loom_start_19 : decode b_Loom_start 19 = .ok (.invokespecial 57, 3) := by decide +kernel
theorem d_Loom_start_22 : decode b_Loom_start 22 = .ok (.athrow, 1) := by decide +kernel
theorem d_Loom_start_23 : decode b_Loom_start 23 = .ok (.aload_n 0, 1) := by decide +kernel
theorem d_Loom_start_24 : decode b_Loom_start 24 = .ok (.getfield 42, 3) := by decide +kernel
theorem d_Loom_start_27 : decode b_Loom_start 27 = .ok (.iload_n 1, 1) := by decide +kernel
theorem d_Loom_start_28 : decode b_Loom_start 28 = .ok (.iload_n 2, 1) := by decide +kernel
theorem d_Loom_start_29 : decode b_Loom_start 29 = .ok (.invokevirtual 127, 3) := by decide +kernel
theorem d_Loom_start_32 : decode b_Loom_start 32 = .ok (.return_, 1) := by decide +kernel
theorem d_Loom_look_0 : decode b_Loom_look 0 = .ok (.iload_n 1, 1) := by decide +kernel
theorem d_Loom_look_1 : decode b_Loom_look 1 = .ok (.ifCond .lt 8, 3) := by decide +kernel
theorem d_Loom_look_4 : decode b_Loom_look 4 = .ok (.iload_n 1, 1) := by decide +kernel
theorem d_Loom_look_5 : decode b_Loom_look 5 = .ok (.iconst 4, 1) := by decide +kernel
theorem d_Loom_look_6 : decode b_Loom_look 6 = .ok (.if_icmp .le 13, 3) := by decide +kernel
theorem d_Loom_look_9 : decode b_Loom_look 9 = .ok (.new 53, 3) := by decide +kernel
theorem d_Loom_look_12 : decode b_Loom_look 12 = .ok (.dup, 1) := by decide +kernel
theorem d_Loom_look_13 : decode b_Loom_look 13 = .ok (.ldc 147, 2) := by decide +kernel
theorem d_Loom_look_15 : decode b_Loom_look 15 = .ok (.invokespecial 57, 3) := by decide +kernel
theorem d_Loom_look_18 : decode b_Loom_look 18 = .ok (.athrow, 1) := by decide +kernel
theorem d_Loom_look_19 : decode b_Loom_look 19 = .ok (.aload_n 0, 1) := by decide +kernel
theorem d_Loom_look_20 : decode b_Loom_look 20 = .ok (.getfield 42, 3) := by decide +kernel
theorem d_Loom_look_23 : decode b_Loom_look 23 = .ok (.getfield 130, 3) := by decide +kernel
theorem d_Loom_look_26 : decode b_Loom_look 26 = .ok (.ifCond .ne 5, 3) := by decide +kernel
theorem d_Loom_look_29 : decode b_Loom_look 29 = .ok (.iconst 0, 1) := by decide +kernel
theorem d_Loom_look_30 : decode b_Loom_look 30 = .ok (.ireturn, 1) := by decide +kernel
theorem d_Loom_look_31 : decode b_Loom_look 31 = .ok (.iload_n 1, 1) := by decide +kernel
theorem d_Loom_look_32 : decode b_Loom_look 32 = .ok (.tableswitch 64 0 3 #[32, 40, 48, 56], 32) := by decide +kernel
theorem d_Loom_look_64 : decode b_Loom_look 64 = .ok (.aload_n 0, 1) := by decide +kernel
theorem d_Loom_look_65 : decode b_Loom_look 65 = .ok (.getfield 42, 3) := by decide +kernel
theorem d_Loom_look_68 : decode b_Loom_look 68 = .ok (.getfield 130, 3) := by decide +kernel
theorem d_Loom_look_71 : decode b_Loom_look 71 = .ok (.ireturn, 1) := by decide +kernel
theorem d_Loom_look_72 : decode b_Loom_look 72 = .ok (.aload_n 0, 1) := by decide +kernel
theorem d_Loom_look_73 : decode b_Loom_look 73 = .ok (.getfield 42, 3) := by decide +kernel
theorem d_Loom_look_76 : decode b_Loom_look 76 = .ok (.getfield 149, 3) := by decide +kernel
theorem d_Loom_look_79 : decode b_Loom_look 79 = .ok (.ireturn, 1) := by decide +kernel
theorem d_Loom_look_80 : decode b_Loom_look 80 = .ok (.aload_n 0, 1) := by decide +kernel
theorem d_Loom_look_81 : decode b_Loom_look 81 = .ok (.getfield 42, 3) := by decide +kernel
theorem d_Loom_look_84 : decode b_Loom_look 84 = .ok (.getfield 151, 3) := by decide +kernel
theorem d_Loom_look_87 : decode b_Loom_look 87 = .ok (.ireturn, 1) := by decide +kernel
theorem d_Loom_look_88 : decode b_Loom_look 88 = .ok (.aload_n 0, 1) := by decide +kernel
theorem d_Loom_look_89 : decode b_Loom_look 89 = .ok (.getfield 42, 3) := by decide +kernel
theorem d_Loom_look_92 : decode b_Loom_look 92 = .ok (.invokevirtual 154, 3) := by decide +kernel
theorem d_Loom_look_95 : decode b_Loom_look 95 = .ok (.ireturn, 1) := by decide +kernel
theorem d_Loom_look_96 : decode b_Loom_look 96 = .ok (.aload_n 0, 1) := by decide +kernel
theorem d_Loom_look_97 : decode b_Loom_look 97 = .ok (.getfield 42, 3) := by decide +kernel
theorem d_Loom_look_100 : decode b_Loom_look 100 = .ok (.getfield 158, 3) := by decide +kernel
theorem d_Loom_look_103 : decode b_Loom_look 103 = .ok (.ireturn, 1) := by decide +kernel
theorem d_Loom_act_0 : decode b_Loom_act 0 = .ok (.aload_n 0, 1) := by decide +kernel
theorem d_Loom_act_1 : decode b_Loom_act 1 = .ok (.getfield 42, 3) := by decide +kernel
theorem d_Loom_act_4 : decode b_Loom_act 4 = .ok (.getfield 130, 3) := by decide +kernel
theorem d_Loom_act_7 : decode b_Loom_act 7 = .ok (.ifCond .eq 18, 3) := by decide +kernel
theorem d_Loom_act_10 : decode b_Loom_act 10 = .ok (.iload_n 1, 1) := by decide +kernel
theorem d_Loom_act_11 : decode b_Loom_act 11 = .ok (.ifCond .lt 14, 3) := by decide +kernel
theorem d_Loom_act_14 : decode b_Loom_act 14 = .ok (.iload_n 1, 1) := by decide +kernel
theorem d_Loom_act_15 : decode b_Loom_act 15 = .ok (.aload_n 0, 1) := by decide +kernel
theorem d_Loom_act_16 : decode b_Loom_act 16 = .ok (.getfield 42, 3) := by decide +kernel
theorem d_Loom_act_19 : decode b_Loom_act 19 = .ok (.getfield 158, 3) := by decide +kernel
theorem d_Loom_act_22 : decode b_Loom_act 22 = .ok (.if_icmp .lt 13, 3) := by decide +kernel
theorem d_Loom_act_25 : decode b_Loom_act 25 = .ok (.new 64, 3) := by decide +kernel
theorem d_Loom_act_28 : decode b_Loom_act 28 = .ok (.dup, 1) := by decide +kernel
theorem d_Loom_act_29 : decode b_Loom_act 29 = .ok (.ldc 161, 2) := by decide +kernel
theorem d_Loom_act_31 : decode b_Loom_act 31 = .ok (.invokespecial 68, 3) := by decide +kernel
theorem d_Loom_act_34 : decode b_Loom_act 34 = .ok (.athrow, 1) := by decide +kernel
theorem d_Loom_act_35 : decode b_Loom_act 35 = .ok (.iload_n 2, 1) := by decide +kernel
theorem d_Loom_act_36 : decode b_Loom_act 36 = .ok (.ifCond .eq 15, 3) := by decide +kernel
theorem d_Loom_act_39 : decode b_Loom_act 39 = .ok (.aload_n 0, 1) := by decide +kernel
theorem d_Loom_act_40 : decode b_Loom_act 40 = .ok (.getfield 42, 3) := by decide +kernel
theorem d_Loom_act_43 : decode b_Loom_act 43 = .ok (.getfield 163, 3) := by decide +kernel
theorem d_Loom_act_46 : decode b_Loom_act 46 = .ok (.iload_n 1, 1) := by decide +kernel
theorem d_Loom_act_47 : decode b_Loom_act 47 = .ok (.iaload, 1) := by decide +kernel
theorem d_Loom_act_48 : decode b_Loom_act 48 = .ok (.goto 12, 3) := by decide +kernel
theorem d_Loom_act_51 : decode b_Loom_act 51 = .ok (.aload_n 0, 1) := by decide +kernel
theorem d_Loom_act_52 : decode b_Loom_act 52 = .ok (.getfield 42, 3) := by decide +kernel
theorem d_Loom_act_55 : decode b_Loom_act 55 = .ok (.getfield 166, 3) := by decide +kernel
theorem d_Loom_act_58 : decode b_Loom_act 58 = .ok (.iload_n 1, 1) := by decide +kernel
theorem d_Loom_act_59 : decode b_Loom_act 59 = .ok (.iaload, 1) := by decide +kernel
theorem d_Loom_act_60 : decode b_Loom_act 60 = .ok (.ireturn, 1) := by decide +kernel
theorem d_Loom_cell_0 : decode b_Loom_cell 0 = .ok (.iload_n 1, 1) := by decide +kernel
theorem d_Loom_cell_1 : decode b_Loom_cell 1 = .ok (.ifCond .lt 9, 3) := by decide +kernel
theorem d_Loom_cell_4 : decode b_Loom_cell 4 = .ok (.iload_n 1, 1) := by decide +kernel
theorem d_Loom_cell_5 : decode b_Loom_cell 5 = .ok (.bipush 8, 2) := by decide +kernel
theorem d_Loom_cell_7 : decode b_Loom_cell 7 = .ok (.if_icmp .lt 13, 3) := by decide +kernel
theorem d_Loom_cell_10 : decode b_Loom_cell 10 = .ok (.new 64, 3) := by decide +kernel
theorem d_Loom_cell_13 : decode b_Loom_cell 13 = .ok (.dup, 1) := by decide +kernel
theorem d_Loom_cell_14 : decode b_Loom_cell 14 = .ok (.ldc 169, 2) := by decide +kernel
theorem d_Loom_cell_16 : decode b_Loom_cell 16 = .ok (.invokespecial 68, 3) := by decide +kernel
theorem d_Loom_cell_19 : decode b_Loom_cell 19 = .ok (.athrow, 1) := by decide +kernel
theorem d_Loom_cell_20 : decode b_Loom_cell 20 = .ok (.aload_n 0, 1) := by decide +kernel
theorem d_Loom_cell_21 : decode b_Loom_cell 21 = .ok (.getfield 42, 3) := by decide +kernel
theorem d_Loom_cell_24 : decode b_Loom_cell 24 = .ok (.getfield 130, 3) := by decide +kernel
theorem d_Loom_cell_27 : decode b_Loom_cell 27 = .ok (.ifCond .ne 7, 3) := by decide +kernel
theorem d_Loom_cell_30 : decode b_Loom_cell 30 = .ok (.iconst 0, 1) := by decide +kernel
theorem d_Loom_cell_31 : decode b_Loom_cell 31 = .ok (.goto 12, 3) := by decide +kernel
theorem d_Loom_cell_34 : decode b_Loom_cell 34 = .ok (.aload_n 0, 1) := by decide +kernel
theorem d_Loom_cell_35 : decode b_Loom_cell 35 = .ok (.getfield 42, 3) := by decide +kernel
theorem d_Loom_cell_38 : decode b_Loom_cell 38 = .ok (.getfield 171, 3) := by decide +kernel
theorem d_Loom_cell_41 : decode b_Loom_cell 41 = .ok (.iload_n 1, 1) := by decide +kernel
theorem d_Loom_cell_42 : decode b_Loom_cell 42 = .ok (.iaload, 1) := by decide +kernel
theorem d_Loom_cell_43 : decode b_Loom_cell 43 = .ok (.ireturn, 1) := by decide +kernel
end
section
set_option maxHeartbeats 4000000 in
set_option maxRecDepth 100000 in
theorem c_Loom_code (l : Launch) (D : va_G) (cI cZ cL : ClassId) (t1 t2 : Nat) (x0 p0 p1 p2 h a1 a2 a3 e0 e1 e2 w w1 v v1 v2 r b1 b2 b3 b4 : Nat) (P K lo hi th F Qu fo f g sa ca ta tn : Nat → Int32) (np n qd z how stat pl q stt dn : Nat) (b ex wv : Bool) (x k : Int32) (hl0 : l.stackTraces = false) (hnp : np ≤ 24) : pl_TI l y_Loom_code b_Loom_code 3 .int ({ frames := 6, cells := 1, slots := 6, locals := 82 } : Room) (EX t1 t2) D classes (TY cI cZ cL) [.ref x0, .int x, .int k] [(x0, .inr (5, [.ref p0, .ref h, .ref e0, .ref w, .ref r, .int (bI (ex)), .int (bI (wv))])), (p0, .inr (0, [.ref p1, .ref p2, .int (nI np)])), (p1, .inl (cI, 24, .inl P)), (p2, .inl (cI, 24, .inl K)), (r, .inr (4, [.ref b1, .ref b2, .ref b3, .ref b4, .int (nI how), .int (nI stat), .int (nI pl), .int (nI q), .int (nI stt), .int (nI dn)])), (b1, .inl (cI, 14, .inl sa)), (b2, .inl (cI, 8, .inl ca)), (b3, .inl (cI, 60, .inl ta)), (b4, .inl (cI, 60, .inl tn))] (fun (r : Int32) (_ : Unit) => r = nI np ∧ inB x 13 = true ∧ np < 24) (fun (_ : Unit) => [(x0, .inr (5, [.ref p0, .ref h, .ref e0, .ref w, .ref r, .int (bI (false)), .int (bI (false))])), (p0, .inr (0, [.ref p1, .ref p2, .int (nI (np + 1))])), (p1, .inl (cI, 24, .inl (upd P np x))), (p2, .inl (cI, 24, .inl (upd K np k))), (r, .inr (4, [.ref b1, .ref b2, .ref b3, .ref b4, .int (nI how), .int (nI 0), .int (nI pl), .int (nI q), .int (nI stt), .int (nI dn)])), (b1, .inl (cI, 14, .inl sa)), (b2, .inl (cI, 8, .inl ca)), (b3, .inl (cI, 60, .inl ta)), (b4, .inl (cI, 60, .inl tn))]) (fun (Nm : String) (_ : Unit) => (Nm = iaeS ∧ inB x 13 = false) ∨ (Nm = iobS ∧ inB x 13 = true ∧ np = 24)) (fun (_ : Unit) => [(x0, .inr (5, [.ref p0, .ref h, .ref e0, .ref w, .ref r, .int (bI (ex)), .int (bI (wv))])), (p0, .inr (0, [.ref p1, .ref p2, .int (nI np)])), (p1, .inl (cI, 24, .inl P)), (p2, .inl (cI, 24, .inl K)), (r, .inr (4, [.ref b1, .ref b2, .ref b3, .ref b4, .int (nI how), .int (nI stat), .int (nI pl), .int (nI q), .int (nI stt), .int (nI dn)])), (b1, .inl (cI, 14, .inl sa)), (b2, .inl (cI, 8, .inl ca)), (b3, .inl (cI, 60, .inl ta)), (b4, .inl (cI, 60, .inl tn))]) := by
  refine pl_startTI (by decide) (Nat.le_of_ble_eq_true rfl) ?_
  intro p e s m args below meth c A ls X hr hlk hno hK hP hD hS hA hE hl
  have X : CallFix p m c b_Loom_code 3 s args TG R_Loom := X
  have hx := X.1
  have hb := X.2.1
  have hl : lv_has ls 3 [(0, .ref x0), (1, .int x), (2, .int k)] := hl
  refine lv_iload_n hx hb d_Loom_code_0 rfl (lv_at hl 1 rfl) ?_
  refine lv_if_lt hx hb d_Loom_code_1 rfl (fun g1 => ?_) (fun g1 => ?_)
  · skip
    exact pl_throw (is := 55) (text := "no operation") X hl0 xw_iaeS hE (by decide +kernel) hno hlk hK () (Or.inl ⟨rfl, inB_lo g1⟩) hP hD hS hl.1 d_Loom_code_10 d_Loom_code_13 d_Loom_code_14 d_Loom_code_16 d_Loom_code_19 (by decide) (Nat.le_of_ble_eq_true rfl) (by decide) (by decide) (by decide) (by decide)
  · skip
    refine lv_iload_n hx hb d_Loom_code_4 rfl (lv_at hl 1 rfl) ?_
    refine lv_bipush (v := nI 12) hx hb d_Loom_code_5 (by decide) ?_
    refine lv_icmp_le hx hb d_Loom_code_7 rfl (fun g7 => ?_) (fun g7 => ?_)
    · skip
      refine lv_aload_n hx hb d_Loom_code_20 rfl (lv_at hl 0 rfl) ?_
      refine pl_get X fw_Loom_14 hK hP 0 rfl (v := .ref p0) rfl d_Loom_code_21 ?_
      refine pl_get X fw_Loom_60 hK hP 1 rfl (v := .int (nI np)) rfl d_Loom_code_24 ?_
      refine lv_bipush (v := nI 24) hx hb d_Loom_code_27 (by decide) ?_
      refine pl_icmp_lt X (by omega) (by decide) d_Loom_code_29 rfl (fun g29 => ?_) (fun g29 => ?_)
      · skip
        refine lv_aload_n hx hb d_Loom_code_42 rfl (lv_at hl 0 rfl) ?_
        refine pl_callVV X (rest := []) (As := []) (b := x0) (c_Loom_forgetWhatHungOnProgram l D cI cZ cL x0 p0 p1 p2 h a1 a2 a3 e0 e1 e2 w w1 v v1 v2 r b1 b2 b3 b4 P K lo hi th F Qu fo f g sa ca ta tn np n qd z how stat pl q stt dn b ex wv ) ck_Loom_69 pl_E0_ok trivial hK hP hD hS hA (T := F_Loom) (N := N_Loom) (ci := 5) rfl 0 rfl [0, 4, 5, 6, 7, 8] [1, 2, 3] [3, 0, 1, 2, 4, 5, 6, 7, 8] rfl (by decide) (wr := [(p0, .inr (0, [.ref p1, .ref p2, .int (nI np)])), (p1, .inl (cI, 24, .inl P)), (p2, .inl (cI, 24, .inl K))]) rfl (by decide) (by decide) (wf := fun _ => [(x0, .inr (5, [.ref p0, .ref h, .ref e0, .ref w, .ref r, .int (bI (false)), .int (bI (false))])), (p0, .inr (0, [.ref p1, .ref p2, .int (nI np)])), (p1, .inl (cI, 24, .inl P)), (p2, .inl (cI, 24, .inl K)), (r, .inr (4, [.ref b1, .ref b2, .ref b3, .ref b4, .int (nI how), .int (nI 0), .int (nI pl), .int (nI q), .int (nI stt), .int (nI dn)])), (b1, .inl (cI, 14, .inl sa)), (b2, .inl (cI, 8, .inl ca)), (b3, .inl (cI, 60, .inl ta)), (b4, .inl (cI, 60, .inl tn))]) (fun _ => rfl) (by decide) rfl hl.1 rfl (Nat.le_of_ble_eq_true rfl) (by decide) (by decide) d_Loom_code_43 (fun u0 H locs hcq hP hD hS => ?_)
        refine lv_aload_n hx hb d_Loom_code_46 rfl (lv_at hl 0 rfl) ?_
        refine pl_get X fw_Loom_14 hK hP 0 rfl (v := .ref p0) rfl d_Loom_code_47 ?_
        refine lv_iload_n hx hb d_Loom_code_50 rfl (lv_at hl 1 rfl) ?_
        refine lv_iload_n hx hb d_Loom_code_51 rfl (lv_at hl 2 rfl) ?_
        refine pl_callVV X (rest := []) (As := [.int x, .int k]) (b := p0) (c_Listing_append l D cI cZ cL p0 p1 p2 24 np P K x k (by decide) g29) ck_Loom_72 pl_E0_ok trivial hK hP hD hS hA (T := F_Listing) (N := N_Listing) (ci := 0) rfl 1 rfl [1, 2, 3] [0, 4, 5, 6, 7, 8] [0, 6, 7, 8, 1, 2, 3, 4, 5] rfl (by decide) (wr := [(x0, .inr (5, [.ref p0, .ref h, .ref e0, .ref w, .ref r, .int (bI (false)), .int (bI (false))])), (r, .inr (4, [.ref b1, .ref b2, .ref b3, .ref b4, .int (nI how), .int (nI 0), .int (nI pl), .int (nI q), .int (nI stt), .int (nI dn)])), (b1, .inl (cI, 14, .inl sa)), (b2, .inl (cI, 8, .inl ca)), (b3, .inl (cI, 60, .inl ta)), (b4, .inl (cI, 60, .inl tn))]) rfl (by decide) (by decide) (wf := fun _ => [(x0, .inr (5, [.ref p0, .ref h, .ref e0, .ref w, .ref r, .int (bI (false)), .int (bI (false))])), (p0, .inr (0, [.ref p1, .ref p2, .int (nI (np + 1))])), (p1, .inl (cI, 24, .inl (upd P np x))), (p2, .inl (cI, 24, .inl (upd K np k))), (r, .inr (4, [.ref b1, .ref b2, .ref b3, .ref b4, .int (nI how), .int (nI 0), .int (nI pl), .int (nI q), .int (nI stt), .int (nI dn)])), (b1, .inl (cI, 14, .inl sa)), (b2, .inl (cI, 8, .inl ca)), (b3, .inl (cI, 60, .inl ta)), (b4, .inl (cI, 60, .inl tn))]) (fun _ => rfl) (by decide) rfl hl.1 rfl (Nat.le_of_ble_eq_true rfl) (by decide) (by decide) d_Loom_code_52 (fun u0 H locs hcq hP hD hS => ?_)
        refine lv_aload_n hx hb d_Loom_code_55 rfl (lv_at hl 0 rfl) ?_
        refine pl_get X fw_Loom_14 hK hP 0 rfl (v := .ref p0) rfl d_Loom_code_56 ?_
        refine pl_get X fw_Loom_60 hK hP 1 rfl (v := .int (nI (np + 1))) rfl d_Loom_code_59 ?_
        refine lv_iconst (v := nI 1) hx hb d_Loom_code_62 (by decide) ?_
        refine pl_isub X d_Loom_code_63 (z := nI np) (nI_dec _) ?_
        exact pl_iretT X hr hlk hK rfl () ⟨rfl, inB_le_t (by omega) g1 g7, g29⟩ hP hD hS (by decide) (by decide) d_Loom_code_64
      · skip
        exact pl_throw (is := 66) (text := "the program has all its instructions") X hl0 xw_iobS hE (by decide +kernel) hno hlk hK () (Or.inr ⟨rfl, inB_le_t (by omega) g1 g7, by omega⟩) hP hD hS hl.1 d_Loom_code_32 d_Loom_code_35 d_Loom_code_36 d_Loom_code_38 d_Loom_code_41 (by decide) (Nat.le_of_ble_eq_true rfl) (by decide) (by decide) (by decide) (by decide)
    · skip
      exact pl_throw (is := 55) (text := "no operation") X hl0 xw_iaeS hE (by decide +kernel) hno hlk hK () (Or.inl ⟨rfl, inB_le_f (by omega) g7⟩) hP hD hS hl.1 d_Loom_code_10 d_Loom_code_13 d_Loom_code_14 d_Loom_code_16 d_Loom_code_19 (by decide) (Nat.le_of_ble_eq_true rfl) (by decide) (by decide) (by decide) (by decide)

set_option maxHeartbeats 4000000 in
set_option maxRecDepth 100000 in
theorem c_Loom_states (l : Launch) (D : va_G) (cI cZ cL : ClassId) (t1 t2 : Nat) (x0 p0 p1 p2 h a1 a2 a3 e0 e1 e2 w w1 v v1 v2 r b1 b2 b3 b4 : Nat) (P K lo hi th F Qu fo f g sa ca ta tn : Nat → Int32) (np n qd z how stat pl q stt dn : Nat) (b ex wv : Bool) (x : Int32) (hl0 : l.stackTraces = false)  : pl_TV l y_Loom_states b_Loom_states 2 ({ frames := 6, cells := 1, slots := 6, locals := 82 } : Room) (EX t1 t2) D classes (TY cI cZ cL) [.ref x0, .int x] [(x0, .inr (5, [.ref p0, .ref h, .ref e0, .ref w, .ref r, .int (bI (ex)), .int (bI (wv))])), (h, .inr (1, [.ref a1, .ref a2, .ref a3, .int (nI n)])), (a1, .inl (cI, 32, .inl lo)), (a2, .inl (cI, 32, .inl hi)), (a3, .inl (cI, 32, .inl th)), (r, .inr (4, [.ref b1, .ref b2, .ref b3, .ref b4, .int (nI how), .int (nI stat), .int (nI pl), .int (nI q), .int (nI stt), .int (nI dn)])), (b1, .inl (cI, 14, .inl sa)), (b2, .inl (cI, 8, .inl ca)), (b3, .inl (cI, 60, .inl ta)), (b4, .inl (cI, 60, .inl tn))] (fun (u : Nat) => x = nI u ∧ 1 ≤ u ∧ u ≤ 4) (fun (u : Nat) => [(x0, .inr (5, [.ref p0, .ref h, .ref e0, .ref w, .ref r, .int (bI (ex)), .int (bI (false))])), (h, .inr (1, [.ref a1, .ref a2, .ref a3, .int (nI u)])), (a1, .inl (cI, 32, .inl lo)), (a2, .inl (cI, 32, .inl hi)), (a3, .inl (cI, 32, .inl (fun _ => -1))), (r, .inr (4, [.ref b1, .ref b2, .ref b3, .ref b4, .int (nI how), .int (nI 0), .int (nI pl), .int (nI q), .int (nI stt), .int (nI dn)])), (b1, .inl (cI, 14, .inl sa)), (b2, .inl (cI, 8, .inl ca)), (b3, .inl (cI, 60, .inl ta)), (b4, .inl (cI, 60, .inl tn))]) (fun (Nm : String) (_ : Unit) => Nm = iaeS ∧ in14 x = false) (fun (_ : Unit) => [(x0, .inr (5, [.ref p0, .ref h, .ref e0, .ref w, .ref r, .int (bI (ex)), .int (bI (wv))])), (h, .inr (1, [.ref a1, .ref a2, .ref a3, .int (nI n)])), (a1, .inl (cI, 32, .inl lo)), (a2, .inl (cI, 32, .inl hi)), (a3, .inl (cI, 32, .inl th)), (r, .inr (4, [.ref b1, .ref b2, .ref b3, .ref b4, .int (nI how), .int (nI stat), .int (nI pl), .int (nI q), .int (nI stt), .int (nI dn)])), (b1, .inl (cI, 14, .inl sa)), (b2, .inl (cI, 8, .inl ca)), (b3, .inl (cI, 60, .inl ta)), (b4, .inl (cI, 60, .inl tn))]) := by
  refine pl_startTV (by decide) (Nat.le_of_ble_eq_true rfl) ?_
  intro p e s m args below meth c A ls X hr hlk hno hK hP hD hS hA hE hl
  have X : CallFix p m c b_Loom_states 2 s args TG R_Loom := X
  have hx := X.1
  have hb := X.2.1
  have hl : lv_has ls 2 [(0, .ref x0), (1, .int x)] := hl
  refine lv_iload_n hx hb d_Loom_states_0 rfl (lv_at hl 1 rfl) ?_
  refine lv_iconst (v := nI 1) hx hb d_Loom_states_1 (by decide) ?_
  refine lv_icmp_lt hx hb d_Loom_states_2 rfl (fun g2 => ?_) (fun g2 => ?_)
  · skip
    exact pl_throw (is := 76) (text := "no such number of states") X hl0 xw_iaeS hE (by decide +kernel) hno hlk hK () ⟨rfl, in14_lo g2⟩ hP hD hS hl.1 d_Loom_states_10 d_Loom_states_13 d_Loom_states_14 d_Loom_states_16 d_Loom_states_19 (by decide) (Nat.le_of_ble_eq_true rfl) (by decide) (by decide) (by decide) (by decide)
  · skip
    refine lv_iload_n hx hb d_Loom_states_5 rfl (lv_at hl 1 rfl) ?_
    refine lv_iconst (v := nI 4) hx hb d_Loom_states_6 (by decide) ?_
    refine lv_icmp_le hx hb d_Loom_states_7 rfl (fun g7 => ?_) (fun g7 => ?_)
    · skip
      obtain ⟨j, hj1, hj2, hxj⟩ := in14_of (in14_in g2 g7)
      have hl : lv_has ls 2 [(0, .ref x0), (1, .int (nI j))] := by rw [← hxj]; exact hl
      refine lv_aload_n hx hb d_Loom_states_20 rfl (lv_at hl 0 rfl) ?_
      refine pl_callVV X (rest := []) (As := []) (b := x0) (c_Loom_forgetWhatHungOnAutomaton l D cI cZ cL x0 p0 p1 p2 h a1 a2 a3 e0 e1 e2 w w1 v v1 v2 r b1 b2 b3 b4 P K lo hi th F Qu fo f g sa ca ta tn np n qd z how stat pl q stt dn b ex wv ) ck_Loom_78 pl_E0_ok trivial hK hP hD hS hA (T := F_Loom) (N := N_Loom) (ci := 5) rfl 0 rfl [0, 5, 6, 7, 8, 9] [1, 2, 3, 4] [4, 0, 1, 2, 3, 5, 6, 7, 8, 9] rfl (by decide) (wr := [(h, .inr (1, [.ref a1, .ref a2, .ref a3, .int (nI n)])), (a1, .inl (cI, 32, .inl lo)), (a2, .inl (cI, 32, .inl hi)), (a3, .inl (cI, 32, .inl th))]) rfl (by decide) (by decide) (wf := fun _ => [(x0, .inr (5, [.ref p0, .ref h, .ref e0, .ref w, .ref r, .int (bI (ex)), .int (bI (false))])), (h, .inr (1, [.ref a1, .ref a2, .ref a3, .int (nI n)])), (a1, .inl (cI, 32, .inl lo)), (a2, .inl (cI, 32, .inl hi)), (a3, .inl (cI, 32, .inl th)), (r, .inr (4, [.ref b1, .ref b2, .ref b3, .ref b4, .int (nI how), .int (nI 0), .int (nI pl), .int (nI q), .int (nI stt), .int (nI dn)])), (b1, .inl (cI, 14, .inl sa)), (b2, .inl (cI, 8, .inl ca)), (b3, .inl (cI, 60, .inl ta)), (b4, .inl (cI, 60, .inl tn))]) (fun _ => rfl) (by decide) rfl hl.1 rfl (Nat.le_of_ble_eq_true rfl) (by decide) (by decide) d_Loom_states_21 (fun u0 H locs hcq hP hD hS => ?_)
      refine lv_aload_n hx hb d_Loom_states_24 rfl (lv_at hl 0 rfl) ?_
      refine pl_get X fw_Loom_21 hK hP 0 rfl (v := .ref h) rfl d_Loom_states_25 ?_
      refine lv_iload_n hx hb d_Loom_states_28 rfl (lv_at hl 1 rfl) ?_
      refine pl_callVV X (rest := []) (As := [.int (nI j)]) (b := h) (c_Automaton_reset l D cI cZ cL h a1 a2 a3 n lo hi th j) ck_Loom_81 pl_E0_ok trivial hK hP hD hS hA (T := F_Automaton) (N := N_Automaton) (ci := 1) rfl 1 rfl [1, 2, 3, 4] [0, 5, 6, 7, 8, 9] [0, 6, 7, 8, 9, 1, 2, 3, 4, 5] rfl (by decide) (wr := [(x0, .inr (5, [.ref p0, .ref h, .ref e0, .ref w, .ref r, .int (bI (ex)), .int (bI (false))])), (r, .inr (4, [.ref b1, .ref b2, .ref b3, .ref b4, .int (nI how), .int (nI 0), .int (nI pl), .int (nI q), .int (nI stt), .int (nI dn)])), (b1, .inl (cI, 14, .inl sa)), (b2, .inl (cI, 8, .inl ca)), (b3, .inl (cI, 60, .inl ta)), (b4, .inl (cI, 60, .inl tn))]) rfl (by decide) (by decide) (wf := fun _ => [(x0, .inr (5, [.ref p0, .ref h, .ref e0, .ref w, .ref r, .int (bI (ex)), .int (bI (false))])), (h, .inr (1, [.ref a1, .ref a2, .ref a3, .int (nI j)])), (a1, .inl (cI, 32, .inl lo)), (a2, .inl (cI, 32, .inl hi)), (a3, .inl (cI, 32, .inl (fun _ => -1))), (r, .inr (4, [.ref b1, .ref b2, .ref b3, .ref b4, .int (nI how), .int (nI 0), .int (nI pl), .int (nI q), .int (nI stt), .int (nI dn)])), (b1, .inl (cI, 14, .inl sa)), (b2, .inl (cI, 8, .inl ca)), (b3, .inl (cI, 60, .inl ta)), (b4, .inl (cI, 60, .inl tn))]) (fun _ => rfl) (by decide) rfl hl.1 rfl (Nat.le_of_ble_eq_true rfl) (by decide) (by decide) d_Loom_states_29 (fun u0 H locs hcq hP hD hS => ?_)
      exact pl_vretT X hr hlk hK j ⟨hxj, hj1, hj2⟩ hP hD hS (by decide) (by decide) d_Loom_states_32
    · skip
      exact pl_throw (is := 76) (text := "no such number of states") X hl0 xw_iaeS hE (by decide +kernel) hno hlk hK () ⟨rfl, in14_hi g7⟩ hP hD hS hl.1 d_Loom_states_10 d_Loom_states_13 d_Loom_states_14 d_Loom_states_16 d_Loom_states_19 (by decide) (Nat.le_of_ble_eq_true rfl) (by decide) (by decide) (by decide) (by decide)

set_option maxHeartbeats 4000000 in
set_option maxRecDepth 100000 in
theorem c_Loom_rule (l : Launch) (D : va_G) (cI cZ cL : ClassId) (t1 t2 : Nat) (x0 p0 p1 p2 h a1 a2 a3 e0 e1 e2 w w1 v v1 v2 r b1 b2 b3 b4 : Nat) (P K lo hi th F Qu fo f g sa ca ta tn : Nat → Int32) (np n qd z how stat pl q stt dn : Nat) (b ex wv : Bool) (x1 x2 x3 x4 x5 : Int32) (hl0 : l.stackTraces = false) (hn : n ≤ 4) : pl_TV l y_Loom_rule b_Loom_rule 6 ({ frames := 6, cells := 1, slots := 6, locals := 82 } : Room) (EX t1 t2) D classes (TY cI cZ cL) [.ref x0, .int x1, .int x2, .int x3, .int x4, .int x5] [(x0, .inr (5, [.ref p0, .ref h, .ref e0, .ref w, .ref r, .int (bI (ex)), .int (bI (wv))])), (h, .inr (1, [.ref a1, .ref a2, .ref a3, .int (nI n)])), (a1, .inl (cI, 32, .inl lo)), (a2, .inl (cI, 32, .inl hi)), (a3, .inl (cI, 32, .inl th)), (r, .inr (4, [.ref b1, .ref b2, .ref b3, .ref b4, .int (nI how), .int (nI stat), .int (nI pl), .int (nI q), .int (nI stt), .int (nI dn)])), (b1, .inl (cI, 14, .inl sa)), (b2, .inl (cI, 8, .inl ca)), (b3, .inl (cI, 60, .inl ta)), (b4, .inl (cI, 60, .inl tn))] (fun (u : Nat × Nat × Nat) => x1 = nI u.1 ∧ u.1 < n ∧ x2 = nI u.2.1 ∧ u.2.1 < 8 ∧ x5 = nI u.2.2 ∧ u.2.2 < n ∧ ruleOk n x1 x2 x3 x4 x5 = true) (fun (u : (Nat × Nat × Nat)) => [(x0, .inr (5, [.ref p0, .ref h, .ref e0, .ref w, .ref r, .int (bI (ex)), .int (bI (false))])), (h, .inr (1, [.ref a1, .ref a2, .ref a3, .int (nI n)])), (a1, .inl (cI, 32, .inl (upd lo (u.1 * 8 + u.2.1) x3))), (a2, .inl (cI, 32, .inl (upd hi (u.1 * 8 + u.2.1) x4))), (a3, .inl (cI, 32, .inl (upd th (u.1 * 8 + u.2.1) (nI u.2.2)))), (r, .inr (4, [.ref b1, .ref b2, .ref b3, .ref b4, .int (nI how), .int (nI 0), .int (nI pl), .int (nI q), .int (nI stt), .int (nI dn)])), (b1, .inl (cI, 14, .inl sa)), (b2, .inl (cI, 8, .inl ca)), (b3, .inl (cI, 60, .inl ta)), (b4, .inl (cI, 60, .inl tn))]) (fun (Nm : String) (_ : Unit) => Nm = iaeS ∧ ruleOk n x1 x2 x3 x4 x5 = false) (fun (_ : Unit) => [(x0, .inr (5, [.ref p0, .ref h, .ref e0, .ref w, .ref r, .int (bI (ex)), .int (bI (wv))])), (h, .inr (1, [.ref a1, .ref a2, .ref a3, .int (nI n)])), (a1, .inl (cI, 32, .inl lo)), (a2, .inl (cI, 32, .inl hi)), (a3, .inl (cI, 32, .inl th)), (r, .inr (4, [.ref b1, .ref b2, .ref b3, .ref b4, .int (nI how), .int (nI stat), .int (nI pl), .int (nI q), .int (nI stt), .int (nI dn)])), (b1, .inl (cI, 14, .inl sa)), (b2, .inl (cI, 8, .inl ca)), (b3, .inl (cI, 60, .inl ta)), (b4, .inl (cI, 60, .inl tn))]) := by
  refine pl_startTV (by decide) (Nat.le_of_ble_eq_true rfl) ?_
  intro p e s m args below meth c A ls X hr hlk hno hK hP hD hS hA hE hl
  have X : CallFix p m c b_Loom_rule 6 s args TG R_Loom := X
  have hx := X.1
  have hb := X.2.1
  have hl : lv_has ls 6 [(0, .ref x0), (1, .int x1), (2, .int x2), (3, .int x3), (4, .int x4), (5, .int x5)] := hl
  refine lv_aload_n hx hb d_Loom_rule_0 rfl (lv_at hl 0 rfl) ?_
  refine pl_get X fw_Loom_21 hK hP 0 rfl (v := .ref h) rfl d_Loom_rule_1 ?_
  refine lv_iload_n hx hb d_Loom_rule_4 rfl (lv_at hl 1 rfl) ?_
  refine pl_callVI X (rest := []) (As := [.int x1]) (b := h) (c_Automaton_hasState l D cI cZ cL h a1 a2 a3 n lo hi th x1 (by omega)) ck_Loom_84 pl_E0_ok trivial hK hP hD hS hA (T := F_Automaton) (N := N_Automaton) (ci := 1) rfl 1 rfl [1, 2, 3, 4] [0, 5, 6, 7, 8, 9] [0, 6, 7, 8, 9, 1, 2, 3, 4, 5] rfl (by decide) (wr := [(x0, .inr (5, [.ref p0, .ref h, .ref e0, .ref w, .ref r, .int (bI (ex)), .int (bI (wv))])), (r, .inr (4, [.ref b1, .ref b2, .ref b3, .ref b4, .int (nI how), .int (nI stat), .int (nI pl), .int (nI q), .int (nI stt), .int (nI dn)])), (b1, .inl (cI, 14, .inl sa)), (b2, .inl (cI, 8, .inl ca)), (b3, .inl (cI, 60, .inl ta)), (b4, .inl (cI, 60, .inl tn))]) rfl (by decide) (by decide) (wf := fun _ => [(x0, .inr (5, [.ref p0, .ref h, .ref e0, .ref w, .ref r, .int (bI (ex)), .int (bI (wv))])), (h, .inr (1, [.ref a1, .ref a2, .ref a3, .int (nI n)])), (a1, .inl (cI, 32, .inl lo)), (a2, .inl (cI, 32, .inl hi)), (a3, .inl (cI, 32, .inl th)), (r, .inr (4, [.ref b1, .ref b2, .ref b3, .ref b4, .int (nI how), .int (nI stat), .int (nI pl), .int (nI q), .int (nI stt), .int (nI dn)])), (b1, .inl (cI, 14, .inl sa)), (b2, .inl (cI, 8, .inl ca)), (b3, .inl (cI, 60, .inl ta)), (b4, .inl (cI, 60, .inl tn))]) (fun _ => rfl) (by decide) rfl hl.1 rfl (Nat.le_of_ble_eq_true rfl) (by decide) (by decide) d_Loom_rule_5 (fun r u0 H locs hcq hP hD hS => ?_)
  subst hcq
  refine pl_ifB_eq X d_Loom_rule_8 rfl (fun g8 => ?_) (fun g8 => ?_)
  · skip
    exact pl_throw (is := 88) (text := "no state") X hl0 xw_iaeS hE (by decide +kernel) hno hlk hK () ⟨rfl, by unfold ruleOk; rw [g8]; rfl⟩ hP hD hS hl.1 d_Loom_rule_23 d_Loom_rule_26 d_Loom_rule_27 d_Loom_rule_29 d_Loom_rule_32 (by decide) (Nat.le_of_ble_eq_true rfl) (by decide) (by decide) (by decide) (by decide)
  · skip
    refine lv_aload_n hx hb d_Loom_rule_11 rfl (lv_at hl 0 rfl) ?_
    refine pl_get X fw_Loom_21 hK hP 0 rfl (v := .ref h) rfl d_Loom_rule_12 ?_
    refine lv_iload hx hb d_Loom_rule_15 (lv_at hl 5 rfl) ?_
    refine pl_callVI X (rest := []) (As := [.int x5]) (b := h) (c_Automaton_hasState l D cI cZ cL h a1 a2 a3 n lo hi th x5 (by omega)) ck_Loom_84 pl_E0_ok trivial hK hP hD hS hA (T := F_Automaton) (N := N_Automaton) (ci := 1) rfl 1 rfl [1, 2, 3, 4] [0, 5, 6, 7, 8, 9] [0, 6, 7, 8, 9, 1, 2, 3, 4, 5] rfl (by decide) (wr := [(x0, .inr (5, [.ref p0, .ref h, .ref e0, .ref w, .ref r, .int (bI (ex)), .int (bI (wv))])), (r, .inr (4, [.ref b1, .ref b2, .ref b3, .ref b4, .int (nI how), .int (nI stat), .int (nI pl), .int (nI q), .int (nI stt), .int (nI dn)])), (b1, .inl (cI, 14, .inl sa)), (b2, .inl (cI, 8, .inl ca)), (b3, .inl (cI, 60, .inl ta)), (b4, .inl (cI, 60, .inl tn))]) rfl (by decide) (by decide) (wf := fun _ => [(x0, .inr (5, [.ref p0, .ref h, .ref e0, .ref w, .ref r, .int (bI (ex)), .int (bI (wv))])), (h, .inr (1, [.ref a1, .ref a2, .ref a3, .int (nI n)])), (a1, .inl (cI, 32, .inl lo)), (a2, .inl (cI, 32, .inl hi)), (a3, .inl (cI, 32, .inl th)), (r, .inr (4, [.ref b1, .ref b2, .ref b3, .ref b4, .int (nI how), .int (nI stat), .int (nI pl), .int (nI q), .int (nI stt), .int (nI dn)])), (b1, .inl (cI, 14, .inl sa)), (b2, .inl (cI, 8, .inl ca)), (b3, .inl (cI, 60, .inl ta)), (b4, .inl (cI, 60, .inl tn))]) (fun _ => rfl) (by decide) rfl hl.1 rfl (Nat.le_of_ble_eq_true rfl) (by decide) (by decide) d_Loom_rule_17 (fun r u0 H locs hcq hP hD hS => ?_)
    subst hcq
    refine pl_ifB_ne X d_Loom_rule_20 rfl (fun g20 => ?_) (fun g20 => ?_)
    · skip
      refine lv_iload_n hx hb d_Loom_rule_33 rfl (lv_at hl 2 rfl) ?_
      refine lv_if_lt hx hb d_Loom_rule_34 rfl (fun g34 => ?_) (fun g34 => ?_)
      · skip
        exact pl_throw (is := 90) (text := "no act") X hl0 xw_iaeS hE (by decide +kernel) hno hlk hK () ⟨rfl, by unfold ruleOk; rw [inB_lo g34]; simp⟩ hP hD hS hl.1 d_Loom_rule_43 d_Loom_rule_46 d_Loom_rule_47 d_Loom_rule_49 d_Loom_rule_52 (by decide) (Nat.le_of_ble_eq_true rfl) (by decide) (by decide) (by decide) (by decide)
      · skip
        refine lv_iload_n hx hb d_Loom_rule_37 rfl (lv_at hl 2 rfl) ?_
        refine lv_bipush (v := nI 8) hx hb d_Loom_rule_38 (by decide) ?_
        refine lv_icmp_lt hx hb d_Loom_rule_40 rfl (fun g40 => ?_) (fun g40 => ?_)
        · skip
          refine lv_iload hx hb d_Loom_rule_53 (lv_at hl 4 rfl) ?_
          refine lv_iload_n hx hb d_Loom_rule_55 rfl (lv_at hl 3 rfl) ?_
          refine lv_icmp_ge hx hb d_Loom_rule_56 rfl (fun g56 => ?_) (fun g56 => ?_)
          · skip
            obtain ⟨fr, hf1, hf2⟩ := inB_of (by omega) g8
            obtain ⟨tw, hw1, hw2⟩ := inB_of (by omega) g20
            have ga := inB_in (n := 8) (by omega) g34 (i_nle.mpr g40)
            obtain ⟨ac, ha1, ha2⟩ := inB_of (by omega) ga
            have hok : ruleOk n x1 x2 x3 x4 x5 = true := by unfold ruleOk; rw [g8, g20, ga, decide_eq_true g56]; rfl
            have hl : lv_has ls 6 [(0, .ref x0), (1, .int (nI fr)), (2, .int (nI ac)), (3, .int x3), (4, .int x4), (5, .int (nI tw))] := by rw [← hf2, ← ha2, ← hw2]; exact hl
            refine lv_aload_n hx hb d_Loom_rule_69 rfl (lv_at hl 0 rfl) ?_
            refine pl_callVV X (rest := []) (As := []) (b := x0) (c_Loom_forgetWhatHungOnAutomaton l D cI cZ cL x0 p0 p1 p2 h a1 a2 a3 e0 e1 e2 w w1 v v1 v2 r b1 b2 b3 b4 P K lo hi th F Qu fo f g sa ca ta tn np n qd z how stat pl q stt dn b ex wv ) ck_Loom_78 pl_E0_ok trivial hK hP hD hS hA (T := F_Loom) (N := N_Loom) (ci := 5) rfl 0 rfl [0, 5, 6, 7, 8, 9] [1, 2, 3, 4] [4, 0, 1, 2, 3, 5, 6, 7, 8, 9] rfl (by decide) (wr := [(h, .inr (1, [.ref a1, .ref a2, .ref a3, .int (nI n)])), (a1, .inl (cI, 32, .inl lo)), (a2, .inl (cI, 32, .inl hi)), (a3, .inl (cI, 32, .inl th))]) rfl (by decide) (by decide) (wf := fun _ => [(x0, .inr (5, [.ref p0, .ref h, .ref e0, .ref w, .ref r, .int (bI (ex)), .int (bI (false))])), (h, .inr (1, [.ref a1, .ref a2, .ref a3, .int (nI n)])), (a1, .inl (cI, 32, .inl lo)), (a2, .inl (cI, 32, .inl hi)), (a3, .inl (cI, 32, .inl th)), (r, .inr (4, [.ref b1, .ref b2, .ref b3, .ref b4, .int (nI how), .int (nI 0), .int (nI pl), .int (nI q), .int (nI stt), .int (nI dn)])), (b1, .inl (cI, 14, .inl sa)), (b2, .inl (cI, 8, .inl ca)), (b3, .inl (cI, 60, .inl ta)), (b4, .inl (cI, 60, .inl tn))]) (fun _ => rfl) (by decide) rfl hl.1 rfl (Nat.le_of_ble_eq_true rfl) (by decide) (by decide) d_Loom_rule_70 (fun u0 H locs hcq hP hD hS => ?_)
            refine lv_aload_n hx hb d_Loom_rule_73 rfl (lv_at hl 0 rfl) ?_
            refine pl_get X fw_Loom_21 hK hP 0 rfl (v := .ref h) rfl d_Loom_rule_74 ?_
            refine lv_iload_n hx hb d_Loom_rule_77 rfl (lv_at hl 1 rfl) ?_
            refine lv_iload_n hx hb d_Loom_rule_78 rfl (lv_at hl 2 rfl) ?_
            refine pl_callSI X (rest := [.ref h]) (As := [.int (nI fr), .int (nI ac)]) (c_Automaton_place l D cI cZ cL fr ac) ck_Loom_94 pl_E0_ok trivial hK hP hD hS hA [] [0, 1, 2, 3, 4, 5, 6, 7, 8, 9] [0, 1, 2, 3, 4, 5, 6, 7, 8, 9] rfl (by decide) (wr := [(x0, .inr (5, [.ref p0, .ref h, .ref e0, .ref w, .ref r, .int (bI (ex)), .int (bI (false))])), (h, .inr (1, [.ref a1, .ref a2, .ref a3, .int (nI n)])), (a1, .inl (cI, 32, .inl lo)), (a2, .inl (cI, 32, .inl hi)), (a3, .inl (cI, 32, .inl th)), (r, .inr (4, [.ref b1, .ref b2, .ref b3, .ref b4, .int (nI how), .int (nI 0), .int (nI pl), .int (nI q), .int (nI stt), .int (nI dn)])), (b1, .inl (cI, 14, .inl sa)), (b2, .inl (cI, 8, .inl ca)), (b3, .inl (cI, 60, .inl ta)), (b4, .inl (cI, 60, .inl tn))]) rfl (by decide) (by decide) (wf := fun _ => [(x0, .inr (5, [.ref p0, .ref h, .ref e0, .ref w, .ref r, .int (bI (ex)), .int (bI (false))])), (h, .inr (1, [.ref a1, .ref a2, .ref a3, .int (nI n)])), (a1, .inl (cI, 32, .inl lo)), (a2, .inl (cI, 32, .inl hi)), (a3, .inl (cI, 32, .inl th)), (r, .inr (4, [.ref b1, .ref b2, .ref b3, .ref b4, .int (nI how), .int (nI 0), .int (nI pl), .int (nI q), .int (nI stt), .int (nI dn)])), (b1, .inl (cI, 14, .inl sa)), (b2, .inl (cI, 8, .inl ca)), (b3, .inl (cI, 60, .inl ta)), (b4, .inl (cI, 60, .inl tn))]) (fun _ => rfl) (by decide) rfl hl.1 rfl (Nat.le_of_ble_eq_true rfl) (by decide) (by decide) d_Loom_rule_79 (fun r u0 H locs hcq hP hD hS => ?_)
            subst hcq
            refine lv_iload_n hx hb d_Loom_rule_82 rfl (lv_at hl 3 rfl) ?_
            refine lv_iload hx hb d_Loom_rule_83 (lv_at hl 4 rfl) ?_
            refine lv_iload hx hb d_Loom_rule_85 (lv_at hl 5 rfl) ?_
            refine pl_callVV X (rest := []) (As := [.int (nI (fr * 8 + ac)), .int x3, .int x4, .int (nI tw)]) (b := h) (c_Automaton_setRule l D cI cZ cL h a1 a2 a3 n lo hi th (fr * 8 + ac) x3 x4 (nI tw) (by omega)) ck_Loom_98 pl_E0_ok trivial hK hP hD hS hA (T := F_Automaton) (N := N_Automaton) (ci := 1) rfl 1 rfl [1, 2, 3, 4] [0, 5, 6, 7, 8, 9] [0, 6, 7, 8, 9, 1, 2, 3, 4, 5] rfl (by decide) (wr := [(x0, .inr (5, [.ref p0, .ref h, .ref e0, .ref w, .ref r, .int (bI (ex)), .int (bI (false))])), (r, .inr (4, [.ref b1, .ref b2, .ref b3, .ref b4, .int (nI how), .int (nI 0), .int (nI pl), .int (nI q), .int (nI stt), .int (nI dn)])), (b1, .inl (cI, 14, .inl sa)), (b2, .inl (cI, 8, .inl ca)), (b3, .inl (cI, 60, .inl ta)), (b4, .inl (cI, 60, .inl tn))]) rfl (by decide) (by decide) (wf := fun _ => [(x0, .inr (5, [.ref p0, .ref h, .ref e0, .ref w, .ref r, .int (bI (ex)), .int (bI (false))])), (h, .inr (1, [.ref a1, .ref a2, .ref a3, .int (nI n)])), (a1, .inl (cI, 32, .inl (upd lo (fr * 8 + ac) x3))), (a2, .inl (cI, 32, .inl (upd hi (fr * 8 + ac) x4))), (a3, .inl (cI, 32, .inl (upd th (fr * 8 + ac) (nI tw)))), (r, .inr (4, [.ref b1, .ref b2, .ref b3, .ref b4, .int (nI how), .int (nI 0), .int (nI pl), .int (nI q), .int (nI stt), .int (nI dn)])), (b1, .inl (cI, 14, .inl sa)), (b2, .inl (cI, 8, .inl ca)), (b3, .inl (cI, 60, .inl ta)), (b4, .inl (cI, 60, .inl tn))]) (fun _ => rfl) (by decide) rfl hl.1 rfl (Nat.le_of_ble_eq_true rfl) (by decide) (by decide) d_Loom_rule_87 (fun u0 H locs hcq hP hD hS => ?_)
            exact pl_vretT X hr hlk hK (fr, ac, tw) ⟨hf2, hf1, ha2, ha1, hw2, hw1, hok⟩ hP hD hS (by decide) (by decide) d_Loom_rule_90
          · skip
            exact pl_throw (is := 92) (text := "highest is below lowest") X hl0 xw_iaeS hE (by decide +kernel) hno hlk hK () ⟨rfl, by unfold ruleOk; rw [decide_eq_false g56]; simp⟩ hP hD hS hl.1 d_Loom_rule_59 d_Loom_rule_62 d_Loom_rule_63 d_Loom_rule_65 d_Loom_rule_68 (by decide) (Nat.le_of_ble_eq_true rfl) (by decide) (by decide) (by decide) (by decide)
        · skip
          exact pl_throw (is := 90) (text := "no act") X hl0 xw_iaeS hE (by decide +kernel) hno hlk hK () ⟨rfl, by unfold ruleOk; rw [inB_hi (by omega) (i_nlt.mp g40)]; simp⟩ hP hD hS hl.1 d_Loom_rule_43 d_Loom_rule_46 d_Loom_rule_47 d_Loom_rule_49 d_Loom_rule_52 (by decide) (Nat.le_of_ble_eq_true rfl) (by decide) (by decide) (by decide) (by decide)
    · skip
      exact pl_throw (is := 88) (text := "no state") X hl0 xw_iaeS hE (by decide +kernel) hno hlk hK () ⟨rfl, by unfold ruleOk; rw [g20]; simp⟩ hP hD hS hl.1 d_Loom_rule_23 d_Loom_rule_26 d_Loom_rule_27 d_Loom_rule_29 d_Loom_rule_32 (by decide) (Nat.le_of_ble_eq_true rfl) (by decide) (by decide) (by decide) (by decide)

set_option maxHeartbeats 4000000 in
set_option maxRecDepth 100000 in
theorem c_Loom_start (l : Launch) (D : va_G) (cI cZ cL : ClassId) (t1 t2 : Nat) (x0 p0 p1 p2 h a1 a2 a3 e0 e1 e2 w w1 v v1 v2 r b1 b2 b3 b4 : Nat) (P K lo hi th F Qu fo f g sa ca ta tn : Nat → Int32) (np n qd z how stat pl q stt dn : Nat) (b ex wv : Bool) (x k : Int32) (hl0 : l.stackTraces = false) (hnp : np ≤ 24) (hop : okP P np) (hex : ex = true → exaP P K np (F, Qu, qd, b)) : pl_TV l y_Loom_start b_Loom_start 3 ({ frames := 7, cells := 2, slots := 12, locals := 131 } : Room) (EX t1 t2) D classes (TY cI cZ cL) [.ref x0, .int x, .int k] [(x0, .inr (5, [.ref p0, .ref h, .ref e0, .ref w, .ref r, .int (bI (ex)), .int (bI (wv))])), (p0, .inr (0, [.ref p1, .ref p2, .int (nI np)])), (p1, .inl (cI, 24, .inl P)), (p2, .inl (cI, 24, .inl K)), (e0, .inr (2, [.ref e1, .ref e2, .int (nI qd), .int (bI (b))])), (e1, .inl (cI, 24, .inl F)), (e2, .inl (cI, 24, .inl Qu)), (r, .inr (4, [.ref b1, .ref b2, .ref b3, .ref b4, .int (nI how), .int (nI stat), .int (nI pl), .int (nI q), .int (nI stt), .int (nI dn)])), (b1, .inl (cI, 14, .inl sa)), (b2, .inl (cI, 8, .inl ca)), (b3, .inl (cI, 60, .inl ta)), (b4, .inl (cI, 60, .inl tn))] (fun (u : HS × Nat) => exaP P K np u.1 ∧ u.1.2.2.2 = true ∧ x = nI u.2 ∧ u.2 ≤ 2) (fun (u : (HS × Nat)) => [(x0, .inr (5, [.ref p0, .ref h, .ref e0, .ref w, .ref r, .int (bI (true)), .int (bI (wv))])), (p0, .inr (0, [.ref p1, .ref p2, .int (nI np)])), (p1, .inl (cI, 24, .inl P)), (p2, .inl (cI, 24, .inl K)), (e0, .inr (2, [.ref e1, .ref e2, .int (nI u.1.2.2.1), .int (bI (u.1.2.2.2))])), (e1, .inl (cI, 24, .inl u.1.1)), (e2, .inl (cI, 24, .inl u.1.2.1)), (r, .inr (4, [.ref b1, .ref b2, .ref b3, .ref b4, .int (nI u.2), .int (nI 1), .int (nI 0), .int (nI 0), .int (nI 0), .int (nI 0)])), (b1, .inl (cI, 14, .inl sa)), (b2, .inl (cI, 8, .inl (upd (fun _ => nI 0) 0 k))), (b3, .inl (cI, 60, .inl ta)), (b4, .inl (cI, 60, .inl tn))]) (fun (Nm : String) (u : HS) => exaP P K np u ∧ ((Nm = iseS ∧ u.2.2.2 = false) ∨ (Nm = iaeS ∧ u.2.2.2 = true ∧ inB x 3 = false))) (fun (u : HS) => [(x0, .inr (5, [.ref p0, .ref h, .ref e0, .ref w, .ref r, .int (bI (true)), .int (bI (wv))])), (p0, .inr (0, [.ref p1, .ref p2, .int (nI np)])), (p1, .inl (cI, 24, .inl P)), (p2, .inl (cI, 24, .inl K)), (e0, .inr (2, [.ref e1, .ref e2, .int (nI u.2.2.1), .int (bI (u.2.2.2))])), (e1, .inl (cI, 24, .inl u.1)), (e2, .inl (cI, 24, .inl u.2.1)), (r, .inr (4, [.ref b1, .ref b2, .ref b3, .ref b4, .int (nI how), .int (nI stat), .int (nI pl), .int (nI q), .int (nI stt), .int (nI dn)])), (b1, .inl (cI, 14, .inl sa)), (b2, .inl (cI, 8, .inl ca)), (b3, .inl (cI, 60, .inl ta)), (b4, .inl (cI, 60, .inl tn))]) := by
  refine pl_startTV (by decide) (Nat.le_of_ble_eq_true rfl) ?_
  intro p e s m args below meth c A ls X hr hlk hno hK hP hD hS hA hE hl
  have X : CallFix p m c b_Loom_start 3 s args TG R_Loom := X
  have hx := X.1
  have hb := X.2.1
  have hl : lv_has ls 3 [(0, .ref x0), (1, .int x), (2, .int k)] := hl
  refine lv_aload_n hx hb d_Loom_start_0 rfl (lv_at hl 0 rfl) ?_
  refine pl_callTV X (rest := []) (As := []) (b := x0) (c_Loom_requireWellFormed l D cI cZ cL t1 t2 x0 p0 p1 p2 h a1 a2 a3 e0 e1 e2 w w1 v v1 v2 r b1 b2 b3 b4 P K lo hi th F Qu fo f g sa ca ta tn np n qd z how stat pl q stt dn b ex wv hl0 hnp hop hex) ck_Loom_106 (EX_ok t1 t2) (pl_pass (EX_ok t1 t2) hE hD hS hA [0, 1, 2, 3, 4, 5, 6] rfl) hK hP hD hS hA (T := F_Loom) (N := N_Loom) (ci := 5) rfl 0 rfl [0, 1, 2, 3, 4, 5, 6] [7, 8, 9, 10, 11] [5, 6, 7, 8, 9, 10, 11, 0, 1, 2, 3, 4] [5, 6, 7, 8, 9, 10, 11, 0, 1, 2, 3, 4] rfl (by decide) (wr := [(r, .inr (4, [.ref b1, .ref b2, .ref b3, .ref b4, .int (nI how), .int (nI stat), .int (nI pl), .int (nI q), .int (nI stt), .int (nI dn)])), (b1, .inl (cI, 14, .inl sa)), (b2, .inl (cI, 8, .inl ca)), (b3, .inl (cI, 60, .inl ta)), (b4, .inl (cI, 60, .inl tn))]) rfl (by decide) (by decide) (wf := fun (u : HS) => [(x0, .inr (5, [.ref p0, .ref h, .ref e0, .ref w, .ref r, .int (bI (true)), .int (bI (wv))])), (p0, .inr (0, [.ref p1, .ref p2, .int (nI np)])), (p1, .inl (cI, 24, .inl P)), (p2, .inl (cI, 24, .inl K)), (e0, .inr (2, [.ref e1, .ref e2, .int (nI u.2.2.1), .int (bI (u.2.2.2))])), (e1, .inl (cI, 24, .inl u.1)), (e2, .inl (cI, 24, .inl u.2.1)), (r, .inr (4, [.ref b1, .ref b2, .ref b3, .ref b4, .int (nI how), .int (nI stat), .int (nI pl), .int (nI q), .int (nI stt), .int (nI dn)])), (b1, .inl (cI, 14, .inl sa)), (b2, .inl (cI, 8, .inl ca)), (b3, .inl (cI, 60, .inl ta)), (b4, .inl (cI, 60, .inl tn))]) (fun _ => rfl) (by decide) (wfx := fun (ux : HS) => [(x0, .inr (5, [.ref p0, .ref h, .ref e0, .ref w, .ref r, .int (bI (true)), .int (bI (wv))])), (p0, .inr (0, [.ref p1, .ref p2, .int (nI np)])), (p1, .inl (cI, 24, .inl P)), (p2, .inl (cI, 24, .inl K)), (e0, .inr (2, [.ref e1, .ref e2, .int (nI ux.2.2.1), .int (bI (ux.2.2.2))])), (e1, .inl (cI, 24, .inl ux.1)), (e2, .inl (cI, 24, .inl ux.2.1)), (r, .inr (4, [.ref b1, .ref b2, .ref b3, .ref b4, .int (nI how), .int (nI stat), .int (nI pl), .int (nI q), .int (nI stt), .int (nI dn)])), (b1, .inl (cI, 14, .inl sa)), (b2, .inl (cI, 8, .inl ca)), (b3, .inl (cI, 60, .inl ta)), (b4, .inl (cI, 60, .inl tn))]) (fun _ => rfl) (by decide) rfl hl.1 rfl (Nat.le_of_ble_eq_true rfl) (by decide) (by decide) d_Loom_start_1 (fun Nm ce qx ux H locs hpx hP hD hS hce hcv hcl => ?_) (fun u H locs hcq hP hD hS => ?_)
  · skip
    exact pl_outT hno hlk hK hce hcv hcl ux ⟨hpx.2.2, Or.inl ⟨hpx.1, hpx.2.1⟩⟩ hP hD hS (by decide) (by decide)
  · skip
    obtain ⟨hub, hxa⟩ := hcq
    have hwf := hxa.1 hub
    refine lv_iload_n hx hb d_Loom_start_4 rfl (lv_at hl 1 rfl) ?_
    refine lv_if_lt hx hb d_Loom_start_5 rfl (fun g5 => ?_) (fun g5 => ?_)
    · skip
      exact pl_throw (is := 125) (text := "no such run") X hl0 xw_iaeS hE (by decide +kernel) hno hlk hK u ⟨hxa, Or.inr ⟨rfl, hub, inB_lo g5⟩⟩ hP hD hS hl.1 d_Loom_start_13 d_Loom_start_16 d_Loom_start_17 d_Loom_start_19 d_Loom_start_22 (by decide) (Nat.le_of_ble_eq_true rfl) (by decide) (by decide) (by decide) (by decide)
    · skip
      refine lv_iload_n hx hb d_Loom_start_8 rfl (lv_at hl 1 rfl) ?_
      refine lv_iconst (v := nI 2) hx hb d_Loom_start_9 (by decide) ?_
      refine lv_icmp_le hx hb d_Loom_start_10 rfl (fun g10 => ?_) (fun g10 => ?_)
      · skip
        obtain ⟨j, hj, hxj⟩ := inB_of (by omega) (inB_le_t (m := 2) (by omega) g5 g10)
        have hl : lv_has ls 3 [(0, .ref x0), (1, .int (nI j)), (2, .int k)] := by rw [← hxj]; exact hl
        refine lv_aload_n hx hb d_Loom_start_23 rfl (lv_at hl 0 rfl) ?_
        refine pl_get X fw_Loom_42 hK hP 0 rfl (v := .ref r) rfl d_Loom_start_24 ?_
        refine lv_iload_n hx hb d_Loom_start_27 rfl (lv_at hl 1 rfl) ?_
        refine lv_iload_n hx hb d_Loom_start_28 rfl (lv_at hl 2 rfl) ?_
        refine pl_callVV X (rest := []) (As := [.int (nI j), .int k]) (b := r) (c_Run_begin l D cI cZ cL r b1 b2 b3 b4 sa ca ta tn how stat pl q stt dn j k) ck_Loom_127 pl_E0_ok trivial hK hP hD hS hA (T := F_Run) (N := N_Run) (ci := 4) rfl 7 rfl [7, 8, 9, 10, 11] [0, 1, 2, 3, 4, 5, 6] [0, 1, 2, 3, 4, 5, 6, 7, 8, 9, 10, 11] rfl (by decide) (wr := [(x0, .inr (5, [.ref p0, .ref h, .ref e0, .ref w, .ref r, .int (bI (true)), .int (bI (wv))])), (p0, .inr (0, [.ref p1, .ref p2, .int (nI np)])), (p1, .inl (cI, 24, .inl P)), (p2, .inl (cI, 24, .inl K)), (e0, .inr (2, [.ref e1, .ref e2, .int (nI u.2.2.1), .int (bI (u.2.2.2))])), (e1, .inl (cI, 24, .inl u.1)), (e2, .inl (cI, 24, .inl u.2.1))]) rfl (by decide) (by decide) (wf := fun _ => [(x0, .inr (5, [.ref p0, .ref h, .ref e0, .ref w, .ref r, .int (bI (true)), .int (bI (wv))])), (p0, .inr (0, [.ref p1, .ref p2, .int (nI np)])), (p1, .inl (cI, 24, .inl P)), (p2, .inl (cI, 24, .inl K)), (e0, .inr (2, [.ref e1, .ref e2, .int (nI u.2.2.1), .int (bI (u.2.2.2))])), (e1, .inl (cI, 24, .inl u.1)), (e2, .inl (cI, 24, .inl u.2.1)), (r, .inr (4, [.ref b1, .ref b2, .ref b3, .ref b4, .int (nI j), .int (nI 1), .int (nI 0), .int (nI 0), .int (nI 0), .int (nI 0)])), (b1, .inl (cI, 14, .inl sa)), (b2, .inl (cI, 8, .inl (upd (fun _ => nI 0) 0 k))), (b3, .inl (cI, 60, .inl ta)), (b4, .inl (cI, 60, .inl tn))]) (fun _ => rfl) (by decide) rfl hl.1 rfl (Nat.le_of_ble_eq_true rfl) (by decide) (by decide) d_Loom_start_29 (fun u0 H locs hcq hP hD hS => ?_)
        exact pl_vretT X hr hlk hK (u, j) ⟨hxa, hub, hxj, by omega⟩ hP hD hS (by decide) (by decide) d_Loom_start_32
      · skip
        exact pl_throw (is := 125) (text := "no such run") X hl0 xw_iaeS hE (by decide +kernel) hno hlk hK u ⟨hxa, Or.inr ⟨rfl, hub, inB_le_f (by omega) g10⟩⟩ hP hD hS hl.1 d_Loom_start_13 d_Loom_start_16 d_Loom_start_17 d_Loom_start_19 d_Loom_start_22 (by decide) (Nat.le_of_ble_eq_true rfl) (by decide) (by decide) (by decide) (by decide)

set_option maxHeartbeats 4000000 in
set_option maxRecDepth 100000 in
theorem c_Loom_look (l : Launch) (D : va_G) (cI cZ cL : ClassId) (t1 t2 : Nat) (x0 p0 p1 p2 h a1 a2 a3 e0 e1 e2 w w1 v v1 v2 r b1 b2 b3 b4 : Nat) (P K lo hi th F Qu fo f g sa ca ta tn : Nat → Int32) (np n qd z how stat pl q stt dn : Nat) (b ex wv : Bool) (x : Int32) (hl0 : l.stackTraces = false) (hh : how ≤ 2) (hst : stat ≤ 4) : pl_TI l y_Loom_look b_Loom_look 2 .int ({ frames := 6, cells := 1, slots := 6, locals := 82 } : Room) (EX t1 t2) D classes (TY cI cZ cL) [.ref x0, .int x] [(x0, .inr (5, [.ref p0, .ref h, .ref e0, .ref w, .ref r, .int (bI (ex)), .int (bI (wv))])), (r, .inr (4, [.ref b1, .ref b2, .ref b3, .ref b4, .int (nI how), .int (nI stat), .int (nI pl), .int (nI q), .int (nI stt), .int (nI dn)])), (b1, .inl (cI, 14, .inl sa)), (b2, .inl (cI, 8, .inl ca)), (b3, .inl (cI, 60, .inl ta)), (b4, .inl (cI, 60, .inl tn))] (fun (r : Int32) (_ : Unit) => ∃ j, j ≤ 4 ∧ x = nI j ∧ r = lookV j how stat pl q stt dn ca) (fun (_ : Unit) => [(x0, .inr (5, [.ref p0, .ref h, .ref e0, .ref w, .ref r, .int (bI (ex)), .int (bI (wv))])), (r, .inr (4, [.ref b1, .ref b2, .ref b3, .ref b4, .int (nI how), .int (nI stat), .int (nI pl), .int (nI q), .int (nI stt), .int (nI dn)])), (b1, .inl (cI, 14, .inl sa)), (b2, .inl (cI, 8, .inl ca)), (b3, .inl (cI, 60, .inl ta)), (b4, .inl (cI, 60, .inl tn))]) (fun (Nm : String) (_ : Unit) => Nm = iaeS ∧ inB x 5 = false) (fun (_ : Unit) => [(x0, .inr (5, [.ref p0, .ref h, .ref e0, .ref w, .ref r, .int (bI (ex)), .int (bI (wv))])), (r, .inr (4, [.ref b1, .ref b2, .ref b3, .ref b4, .int (nI how), .int (nI stat), .int (nI pl), .int (nI q), .int (nI stt), .int (nI dn)])), (b1, .inl (cI, 14, .inl sa)), (b2, .inl (cI, 8, .inl ca)), (b3, .inl (cI, 60, .inl ta)), (b4, .inl (cI, 60, .inl tn))]) := by
  refine pl_startTI (by decide) (Nat.le_of_ble_eq_true rfl) ?_
  intro p e s m args below meth c A ls X hr hlk hno hK hP hD hS hA hE hl
  have X : CallFix p m c b_Loom_look 2 s args TG R_Loom := X
  have hx := X.1
  have hb := X.2.1
  have hl : lv_has ls 2 [(0, .ref x0), (1, .int x)] := hl
  refine lv_iload_n hx hb d_Loom_look_0 rfl (lv_at hl 1 rfl) ?_
  refine lv_if_lt hx hb d_Loom_look_1 rfl (fun g1 => ?_) (fun g1 => ?_)
  · skip
    exact pl_throw (is := 147) (text := "nothing to look at") X hl0 xw_iaeS hE (by decide +kernel) hno hlk hK () ⟨rfl, inB_lo g1⟩ hP hD hS hl.1 d_Loom_look_9 d_Loom_look_12 d_Loom_look_13 d_Loom_look_15 d_Loom_look_18 (by decide) (Nat.le_of_ble_eq_true rfl) (by decide) (by decide) (by decide) (by decide)
  · skip
    refine lv_iload_n hx hb d_Loom_look_4 rfl (lv_at hl 1 rfl) ?_
    refine lv_iconst (v := nI 4) hx hb d_Loom_look_5 (by decide) ?_
    refine lv_icmp_le hx hb d_Loom_look_6 rfl (fun g6 => ?_) (fun g6 => ?_)
    · skip
      refine lv_aload_n hx hb d_Loom_look_19 rfl (lv_at hl 0 rfl) ?_
      refine pl_get X fw_Loom_42 hK hP 0 rfl (v := .ref r) rfl d_Loom_look_20 ?_
      refine pl_get X fw_Loom_130 hK hP 1 rfl (v := .int (nI stat)) rfl d_Loom_look_23 ?_
      refine pl_if_ne X (by omega) d_Loom_look_26 rfl (fun g26 => ?_) (fun g26 => ?_)
      · skip
        rcases lk5 g1 g6 with hxj | hxj | hxj | hxj | hxj
        · skip
          have hl : lv_has ls 2 [(0, .ref x0), (1, .int (nI 0))] := by rw [← hxj]; exact hl
          refine lv_iload_n hx hb d_Loom_look_31 rfl (lv_at hl 1 rfl) ?_
          refine lv_tableIn hx hb d_Loom_look_32 (by decide) (by decide) (off := 32) (by decide) (tgt := 64) rfl ?_
          refine lv_aload_n hx hb d_Loom_look_64 rfl (lv_at hl 0 rfl) ?_
          refine pl_get X fw_Loom_42 hK hP 0 rfl (v := .ref r) rfl d_Loom_look_65 ?_
          refine pl_get X fw_Loom_130 hK hP 1 rfl (v := .int (nI stat)) rfl d_Loom_look_68 ?_
          exact pl_iretT X hr hlk hK rfl () ⟨0, by omega, hxj, by unfold lookV; rw [if_neg g26]; rfl⟩ hP hD hS (by decide) (by decide) d_Loom_look_71
        · skip
          have hl : lv_has ls 2 [(0, .ref x0), (1, .int (nI 1))] := by rw [← hxj]; exact hl
          refine lv_iload_n hx hb d_Loom_look_31 rfl (lv_at hl 1 rfl) ?_
          refine lv_tableIn hx hb d_Loom_look_32 (by decide) (by decide) (off := 40) (by decide) (tgt := 72) rfl ?_
          refine lv_aload_n hx hb d_Loom_look_72 rfl (lv_at hl 0 rfl) ?_
          refine pl_get X fw_Loom_42 hK hP 0 rfl (v := .ref r) rfl d_Loom_look_73 ?_
          refine pl_get X fw_Loom_149 hK hP 1 rfl (v := .int (nI pl)) rfl d_Loom_look_76 ?_
          exact pl_iretT X hr hlk hK rfl () ⟨1, by omega, hxj, by unfold lookV; rw [if_neg g26]; rfl⟩ hP hD hS (by decide) (by decide) d_Loom_look_79
        · skip
          have hl : lv_has ls 2 [(0, .ref x0), (1, .int (nI 2))] := by rw [← hxj]; exact hl
          refine lv_iload_n hx hb d_Loom_look_31 rfl (lv_at hl 1 rfl) ?_
          refine lv_tableIn hx hb d_Loom_look_32 (by decide) (by decide) (off := 48) (by decide) (tgt := 80) rfl ?_
          refine lv_aload_n hx hb d_Loom_look_80 rfl (lv_at hl 0 rfl) ?_
          refine pl_get X fw_Loom_42 hK hP 0 rfl (v := .ref r) rfl d_Loom_look_81 ?_
          refine pl_get X fw_Loom_151 hK hP 1 rfl (v := .int (nI q)) rfl d_Loom_look_84 ?_
          exact pl_iretT X hr hlk hK rfl () ⟨2, by omega, hxj, by unfold lookV; rw [if_neg g26]; rfl⟩ hP hD hS (by decide) (by decide) d_Loom_look_87
        · skip
          have hl : lv_has ls 2 [(0, .ref x0), (1, .int (nI 3))] := by rw [← hxj]; exact hl
          refine lv_iload_n hx hb d_Loom_look_31 rfl (lv_at hl 1 rfl) ?_
          refine lv_tableIn hx hb d_Loom_look_32 (by decide) (by decide) (off := 56) (by decide) (tgt := 88) rfl ?_
          refine lv_aload_n hx hb d_Loom_look_88 rfl (lv_at hl 0 rfl) ?_
          refine pl_get X fw_Loom_42 hK hP 0 rfl (v := .ref r) rfl d_Loom_look_89 ?_
          refine pl_callVI X (rest := []) (As := []) (b := r) (c_Run_policyState l D cI cZ cL r b1 b2 b3 b4 sa ca ta tn how stat pl q stt dn hh) ck_Loom_154 pl_E0_ok trivial hK hP hD hS hA (T := F_Run) (N := N_Run) (ci := 4) rfl 1 rfl [1, 2, 3, 4, 5] [0] [0, 1, 2, 3, 4, 5] rfl (by decide) (wr := [(x0, .inr (5, [.ref p0, .ref h, .ref e0, .ref w, .ref r, .int (bI (ex)), .int (bI (wv))]))]) rfl (by decide) (by decide) (wf := fun _ => [(x0, .inr (5, [.ref p0, .ref h, .ref e0, .ref w, .ref r, .int (bI (ex)), .int (bI (wv))])), (r, .inr (4, [.ref b1, .ref b2, .ref b3, .ref b4, .int (nI how), .int (nI stat), .int (nI pl), .int (nI q), .int (nI stt), .int (nI dn)])), (b1, .inl (cI, 14, .inl sa)), (b2, .inl (cI, 8, .inl ca)), (b3, .inl (cI, 60, .inl ta)), (b4, .inl (cI, 60, .inl tn))]) (fun _ => rfl) (by decide) rfl hl.1 rfl (Nat.le_of_ble_eq_true rfl) (by decide) (by decide) d_Loom_look_92 (fun r u0 H locs hcq hP hD hS => ?_)
          subst hcq
          exact pl_iretT X hr hlk hK rfl () ⟨3, by omega, hxj, by unfold lookV; rw [if_neg g26]; rfl⟩ hP hD hS (by decide) (by decide) d_Loom_look_95
        · skip
          have hl : lv_has ls 2 [(0, .ref x0), (1, .int (nI 4))] := by rw [← hxj]; exact hl
          refine lv_iload_n hx hb d_Loom_look_31 rfl (lv_at hl 1 rfl) ?_
          refine lv_tableOut hx hb d_Loom_look_32 (by decide) (tgt := 96) rfl ?_
          refine lv_aload_n hx hb d_Loom_look_96 rfl (lv_at hl 0 rfl) ?_
          refine pl_get X fw_Loom_42 hK hP 0 rfl (v := .ref r) rfl d_Loom_look_97 ?_
          refine pl_get X fw_Loom_158 hK hP 1 rfl (v := .int (nI dn)) rfl d_Loom_look_100 ?_
          exact pl_iretT X hr hlk hK rfl () ⟨4, by omega, hxj, by unfold lookV; rw [if_neg g26]; rfl⟩ hP hD hS (by decide) (by decide) d_Loom_look_103
      · skip
        obtain ⟨j, hj, hxj⟩ := inB_of (by omega) (inB_le_t (m := 4) (by omega) g1 g6)
        refine lv_iconst (v := nI 0) hx hb d_Loom_look_29 (by decide) ?_
        exact pl_iretT X hr hlk hK rfl () ⟨j, by omega, hxj, by unfold lookV; rw [if_pos g26]⟩ hP hD hS (by decide) (by decide) d_Loom_look_30
    · skip
      exact pl_throw (is := 147) (text := "nothing to look at") X hl0 xw_iaeS hE (by decide +kernel) hno hlk hK () ⟨rfl, inB_le_f (by omega) g6⟩ hP hD hS hl.1 d_Loom_look_9 d_Loom_look_12 d_Loom_look_13 d_Loom_look_15 d_Loom_look_18 (by decide) (Nat.le_of_ble_eq_true rfl) (by decide) (by decide) (by decide) (by decide)

set_option maxHeartbeats 4000000 in
set_option maxRecDepth 100000 in
theorem c_Loom_act (l : Launch) (D : va_G) (cI cZ cL : ClassId) (t1 t2 : Nat) (x0 p0 p1 p2 h a1 a2 a3 e0 e1 e2 w w1 v v1 v2 r b1 b2 b3 b4 : Nat) (P K lo hi th F Qu fo f g sa ca ta tn : Nat → Int32) (np n qd z how stat pl q stt dn : Nat) (b ex wv : Bool) (x : Int32) (nb : Bool) (hl0 : l.stackTraces = false) (hst : stat ≤ 4) (hdn : dn ≤ 60) : pl_TI l y_Loom_act b_Loom_act 3 .int ({ frames := 6, cells := 1, slots := 6, locals := 82 } : Room) (EX t1 t2) D classes (TY cI cZ cL) [.ref x0, .int x, .int (bI (nb))] [(x0, .inr (5, [.ref p0, .ref h, .ref e0, .ref w, .ref r, .int (bI (ex)), .int (bI (wv))])), (r, .inr (4, [.ref b1, .ref b2, .ref b3, .ref b4, .int (nI how), .int (nI stat), .int (nI pl), .int (nI q), .int (nI stt), .int (nI dn)])), (b1, .inl (cI, 14, .inl sa)), (b2, .inl (cI, 8, .inl ca)), (b3, .inl (cI, 60, .inl ta)), (b4, .inl (cI, 60, .inl tn))] (fun (r : Int32) (_ : Unit) => ¬ stat = 0 ∧ ∃ j, j < dn ∧ x = nI j ∧ r = if nb = true then tn j else ta j) (fun (_ : Unit) => [(x0, .inr (5, [.ref p0, .ref h, .ref e0, .ref w, .ref r, .int (bI (ex)), .int (bI (wv))])), (r, .inr (4, [.ref b1, .ref b2, .ref b3, .ref b4, .int (nI how), .int (nI stat), .int (nI pl), .int (nI q), .int (nI stt), .int (nI dn)])), (b1, .inl (cI, 14, .inl sa)), (b2, .inl (cI, 8, .inl ca)), (b3, .inl (cI, 60, .inl ta)), (b4, .inl (cI, 60, .inl tn))]) (fun (Nm : String) (_ : Unit) => Nm = iobS ∧ (stat = 0 ∨ inB x dn = false)) (fun (_ : Unit) => [(x0, .inr (5, [.ref p0, .ref h, .ref e0, .ref w, .ref r, .int (bI (ex)), .int (bI (wv))])), (r, .inr (4, [.ref b1, .ref b2, .ref b3, .ref b4, .int (nI how), .int (nI stat), .int (nI pl), .int (nI q), .int (nI stt), .int (nI dn)])), (b1, .inl (cI, 14, .inl sa)), (b2, .inl (cI, 8, .inl ca)), (b3, .inl (cI, 60, .inl ta)), (b4, .inl (cI, 60, .inl tn))]) := by
  refine pl_startTI (by decide) (Nat.le_of_ble_eq_true rfl) ?_
  intro p e s m args below meth c A ls X hr hlk hno hK hP hD hS hA hE hl
  have X : CallFix p m c b_Loom_act 3 s args TG R_Loom := X
  have hx := X.1
  have hb := X.2.1
  have hl : lv_has ls 3 [(0, .ref x0), (1, .int x), (2, .int (bI (nb)))] := hl
  refine lv_aload_n hx hb d_Loom_act_0 rfl (lv_at hl 0 rfl) ?_
  refine pl_get X fw_Loom_42 hK hP 0 rfl (v := .ref r) rfl d_Loom_act_1 ?_
  refine pl_get X fw_Loom_130 hK hP 1 rfl (v := .int (nI stat)) rfl d_Loom_act_4 ?_
  refine pl_if_eq X (by omega) d_Loom_act_7 rfl (fun g7 => ?_) (fun g7 => ?_)
  · skip
    exact pl_throw (is := 161) (text := "no such act was done") X hl0 xw_iobS hE (by decide +kernel) hno hlk hK () ⟨rfl, Or.inl g7⟩ hP hD hS hl.1 d_Loom_act_25 d_Loom_act_28 d_Loom_act_29 d_Loom_act_31 d_Loom_act_34 (by decide) (Nat.le_of_ble_eq_true rfl) (by decide) (by decide) (by decide) (by decide)
  · skip
    refine lv_iload_n hx hb d_Loom_act_10 rfl (lv_at hl 1 rfl) ?_
    refine lv_if_lt hx hb d_Loom_act_11 rfl (fun g11 => ?_) (fun g11 => ?_)
    · skip
      exact pl_throw (is := 161) (text := "no such act was done") X hl0 xw_iobS hE (by decide +kernel) hno hlk hK () ⟨rfl, Or.inr (inB_lo g11)⟩ hP hD hS hl.1 d_Loom_act_25 d_Loom_act_28 d_Loom_act_29 d_Loom_act_31 d_Loom_act_34 (by decide) (Nat.le_of_ble_eq_true rfl) (by decide) (by decide) (by decide) (by decide)
    · skip
      refine lv_iload_n hx hb d_Loom_act_14 rfl (lv_at hl 1 rfl) ?_
      refine lv_aload_n hx hb d_Loom_act_15 rfl (lv_at hl 0 rfl) ?_
      refine pl_get X fw_Loom_42 hK hP 0 rfl (v := .ref r) rfl d_Loom_act_16 ?_
      refine pl_get X fw_Loom_158 hK hP 1 rfl (v := .int (nI dn)) rfl d_Loom_act_19 ?_
      refine lv_icmp_lt hx hb d_Loom_act_22 rfl (fun g22 => ?_) (fun g22 => ?_)
      · skip
        obtain ⟨j, hj, hxj⟩ := inB_of (by omega) (inB_in (by omega) g11 (i_nle.mpr g22))
        have hl : lv_has ls 3 [(0, .ref x0), (1, .int (nI j)), (2, .int (bI (nb)))] := by rw [← hxj]; exact hl
        refine lv_iload_n hx hb d_Loom_act_35 rfl (lv_at hl 2 rfl) ?_
        refine pl_ifB_eq X d_Loom_act_36 rfl (fun g36 => ?_) (fun g36 => ?_)
        · skip
          refine lv_aload_n hx hb d_Loom_act_51 rfl (lv_at hl 0 rfl) ?_
          refine pl_get X fw_Loom_42 hK hP 0 rfl (v := .ref r) rfl d_Loom_act_52 ?_
          refine pl_get X fw_Loom_166 hK hP 1 rfl (v := .ref b3) rfl d_Loom_act_55 ?_
          refine lv_iload_n hx hb d_Loom_act_58 rfl (lv_at hl 1 rfl) ?_
          refine pl_iald X hK hP 4 0 rfl rfl j (by omega) (by decide) (z := ta j) rfl d_Loom_act_59 ?_
          exact pl_iretT X hr hlk hK rfl () ⟨g7, j, hj, hxj, by rw [if_neg (by rw [g36]; decide)]⟩ hP hD hS (by decide) (by decide) d_Loom_act_60
        · skip
          refine lv_aload_n hx hb d_Loom_act_39 rfl (lv_at hl 0 rfl) ?_
          refine pl_get X fw_Loom_42 hK hP 0 rfl (v := .ref r) rfl d_Loom_act_40 ?_
          refine pl_get X fw_Loom_163 hK hP 1 rfl (v := .ref b4) rfl d_Loom_act_43 ?_
          refine lv_iload_n hx hb d_Loom_act_46 rfl (lv_at hl 1 rfl) ?_
          refine pl_iald X hK hP 5 0 rfl rfl j (by omega) (by decide) (z := tn j) rfl d_Loom_act_47 ?_
          refine lv_goto hx hb d_Loom_act_48 rfl ?_
          exact pl_iretT X hr hlk hK rfl () ⟨g7, j, hj, hxj, by rw [if_pos g36]⟩ hP hD hS (by decide) (by decide) d_Loom_act_60
      · skip
        exact pl_throw (is := 161) (text := "no such act was done") X hl0 xw_iobS hE (by decide +kernel) hno hlk hK () ⟨rfl, Or.inr (inB_hi (by omega) (i_nlt.mp g22))⟩ hP hD hS hl.1 d_Loom_act_25 d_Loom_act_28 d_Loom_act_29 d_Loom_act_31 d_Loom_act_34 (by decide) (Nat.le_of_ble_eq_true rfl) (by decide) (by decide) (by decide) (by decide)

set_option maxHeartbeats 4000000 in
set_option maxRecDepth 100000 in
theorem c_Loom_cell (l : Launch) (D : va_G) (cI cZ cL : ClassId) (t1 t2 : Nat) (x0 p0 p1 p2 h a1 a2 a3 e0 e1 e2 w w1 v v1 v2 r b1 b2 b3 b4 : Nat) (P K lo hi th F Qu fo f g sa ca ta tn : Nat → Int32) (np n qd z how stat pl q stt dn : Nat) (b ex wv : Bool) (x : Int32) (hl0 : l.stackTraces = false) (hst : stat ≤ 4) : pl_TI l y_Loom_cell b_Loom_cell 2 .int ({ frames := 6, cells := 1, slots := 6, locals := 82 } : Room) (EX t1 t2) D classes (TY cI cZ cL) [.ref x0, .int x] [(x0, .inr (5, [.ref p0, .ref h, .ref e0, .ref w, .ref r, .int (bI (ex)), .int (bI (wv))])), (r, .inr (4, [.ref b1, .ref b2, .ref b3, .ref b4, .int (nI how), .int (nI stat), .int (nI pl), .int (nI q), .int (nI stt), .int (nI dn)])), (b1, .inl (cI, 14, .inl sa)), (b2, .inl (cI, 8, .inl ca)), (b3, .inl (cI, 60, .inl ta)), (b4, .inl (cI, 60, .inl tn))] (fun (r : Int32) (_ : Unit) => ∃ j, j < 8 ∧ x = nI j ∧ r = if stat = 0 then nI 0 else ca j) (fun (_ : Unit) => [(x0, .inr (5, [.ref p0, .ref h, .ref e0, .ref w, .ref r, .int (bI (ex)), .int (bI (wv))])), (r, .inr (4, [.ref b1, .ref b2, .ref b3, .ref b4, .int (nI how), .int (nI stat), .int (nI pl), .int (nI q), .int (nI stt), .int (nI dn)])), (b1, .inl (cI, 14, .inl sa)), (b2, .inl (cI, 8, .inl ca)), (b3, .inl (cI, 60, .inl ta)), (b4, .inl (cI, 60, .inl tn))]) (fun (Nm : String) (_ : Unit) => Nm = iobS ∧ inB x 8 = false) (fun (_ : Unit) => [(x0, .inr (5, [.ref p0, .ref h, .ref e0, .ref w, .ref r, .int (bI (ex)), .int (bI (wv))])), (r, .inr (4, [.ref b1, .ref b2, .ref b3, .ref b4, .int (nI how), .int (nI stat), .int (nI pl), .int (nI q), .int (nI stt), .int (nI dn)])), (b1, .inl (cI, 14, .inl sa)), (b2, .inl (cI, 8, .inl ca)), (b3, .inl (cI, 60, .inl ta)), (b4, .inl (cI, 60, .inl tn))]) := by
  refine pl_startTI (by decide) (Nat.le_of_ble_eq_true rfl) ?_
  intro p e s m args below meth c A ls X hr hlk hno hK hP hD hS hA hE hl
  have X : CallFix p m c b_Loom_cell 2 s args TG R_Loom := X
  have hx := X.1
  have hb := X.2.1
  have hl : lv_has ls 2 [(0, .ref x0), (1, .int x)] := hl
  refine lv_iload_n hx hb d_Loom_cell_0 rfl (lv_at hl 1 rfl) ?_
  refine lv_if_lt hx hb d_Loom_cell_1 rfl (fun g1 => ?_) (fun g1 => ?_)
  · skip
    exact pl_throw (is := 169) (text := "no cell") X hl0 xw_iobS hE (by decide +kernel) hno hlk hK () ⟨rfl, inB_lo g1⟩ hP hD hS hl.1 d_Loom_cell_10 d_Loom_cell_13 d_Loom_cell_14 d_Loom_cell_16 d_Loom_cell_19 (by decide) (Nat.le_of_ble_eq_true rfl) (by decide) (by decide) (by decide) (by decide)
  · skip
    refine lv_iload_n hx hb d_Loom_cell_4 rfl (lv_at hl 1 rfl) ?_
    refine lv_bipush (v := nI 8) hx hb d_Loom_cell_5 (by decide) ?_
    refine lv_icmp_lt hx hb d_Loom_cell_7 rfl (fun g7 => ?_) (fun g7 => ?_)
    · skip
      obtain ⟨j, hj, hxj⟩ := inB_of (by omega) (inB_in (n := 8) (by omega) g1 (i_nle.mpr g7))
      have hl : lv_has ls 2 [(0, .ref x0), (1, .int (nI j))] := by rw [← hxj]; exact hl
      refine lv_aload_n hx hb d_Loom_cell_20 rfl (lv_at hl 0 rfl) ?_
      refine pl_get X fw_Loom_42 hK hP 0 rfl (v := .ref r) rfl d_Loom_cell_21 ?_
      refine pl_get X fw_Loom_130 hK hP 1 rfl (v := .int (nI stat)) rfl d_Loom_cell_24 ?_
      refine pl_if_ne X (by omega) d_Loom_cell_27 rfl (fun g27 => ?_) (fun g27 => ?_)
      · skip
        refine lv_aload_n hx hb d_Loom_cell_34 rfl (lv_at hl 0 rfl) ?_
        refine pl_get X fw_Loom_42 hK hP 0 rfl (v := .ref r) rfl d_Loom_cell_35 ?_
        refine pl_get X fw_Loom_171 hK hP 1 rfl (v := .ref b2) rfl d_Loom_cell_38 ?_
        refine lv_iload_n hx hb d_Loom_cell_41 rfl (lv_at hl 1 rfl) ?_
        refine pl_iald X hK hP 3 0 rfl rfl j (by omega) (by decide) (z := ca j) rfl d_Loom_cell_42 ?_
        exact pl_iretT X hr hlk hK rfl () ⟨j, hj, hxj, by rw [if_neg g27]⟩ hP hD hS (by decide) (by decide) d_Loom_cell_43
      · skip
        refine lv_iconst (v := nI 0) hx hb d_Loom_cell_30 (by decide) ?_
        refine lv_goto hx hb d_Loom_cell_31 rfl ?_
        exact pl_iretT X hr hlk hK rfl () ⟨j, hj, hxj, by rw [if_pos g27]⟩ hP hD hS (by decide) (by decide) d_Loom_cell_43
    · skip
      exact pl_throw (is := 169) (text := "no cell") X hl0 xw_iobS hE (by decide +kernel) hno hlk hK () ⟨rfl, inB_hi (by omega) (i_nlt.mp g7)⟩ hP hD hS hl.1 d_Loom_cell_10 d_Loom_cell_13 d_Loom_cell_14 d_Loom_cell_16 d_Loom_cell_19 (by decide) (Nat.le_of_ble_eq_true rfl) (by decide) (by decide) (by decide) (by decide)
end
section
/-! One step of a run, and many. -/
theorem pl_V_conv {S S' : Type} {post : S → Prop} {wo : S → va_W} {post' : S' → Prop} {wo' : S' → va_W} {l : Launch} {y : MethodName} {b : ByteArray} {n : Nat} {rm : Room} {E : pl_Ev} {D : va_G} {cl : List vw_C} {tys : List (ClassId × FieldType)} {av : List Value} {wi : va_W} (h : pl_V l y b n rm E D cl tys av wi post wo) (f : S → S') (hp : ∀ u, post u → post' (f u)) (hw : ∀ u, post u → wo' (f u) = wo u) : pl_V l y b n rm E D cl tys av wi post' wo' := by
  intro sz
  refine MetFree.mono (h sz) (fun _ _ q => q) (fun _ _ _ _ _ q => q) ?_
  intro a s o s' _ q
  obtain ⟨⟨⟨u, e1, e2, e3⟩, e4⟩, e5⟩ := q
  exact ⟨⟨⟨f u, e1, hp u e2, by show pl_out D cl tys (va_A wi sz) (wo' (f u)) s'; rw [hw u e2]; exact e3⟩, e4⟩, e5⟩
/-- status, place, height, state, acts done; stack, cells, the trace's acts and numbers -/
abbrev RS : Type := Nat × Nat × Nat × Nat × Nat × (Nat → Int32) × (Nat → Int32) × (Nat → Int32) × (Nat → Int32)
def okA (lo hi th : Nat → Int32) (r : Nat) (v : Int32) : Bool := decide (¬ th r = -1) && (decide (lo r ≤ v) && decide (v ≤ hi r))
def rstep (how : Nat) (lo hi th : Nat → Int32) (o : Nat) (k : Int32) (pl sk stt dn : Nat) (sa ca ta tn : Nat → Int32) : RS := match o with
  | 0 => (1, pl + 1, sk + 1, stt, dn, upd sa sk k, ca, ta, tn)
  | 1 => (1, pl + 1, sk - 1, stt, dn, sa, ca, ta, tn)
  | 2 => (1, pl + 1, sk - 1, stt, dn, upd sa (sk - 2) (sa (sk - 2) + sa (sk - 1)), ca, ta, tn)
  | 3 => (1, pl + 1, sk - 1, stt, dn, upd sa (sk - 2) (sa (sk - 2) - sa (sk - 1)), ca, ta, tn)
  | 4 => (1, pl + 1, sk - 1, stt, dn, upd sa (sk - 2) (if sa (sk - 2) < sa (sk - 1) then 1 else 0), ca, ta, tn)
  | 5 => (1, pl + 1, sk + 1, stt, dn, upd sa sk (ca k.toNatClampNeg), ca, ta, tn)
  | 6 => (1, pl + 1, sk - 1, stt, dn, sa, upd ca k.toNatClampNeg (sa (sk - 1)), ta, tn)
  | 7 => (1, k.toNatClampNeg, sk, stt, dn, sa, ca, ta, tn)
  | 8 => (1, (if sa (sk - 1) = 0 then pl + 1 else k.toNatClampNeg), sk - 1, stt, dn, sa, ca, ta, tn)
  | 9 => ((actS how (okA lo hi th (stt * 8 + k.toNatClampNeg) (sa (sk - 1))) pl (sk - 1) stt dn (th (stt * 8 + k.toNatClampNeg)).toNatClampNeg k.toNatClampNeg (sa (sk - 1)) ta tn).1, (actS how (okA lo hi th (stt * 8 + k.toNatClampNeg) (sa (sk - 1))) pl (sk - 1) stt dn (th (stt * 8 + k.toNatClampNeg)).toNatClampNeg k.toNatClampNeg (sa (sk - 1)) ta tn).2.1, (actS how (okA lo hi th (stt * 8 + k.toNatClampNeg) (sa (sk - 1))) pl (sk - 1) stt dn (th (stt * 8 + k.toNatClampNeg)).toNatClampNeg k.toNatClampNeg (sa (sk - 1)) ta tn).2.2.1, (actS how (okA lo hi th (stt * 8 + k.toNatClampNeg) (sa (sk - 1))) pl (sk - 1) stt dn (th (stt * 8 + k.toNatClampNeg)).toNatClampNeg k.toNatClampNeg (sa (sk - 1)) ta tn).2.2.2.1, (actS how (okA lo hi th (stt * 8 + k.toNatClampNeg) (sa (sk - 1))) pl (sk - 1) stt dn (th (stt * 8 + k.toNatClampNeg)).toNatClampNeg k.toNatClampNeg (sa (sk - 1)) ta tn).2.2.2.2.1, sa, ca, (actS how (okA lo hi th (stt * 8 + k.toNatClampNeg) (sa (sk - 1))) pl (sk - 1) stt dn (th (stt * 8 + k.toNatClampNeg)).toNatClampNeg k.toNatClampNeg (sa (sk - 1)) ta tn).2.2.2.2.2.1, (actS how (okA lo hi th (stt * 8 + k.toNatClampNeg) (sa (sk - 1))) pl (sk - 1) stt dn (th (stt * 8 + k.toNatClampNeg)).toNatClampNeg k.toNatClampNeg (sa (sk - 1)) ta tn).2.2.2.2.2.2)
  | 10 => (1, pl + 1, sk, stt, dn, upd (upd sa (sk - 2) (sa (sk - 1))) (sk - 1) (sa (sk - 2)), ca, ta, tn)
  | 11 => (1, pl + 1, sk + 1, stt, dn, upd sa sk (sa (sk - 1)), ca, ta, tn)
  | _ => (2, pl, sk, stt, dn, sa, ca, ta, tn)
/-- what a step may be asked for -/
def okStep (how : Nat) (th : Nat → Int32) (o : Nat) (k : Int32) (sk stt dn : Nat) : Prop := o ≤ 12 ∧ tkN o ≤ sk ∧ sk - tkN o + lvN o ≤ 14 ∧ sk ≤ 14 ∧ how ≤ 2 ∧ stt < 4 ∧ dn ≤ 60 ∧ ((o = 5 ∨ o = 6) → inB k 8 = true) ∧ ((o = 7 ∨ o = 8) → inB k 2000 = true) ∧ (o = 9 → inB k 8 = true ∧ (¬ th (stt * 8 + k.toNatClampNeg) = -1 → th (stt * 8 + k.toNatClampNeg) = nI (th (stt * 8 + k.toNatClampNeg)).toNatClampNeg))
def stepF (how : Nat) (lo hi th O Kk : Nat → Int32) (s : RS) : RS := rstep how lo hi th (opn O s.2.1) (Kk s.2.1) s.2.1 s.2.2.1 s.2.2.2.1 s.2.2.2.2.1 s.2.2.2.2.2.1 s.2.2.2.2.2.2.1 s.2.2.2.2.2.2.2.1 s.2.2.2.2.2.2.2.2
def runN (F : RS → RS) : Nat → RS → Nat × RS
  | 0, s => (0, s)
  | k + 1, s => if s.1 = 1 then ((runN F k (F s)).1 + 1, (runN F k (F s)).2) else (0, s)
section RN
variable {F : RS → RS} {N i : Nat} {s : RS} {X : Nat × RS}
theorem run_next (h : X = ((runN F (N - i) s).1 + i, (runN F (N - i) s).2)) (hi : i < N) (h1 : s.1 = 1) : X = ((runN F (N - (i + 1)) (F s)).1 + (i + 1), (runN F (N - (i + 1)) (F s)).2) := by
  rw [h, show N - i = (N - (i + 1)) + 1 by omega]
  simp only [runN]
  rw [if_pos h1]
  simp only [Prod.mk.injEq, and_true]
  omega
theorem run_stop (h : X = ((runN F (N - i) s).1 + i, (runN F (N - i) s).2)) (h1 : ¬ s.1 = 1) : X = (i, s) := by
  rw [h]
  cases N - i with
  | zero => simp [runN]
  | succ k => simp only [runN]; rw [if_neg h1]; simp
theorem run_end (h : X = ((runN F (N - i) s).1 + i, (runN F (N - i) s).2)) (hi : N ≤ i) : X = (i, s) := by
  rw [h, show N - i = 0 by omega]
  simp [runN]
theorem run_le : ∀ (k : Nat) (s : RS), (runN F k s).1 ≤ k
  | 0, _ => Nat.le_refl _
  | k + 1, s => by
    have := run_le k (F s)
    simp only [runN]
    split <;> simp <;> omega
end RN
end
section
/-! Decode rows of PolicyLoom.step. -/
theorem d_Loom_step_0 : decode b_Loom_step 0 = .ok (.aload_n 0, 1) := by decide +kernel
theorem d_Loom_step_1 : decode b_Loom_step 1 = .ok (.getfield 42, 3) := by decide +kernel
theorem d_Loom_step_4 : decode b_Loom_step 4 = .ok (.getfield 130, 3) := by decide +kernel
theorem d_Loom_step_7 : decode b_Loom_step 7 = .ok (.ifCond .ne 13, 3) := by decide +kernel
theorem d_Loom_step_10 : decode b_Loom_step 10 = .ok (.new 133, 3) := by decide +kernel
theorem d_Loom_step_13 : decode b_Loom_step 13 = .ok (.dup, 1) := by decide +kernel
theorem d_Loom_step_14 : decode b_Loom_step 14 = .ok (.ldc 135, 2) := by decide +kernel
theorem d_Loom_step_16 : decode b_Loom_step 16 = .ok (.invokespecial 137, 3) := by decide +kernel
theorem d_Loom_step_19 : decode b_Loom_step 19 = .ok (.athrow, 1) := by decide +kernel
theorem d_Loom_step_20 : decode b_Loom_step 20 = .ok (.iload_n 1, 1) := by decide +kernel
theorem d_Loom_step_21 : decode b_Loom_step 21 = .ok (.ifCond .lt 10, 3) := by decide +kernel
theorem d_Loom_step_24 : decode b_Loom_step 24 = .ok (.iload_n 1, 1) := by decide +kernel
theorem d_Loom_step_25 : decode b_Loom_step 25 = .ok (.sipush 2000, 3) := by decide +kernel
theorem d_Loom_step_28 : decode b_Loom_step 28 = .ok (.if_icmp .le 13, 3) := by decide +kernel
theorem d_Loom_step_31 : decode b_Loom_step 31 = .ok (.new 53, 3) := by decide +kernel
theorem d_Loom_step_34 : decode b_Loom_step 34 = .ok (.dup, 1) := by decide +kernel
theorem d_Loom_step_35 : decode b_Loom_step 35 = .ok (.ldc 138, 2) := by decide +kernel
theorem d_Loom_step_37 : decode b_Loom_step 37 = .ok (.invokespecial 57, 3) := by decide +kernel
theorem d_Loom_step_40 : decode b_Loom_step 40 = .ok (.athrow, 1) := by decide +kernel
theorem d_Loom_step_41 : decode b_Loom_step 41 = .ok (.aload_n 0, 1) := by decide +kernel
theorem d_Loom_step_42 : decode b_Loom_step 42 = .ok (.getfield 42, 3) := by decide +kernel
theorem d_Loom_step_45 : decode b_Loom_step 45 = .ok (.getfield 140, 3) := by decide +kernel
theorem d_Loom_step_48 : decode b_Loom_step 48 = .ok (.iconst 1, 1) := by decide +kernel
theorem d_Loom_step_49 : decode b_Loom_step 49 = .ok (.if_icmp .ne 10, 3) := by decide +kernel
theorem d_Loom_step_52 : decode b_Loom_step 52 = .ok (.aload_n 0, 1) := by decide +kernel
theorem d_Loom_step_53 : decode b_Loom_step 53 = .ok (.invokevirtual 115, 3) := by decide +kernel
theorem d_Loom_step_56 : decode b_Loom_step 56 = .ok (.goto 7, 3) := by decide +kernel
theorem d_Loom_step_59 : decode b_Loom_step 59 = .ok (.aload_n 0, 1) := by decide +kernel
theorem d_Loom_step_60 : decode b_Loom_step 60 = .ok (.getfield 14, 3) := by decide +kernel
theorem d_Loom_step_63 : decode b_Loom_step 63 = .ok (.astore_n 2, 1) := by decide +kernel
theorem d_Loom_step_64 : decode b_Loom_step 64 = .ok (.iconst 0, 1) := by decide +kernel
theorem d_Loom_step_65 : decode b_Loom_step 65 = .ok (.istore_n 3, 1) := by decide +kernel
theorem d_Loom_step_66 : decode b_Loom_step 66 = .ok (.iload_n 3, 1) := by decide +kernel
theorem d_Loom_step_67 : decode b_Loom_step 67 = .ok (.iload_n 1, 1) := by decide +kernel
theorem d_Loom_step_68 : decode b_Loom_step 68 = .ok (.if_icmp .ge 34, 3) := by decide +kernel
theorem d_Loom_step_71 : decode b_Loom_step 71 = .ok (.aload_n 0, 1) := by decide +kernel
theorem d_Loom_step_72 : decode b_Loom_step 72 = .ok (.getfield 42, 3) := by decide +kernel
theorem d_Loom_step_75 : decode b_Loom_step 75 = .ok (.getfield 130, 3) := by decide +kernel
theorem d_Loom_step_78 : decode b_Loom_step 78 = .ok (.iconst 1, 1) := by decide +kernel
theorem d_Loom_step_79 : decode b_Loom_step 79 = .ok (.if_icmp .eq 5, 3) := by decide +kernel
theorem d_Loom_step_82 : decode b_Loom_step 82 = .ok (.iload_n 3, 1) := by decide +kernel
theorem d_Loom_step_83 : decode b_Loom_step 83 = .ok (.ireturn, 1) := by decide +kernel
theorem d_Loom_step_84 : decode b_Loom_step 84 = .ok (.aload_n 0, 1) := by decide +kernel
theorem d_Loom_step_85 : decode b_Loom_step 85 = .ok (.getfield 42, 3) := by decide +kernel
theorem d_Loom_step_88 : decode b_Loom_step 88 = .ok (.aload_n 2, 1) := by decide +kernel
theorem d_Loom_step_89 : decode b_Loom_step 89 = .ok (.aload_n 0, 1) := by decide +kernel
theorem d_Loom_step_90 : decode b_Loom_step 90 = .ok (.getfield 21, 3) := by decide +kernel
theorem d_Loom_step_93 : decode b_Loom_step 93 = .ok (.invokevirtual 143, 3) := by decide +kernel
theorem d_Loom_step_96 : decode b_Loom_step 96 = .ok (.iinc 3 1, 3) := by decide +kernel
theorem d_Loom_step_99 : decode b_Loom_step 99 = .ok (.goto (-33), 3) := by decide +kernel
theorem d_Loom_step_102 : decode b_Loom_step 102 = .ok (.iload_n 1, 1) := by decide +kernel
theorem d_Loom_step_103 : decode b_Loom_step 103 = .ok (.ireturn, 1) := by decide +kernel
set_option maxHeartbeats 4000000 in
theorem c_Run_advance (l : Launch) (D : va_G) (cI cZ cL : ClassId) (r b1 b2 b3 b4 : Nat) (sa ca ta tn : Nat → Int32) (how stat pl : Nat) (sk stt dn : Nat) (v v1 v2 M z : Nat) (P K : Nat → Int32) (h a1 a2 a3 n : Nat) (lo hi th : Nat → Int32) (o : Nat) (hM : M < 2 ^ 31) (hp : pl < M) (ho : P pl = nI o) (hs : okStep how th o (K pl) sk stt dn) : pl_V l y_Run_advance b_Run_advance 5 ({ frames := 3, cells := 0, slots := 0, locals := 67 } : Room) pl_E0 D classes (TY cI cZ cL) [.ref r, .ref v, .ref h] [(r, .inr (4, [.ref b1, .ref b2, .ref b3, .ref b4, .int (nI how), .int (nI 1), .int (nI pl), .int (nI sk), .int (nI stt), .int (nI dn)])), (b1, .inl (cI, 14, .inl sa)), (b2, .inl (cI, 8, .inl ca)), (b3, .inl (cI, 60, .inl ta)), (b4, .inl (cI, 60, .inl tn)), (v, .inr (0, [.ref v1, .ref v2, .int (nI z)])), (v1, .inl (cI, M, .inl P)), (v2, .inl (cI, M, .inl K)), (h, .inr (1, [.ref a1, .ref a2, .ref a3, .int (nI n)])), (a1, .inl (cI, 32, .inl lo)), (a2, .inl (cI, 32, .inl hi)), (a3, .inl (cI, 32, .inl th))] (fun u : RS => u = rstep how lo hi th o (K pl) pl sk stt dn sa ca ta tn) (fun (u : RS) => [(r, .inr (4, [.ref b1, .ref b2, .ref b3, .ref b4, .int (nI how), .int (nI u.1), .int (nI u.2.1), .int (nI u.2.2.1), .int (nI u.2.2.2.1), .int (nI u.2.2.2.2.1)])), (b1, .inl (cI, 14, .inl u.2.2.2.2.2.1)), (b2, .inl (cI, 8, .inl u.2.2.2.2.2.2.1)), (b3, .inl (cI, 60, .inl u.2.2.2.2.2.2.2.1)), (b4, .inl (cI, 60, .inl u.2.2.2.2.2.2.2.2)), (v, .inr (0, [.ref v1, .ref v2, .int (nI z)])), (v1, .inl (cI, M, .inl P)), (v2, .inl (cI, M, .inl K)), (h, .inr (1, [.ref a1, .ref a2, .ref a3, .int (nI n)])), (a1, .inl (cI, 32, .inl lo)), (a2, .inl (cI, 32, .inl hi)), (a3, .inl (cI, 32, .inl th))]) := by
  obtain ⟨s1, s2, s3, s4, s5, s6, s7, s8, s9, s10⟩ := hs
  rcases (show o = 0 ∨ o = 1 ∨ o = 2 ∨ o = 3 ∨ o = 4 ∨ o = 5 ∨ o = 6 ∨ o = 7 ∨ o = 8 ∨ o = 9 ∨ o = 10 ∨ o = 11 ∨ o = 12 by omega) with rfl | rfl | rfl | rfl | rfl | rfl | rfl | rfl | rfl | rfl | rfl | rfl | rfl
  · skip
    have s3 : sk + 1 ≤ 14 := by have e := s3; simp only [tkN, lvN, List.getD_cons_zero, List.getD_cons_succ] at e; omega
    exact pl_V_conv (c_Run_advance_0 l D cI cZ cL r b1 b2 b3 b4 sa ca ta tn how stat pl sk stt dn v v1 v2 M z P K h a1 a2 a3 n lo hi th hM hp ho (by omega)) (fun _ => (1, pl + 1, sk + 1, stt, dn, upd sa sk (K pl), ca, ta, tn)) (fun _ _ => rfl) (fun _ _ => rfl)
  · skip
    obtain ⟨q, rfl⟩ : ∃ q, sk = q + 1 := ⟨sk - 1, by have : 1 ≤ sk := s2; omega⟩
    have s3 : q ≤ 14 := by have e := s3; simp only [tkN, lvN, List.getD_cons_zero, List.getD_cons_succ] at e; omega
    exact pl_V_conv (c_Run_advance_1 l D cI cZ cL r b1 b2 b3 b4 sa ca ta tn how stat pl q stt dn v v1 v2 M z P K h a1 a2 a3 n lo hi th hM hp ho ) (fun _ => (1, pl + 1, q, stt, dn, sa, ca, ta, tn)) (fun _ _ => rfl) (fun _ _ => rfl)
  · skip
    obtain ⟨q, rfl⟩ : ∃ q, sk = q + 2 := ⟨sk - 2, by have : 2 ≤ sk := s2; omega⟩
    have s3 : q + 1 ≤ 14 := by have e := s3; simp only [tkN, lvN, List.getD_cons_zero, List.getD_cons_succ] at e; omega
    exact pl_V_conv (c_Run_advance_2 l D cI cZ cL r b1 b2 b3 b4 sa ca ta tn how stat pl q stt dn v v1 v2 M z P K h a1 a2 a3 n lo hi th hM hp ho (by omega)) (fun _ => (1, pl + 1, q + 1, stt, dn, upd sa q (sa q + sa (q + 1)), ca, ta, tn)) (fun _ _ => rfl) (fun _ _ => rfl)
  · skip
    obtain ⟨q, rfl⟩ : ∃ q, sk = q + 2 := ⟨sk - 2, by have : 2 ≤ sk := s2; omega⟩
    have s3 : q + 1 ≤ 14 := by have e := s3; simp only [tkN, lvN, List.getD_cons_zero, List.getD_cons_succ] at e; omega
    exact pl_V_conv (c_Run_advance_3 l D cI cZ cL r b1 b2 b3 b4 sa ca ta tn how stat pl q stt dn v v1 v2 M z P K h a1 a2 a3 n lo hi th hM hp ho (by omega)) (fun _ => (1, pl + 1, q + 1, stt, dn, upd sa q (sa q - sa (q + 1)), ca, ta, tn)) (fun _ _ => rfl) (fun _ _ => rfl)
  · skip
    obtain ⟨q, rfl⟩ : ∃ q, sk = q + 2 := ⟨sk - 2, by have : 2 ≤ sk := s2; omega⟩
    have s3 : q + 1 ≤ 14 := by have e := s3; simp only [tkN, lvN, List.getD_cons_zero, List.getD_cons_succ] at e; omega
    exact pl_V_conv (c_Run_advance_4 l D cI cZ cL r b1 b2 b3 b4 sa ca ta tn how stat pl q stt dn v v1 v2 M z P K h a1 a2 a3 n lo hi th hM hp ho (by omega)) (fun _ => (1, pl + 1, q + 1, stt, dn, upd sa q (if sa q < sa (q + 1) then 1 else 0), ca, ta, tn)) (fun _ _ => rfl) (fun _ _ => rfl)
  · skip
    have s3 : sk + 1 ≤ 14 := by have e := s3; simp only [tkN, lvN, List.getD_cons_zero, List.getD_cons_succ] at e; omega
    obtain ⟨k1, k2⟩ := kn_of (by omega) (s8 (by omega))
    exact pl_V_conv (c_Run_advance_5 l D cI cZ cL r b1 b2 b3 b4 sa ca ta tn how stat pl sk stt dn v v1 v2 M z P K h a1 a2 a3 n lo hi th (kn K pl) hM hp ho (by omega) k2 k1) (fun _ => (1, pl + 1, sk + 1, stt, dn, upd sa sk (ca (kn K pl)), ca, ta, tn)) (fun _ _ => rfl) (fun _ _ => rfl)
  · skip
    obtain ⟨q, rfl⟩ : ∃ q, sk = q + 1 := ⟨sk - 1, by have : 1 ≤ sk := s2; omega⟩
    have s3 : q ≤ 14 := by have e := s3; simp only [tkN, lvN, List.getD_cons_zero, List.getD_cons_succ] at e; omega
    obtain ⟨k1, k2⟩ := kn_of (by omega) (s8 (by omega))
    exact pl_V_conv (c_Run_advance_6 l D cI cZ cL r b1 b2 b3 b4 sa ca ta tn how stat pl q stt dn v v1 v2 M z P K h a1 a2 a3 n lo hi th (kn K pl) hM hp ho (by omega) k2 k1) (fun _ => (1, pl + 1, q, stt, dn, sa, upd ca (kn K pl) (sa q), ta, tn)) (fun _ _ => rfl) (fun _ _ => rfl)
  · skip
    have s3 : sk ≤ 14 := by have e := s3; simp only [tkN, lvN, List.getD_cons_zero, List.getD_cons_succ] at e; omega
    obtain ⟨k1, k2⟩ := kn_of (by omega) (s9 (by omega))
    exact pl_V_conv (c_Run_advance_7 l D cI cZ cL r b1 b2 b3 b4 sa ca ta tn how stat pl sk stt dn v v1 v2 M z P K h a1 a2 a3 n lo hi th (kn K pl) hM hp ho k1) (fun _ => (1, kn K pl, sk, stt, dn, sa, ca, ta, tn)) (fun _ _ => rfl) (fun _ _ => rfl)
  · skip
    obtain ⟨q, rfl⟩ : ∃ q, sk = q + 1 := ⟨sk - 1, by have : 1 ≤ sk := s2; omega⟩
    have s3 : q ≤ 14 := by have e := s3; simp only [tkN, lvN, List.getD_cons_zero, List.getD_cons_succ] at e; omega
    obtain ⟨k1, k2⟩ := kn_of (by omega) (s9 (by omega))
    exact pl_V_conv (c_Run_advance_8 l D cI cZ cL r b1 b2 b3 b4 sa ca ta tn how stat pl q stt dn v v1 v2 M z P K h a1 a2 a3 n lo hi th (kn K pl) hM hp ho (by omega) k1) (fun _ => (1, (if sa q = 0 then pl + 1 else kn K pl), q, stt, dn, sa, ca, ta, tn)) (fun _ _ => rfl) (fun _ _ => rfl)
  · skip
    obtain ⟨q, rfl⟩ : ∃ q, sk = q + 1 := ⟨sk - 1, by have : 1 ≤ sk := s2; omega⟩
    have s3 : q ≤ 14 := by have e := s3; simp only [tkN, lvN, List.getD_cons_zero, List.getD_cons_succ] at e; omega
    obtain ⟨k1, k2⟩ := kn_of (by omega) (s10 rfl).1
    exact pl_V_conv (c_Run_advance_9 l D cI cZ cL r b1 b2 b3 b4 sa ca ta tn how stat pl q stt dn v v1 v2 M z P K h a1 a2 a3 n lo hi th (kn K pl) (th (stt * 8 + kn K pl)).toNatClampNeg hM hp ho s5 (by omega) s6 k2 s7 (s10 rfl).2 k1) (fun u => (u.1, u.2.1, u.2.2.1, u.2.2.2.1, u.2.2.2.2.1, sa, ca, u.2.2.2.2.2.1, u.2.2.2.2.2.2)) (fun u hu => by rw [hu]; rfl) (fun u hu => rfl)
  · skip
    obtain ⟨q, rfl⟩ : ∃ q, sk = q + 2 := ⟨sk - 2, by have : 2 ≤ sk := s2; omega⟩
    have s3 : q + 2 ≤ 14 := by have e := s3; simp only [tkN, lvN, List.getD_cons_zero, List.getD_cons_succ] at e; omega
    exact pl_V_conv (c_Run_advance_10 l D cI cZ cL r b1 b2 b3 b4 sa ca ta tn how stat pl q stt dn v v1 v2 M z P K h a1 a2 a3 n lo hi th hM hp ho (by omega)) (fun _ => (1, pl + 1, q + 2, stt, dn, upd (upd sa q (sa (q + 1))) (q + 1) (sa q), ca, ta, tn)) (fun _ _ => rfl) (fun _ _ => rfl)
  · skip
    obtain ⟨q, rfl⟩ : ∃ q, sk = q + 1 := ⟨sk - 1, by have : 1 ≤ sk := s2; omega⟩
    have s3 : q + 2 ≤ 14 := by have e := s3; simp only [tkN, lvN, List.getD_cons_zero, List.getD_cons_succ] at e; omega
    exact pl_V_conv (c_Run_advance_11 l D cI cZ cL r b1 b2 b3 b4 sa ca ta tn how stat pl q stt dn v v1 v2 M z P K h a1 a2 a3 n lo hi th hM hp ho (by omega)) (fun _ => (1, pl + 1, q + 2, stt, dn, upd sa (q + 1) (sa q), ca, ta, tn)) (fun _ _ => rfl) (fun _ _ => rfl)
  · skip
    have s3 : sk ≤ 14 := by have e := s3; simp only [tkN, lvN, List.getD_cons_zero, List.getD_cons_succ] at e; omega
    exact pl_V_conv (c_Run_advance_12 l D cI cZ cL r b1 b2 b3 b4 sa ca ta tn how stat pl sk stt dn v v1 v2 M z P K h a1 a2 a3 n lo hi th hM hp ho ) (fun _ => (2, pl, sk, stt, dn, sa, ca, ta, tn)) (fun _ _ => rfl) (fun _ _ => rfl)

set_option maxHeartbeats 4000000 in
set_option maxRecDepth 100000 in
theorem c_Loom_step_p (l : Launch) (D : va_G) (cI cZ cL : ClassId) (t1 t2 : Nat) (x0 p0 p1 p2 h a1 a2 a3 e0 e1 e2 w w1 v v1 v2 r b1 b2 b3 b4 : Nat) (P K lo hi th F Qu fo f g sa ca ta tn : Nat → Int32) (np n qd z how stat pl q stt dn : Nat) (b ex wv : Bool) (x : Int32) (hl0 : l.stackTraces = false) (J : RS → Prop) (hJ4 : ∀ s, J s → s.1 ≤ 4) (hJ : ∀ s, J s → s.1 = 1 → s.2.1 < 24 ∧ P s.2.1 = nI (opn P s.2.1) ∧ okStep how th (opn P s.2.1) (K s.2.1) s.2.2.1 s.2.2.2.1 s.2.2.2.2.1 ∧ J ((stepF how lo hi th P K) s)) (h0 : J (stat, pl, q, stt, dn, sa, ca, ta, tn)) (hhow : ¬ how = 1) (hh2 : how ≤ 2) : pl_TI l y_Loom_step b_Loom_step 4 .int ({ frames := 6, cells := 1, slots := 6, locals := 135 } : Room) (EX t1 t2) D classes (TY cI cZ cL) [.ref x0, .int x] [(x0, .inr (5, [.ref p0, .ref h, .ref e0, .ref w, .ref r, .int (bI (ex)), .int (bI (wv))])), (p0, .inr (0, [.ref p1, .ref p2, .int (nI np)])), (p1, .inl (cI, 24, .inl P)), (p2, .inl (cI, 24, .inl K)), (h, .inr (1, [.ref a1, .ref a2, .ref a3, .int (nI n)])), (a1, .inl (cI, 32, .inl lo)), (a2, .inl (cI, 32, .inl hi)), (a3, .inl (cI, 32, .inl th)), (r, .inr (4, [.ref b1, .ref b2, .ref b3, .ref b4, .int (nI how), .int (nI stat), .int (nI pl), .int (nI q), .int (nI stt), .int (nI dn)])), (b1, .inl (cI, 14, .inl sa)), (b2, .inl (cI, 8, .inl ca)), (b3, .inl (cI, 60, .inl ta)), (b4, .inl (cI, 60, .inl tn))] (fun (rr : Int32) (u : RS) => ∃ N0, N0 ≤ 2000 ∧ x = nI N0 ∧ ¬ stat = 0 ∧ rr = nI (runN (stepF how lo hi th P K) N0 (stat, pl, q, stt, dn, sa, ca, ta, tn)).1 ∧ u = (runN (stepF how lo hi th P K) N0 (stat, pl, q, stt, dn, sa, ca, ta, tn)).2 ∧ J u) (fun (u : RS) => [(x0, .inr (5, [.ref p0, .ref h, .ref e0, .ref w, .ref r, .int (bI (ex)), .int (bI (wv))])), (p0, .inr (0, [.ref p1, .ref p2, .int (nI np)])), (p1, .inl (cI, 24, .inl P)), (p2, .inl (cI, 24, .inl K)), (h, .inr (1, [.ref a1, .ref a2, .ref a3, .int (nI n)])), (a1, .inl (cI, 32, .inl lo)), (a2, .inl (cI, 32, .inl hi)), (a3, .inl (cI, 32, .inl th)), (r, .inr (4, [.ref b1, .ref b2, .ref b3, .ref b4, .int (nI how), .int (nI u.1), .int (nI u.2.1), .int (nI u.2.2.1), .int (nI u.2.2.2.1), .int (nI u.2.2.2.2.1)])), (b1, .inl (cI, 14, .inl u.2.2.2.2.2.1)), (b2, .inl (cI, 8, .inl u.2.2.2.2.2.2.1)), (b3, .inl (cI, 60, .inl u.2.2.2.2.2.2.2.1)), (b4, .inl (cI, 60, .inl u.2.2.2.2.2.2.2.2))]) (fun (Nm : String) (_ : Unit) => (Nm = iseS ∧ stat = 0) ∨ (Nm = iaeS ∧ ¬ stat = 0 ∧ inB x 2001 = false)) (fun (_ : Unit) => [(x0, .inr (5, [.ref p0, .ref h, .ref e0, .ref w, .ref r, .int (bI (ex)), .int (bI (wv))])), (p0, .inr (0, [.ref p1, .ref p2, .int (nI np)])), (p1, .inl (cI, 24, .inl P)), (p2, .inl (cI, 24, .inl K)), (h, .inr (1, [.ref a1, .ref a2, .ref a3, .int (nI n)])), (a1, .inl (cI, 32, .inl lo)), (a2, .inl (cI, 32, .inl hi)), (a3, .inl (cI, 32, .inl th)), (r, .inr (4, [.ref b1, .ref b2, .ref b3, .ref b4, .int (nI how), .int (nI stat), .int (nI pl), .int (nI q), .int (nI stt), .int (nI dn)])), (b1, .inl (cI, 14, .inl sa)), (b2, .inl (cI, 8, .inl ca)), (b3, .inl (cI, 60, .inl ta)), (b4, .inl (cI, 60, .inl tn))]) := by
  refine pl_startTI (by decide) (Nat.le_of_ble_eq_true rfl) ?_
  intro p e s m args below meth c A ls X hr hlk hno hK hP hD hS hA hE hl
  have X : CallFix p m c b_Loom_step 4 s args TG R_Loom := X
  have hx := X.1
  have hb := X.2.1
  have hl : lv_has ls 4 [(0, .ref x0), (1, .int x)] := hl
  have hst4 : stat ≤ 4 := hJ4 _ h0
  refine lv_aload_n hx hb d_Loom_step_0 rfl (lv_at hl 0 rfl) ?_
  refine pl_get X fw_Loom_42 hK hP 0 rfl (v := .ref r) rfl d_Loom_step_1 ?_
  refine pl_get X fw_Loom_130 hK hP 8 rfl (v := .int (nI stat)) rfl d_Loom_step_4 ?_
  refine pl_if_ne X (by omega) d_Loom_step_7 rfl (fun g7 => ?_) (fun g7 => ?_)
  · skip
    refine lv_iload_n hx hb d_Loom_step_20 rfl (lv_at hl 1 rfl) ?_
    refine lv_if_lt hx hb d_Loom_step_21 rfl (fun g21 => ?_) (fun g21 => ?_)
    · skip
      exact pl_throw (is := 138) (text := "no such number of steps") X hl0 xw_iaeS hE (by decide +kernel) hno hlk hK () (Or.inr ⟨rfl, g7, inB_lo g21⟩) hP hD hS hl.1 d_Loom_step_31 d_Loom_step_34 d_Loom_step_35 d_Loom_step_37 d_Loom_step_40 (by decide) (Nat.le_of_ble_eq_true rfl) (by decide) (by decide) (by decide) (by decide)
    · skip
      refine lv_iload_n hx hb d_Loom_step_24 rfl (lv_at hl 1 rfl) ?_
      refine lv_sipush (v := nI 2000) hx hb d_Loom_step_25 (by decide) ?_
      refine lv_icmp_le hx hb d_Loom_step_28 rfl (fun g28 => ?_) (fun g28 => ?_)
      · skip
        obtain ⟨N0, hN0, hxj⟩ := inB_of (by omega) (inB_le_t (m := 2000) (by omega) g21 g28)
        have hl : lv_has ls 4 [(0, .ref x0), (1, .int (nI N0))] := by rw [← hxj]; exact hl
        refine lv_aload_n hx hb d_Loom_step_41 rfl (lv_at hl 0 rfl) ?_
        refine pl_get X fw_Loom_42 hK hP 0 rfl (v := .ref r) rfl d_Loom_step_42 ?_
        refine pl_get X fw_Loom_140 hK hP 8 rfl (v := .int (nI how)) rfl d_Loom_step_45 ?_
        refine lv_iconst (v := nI 1) hx hb d_Loom_step_48 (by decide) ?_
        refine pl_icmp_ne X (by omega) (by decide) d_Loom_step_49 rfl (fun g49 => ?_) (fun g49 => ?_)
        · skip
          refine lv_aload_n hx hb d_Loom_step_59 rfl (lv_at hl 0 rfl) ?_
          refine pl_get X fw_Loom_14 hK hP 0 rfl (v := .ref p0) rfl d_Loom_step_60 ?_
          refine lv_astore_n hx hb d_Loom_step_63 rfl hl (by decide) (lv' := [(2, .ref p0), (0, .ref x0), (1, .int (nI N0))]) rfl (fun ls hl => ?_)
          refine lv_iconst (v := nI 0) hx hb d_Loom_step_64 (by decide) ?_
          refine lv_istore_n hx hb d_Loom_step_65 rfl hl (by decide) (lv' := [(3, .int (nI 0)), (2, .ref p0), (0, .ref x0), (1, .int (nI N0))]) rfl (fun ls hl => ?_)
          have loop_66 : ∀ (k : Nat) (i : Nat) (rs : RS) (H : Heap) (locs : List Loc) (ls : Array Slot), N0 - i = k → (i ≤ N0) → (J rs) → (runN (stepF how lo hi th P K) N0 (stat, pl, q, stt, dn, sa, ca, ta, tn) = ((runN (stepF how lo hi th P K) (N0 - i) rs).1 + i, (runN (stepF how lo hi th P K) (N0 - i) rs).2)) → va_P D classes [(x0, .inr (5, [.ref p0, .ref h, .ref e0, .ref w, .ref r, .int (bI (ex)), .int (bI (wv))])), (p0, .inr (0, [.ref p1, .ref p2, .int (nI np)])), (p1, .inl (cI, 24, .inl P)), (p2, .inl (cI, 24, .inl K)), (h, .inr (1, [.ref a1, .ref a2, .ref a3, .int (nI n)])), (a1, .inl (cI, 32, .inl lo)), (a2, .inl (cI, 32, .inl hi)), (a3, .inl (cI, 32, .inl th)), (r, .inr (4, [.ref b1, .ref b2, .ref b3, .ref b4, .int (nI how), .int (nI rs.1), .int (nI rs.2.1), .int (nI rs.2.2.1), .int (nI rs.2.2.2.1), .int (nI rs.2.2.2.2.1)])), (b1, .inl (cI, 14, .inl rs.2.2.2.2.2.1)), (b2, .inl (cI, 8, .inl rs.2.2.2.2.2.2.1)), (b3, .inl (cI, 60, .inl rs.2.2.2.2.2.2.2.1)), (b4, .inl (cI, 60, .inl rs.2.2.2.2.2.2.2.2))] H → va_D A [(x0, .inr (5, [.ref p0, .ref h, .ref e0, .ref w, .ref r, .int (bI (ex)), .int (bI (wv))])), (p0, .inr (0, [.ref p1, .ref p2, .int (nI np)])), (p1, .inl (cI, 24, .inl P)), (p2, .inl (cI, 24, .inl K)), (h, .inr (1, [.ref a1, .ref a2, .ref a3, .int (nI n)])), (a1, .inl (cI, 32, .inl lo)), (a2, .inl (cI, 32, .inl hi)), (a3, .inl (cI, 32, .inl th)), (r, .inr (4, [.ref b1, .ref b2, .ref b3, .ref b4, .int (nI how), .int (nI rs.1), .int (nI rs.2.1), .int (nI rs.2.2.1), .int (nI rs.2.2.2.1), .int (nI rs.2.2.2.2.1)])), (b1, .inl (cI, 14, .inl rs.2.2.2.2.2.1)), (b2, .inl (cI, 8, .inl rs.2.2.2.2.2.2.1)), (b3, .inl (cI, 60, .inl rs.2.2.2.2.2.2.2.1)), (b4, .inl (cI, 60, .inl rs.2.2.2.2.2.2.2.2))] → va_S A s.heap H locs → lv_has ls 4 [(3, .int (nI i)), (2, .ref p0), (0, .ref x0), (1, .int (nI N0))] → W p l e ({ frames := 6, cells := 1, slots := 6, locals := 135 } : Room) s m args below meth c H locs 0 0 (vx_MQ below (va_Qi (fun (rr : Int32) (u : RS) => ∃ N0, N0 ≤ 2000 ∧ x = nI N0 ∧ ¬ stat = 0 ∧ rr = nI (runN (stepF how lo hi th P K) N0 (stat, pl, q, stt, dn, sa, ca, ta, tn)).1 ∧ u = (runN (stepF how lo hi th P K) N0 (stat, pl, q, stt, dn, sa, ca, ta, tn)).2 ∧ J u) (fun u => pl_out D classes (TY cI cZ cL) A ((fun (u : RS) => [(x0, .inr (5, [.ref p0, .ref h, .ref e0, .ref w, .ref r, .int (bI (ex)), .int (bI (wv))])), (p0, .inr (0, [.ref p1, .ref p2, .int (nI np)])), (p1, .inl (cI, 24, .inl P)), (p2, .inl (cI, 24, .inl K)), (h, .inr (1, [.ref a1, .ref a2, .ref a3, .int (nI n)])), (a1, .inl (cI, 32, .inl lo)), (a2, .inl (cI, 32, .inl hi)), (a3, .inl (cI, 32, .inl th)), (r, .inr (4, [.ref b1, .ref b2, .ref b3, .ref b4, .int (nI how), .int (nI u.1), .int (nI u.2.1), .int (nI u.2.2.1), .int (nI u.2.2.2.1), .int (nI u.2.2.2.2.1)])), (b1, .inl (cI, 14, .inl u.2.2.2.2.2.1)), (b2, .inl (cI, 8, .inl u.2.2.2.2.2.2.1)), (b3, .inl (cI, 60, .inl u.2.2.2.2.2.2.2.1)), (b4, .inl (cI, 60, .inl u.2.2.2.2.2.2.2.2))]) u)) A) (pl_XC (fun (Nm : String) (_ : Unit) => (Nm = iseS ∧ stat = 0) ∨ (Nm = iaeS ∧ ¬ stat = 0 ∧ inB x 2001 = false)) D classes (TY cI cZ cL) A (fun (_ : Unit) => [(x0, .inr (5, [.ref p0, .ref h, .ref e0, .ref w, .ref r, .int (bI (ex)), .int (bI (wv))])), (p0, .inr (0, [.ref p1, .ref p2, .int (nI np)])), (p1, .inl (cI, 24, .inl P)), (p2, .inl (cI, 24, .inl K)), (h, .inr (1, [.ref a1, .ref a2, .ref a3, .int (nI n)])), (a1, .inl (cI, 32, .inl lo)), (a2, .inl (cI, 32, .inl hi)), (a3, .inl (cI, 32, .inl th)), (r, .inr (4, [.ref b1, .ref b2, .ref b3, .ref b4, .int (nI how), .int (nI stat), .int (nI pl), .int (nI q), .int (nI stt), .int (nI dn)])), (b1, .inl (cI, 14, .inl sa)), (b2, .inl (cI, 8, .inl ca)), (b3, .inl (cI, 60, .inl ta)), (b4, .inl (cI, 60, .inl tn))])) args s 1 6 A) (F0 m 66 ls []) := by
            intro k
            induction k using Nat.strongRecOn with
            | _ k ih =>
            intro i rs H locs ls hk hi0 hs he hP hD hS hl
            have hs4 := hJ4 rs hs
            refine lv_iload_n hx hb d_Loom_step_66 rfl (lv_at hl 0 rfl) ?_
            refine lv_iload_n hx hb d_Loom_step_67 rfl (lv_at hl 3 rfl) ?_
            refine pl_icmp_ge X (by omega) (by omega) d_Loom_step_68 rfl (fun g68 => ?_) (fun g68 => ?_)
            · skip
              refine lv_iload_n hx hb d_Loom_step_102 rfl (lv_at hl 3 rfl) ?_
              exact pl_iretT X hr hlk hK rfl rs ⟨N0, by omega, hxj, g7, by rw [run_end he g68]; exact congrArg nI (by omega), by rw [run_end he g68], hs⟩ hP hD hS (by decide) (by decide) d_Loom_step_103
            · skip
              refine lv_aload_n hx hb d_Loom_step_71 rfl (lv_at hl 2 rfl) ?_
              refine pl_get X fw_Loom_42 hK hP 0 rfl (v := .ref r) rfl d_Loom_step_72 ?_
              refine pl_get X fw_Loom_130 hK hP 8 rfl (v := .int (nI rs.1)) rfl d_Loom_step_75 ?_
              refine lv_iconst (v := nI 1) hx hb d_Loom_step_78 (by decide) ?_
              refine pl_icmp_eq X (by omega) (by decide) d_Loom_step_79 rfl (fun g79 => ?_) (fun g79 => ?_)
              · skip
                obtain ⟨k1, k2, k3, k4⟩ := hJ rs hs g79
                rw [g79] at hP hD
                have hj1 := k1
                have hj2 := k2
                have hj3 := k3
                refine lv_aload_n hx hb d_Loom_step_84 rfl (lv_at hl 2 rfl) ?_
                refine pl_get X fw_Loom_42 hK hP 0 rfl (v := .ref r) rfl d_Loom_step_85 ?_
                refine lv_aload_n hx hb d_Loom_step_88 rfl (lv_at hl 1 rfl) ?_
                refine lv_aload_n hx hb d_Loom_step_89 rfl (lv_at hl 2 rfl) ?_
                refine pl_get X fw_Loom_21 hK hP 0 rfl (v := .ref h) rfl d_Loom_step_90 ?_
                refine pl_callVV X (rest := []) (As := [.ref p0, .ref h]) (b := r) (c_Run_advance l D cI cZ cL r b1 b2 b3 b4 rs.2.2.2.2.2.1 rs.2.2.2.2.2.2.1 rs.2.2.2.2.2.2.2.1 rs.2.2.2.2.2.2.2.2 how 1 rs.2.1 rs.2.2.1 rs.2.2.2.1 rs.2.2.2.2.1 p0 p1 p2 24 np P K h a1 a2 a3 n lo hi th (opn P rs.2.1) (by decide) hj1 hj2 hj3) ck_Loom_143 pl_E0_ok trivial hK hP hD hS hA (T := F_Run) (N := N_Run) (ci := 4) rfl 8 rfl [8, 9, 10, 11, 12, 1, 2, 3, 4, 5, 6, 7] [0] [0, 6, 7, 8, 9, 10, 11, 12, 1, 2, 3, 4, 5] rfl (by decide) (wr := [(x0, .inr (5, [.ref p0, .ref h, .ref e0, .ref w, .ref r, .int (bI (ex)), .int (bI (wv))]))]) rfl (by decide) (by decide) (wf := fun (u0s : RS) => [(x0, .inr (5, [.ref p0, .ref h, .ref e0, .ref w, .ref r, .int (bI (ex)), .int (bI (wv))])), (p0, .inr (0, [.ref p1, .ref p2, .int (nI np)])), (p1, .inl (cI, 24, .inl P)), (p2, .inl (cI, 24, .inl K)), (h, .inr (1, [.ref a1, .ref a2, .ref a3, .int (nI n)])), (a1, .inl (cI, 32, .inl lo)), (a2, .inl (cI, 32, .inl hi)), (a3, .inl (cI, 32, .inl th)), (r, .inr (4, [.ref b1, .ref b2, .ref b3, .ref b4, .int (nI how), .int (nI u0s.1), .int (nI u0s.2.1), .int (nI u0s.2.2.1), .int (nI u0s.2.2.2.1), .int (nI u0s.2.2.2.2.1)])), (b1, .inl (cI, 14, .inl u0s.2.2.2.2.2.1)), (b2, .inl (cI, 8, .inl u0s.2.2.2.2.2.2.1)), (b3, .inl (cI, 60, .inl u0s.2.2.2.2.2.2.2.1)), (b4, .inl (cI, 60, .inl u0s.2.2.2.2.2.2.2.2))]) (fun _ => rfl) (by decide) rfl hl.1 rfl (Nat.le_of_ble_eq_true rfl) (by decide) (by decide) d_Loom_step_93 (fun u0s H locs hcq hP hD hS => ?_)
                refine lv_iinc hx hb d_Loom_step_96 hl (k := 0) rfl (nI_inc1 _) (by decide) (lv' := [(3, .int (nI (i + 1))), (2, .ref p0), (0, .ref x0), (1, .int (nI N0))]) rfl (fun ls hl => ?_)
                refine lv_goto hx hb d_Loom_step_99 rfl ?_
                exact ih _ (by omega) (i + 1) u0s _ _ _ rfl (by omega) (by rw [hcq]; exact k4) (by rw [hcq]; exact run_next he g68 g79) hP hD hS hl
              · skip
                refine lv_iload_n hx hb d_Loom_step_82 rfl (lv_at hl 0 rfl) ?_
                exact pl_iretT X hr hlk hK rfl rs ⟨N0, by omega, hxj, g7, by rw [run_stop he g79], by rw [run_stop he g79], hs⟩ hP hD hS (by decide) (by decide) d_Loom_step_83
          exact loop_66 _ 0 ((stat, pl, q, stt, dn, sa, ca, ta, tn)) _ _ _ rfl (Nat.zero_le _) h0 rfl hP hD hS hl
        · skip
          exact absurd g49 hhow
      · skip
        exact pl_throw (is := 138) (text := "no such number of steps") X hl0 xw_iaeS hE (by decide +kernel) hno hlk hK () (Or.inr ⟨rfl, g7, inB_le_f (by omega) g28⟩) hP hD hS hl.1 d_Loom_step_31 d_Loom_step_34 d_Loom_step_35 d_Loom_step_37 d_Loom_step_40 (by decide) (Nat.le_of_ble_eq_true rfl) (by decide) (by decide) (by decide) (by decide)
  · skip
    exact pl_throw (is := 135) (text := "no run") X hl0 xw_iseS hE (by decide +kernel) hno hlk hK () (Or.inl ⟨rfl, g7⟩) hP hD hS hl.1 d_Loom_step_10 d_Loom_step_13 d_Loom_step_14 d_Loom_step_16 d_Loom_step_19 (by decide) (Nat.le_of_ble_eq_true rfl) (by decide) (by decide) (by decide) (by decide)

set_option maxHeartbeats 4000000 in
set_option maxRecDepth 100000 in
theorem c_Loom_step_w (l : Launch) (D : va_G) (cI cZ cL : ClassId) (t1 t2 : Nat) (x0 p0 p1 p2 h a1 a2 a3 e0 e1 e2 w w1 v v1 v2 r b1 b2 b3 b4 : Nat) (P K lo hi th F Qu fo f g sa ca ta tn : Nat → Int32) (np n qd z how stat pl q stt dn : Nat) (b ex wv : Bool) (x : Int32) (hl0 : l.stackTraces = false) (J : RS → Prop) (hJ4 : ∀ s, J s → s.1 ≤ 4) (hJ : ∀ s, J s → s.1 = 1 → s.2.1 < plc P K th n np ∧ (fun j => (wO P K th n np).getD j 0) s.2.1 = nI (opn (fun j => (wO P K th n np).getD j 0) s.2.1) ∧ okStep how th (opn (fun j => (wO P K th n np).getD j 0) s.2.1) ((fun j => (wK P K lo hi th n np).getD j 0) s.2.1) s.2.2.1 s.2.2.2.1 s.2.2.2.2.1 ∧ J ((stepF how lo hi th (fun j => (wO P K th n np).getD j 0) (fun j => (wK P K lo hi th n np).getD j 0)) s)) (h0 : J (stat, pl, q, stt, dn, sa, ca, ta, tn)) (hhow : how = 1) (hn : n ≤ 4) (hnp : np ≤ 24) (hop : okP P np) (hok : okK P K np) (hwv : wv = true → woP P K lo hi th n np f g z) : pl_TI l y_Loom_step b_Loom_step 4 .int ({ frames := 6, cells := 1, slots := 6, locals := 135 } : Room) (EX t1 t2) D classes (TY cI cZ cL) [.ref x0, .int x] [(x0, .inr (5, [.ref p0, .ref h, .ref e0, .ref w, .ref r, .int (bI (ex)), .int (bI (wv))])), (p0, .inr (0, [.ref p1, .ref p2, .int (nI np)])), (p1, .inl (cI, 24, .inl P)), (p2, .inl (cI, 24, .inl K)), (h, .inr (1, [.ref a1, .ref a2, .ref a3, .int (nI n)])), (a1, .inl (cI, 32, .inl lo)), (a2, .inl (cI, 32, .inl hi)), (a3, .inl (cI, 32, .inl th)), (w, .inr (3, [.ref v, .ref w1])), (w1, .inl (cI, 24, .inl fo)), (v, .inr (0, [.ref v1, .ref v2, .int (nI z)])), (v1, .inl (cI, 1584, .inl f)), (v2, .inl (cI, 1584, .inl g)), (r, .inr (4, [.ref b1, .ref b2, .ref b3, .ref b4, .int (nI how), .int (nI stat), .int (nI pl), .int (nI q), .int (nI stt), .int (nI dn)])), (b1, .inl (cI, 14, .inl sa)), (b2, .inl (cI, 8, .inl ca)), (b3, .inl (cI, 60, .inl ta)), (b4, .inl (cI, 60, .inl tn))] (fun (rr : Int32) (u : (RS × WS)) => ∃ N0, N0 ≤ 2000 ∧ x = nI N0 ∧ ¬ stat = 0 ∧ rr = nI (runN (stepF how lo hi th (fun j => (wO P K th n np).getD j 0) (fun j => (wK P K lo hi th n np).getD j 0)) N0 (stat, pl, q, stt, dn, sa, ca, ta, tn)).1 ∧ u.1 = (runN (stepF how lo hi th (fun j => (wO P K th n np).getD j 0) (fun j => (wK P K lo hi th n np).getD j 0)) N0 (stat, pl, q, stt, dn, sa, ca, ta, tn)).2 ∧ J u.1 ∧ woP P K lo hi th n np u.2.2.1 u.2.2.2.1 u.2.2.2.2) (fun (u : (RS × WS)) => [(x0, .inr (5, [.ref p0, .ref h, .ref e0, .ref w, .ref r, .int (bI (ex)), .int (bI (true))])), (p0, .inr (0, [.ref p1, .ref p2, .int (nI np)])), (p1, .inl (cI, 24, .inl P)), (p2, .inl (cI, 24, .inl K)), (h, .inr (1, [.ref a1, .ref a2, .ref a3, .int (nI n)])), (a1, .inl (cI, 32, .inl lo)), (a2, .inl (cI, 32, .inl hi)), (a3, .inl (cI, 32, .inl th)), (w, .inr (3, [.ref v, .ref w1])), (w1, .inl (cI, 24, .inl u.2.1)), (v, .inr (0, [.ref v1, .ref v2, .int (nI u.2.2.2.2)])), (v1, .inl (cI, 1584, .inl u.2.2.1)), (v2, .inl (cI, 1584, .inl u.2.2.2.1)), (r, .inr (4, [.ref b1, .ref b2, .ref b3, .ref b4, .int (nI how), .int (nI u.1.1), .int (nI u.1.2.1), .int (nI u.1.2.2.1), .int (nI u.1.2.2.2.1), .int (nI u.1.2.2.2.2.1)])), (b1, .inl (cI, 14, .inl u.1.2.2.2.2.2.1)), (b2, .inl (cI, 8, .inl u.1.2.2.2.2.2.2.1)), (b3, .inl (cI, 60, .inl u.1.2.2.2.2.2.2.2.1)), (b4, .inl (cI, 60, .inl u.1.2.2.2.2.2.2.2.2))]) (fun (Nm : String) (_ : Unit) => (Nm = iseS ∧ stat = 0) ∨ (Nm = iaeS ∧ ¬ stat = 0 ∧ inB x 2001 = false)) (fun (_ : Unit) => [(x0, .inr (5, [.ref p0, .ref h, .ref e0, .ref w, .ref r, .int (bI (ex)), .int (bI (wv))])), (p0, .inr (0, [.ref p1, .ref p2, .int (nI np)])), (p1, .inl (cI, 24, .inl P)), (p2, .inl (cI, 24, .inl K)), (h, .inr (1, [.ref a1, .ref a2, .ref a3, .int (nI n)])), (a1, .inl (cI, 32, .inl lo)), (a2, .inl (cI, 32, .inl hi)), (a3, .inl (cI, 32, .inl th)), (w, .inr (3, [.ref v, .ref w1])), (w1, .inl (cI, 24, .inl fo)), (v, .inr (0, [.ref v1, .ref v2, .int (nI z)])), (v1, .inl (cI, 1584, .inl f)), (v2, .inl (cI, 1584, .inl g)), (r, .inr (4, [.ref b1, .ref b2, .ref b3, .ref b4, .int (nI how), .int (nI stat), .int (nI pl), .int (nI q), .int (nI stt), .int (nI dn)])), (b1, .inl (cI, 14, .inl sa)), (b2, .inl (cI, 8, .inl ca)), (b3, .inl (cI, 60, .inl ta)), (b4, .inl (cI, 60, .inl tn))]) := by
  refine pl_startTI (by decide) (Nat.le_of_ble_eq_true rfl) ?_
  intro p e s m args below meth c A ls X hr hlk hno hK hP hD hS hA hE hl
  have X : CallFix p m c b_Loom_step 4 s args TG R_Loom := X
  have hx := X.1
  have hb := X.2.1
  have hl : lv_has ls 4 [(0, .ref x0), (1, .int x)] := hl
  have hst4 : stat ≤ 4 := hJ4 _ h0
  refine lv_aload_n hx hb d_Loom_step_0 rfl (lv_at hl 0 rfl) ?_
  refine pl_get X fw_Loom_42 hK hP 0 rfl (v := .ref r) rfl d_Loom_step_1 ?_
  refine pl_get X fw_Loom_130 hK hP 13 rfl (v := .int (nI stat)) rfl d_Loom_step_4 ?_
  refine pl_if_ne X (by omega) d_Loom_step_7 rfl (fun g7 => ?_) (fun g7 => ?_)
  · skip
    refine lv_iload_n hx hb d_Loom_step_20 rfl (lv_at hl 1 rfl) ?_
    refine lv_if_lt hx hb d_Loom_step_21 rfl (fun g21 => ?_) (fun g21 => ?_)
    · skip
      exact pl_throw (is := 138) (text := "no such number of steps") X hl0 xw_iaeS hE (by decide +kernel) hno hlk hK () (Or.inr ⟨rfl, g7, inB_lo g21⟩) hP hD hS hl.1 d_Loom_step_31 d_Loom_step_34 d_Loom_step_35 d_Loom_step_37 d_Loom_step_40 (by decide) (Nat.le_of_ble_eq_true rfl) (by decide) (by decide) (by decide) (by decide)
    · skip
      refine lv_iload_n hx hb d_Loom_step_24 rfl (lv_at hl 1 rfl) ?_
      refine lv_sipush (v := nI 2000) hx hb d_Loom_step_25 (by decide) ?_
      refine lv_icmp_le hx hb d_Loom_step_28 rfl (fun g28 => ?_) (fun g28 => ?_)
      · skip
        obtain ⟨N0, hN0, hxj⟩ := inB_of (by omega) (inB_le_t (m := 2000) (by omega) g21 g28)
        have hl : lv_has ls 4 [(0, .ref x0), (1, .int (nI N0))] := by rw [← hxj]; exact hl
        refine lv_aload_n hx hb d_Loom_step_41 rfl (lv_at hl 0 rfl) ?_
        refine pl_get X fw_Loom_42 hK hP 0 rfl (v := .ref r) rfl d_Loom_step_42 ?_
        refine pl_get X fw_Loom_140 hK hP 13 rfl (v := .int (nI how)) rfl d_Loom_step_45 ?_
        refine lv_iconst (v := nI 1) hx hb d_Loom_step_48 (by decide) ?_
        refine pl_icmp_ne X (by omega) (by decide) d_Loom_step_49 rfl (fun g49 => ?_) (fun g49 => ?_)
        · skip
          exact absurd hhow g49
        · skip
          refine lv_aload_n hx hb d_Loom_step_52 rfl (lv_at hl 0 rfl) ?_
          refine pl_callVR X (rest := []) (As := []) (b := x0) (c_Loom_wovenListing l D cI cZ cL t1 t2 x0 p0 p1 p2 h a1 a2 a3 e0 e1 e2 w w1 v v1 v2 r b1 b2 b3 b4 P K lo hi th F Qu fo f g sa ca ta tn np n qd z how stat pl q stt dn b ex wv hn hnp hop hok hwv) ck_Loom_115 (EV_ok t1 t2) (pl_pass (EV_ok t1 t2) hE.1 hD hS hA [0, 1, 2, 3, 4, 5, 6, 7, 8, 9, 10, 11, 12] rfl) hK hP hD hS hA (T := F_Loom) (N := N_Loom) (ci := 5) rfl 0 rfl [0, 1, 2, 3, 4, 5, 6, 7, 8, 9, 10, 11, 12] [13, 14, 15, 16, 17] [5, 6, 7, 8, 9, 10, 11, 12, 13, 14, 15, 16, 17, 0, 1, 2, 3, 4] rfl (by decide) (wr := [(r, .inr (4, [.ref b1, .ref b2, .ref b3, .ref b4, .int (nI how), .int (nI stat), .int (nI pl), .int (nI q), .int (nI stt), .int (nI dn)])), (b1, .inl (cI, 14, .inl sa)), (b2, .inl (cI, 8, .inl ca)), (b3, .inl (cI, 60, .inl ta)), (b4, .inl (cI, 60, .inl tn))]) rfl (by decide) (by decide) (wf := fun (y : WS) => [(x0, .inr (5, [.ref p0, .ref h, .ref e0, .ref w, .ref r, .int (bI (ex)), .int (bI (true))])), (p0, .inr (0, [.ref p1, .ref p2, .int (nI np)])), (p1, .inl (cI, 24, .inl P)), (p2, .inl (cI, 24, .inl K)), (h, .inr (1, [.ref a1, .ref a2, .ref a3, .int (nI n)])), (a1, .inl (cI, 32, .inl lo)), (a2, .inl (cI, 32, .inl hi)), (a3, .inl (cI, 32, .inl th)), (w, .inr (3, [.ref v, .ref w1])), (w1, .inl (cI, 24, .inl y.1)), (v, .inr (0, [.ref v1, .ref v2, .int (nI y.2.2.2)])), (v1, .inl (cI, 1584, .inl y.2.1)), (v2, .inl (cI, 1584, .inl y.2.2.1)), (r, .inr (4, [.ref b1, .ref b2, .ref b3, .ref b4, .int (nI how), .int (nI stat), .int (nI pl), .int (nI q), .int (nI stt), .int (nI dn)])), (b1, .inl (cI, 14, .inl sa)), (b2, .inl (cI, 8, .inl ca)), (b3, .inl (cI, 60, .inl ta)), (b4, .inl (cI, 60, .inl tn))]) (fun _ => rfl) (by decide) rfl hl.1 rfl (Nat.le_of_ble_eq_true rfl) (by decide) (by decide) d_Loom_step_53 (fun y H locs hcq hP hD hS => ?_)
          have hwo := hcq
          refine lv_goto hx hb d_Loom_step_56 rfl ?_
          refine lv_astore_n hx hb d_Loom_step_63 rfl hl (by decide) (lv' := [(2, .ref v), (0, .ref x0), (1, .int (nI N0))]) rfl (fun ls hl => ?_)
          refine lv_iconst (v := nI 0) hx hb d_Loom_step_64 (by decide) ?_
          refine lv_istore_n hx hb d_Loom_step_65 rfl hl (by decide) (lv' := [(3, .int (nI 0)), (2, .ref v), (0, .ref x0), (1, .int (nI N0))]) rfl (fun ls hl => ?_)
          have loop_66 : ∀ (k : Nat) (i : Nat) (rs : RS) (H : Heap) (locs : List Loc) (ls : Array Slot), N0 - i = k → (i ≤ N0) → (J rs) → (runN (stepF how lo hi th (fun j => (wO P K th n np).getD j 0) (fun j => (wK P K lo hi th n np).getD j 0)) N0 (stat, pl, q, stt, dn, sa, ca, ta, tn) = ((runN (stepF how lo hi th (fun j => (wO P K th n np).getD j 0) (fun j => (wK P K lo hi th n np).getD j 0)) (N0 - i) rs).1 + i, (runN (stepF how lo hi th (fun j => (wO P K th n np).getD j 0) (fun j => (wK P K lo hi th n np).getD j 0)) (N0 - i) rs).2)) → va_P D classes [(x0, .inr (5, [.ref p0, .ref h, .ref e0, .ref w, .ref r, .int (bI (ex)), .int (bI (true))])), (p0, .inr (0, [.ref p1, .ref p2, .int (nI np)])), (p1, .inl (cI, 24, .inl P)), (p2, .inl (cI, 24, .inl K)), (h, .inr (1, [.ref a1, .ref a2, .ref a3, .int (nI n)])), (a1, .inl (cI, 32, .inl lo)), (a2, .inl (cI, 32, .inl hi)), (a3, .inl (cI, 32, .inl th)), (w, .inr (3, [.ref v, .ref w1])), (w1, .inl (cI, 24, .inl y.1)), (v, .inr (0, [.ref v1, .ref v2, .int (nI y.2.2.2)])), (v1, .inl (cI, 1584, .inl y.2.1)), (v2, .inl (cI, 1584, .inl y.2.2.1)), (r, .inr (4, [.ref b1, .ref b2, .ref b3, .ref b4, .int (nI how), .int (nI rs.1), .int (nI rs.2.1), .int (nI rs.2.2.1), .int (nI rs.2.2.2.1), .int (nI rs.2.2.2.2.1)])), (b1, .inl (cI, 14, .inl rs.2.2.2.2.2.1)), (b2, .inl (cI, 8, .inl rs.2.2.2.2.2.2.1)), (b3, .inl (cI, 60, .inl rs.2.2.2.2.2.2.2.1)), (b4, .inl (cI, 60, .inl rs.2.2.2.2.2.2.2.2))] H → va_D A [(x0, .inr (5, [.ref p0, .ref h, .ref e0, .ref w, .ref r, .int (bI (ex)), .int (bI (true))])), (p0, .inr (0, [.ref p1, .ref p2, .int (nI np)])), (p1, .inl (cI, 24, .inl P)), (p2, .inl (cI, 24, .inl K)), (h, .inr (1, [.ref a1, .ref a2, .ref a3, .int (nI n)])), (a1, .inl (cI, 32, .inl lo)), (a2, .inl (cI, 32, .inl hi)), (a3, .inl (cI, 32, .inl th)), (w, .inr (3, [.ref v, .ref w1])), (w1, .inl (cI, 24, .inl y.1)), (v, .inr (0, [.ref v1, .ref v2, .int (nI y.2.2.2)])), (v1, .inl (cI, 1584, .inl y.2.1)), (v2, .inl (cI, 1584, .inl y.2.2.1)), (r, .inr (4, [.ref b1, .ref b2, .ref b3, .ref b4, .int (nI how), .int (nI rs.1), .int (nI rs.2.1), .int (nI rs.2.2.1), .int (nI rs.2.2.2.1), .int (nI rs.2.2.2.2.1)])), (b1, .inl (cI, 14, .inl rs.2.2.2.2.2.1)), (b2, .inl (cI, 8, .inl rs.2.2.2.2.2.2.1)), (b3, .inl (cI, 60, .inl rs.2.2.2.2.2.2.2.1)), (b4, .inl (cI, 60, .inl rs.2.2.2.2.2.2.2.2))] → va_S A s.heap H locs → lv_has ls 4 [(3, .int (nI i)), (2, .ref v), (0, .ref x0), (1, .int (nI N0))] → W p l e ({ frames := 6, cells := 1, slots := 6, locals := 135 } : Room) s m args below meth c H locs 0 0 (vx_MQ below (va_Qi (fun (rr : Int32) (u : (RS × WS)) => ∃ N0, N0 ≤ 2000 ∧ x = nI N0 ∧ ¬ stat = 0 ∧ rr = nI (runN (stepF how lo hi th (fun j => (wO P K th n np).getD j 0) (fun j => (wK P K lo hi th n np).getD j 0)) N0 (stat, pl, q, stt, dn, sa, ca, ta, tn)).1 ∧ u.1 = (runN (stepF how lo hi th (fun j => (wO P K th n np).getD j 0) (fun j => (wK P K lo hi th n np).getD j 0)) N0 (stat, pl, q, stt, dn, sa, ca, ta, tn)).2 ∧ J u.1 ∧ woP P K lo hi th n np u.2.2.1 u.2.2.2.1 u.2.2.2.2) (fun u => pl_out D classes (TY cI cZ cL) A ((fun (u : (RS × WS)) => [(x0, .inr (5, [.ref p0, .ref h, .ref e0, .ref w, .ref r, .int (bI (ex)), .int (bI (true))])), (p0, .inr (0, [.ref p1, .ref p2, .int (nI np)])), (p1, .inl (cI, 24, .inl P)), (p2, .inl (cI, 24, .inl K)), (h, .inr (1, [.ref a1, .ref a2, .ref a3, .int (nI n)])), (a1, .inl (cI, 32, .inl lo)), (a2, .inl (cI, 32, .inl hi)), (a3, .inl (cI, 32, .inl th)), (w, .inr (3, [.ref v, .ref w1])), (w1, .inl (cI, 24, .inl u.2.1)), (v, .inr (0, [.ref v1, .ref v2, .int (nI u.2.2.2.2)])), (v1, .inl (cI, 1584, .inl u.2.2.1)), (v2, .inl (cI, 1584, .inl u.2.2.2.1)), (r, .inr (4, [.ref b1, .ref b2, .ref b3, .ref b4, .int (nI how), .int (nI u.1.1), .int (nI u.1.2.1), .int (nI u.1.2.2.1), .int (nI u.1.2.2.2.1), .int (nI u.1.2.2.2.2.1)])), (b1, .inl (cI, 14, .inl u.1.2.2.2.2.2.1)), (b2, .inl (cI, 8, .inl u.1.2.2.2.2.2.2.1)), (b3, .inl (cI, 60, .inl u.1.2.2.2.2.2.2.2.1)), (b4, .inl (cI, 60, .inl u.1.2.2.2.2.2.2.2.2))]) u)) A) (pl_XC (fun (Nm : String) (_ : Unit) => (Nm = iseS ∧ stat = 0) ∨ (Nm = iaeS ∧ ¬ stat = 0 ∧ inB x 2001 = false)) D classes (TY cI cZ cL) A (fun (_ : Unit) => [(x0, .inr (5, [.ref p0, .ref h, .ref e0, .ref w, .ref r, .int (bI (ex)), .int (bI (wv))])), (p0, .inr (0, [.ref p1, .ref p2, .int (nI np)])), (p1, .inl (cI, 24, .inl P)), (p2, .inl (cI, 24, .inl K)), (h, .inr (1, [.ref a1, .ref a2, .ref a3, .int (nI n)])), (a1, .inl (cI, 32, .inl lo)), (a2, .inl (cI, 32, .inl hi)), (a3, .inl (cI, 32, .inl th)), (w, .inr (3, [.ref v, .ref w1])), (w1, .inl (cI, 24, .inl fo)), (v, .inr (0, [.ref v1, .ref v2, .int (nI z)])), (v1, .inl (cI, 1584, .inl f)), (v2, .inl (cI, 1584, .inl g)), (r, .inr (4, [.ref b1, .ref b2, .ref b3, .ref b4, .int (nI how), .int (nI stat), .int (nI pl), .int (nI q), .int (nI stt), .int (nI dn)])), (b1, .inl (cI, 14, .inl sa)), (b2, .inl (cI, 8, .inl ca)), (b3, .inl (cI, 60, .inl ta)), (b4, .inl (cI, 60, .inl tn))])) args s 1 6 A) (F0 m 66 ls []) := by
            intro k
            induction k using Nat.strongRecOn with
            | _ k ih =>
            intro i rs H locs ls hk hi0 hs he hP hD hS hl
            have hs4 := hJ4 rs hs
            refine lv_iload_n hx hb d_Loom_step_66 rfl (lv_at hl 0 rfl) ?_
            refine lv_iload_n hx hb d_Loom_step_67 rfl (lv_at hl 3 rfl) ?_
            refine pl_icmp_ge X (by omega) (by omega) d_Loom_step_68 rfl (fun g68 => ?_) (fun g68 => ?_)
            · skip
              refine lv_iload_n hx hb d_Loom_step_102 rfl (lv_at hl 3 rfl) ?_
              exact pl_iretT X hr hlk hK rfl (rs, y) ⟨N0, by omega, hxj, g7, by rw [run_end he g68]; exact congrArg nI (by omega), by rw [run_end he g68], hs, hwo⟩ hP hD hS (by decide) (by decide) d_Loom_step_103
            · skip
              refine lv_aload_n hx hb d_Loom_step_71 rfl (lv_at hl 2 rfl) ?_
              refine pl_get X fw_Loom_42 hK hP 0 rfl (v := .ref r) rfl d_Loom_step_72 ?_
              refine pl_get X fw_Loom_130 hK hP 13 rfl (v := .int (nI rs.1)) rfl d_Loom_step_75 ?_
              refine lv_iconst (v := nI 1) hx hb d_Loom_step_78 (by decide) ?_
              refine pl_icmp_eq X (by omega) (by decide) d_Loom_step_79 rfl (fun g79 => ?_) (fun g79 => ?_)
              · skip
                obtain ⟨k1, k2, k3, k4⟩ := hJ rs hs g79
                rw [g79] at hP hD
                have hj1 : rs.2.1 < 1584 := by have := plc_le P K th hn np; omega
                have hjf := hwo.2 rs.2.1 (by rw [hwo.1]; exact k1)
                have hj2 : y.2.1 rs.2.1 = nI (opn (fun j => (wO P K th n np).getD j 0) rs.2.1) := hjf.1.trans k2
                have hj3 : okStep how th (opn (fun j => (wO P K th n np).getD j 0) rs.2.1) (y.2.2.1 rs.2.1) rs.2.2.1 rs.2.2.2.1 rs.2.2.2.2.1 := by rw [hjf.2]; exact k3
                refine lv_aload_n hx hb d_Loom_step_84 rfl (lv_at hl 2 rfl) ?_
                refine pl_get X fw_Loom_42 hK hP 0 rfl (v := .ref r) rfl d_Loom_step_85 ?_
                refine lv_aload_n hx hb d_Loom_step_88 rfl (lv_at hl 1 rfl) ?_
                refine lv_aload_n hx hb d_Loom_step_89 rfl (lv_at hl 2 rfl) ?_
                refine pl_get X fw_Loom_21 hK hP 0 rfl (v := .ref h) rfl d_Loom_step_90 ?_
                refine pl_callVV X (rest := []) (As := [.ref v, .ref h]) (b := r) (c_Run_advance l D cI cZ cL r b1 b2 b3 b4 rs.2.2.2.2.2.1 rs.2.2.2.2.2.2.1 rs.2.2.2.2.2.2.2.1 rs.2.2.2.2.2.2.2.2 how 1 rs.2.1 rs.2.2.1 rs.2.2.2.1 rs.2.2.2.2.1 v v1 v2 1584 y.2.2.2 y.2.1 y.2.2.1 h a1 a2 a3 n lo hi th (opn (fun j => (wO P K th n np).getD j 0) rs.2.1) (by decide) hj1 hj2 hj3) ck_Loom_143 pl_E0_ok trivial hK hP hD hS hA (T := F_Run) (N := N_Run) (ci := 4) rfl 13 rfl [13, 14, 15, 16, 17, 10, 11, 12, 4, 5, 6, 7] [0, 1, 2, 3, 8, 9] [0, 1, 2, 3, 14, 15, 16, 17, 4, 5, 11, 12, 13, 6, 7, 8, 9, 10] rfl (by decide) (wr := [(x0, .inr (5, [.ref p0, .ref h, .ref e0, .ref w, .ref r, .int (bI (ex)), .int (bI (true))])), (p0, .inr (0, [.ref p1, .ref p2, .int (nI np)])), (p1, .inl (cI, 24, .inl P)), (p2, .inl (cI, 24, .inl K)), (w, .inr (3, [.ref v, .ref w1])), (w1, .inl (cI, 24, .inl y.1))]) rfl (by decide) (by decide) (wf := fun (u0s : RS) => [(x0, .inr (5, [.ref p0, .ref h, .ref e0, .ref w, .ref r, .int (bI (ex)), .int (bI (true))])), (p0, .inr (0, [.ref p1, .ref p2, .int (nI np)])), (p1, .inl (cI, 24, .inl P)), (p2, .inl (cI, 24, .inl K)), (h, .inr (1, [.ref a1, .ref a2, .ref a3, .int (nI n)])), (a1, .inl (cI, 32, .inl lo)), (a2, .inl (cI, 32, .inl hi)), (a3, .inl (cI, 32, .inl th)), (w, .inr (3, [.ref v, .ref w1])), (w1, .inl (cI, 24, .inl y.1)), (v, .inr (0, [.ref v1, .ref v2, .int (nI y.2.2.2)])), (v1, .inl (cI, 1584, .inl y.2.1)), (v2, .inl (cI, 1584, .inl y.2.2.1)), (r, .inr (4, [.ref b1, .ref b2, .ref b3, .ref b4, .int (nI how), .int (nI u0s.1), .int (nI u0s.2.1), .int (nI u0s.2.2.1), .int (nI u0s.2.2.2.1), .int (nI u0s.2.2.2.2.1)])), (b1, .inl (cI, 14, .inl u0s.2.2.2.2.2.1)), (b2, .inl (cI, 8, .inl u0s.2.2.2.2.2.2.1)), (b3, .inl (cI, 60, .inl u0s.2.2.2.2.2.2.2.1)), (b4, .inl (cI, 60, .inl u0s.2.2.2.2.2.2.2.2))]) (fun _ => rfl) (by decide) rfl hl.1 rfl (Nat.le_of_ble_eq_true rfl) (by decide) (by decide) d_Loom_step_93 (fun u0s H locs hcq hP hD hS => ?_)
                refine lv_iinc hx hb d_Loom_step_96 hl (k := 0) rfl (nI_inc1 _) (by decide) (lv' := [(3, .int (nI (i + 1))), (2, .ref v), (0, .ref x0), (1, .int (nI N0))]) rfl (fun ls hl => ?_)
                refine lv_goto hx hb d_Loom_step_99 rfl ?_
                exact ih _ (by omega) (i + 1) u0s _ _ _ rfl (by omega) (by rw [hcq]; rw [hjf.2]; exact k4) (by rw [hcq]; rw [hjf.2]; exact run_next he g68 g79) hP hD hS hl
              · skip
                refine lv_iload_n hx hb d_Loom_step_82 rfl (lv_at hl 0 rfl) ?_
                exact pl_iretT X hr hlk hK rfl (rs, y) ⟨N0, by omega, hxj, g7, by rw [run_stop he g79], by rw [run_stop he g79], hs, hwo⟩ hP hD hS (by decide) (by decide) d_Loom_step_83
          exact loop_66 _ 0 ((stat, pl, q, stt, dn, sa, ca, ta, tn)) _ _ _ rfl (Nat.zero_le _) h0 rfl hP hD hS hl
      · skip
        exact pl_throw (is := 138) (text := "no such number of steps") X hl0 xw_iaeS hE (by decide +kernel) hno hlk hK () (Or.inr ⟨rfl, g7, inB_le_f (by omega) g28⟩) hP hD hS hl.1 d_Loom_step_31 d_Loom_step_34 d_Loom_step_35 d_Loom_step_37 d_Loom_step_40 (by decide) (Nat.le_of_ble_eq_true rfl) (by decide) (by decide) (by decide) (by decide)
  · skip
    exact pl_throw (is := 135) (text := "no run") X hl0 xw_iseS hE (by decide +kernel) hno hlk hK () (Or.inl ⟨rfl, g7⟩) hP hD hS hl.1 d_Loom_step_10 d_Loom_step_13 d_Loom_step_14 d_Loom_step_16 d_Loom_step_19 (by decide) (Nat.le_of_ble_eq_true rfl) (by decide) (by decide) (by decide) (by decide)
end
section
/-! Decode rows of constructors. -/
theorem d_Listing_init_0 : decode b_Listing_init 0 = .ok (.aload_n 0, 1) := by decide +kernel
theorem d_Listing_init_1 : decode b_Listing_init 1 = .ok (.invokespecial 1, 3) := by decide +kernel
theorem d_Listing_init_4 : decode b_Listing_init 4 = .ok (.aload_n 0, 1) := by decide +kernel
theorem d_Listing_init_5 : decode b_Listing_init 5 = .ok (.iload_n 1, 1) := by decide +kernel
theorem d_Listing_init_6 : decode b_Listing_init 6 = .ok (.newarray .int, 2) := by decide +kernel
theorem d_Listing_init_8 : decode b_Listing_init 8 = .ok (.putfield 7, 3) := by decide +kernel
theorem d_Listing_init_11 : decode b_Listing_init 11 = .ok (.aload_n 0, 1) := by decide +kernel
theorem d_Listing_init_12 : decode b_Listing_init 12 = .ok (.iload_n 1, 1) := by decide +kernel
theorem d_Listing_init_13 : decode b_Listing_init 13 = .ok (.newarray .int, 2) := by decide +kernel
theorem d_Listing_init_15 : decode b_Listing_init 15 = .ok (.putfield 13, 3) := by decide +kernel
theorem d_Listing_init_18 : decode b_Listing_init 18 = .ok (.aload_n 0, 1) := by decide +kernel
theorem d_Listing_init_19 : decode b_Listing_init 19 = .ok (.iconst 0, 1) := by decide +kernel
theorem d_Listing_init_20 : decode b_Listing_init 20 = .ok (.putfield 16, 3) := by decide +kernel
theorem d_Listing_init_23 : decode b_Listing_init 23 = .ok (.return_, 1) := by decide +kernel
theorem d_Automaton_init_0 : decode b_Automaton_init 0 = .ok (.aload_n 0, 1) := by decide +kernel
theorem d_Automaton_init_1 : decode b_Automaton_init 1 = .ok (.invokespecial 3, 3) := by decide +kernel
theorem d_Automaton_init_4 : decode b_Automaton_init 4 = .ok (.aload_n 0, 1) := by decide +kernel
theorem d_Automaton_init_5 : decode b_Automaton_init 5 = .ok (.bipush 32, 2) := by decide +kernel
theorem d_Automaton_init_7 : decode b_Automaton_init 7 = .ok (.newarray .int, 2) := by decide +kernel
theorem d_Automaton_init_9 : decode b_Automaton_init 9 = .ok (.putfield 9, 3) := by decide +kernel
theorem d_Automaton_init_12 : decode b_Automaton_init 12 = .ok (.aload_n 0, 1) := by decide +kernel
theorem d_Automaton_init_13 : decode b_Automaton_init 13 = .ok (.bipush 32, 2) := by decide +kernel
theorem d_Automaton_init_15 : decode b_Automaton_init 15 = .ok (.newarray .int, 2) := by decide +kernel
theorem d_Automaton_init_17 : decode b_Automaton_init 17 = .ok (.putfield 15, 3) := by decide +kernel
theorem d_Automaton_init_20 : decode b_Automaton_init 20 = .ok (.aload_n 0, 1) := by decide +kernel
theorem d_Automaton_init_21 : decode b_Automaton_init 21 = .ok (.bipush 32, 2) := by decide +kernel
theorem d_Automaton_init_23 : decode b_Automaton_init 23 = .ok (.newarray .int, 2) := by decide +kernel
theorem d_Automaton_init_25 : decode b_Automaton_init 25 = .ok (.putfield 18, 3) := by decide +kernel
theorem d_Automaton_init_28 : decode b_Automaton_init 28 = .ok (.aload_n 0, 1) := by decide +kernel
theorem d_Automaton_init_29 : decode b_Automaton_init 29 = .ok (.iconst 1, 1) := by decide +kernel
theorem d_Automaton_init_30 : decode b_Automaton_init 30 = .ok (.invokevirtual 21, 3) := by decide +kernel
theorem d_Automaton_init_33 : decode b_Automaton_init 33 = .ok (.return_, 1) := by decide +kernel
theorem d_Heights_init_0 : decode b_Heights_init 0 = .ok (.aload_n 0, 1) := by decide +kernel
theorem d_Heights_init_1 : decode b_Heights_init 1 = .ok (.invokespecial 3, 3) := by decide +kernel
theorem d_Heights_init_4 : decode b_Heights_init 4 = .ok (.aload_n 0, 1) := by decide +kernel
theorem d_Heights_init_5 : decode b_Heights_init 5 = .ok (.bipush 24, 2) := by decide +kernel
theorem d_Heights_init_7 : decode b_Heights_init 7 = .ok (.newarray .int, 2) := by decide +kernel
theorem d_Heights_init_9 : decode b_Heights_init 9 = .ok (.putfield 9, 3) := by decide +kernel
theorem d_Heights_init_12 : decode b_Heights_init 12 = .ok (.aload_n 0, 1) := by decide +kernel
theorem d_Heights_init_13 : decode b_Heights_init 13 = .ok (.bipush 24, 2) := by decide +kernel
theorem d_Heights_init_15 : decode b_Heights_init 15 = .ok (.newarray .int, 2) := by decide +kernel
theorem d_Heights_init_17 : decode b_Heights_init 17 = .ok (.putfield 15, 3) := by decide +kernel
theorem d_Heights_init_20 : decode b_Heights_init 20 = .ok (.aload_n 0, 1) := by decide +kernel
theorem d_Heights_init_21 : decode b_Heights_init 21 = .ok (.iconst 0, 1) := by decide +kernel
theorem d_Heights_init_22 : decode b_Heights_init 22 = .ok (.putfield 18, 3) := by decide +kernel
theorem d_Heights_init_25 : decode b_Heights_init 25 = .ok (.aload_n 0, 1) := by decide +kernel
theorem d_Heights_init_26 : decode b_Heights_init 26 = .ok (.iconst 0, 1) := by decide +kernel
theorem d_Heights_init_27 : decode b_Heights_init 27 = .ok (.putfield 22, 3) := by decide +kernel
theorem d_Heights_init_30 : decode b_Heights_init 30 = .ok (.return_, 1) := by decide +kernel
theorem d_Run_init_0 : decode b_Run_init 0 = .ok (.aload_n 0, 1) := by decide +kernel
theorem d_Run_init_1 : decode b_Run_init 1 = .ok (.invokespecial 3, 3) := by decide +kernel
theorem d_Run_init_4 : decode b_Run_init 4 = .ok (.aload_n 0, 1) := by decide +kernel
theorem d_Run_init_5 : decode b_Run_init 5 = .ok (.bipush 14, 2) := by decide +kernel
theorem d_Run_init_7 : decode b_Run_init 7 = .ok (.newarray .int, 2) := by decide +kernel
theorem d_Run_init_9 : decode b_Run_init 9 = .ok (.putfield 9, 3) := by decide +kernel
theorem d_Run_init_12 : decode b_Run_init 12 = .ok (.aload_n 0, 1) := by decide +kernel
theorem d_Run_init_13 : decode b_Run_init 13 = .ok (.bipush 8, 2) := by decide +kernel
theorem d_Run_init_15 : decode b_Run_init 15 = .ok (.newarray .int, 2) := by decide +kernel
theorem d_Run_init_17 : decode b_Run_init 17 = .ok (.putfield 15, 3) := by decide +kernel
theorem d_Run_init_20 : decode b_Run_init 20 = .ok (.aload_n 0, 1) := by decide +kernel
theorem d_Run_init_21 : decode b_Run_init 21 = .ok (.bipush 60, 2) := by decide +kernel
theorem d_Run_init_23 : decode b_Run_init 23 = .ok (.newarray .int, 2) := by decide +kernel
theorem d_Run_init_25 : decode b_Run_init 25 = .ok (.putfield 18, 3) := by decide +kernel
theorem d_Run_init_28 : decode b_Run_init 28 = .ok (.aload_n 0, 1) := by decide +kernel
theorem d_Run_init_29 : decode b_Run_init 29 = .ok (.bipush 60, 2) := by decide +kernel
theorem d_Run_init_31 : decode b_Run_init 31 = .ok (.newarray .int, 2) := by decide +kernel
theorem d_Run_init_33 : decode b_Run_init 33 = .ok (.putfield 21, 3) := by decide +kernel
theorem d_Run_init_36 : decode b_Run_init 36 = .ok (.aload_n 0, 1) := by decide +kernel
theorem d_Run_init_37 : decode b_Run_init 37 = .ok (.iconst 0, 1) := by decide +kernel
theorem d_Run_init_38 : decode b_Run_init 38 = .ok (.putfield 24, 3) := by decide +kernel
theorem d_Run_init_41 : decode b_Run_init 41 = .ok (.return_, 1) := by decide +kernel
theorem d_Weaver_init_0 : decode b_Weaver_init 0 = .ok (.aload_n 0, 1) := by decide +kernel
theorem d_Weaver_init_1 : decode b_Weaver_init 1 = .ok (.invokespecial 3, 3) := by decide +kernel
theorem d_Weaver_init_4 : decode b_Weaver_init 4 = .ok (.aload_n 0, 1) := by decide +kernel
theorem d_Weaver_init_5 : decode b_Weaver_init 5 = .ok (.new 9, 3) := by decide +kernel
theorem d_Weaver_init_8 : decode b_Weaver_init 8 = .ok (.dup, 1) := by decide +kernel
theorem d_Weaver_init_9 : decode b_Weaver_init 9 = .ok (.sipush 1584, 3) := by decide +kernel
theorem d_Weaver_init_12 : decode b_Weaver_init 12 = .ok (.invokespecial 11, 3) := by decide +kernel
theorem d_Weaver_init_15 : decode b_Weaver_init 15 = .ok (.putfield 14, 3) := by decide +kernel
theorem d_Weaver_init_18 : decode b_Weaver_init 18 = .ok (.aload_n 0, 1) := by decide +kernel
theorem d_Weaver_init_19 : decode b_Weaver_init 19 = .ok (.bipush 24, 2) := by decide +kernel
theorem d_Weaver_init_21 : decode b_Weaver_init 21 = .ok (.newarray .int, 2) := by decide +kernel
theorem d_Weaver_init_23 : decode b_Weaver_init 23 = .ok (.putfield 20, 3) := by decide +kernel
theorem d_Weaver_init_26 : decode b_Weaver_init 26 = .ok (.return_, 1) := by decide +kernel
theorem d_Loom_init_0 : decode b_Loom_init 0 = .ok (.aload_n 0, 1) := by decide +kernel
theorem d_Loom_init_1 : decode b_Loom_init 1 = .ok (.invokespecial 3, 3) := by decide +kernel
theorem d_Loom_init_4 : decode b_Loom_init 4 = .ok (.aload_n 0, 1) := by decide +kernel
theorem d_Loom_init_5 : decode b_Loom_init 5 = .ok (.new 9, 3) := by decide +kernel
theorem d_Loom_init_8 : decode b_Loom_init 8 = .ok (.dup, 1) := by decide +kernel
theorem d_Loom_init_9 : decode b_Loom_init 9 = .ok (.bipush 24, 2) := by decide +kernel
theorem d_Loom_init_11 : decode b_Loom_init 11 = .ok (.invokespecial 11, 3) := by decide +kernel
theorem d_Loom_init_14 : decode b_Loom_init 14 = .ok (.putfield 14, 3) := by decide +kernel
theorem d_Loom_init_17 : decode b_Loom_init 17 = .ok (.aload_n 0, 1) := by decide +kernel
theorem d_Loom_init_18 : decode b_Loom_init 18 = .ok (.new 18, 3) := by decide +kernel
theorem d_Loom_init_21 : decode b_Loom_init 21 = .ok (.dup, 1) := by decide +kernel
theorem d_Loom_init_22 : decode b_Loom_init 22 = .ok (.invokespecial 20, 3) := by decide +kernel
theorem d_Loom_init_25 : decode b_Loom_init 25 = .ok (.putfield 21, 3) := by decide +kernel
theorem d_Loom_init_28 : decode b_Loom_init 28 = .ok (.aload_n 0, 1) := by decide +kernel
theorem d_Loom_init_29 : decode b_Loom_init 29 = .ok (.new 25, 3) := by decide +kernel
theorem d_Loom_init_32 : decode b_Loom_init 32 = .ok (.dup, 1) := by decide +kernel
theorem d_Loom_init_33 : decode b_Loom_init 33 = .ok (.invokespecial 27, 3) := by decide +kernel
theorem d_Loom_init_36 : decode b_Loom_init 36 = .ok (.putfield 28, 3) := by decide +kernel
theorem d_Loom_init_39 : decode b_Loom_init 39 = .ok (.aload_n 0, 1) := by decide +kernel
theorem d_Loom_init_40 : decode b_Loom_init 40 = .ok (.new 32, 3) := by decide +kernel
theorem d_Loom_init_43 : decode b_Loom_init 43 = .ok (.dup, 1) := by decide +kernel
theorem d_Loom_init_44 : decode b_Loom_init 44 = .ok (.invokespecial 34, 3) := by decide +kernel
theorem d_Loom_init_47 : decode b_Loom_init 47 = .ok (.putfield 35, 3) := by decide +kernel
theorem d_Loom_init_50 : decode b_Loom_init 50 = .ok (.aload_n 0, 1) := by decide +kernel
theorem d_Loom_init_51 : decode b_Loom_init 51 = .ok (.new 39, 3) := by decide +kernel
theorem d_Loom_init_54 : decode b_Loom_init 54 = .ok (.dup, 1) := by decide +kernel
theorem d_Loom_init_55 : decode b_Loom_init 55 = .ok (.invokespecial 41, 3) := by decide +kernel
theorem d_Loom_init_58 : decode b_Loom_init 58 = .ok (.putfield 42, 3) := by decide +kernel
theorem d_Loom_init_61 : decode b_Loom_init 61 = .ok (.aload_n 0, 1) := by decide +kernel
theorem d_Loom_init_62 : decode b_Loom_init 62 = .ok (.iconst 0, 1) := by decide +kernel
theorem d_Loom_init_63 : decode b_Loom_init 63 = .ok (.putfield 46, 3) := by decide +kernel
theorem d_Loom_init_66 : decode b_Loom_init 66 = .ok (.aload_n 0, 1) := by decide +kernel
theorem d_Loom_init_67 : decode b_Loom_init 67 = .ok (.iconst 0, 1) := by decide +kernel
theorem d_Loom_init_68 : decode b_Loom_init 68 = .ok (.putfield 50, 3) := by decide +kernel
theorem d_Loom_init_71 : decode b_Loom_init 71 = .ok (.return_, 1) := by decide +kernel
theorem d_Model_init_0 : decode b_Model_init 0 = .ok (.aload_n 0, 1) := by decide +kernel
theorem d_Model_init_1 : decode b_Model_init 1 = .ok (.invokespecial 1, 3) := by decide +kernel
theorem d_Model_init_4 : decode b_Model_init 4 = .ok (.aload_n 0, 1) := by decide +kernel
theorem d_Model_init_5 : decode b_Model_init 5 = .ok (.bipush 24, 2) := by decide +kernel
theorem d_Model_init_7 : decode b_Model_init 7 = .ok (.newarray .int, 2) := by decide +kernel
theorem d_Model_init_9 : decode b_Model_init 9 = .ok (.putfield 7, 3) := by decide +kernel
theorem d_Model_init_12 : decode b_Model_init 12 = .ok (.aload_n 0, 1) := by decide +kernel
theorem d_Model_init_13 : decode b_Model_init 13 = .ok (.bipush 24, 2) := by decide +kernel
theorem d_Model_init_15 : decode b_Model_init 15 = .ok (.newarray .int, 2) := by decide +kernel
theorem d_Model_init_17 : decode b_Model_init 17 = .ok (.putfield 13, 3) := by decide +kernel
theorem d_Model_init_20 : decode b_Model_init 20 = .ok (.aload_n 0, 1) := by decide +kernel
theorem d_Model_init_21 : decode b_Model_init 21 = .ok (.bipush 24, 2) := by decide +kernel
theorem d_Model_init_23 : decode b_Model_init 23 = .ok (.newarray .int, 2) := by decide +kernel
theorem d_Model_init_25 : decode b_Model_init 25 = .ok (.putfield 16, 3) := by decide +kernel
theorem d_Model_init_28 : decode b_Model_init 28 = .ok (.aload_n 0, 1) := by decide +kernel
theorem d_Model_init_29 : decode b_Model_init 29 = .ok (.iconst 1, 1) := by decide +kernel
theorem d_Model_init_30 : decode b_Model_init 30 = .ok (.putfield 19, 3) := by decide +kernel
theorem d_Model_init_33 : decode b_Model_init 33 = .ok (.aload_n 0, 1) := by decide +kernel
theorem d_Model_init_34 : decode b_Model_init 34 = .ok (.bipush 32, 2) := by decide +kernel
theorem d_Model_init_36 : decode b_Model_init 36 = .ok (.newarray .boolean, 2) := by decide +kernel
theorem d_Model_init_38 : decode b_Model_init 38 = .ok (.putfield 23, 3) := by decide +kernel
theorem d_Model_init_41 : decode b_Model_init 41 = .ok (.aload_n 0, 1) := by decide +kernel
theorem d_Model_init_42 : decode b_Model_init 42 = .ok (.bipush 32, 2) := by decide +kernel
theorem d_Model_init_44 : decode b_Model_init 44 = .ok (.newarray .int, 2) := by decide +kernel
theorem d_Model_init_46 : decode b_Model_init 46 = .ok (.putfield 27, 3) := by decide +kernel
theorem d_Model_init_49 : decode b_Model_init 49 = .ok (.aload_n 0, 1) := by decide +kernel
theorem d_Model_init_50 : decode b_Model_init 50 = .ok (.bipush 32, 2) := by decide +kernel
theorem d_Model_init_52 : decode b_Model_init 52 = .ok (.newarray .int, 2) := by decide +kernel
theorem d_Model_init_54 : decode b_Model_init 54 = .ok (.putfield 30, 3) := by decide +kernel
theorem d_Model_init_57 : decode b_Model_init 57 = .ok (.aload_n 0, 1) := by decide +kernel
theorem d_Model_init_58 : decode b_Model_init 58 = .ok (.bipush 32, 2) := by decide +kernel
theorem d_Model_init_60 : decode b_Model_init 60 = .ok (.newarray .int, 2) := by decide +kernel
theorem d_Model_init_62 : decode b_Model_init 62 = .ok (.putfield 33, 3) := by decide +kernel
theorem d_Model_init_65 : decode b_Model_init 65 = .ok (.aload_n 0, 1) := by decide +kernel
theorem d_Model_init_66 : decode b_Model_init 66 = .ok (.bipush 20, 2) := by decide +kernel
theorem d_Model_init_68 : decode b_Model_init 68 = .ok (.newarray .int, 2) := by decide +kernel
theorem d_Model_init_70 : decode b_Model_init 70 = .ok (.putfield 36, 3) := by decide +kernel
theorem d_Model_init_73 : decode b_Model_init 73 = .ok (.aload_n 0, 1) := by decide +kernel
theorem d_Model_init_74 : decode b_Model_init 74 = .ok (.bipush 8, 2) := by decide +kernel
theorem d_Model_init_76 : decode b_Model_init 76 = .ok (.newarray .int, 2) := by decide +kernel
theorem d_Model_init_78 : decode b_Model_init 78 = .ok (.putfield 39, 3) := by decide +kernel
theorem d_Model_init_81 : decode b_Model_init 81 = .ok (.aload_n 0, 1) := by decide +kernel
theorem d_Model_init_82 : decode b_Model_init 82 = .ok (.bipush 60, 2) := by decide +kernel
theorem d_Model_init_84 : decode b_Model_init 84 = .ok (.newarray .int, 2) := by decide +kernel
theorem d_Model_init_86 : decode b_Model_init 86 = .ok (.putfield 42, 3) := by decide +kernel
theorem d_Model_init_89 : decode b_Model_init 89 = .ok (.aload_n 0, 1) := by decide +kernel
theorem d_Model_init_90 : decode b_Model_init 90 = .ok (.bipush 60, 2) := by decide +kernel
theorem d_Model_init_92 : decode b_Model_init 92 = .ok (.newarray .int, 2) := by decide +kernel
theorem d_Model_init_94 : decode b_Model_init 94 = .ok (.putfield 45, 3) := by decide +kernel
theorem d_Model_init_97 : decode b_Model_init 97 = .ok (.return_, 1) := by decide +kernel
set_option maxHeartbeats 4000000 in
set_option maxRecDepth 100000 in
theorem c_Listing_init_24 (l : Launch) (D : va_G) (cI cZ cL : ClassId) (h : Nat)  : pl_V l y_Listing_init b_Listing_init 2 ({ frames := 1, cells := 2, slots := 48, locals := 12 } : Room) pl_E0 D classes (TY cI cZ cL) [.ref h, .int (nI 24)] [(h, .inr (0, [.null, .null, .int (nI 0)]))] (fun (_ : Nat → Nat) => True) (fun (u : (Nat → Nat)) => [(h, .inr (0, [.ref (u 0), .ref (u 1), .int (nI 0)])), (u 0, .inl (cI, 24, .inl (fun _ => nI 0))), (u 1, .inl (cI, 24, .inl (fun _ => nI 0)))]) := by
  refine pl_startV (by decide) (Nat.le_of_ble_eq_true rfl) ?_
  intro p e s m args below meth c A ls X hr hlk hin hK hP hD hS hA hE hl
  have X : CallFix p m c b_Listing_init 2 s args TG R_Listing := X
  have hx := X.1
  have hb := X.2.1
  have hl : lv_has ls 2 [(0, .ref h), (1, .int (nI 24))] := hl
  refine lv_aload_n hx hb d_Listing_init_0 rfl (lv_at hl 0 rfl) ?_
  refine pl_objInit X ob_Listing_1 (by rw [X.2.2.1]; exact hl.1) (by decide) (by decide) d_Listing_init_1 ?_
  refine lv_aload_n hx hb d_Listing_init_4 rfl (lv_at hl 0 rfl) ?_
  refine lv_iload_n hx hb d_Listing_init_5 rfl (lv_at hl 1 rfl) ?_
  refine pl_newaI X ar_I hK 0 rfl hP hD hS hA (by decide) (by decide) (by decide) d_Listing_init_6 (ws' := fun n6 => [(h, .inr (0, [.null, .null, .int (nI 0)])), (n6, .inl (cI, 24, .inl (fun _ => nI 0)))]) (fun _ => rfl) (fun n6 H hP hD hS => ?_)
  refine pl_putF X fw_Listing_7 fp_Listing rfl hin rfl hK hP hD hS 0 rfl (v := .ref n6) rfl rfl (Nat.le_of_ble_eq_true rfl) d_Listing_init_8 (ws' := [(h, .inr (0, [.ref n6, .null, .int (nI 0)])), (n6, .inl (cI, 24, .inl (fun _ => nI 0)))]) rfl (fun H locs hP hD hS => ?_)
  refine lv_aload_n hx hb d_Listing_init_11 rfl (lv_at hl 0 rfl) ?_
  refine lv_iload_n hx hb d_Listing_init_12 rfl (lv_at hl 1 rfl) ?_
  refine pl_newaI X ar_I hK 0 rfl hP hD hS hA (by decide) (by decide) (by decide) d_Listing_init_13 (ws' := fun n13 => [(h, .inr (0, [.ref n6, .null, .int (nI 0)])), (n6, .inl (cI, 24, .inl (fun _ => nI 0))), (n13, .inl (cI, 24, .inl (fun _ => nI 0)))]) (fun _ => rfl) (fun n13 H hP hD hS => ?_)
  refine pl_putF X fw_Listing_13 fp_Listing rfl hin rfl hK hP hD hS 0 rfl (v := .ref n13) rfl rfl (Nat.le_of_ble_eq_true rfl) d_Listing_init_15 (ws' := [(h, .inr (0, [.ref n6, .ref n13, .int (nI 0)])), (n6, .inl (cI, 24, .inl (fun _ => nI 0))), (n13, .inl (cI, 24, .inl (fun _ => nI 0)))]) rfl (fun H locs hP hD hS => ?_)
  refine lv_aload_n hx hb d_Listing_init_18 rfl (lv_at hl 0 rfl) ?_
  refine lv_iconst (v := nI 0) hx hb d_Listing_init_19 (by decide) ?_
  refine pl_put X fw_Listing_16 fp_Listing rfl hK hP hD hS 0 rfl (v := .int (nI 0)) rfl rfl (Nat.le_of_ble_eq_true rfl) d_Listing_init_20 (ws' := [(h, .inr (0, [.ref n6, .ref n13, .int (nI 0)])), (n6, .inl (cI, 24, .inl (fun _ => nI 0))), (n13, .inl (cI, 24, .inl (fun _ => nI 0)))]) rfl (fun H locs hP hD hS => ?_)
  exact pl_vret X hr hlk hK (fun k => [n6, n13].getD k 0) trivial hP hD hS d_Listing_init_23

set_option maxHeartbeats 4000000 in
set_option maxRecDepth 100000 in
theorem c_Listing_init_1584 (l : Launch) (D : va_G) (cI cZ cL : ClassId) (h : Nat)  : pl_V l y_Listing_init b_Listing_init 2 ({ frames := 1, cells := 2, slots := 3168, locals := 12 } : Room) pl_E0 D classes (TY cI cZ cL) [.ref h, .int (nI 1584)] [(h, .inr (0, [.null, .null, .int (nI 0)]))] (fun (_ : Nat → Nat) => True) (fun (u : (Nat → Nat)) => [(h, .inr (0, [.ref (u 0), .ref (u 1), .int (nI 0)])), (u 0, .inl (cI, 1584, .inl (fun _ => nI 0))), (u 1, .inl (cI, 1584, .inl (fun _ => nI 0)))]) := by
  refine pl_startV (by decide) (Nat.le_of_ble_eq_true rfl) ?_
  intro p e s m args below meth c A ls X hr hlk hin hK hP hD hS hA hE hl
  have X : CallFix p m c b_Listing_init 2 s args TG R_Listing := X
  have hx := X.1
  have hb := X.2.1
  have hl : lv_has ls 2 [(0, .ref h), (1, .int (nI 1584))] := hl
  refine lv_aload_n hx hb d_Listing_init_0 rfl (lv_at hl 0 rfl) ?_
  refine pl_objInit X ob_Listing_1 (by rw [X.2.2.1]; exact hl.1) (by decide) (by decide) d_Listing_init_1 ?_
  refine lv_aload_n hx hb d_Listing_init_4 rfl (lv_at hl 0 rfl) ?_
  refine lv_iload_n hx hb d_Listing_init_5 rfl (lv_at hl 1 rfl) ?_
  refine pl_newaI X ar_I hK 0 rfl hP hD hS hA (by decide) (by decide) (by decide) d_Listing_init_6 (ws' := fun n6 => [(h, .inr (0, [.null, .null, .int (nI 0)])), (n6, .inl (cI, 1584, .inl (fun _ => nI 0)))]) (fun _ => rfl) (fun n6 H hP hD hS => ?_)
  refine pl_putF X fw_Listing_7 fp_Listing rfl hin rfl hK hP hD hS 0 rfl (v := .ref n6) rfl rfl (Nat.le_of_ble_eq_true rfl) d_Listing_init_8 (ws' := [(h, .inr (0, [.ref n6, .null, .int (nI 0)])), (n6, .inl (cI, 1584, .inl (fun _ => nI 0)))]) rfl (fun H locs hP hD hS => ?_)
  refine lv_aload_n hx hb d_Listing_init_11 rfl (lv_at hl 0 rfl) ?_
  refine lv_iload_n hx hb d_Listing_init_12 rfl (lv_at hl 1 rfl) ?_
  refine pl_newaI X ar_I hK 0 rfl hP hD hS hA (by decide) (by decide) (by decide) d_Listing_init_13 (ws' := fun n13 => [(h, .inr (0, [.ref n6, .null, .int (nI 0)])), (n6, .inl (cI, 1584, .inl (fun _ => nI 0))), (n13, .inl (cI, 1584, .inl (fun _ => nI 0)))]) (fun _ => rfl) (fun n13 H hP hD hS => ?_)
  refine pl_putF X fw_Listing_13 fp_Listing rfl hin rfl hK hP hD hS 0 rfl (v := .ref n13) rfl rfl (Nat.le_of_ble_eq_true rfl) d_Listing_init_15 (ws' := [(h, .inr (0, [.ref n6, .ref n13, .int (nI 0)])), (n6, .inl (cI, 1584, .inl (fun _ => nI 0))), (n13, .inl (cI, 1584, .inl (fun _ => nI 0)))]) rfl (fun H locs hP hD hS => ?_)
  refine lv_aload_n hx hb d_Listing_init_18 rfl (lv_at hl 0 rfl) ?_
  refine lv_iconst (v := nI 0) hx hb d_Listing_init_19 (by decide) ?_
  refine pl_put X fw_Listing_16 fp_Listing rfl hK hP hD hS 0 rfl (v := .int (nI 0)) rfl rfl (Nat.le_of_ble_eq_true rfl) d_Listing_init_20 (ws' := [(h, .inr (0, [.ref n6, .ref n13, .int (nI 0)])), (n6, .inl (cI, 1584, .inl (fun _ => nI 0))), (n13, .inl (cI, 1584, .inl (fun _ => nI 0)))]) rfl (fun H locs hP hD hS => ?_)
  exact pl_vret X hr hlk hK (fun k => [n6, n13].getD k 0) trivial hP hD hS d_Listing_init_23

set_option maxHeartbeats 4000000 in
set_option maxRecDepth 100000 in
theorem c_Automaton_init (l : Launch) (D : va_G) (cI cZ cL : ClassId) (h : Nat)  : pl_V l y_Automaton_init b_Automaton_init 1 ({ frames := 1, cells := 3, slots := 96, locals := 22 } : Room) pl_E0 D classes (TY cI cZ cL) [.ref h] [(h, .inr (1, [.null, .null, .null, .int (nI 0)]))] (fun (_ : Nat → Nat) => True) (fun (u : (Nat → Nat)) => [(h, .inr (1, [.ref (u 0), .ref (u 1), .ref (u 2), .int (nI 1)])), (u 0, .inl (cI, 32, .inl (fun _ => nI 0))), (u 1, .inl (cI, 32, .inl (fun _ => nI 0))), (u 2, .inl (cI, 32, .inl (fun _ => -1)))]) := by
  refine pl_startV (by decide) (Nat.le_of_ble_eq_true rfl) ?_
  intro p e s m args below meth c A ls X hr hlk hin hK hP hD hS hA hE hl
  have X : CallFix p m c b_Automaton_init 1 s args TG R_Automaton := X
  have hx := X.1
  have hb := X.2.1
  have hl : lv_has ls 1 [(0, .ref h)] := hl
  refine lv_aload_n hx hb d_Automaton_init_0 rfl (lv_at hl 0 rfl) ?_
  refine pl_objInit X ob_Automaton_3 (by rw [X.2.2.1]; exact hl.1) (by decide) (by decide) d_Automaton_init_1 ?_
  refine lv_aload_n hx hb d_Automaton_init_4 rfl (lv_at hl 0 rfl) ?_
  refine lv_bipush (v := nI 32) hx hb d_Automaton_init_5 (by decide) ?_
  refine pl_newaI X ar_I hK 0 rfl hP hD hS hA (by decide) (by decide) (by decide) d_Automaton_init_7 (ws' := fun n7 => [(h, .inr (1, [.null, .null, .null, .int (nI 0)])), (n7, .inl (cI, 32, .inl (fun _ => nI 0)))]) (fun _ => rfl) (fun n7 H hP hD hS => ?_)
  refine pl_putF X fw_Automaton_9 fp_Automaton rfl hin rfl hK hP hD hS 0 rfl (v := .ref n7) rfl rfl (Nat.le_of_ble_eq_true rfl) d_Automaton_init_9 (ws' := [(h, .inr (1, [.ref n7, .null, .null, .int (nI 0)])), (n7, .inl (cI, 32, .inl (fun _ => nI 0)))]) rfl (fun H locs hP hD hS => ?_)
  refine lv_aload_n hx hb d_Automaton_init_12 rfl (lv_at hl 0 rfl) ?_
  refine lv_bipush (v := nI 32) hx hb d_Automaton_init_13 (by decide) ?_
  refine pl_newaI X ar_I hK 0 rfl hP hD hS hA (by decide) (by decide) (by decide) d_Automaton_init_15 (ws' := fun n15 => [(h, .inr (1, [.ref n7, .null, .null, .int (nI 0)])), (n7, .inl (cI, 32, .inl (fun _ => nI 0))), (n15, .inl (cI, 32, .inl (fun _ => nI 0)))]) (fun _ => rfl) (fun n15 H hP hD hS => ?_)
  refine pl_putF X fw_Automaton_15 fp_Automaton rfl hin rfl hK hP hD hS 0 rfl (v := .ref n15) rfl rfl (Nat.le_of_ble_eq_true rfl) d_Automaton_init_17 (ws' := [(h, .inr (1, [.ref n7, .ref n15, .null, .int (nI 0)])), (n7, .inl (cI, 32, .inl (fun _ => nI 0))), (n15, .inl (cI, 32, .inl (fun _ => nI 0)))]) rfl (fun H locs hP hD hS => ?_)
  refine lv_aload_n hx hb d_Automaton_init_20 rfl (lv_at hl 0 rfl) ?_
  refine lv_bipush (v := nI 32) hx hb d_Automaton_init_21 (by decide) ?_
  refine pl_newaI X ar_I hK 0 rfl hP hD hS hA (by decide) (by decide) (by decide) d_Automaton_init_23 (ws' := fun n23 => [(h, .inr (1, [.ref n7, .ref n15, .null, .int (nI 0)])), (n7, .inl (cI, 32, .inl (fun _ => nI 0))), (n15, .inl (cI, 32, .inl (fun _ => nI 0))), (n23, .inl (cI, 32, .inl (fun _ => nI 0)))]) (fun _ => rfl) (fun n23 H hP hD hS => ?_)
  refine pl_putF X fw_Automaton_18 fp_Automaton rfl hin rfl hK hP hD hS 0 rfl (v := .ref n23) rfl rfl (Nat.le_of_ble_eq_true rfl) d_Automaton_init_25 (ws' := [(h, .inr (1, [.ref n7, .ref n15, .ref n23, .int (nI 0)])), (n7, .inl (cI, 32, .inl (fun _ => nI 0))), (n15, .inl (cI, 32, .inl (fun _ => nI 0))), (n23, .inl (cI, 32, .inl (fun _ => nI 0)))]) rfl (fun H locs hP hD hS => ?_)
  refine lv_aload_n hx hb d_Automaton_init_28 rfl (lv_at hl 0 rfl) ?_
  refine lv_iconst (v := nI 1) hx hb d_Automaton_init_29 (by decide) ?_
  refine pl_callVV X (rest := []) (As := [.int (nI 1)]) (b := h) (c_Automaton_reset l D cI cZ cL h n7 n15 n23 0 (fun _ => nI 0) (fun _ => nI 0) (fun _ => nI 0) 1) ck_Automaton_21 pl_E0_ok trivial hK hP hD hS hA (T := F_Automaton) (N := N_Automaton) (ci := 1) rfl 0 rfl [0, 1, 2, 3] [] [0, 1, 2, 3] rfl (by decide) (wr := []) rfl (by decide) (by decide) (wf := fun _ => [(h, .inr (1, [.ref n7, .ref n15, .ref n23, .int (nI 1)])), (n7, .inl (cI, 32, .inl (fun _ => nI 0))), (n15, .inl (cI, 32, .inl (fun _ => nI 0))), (n23, .inl (cI, 32, .inl (fun _ => -1)))]) (fun _ => rfl) (by decide) rfl hl.1 rfl (Nat.le_of_ble_eq_true rfl) (by decide) (by decide) d_Automaton_init_30 (fun u0 H locs hcq hP hD hS => ?_)
  exact pl_vret X hr hlk hK (fun k => [n7, n15, n23].getD k 0) trivial hP hD hS d_Automaton_init_33

set_option maxHeartbeats 4000000 in
set_option maxRecDepth 100000 in
theorem c_Heights_init (l : Launch) (D : va_G) (cI cZ cL : ClassId) (h : Nat)  : pl_V l y_Heights_init b_Heights_init 1 ({ frames := 1, cells := 2, slots := 48, locals := 12 } : Room) pl_E0 D classes (TY cI cZ cL) [.ref h] [(h, .inr (2, [.null, .null, .int (nI 0), .int (nI 0)]))] (fun (_ : Nat → Nat) => True) (fun (u : (Nat → Nat)) => [(h, .inr (2, [.ref (u 0), .ref (u 1), .int (nI 0), .int (bI (false))])), (u 0, .inl (cI, 24, .inl (fun _ => nI 0))), (u 1, .inl (cI, 24, .inl (fun _ => nI 0)))]) := by
  refine pl_startV (by decide) (Nat.le_of_ble_eq_true rfl) ?_
  intro p e s m args below meth c A ls X hr hlk hin hK hP hD hS hA hE hl
  have X : CallFix p m c b_Heights_init 1 s args TG R_Heights := X
  have hx := X.1
  have hb := X.2.1
  have hl : lv_has ls 1 [(0, .ref h)] := hl
  refine lv_aload_n hx hb d_Heights_init_0 rfl (lv_at hl 0 rfl) ?_
  refine pl_objInit X ob_Heights_3 (by rw [X.2.2.1]; exact hl.1) (by decide) (by decide) d_Heights_init_1 ?_
  refine lv_aload_n hx hb d_Heights_init_4 rfl (lv_at hl 0 rfl) ?_
  refine lv_bipush (v := nI 24) hx hb d_Heights_init_5 (by decide) ?_
  refine pl_newaI X ar_I hK 0 rfl hP hD hS hA (by decide) (by decide) (by decide) d_Heights_init_7 (ws' := fun n7 => [(h, .inr (2, [.null, .null, .int (nI 0), .int (nI 0)])), (n7, .inl (cI, 24, .inl (fun _ => nI 0)))]) (fun _ => rfl) (fun n7 H hP hD hS => ?_)
  refine pl_putF X fw_Heights_9 fp_Heights rfl hin rfl hK hP hD hS 0 rfl (v := .ref n7) rfl rfl (Nat.le_of_ble_eq_true rfl) d_Heights_init_9 (ws' := [(h, .inr (2, [.ref n7, .null, .int (nI 0), .int (nI 0)])), (n7, .inl (cI, 24, .inl (fun _ => nI 0)))]) rfl (fun H locs hP hD hS => ?_)
  refine lv_aload_n hx hb d_Heights_init_12 rfl (lv_at hl 0 rfl) ?_
  refine lv_bipush (v := nI 24) hx hb d_Heights_init_13 (by decide) ?_
  refine pl_newaI X ar_I hK 0 rfl hP hD hS hA (by decide) (by decide) (by decide) d_Heights_init_15 (ws' := fun n15 => [(h, .inr (2, [.ref n7, .null, .int (nI 0), .int (nI 0)])), (n7, .inl (cI, 24, .inl (fun _ => nI 0))), (n15, .inl (cI, 24, .inl (fun _ => nI 0)))]) (fun _ => rfl) (fun n15 H hP hD hS => ?_)
  refine pl_putF X fw_Heights_15 fp_Heights rfl hin rfl hK hP hD hS 0 rfl (v := .ref n15) rfl rfl (Nat.le_of_ble_eq_true rfl) d_Heights_init_17 (ws' := [(h, .inr (2, [.ref n7, .ref n15, .int (nI 0), .int (nI 0)])), (n7, .inl (cI, 24, .inl (fun _ => nI 0))), (n15, .inl (cI, 24, .inl (fun _ => nI 0)))]) rfl (fun H locs hP hD hS => ?_)
  refine lv_aload_n hx hb d_Heights_init_20 rfl (lv_at hl 0 rfl) ?_
  refine lv_iconst (v := nI 0) hx hb d_Heights_init_21 (by decide) ?_
  refine pl_put X fw_Heights_18 fp_Heights rfl hK hP hD hS 0 rfl (v := .int (nI 0)) rfl rfl (Nat.le_of_ble_eq_true rfl) d_Heights_init_22 (ws' := [(h, .inr (2, [.ref n7, .ref n15, .int (nI 0), .int (nI 0)])), (n7, .inl (cI, 24, .inl (fun _ => nI 0))), (n15, .inl (cI, 24, .inl (fun _ => nI 0)))]) rfl (fun H locs hP hD hS => ?_)
  refine lv_aload_n hx hb d_Heights_init_25 rfl (lv_at hl 0 rfl) ?_
  refine lv_iconst (v := nI 0) hx hb d_Heights_init_26 (by decide) ?_
  refine pl_put X fw_Heights_22 fp_Heights rfl hK hP hD hS 0 rfl (v := .int (nI 0)) rfl rfl (Nat.le_of_ble_eq_true rfl) d_Heights_init_27 (ws' := [(h, .inr (2, [.ref n7, .ref n15, .int (nI 0), .int (nI 0)])), (n7, .inl (cI, 24, .inl (fun _ => nI 0))), (n15, .inl (cI, 24, .inl (fun _ => nI 0)))]) rfl (fun H locs hP hD hS => ?_)
  exact pl_vret X hr hlk hK (fun k => [n7, n15].getD k 0) trivial hP hD hS d_Heights_init_30

set_option maxHeartbeats 4000000 in
set_option maxRecDepth 100000 in
theorem c_Run_init (l : Launch) (D : va_G) (cI cZ cL : ClassId) (h : Nat)  : pl_V l y_Run_init b_Run_init 1 ({ frames := 1, cells := 4, slots := 142, locals := 12 } : Room) pl_E0 D classes (TY cI cZ cL) [.ref h] [(h, .inr (4, [.null, .null, .null, .null, .int (nI 0), .int (nI 0), .int (nI 0), .int (nI 0), .int (nI 0), .int (nI 0)]))] (fun (_ : Nat → Nat) => True) (fun (u : (Nat → Nat)) => [(h, .inr (4, [.ref (u 0), .ref (u 1), .ref (u 2), .ref (u 3), .int (nI 0), .int (nI 0), .int (nI 0), .int (nI 0), .int (nI 0), .int (nI 0)])), (u 0, .inl (cI, 14, .inl (fun _ => nI 0))), (u 1, .inl (cI, 8, .inl (fun _ => nI 0))), (u 2, .inl (cI, 60, .inl (fun _ => nI 0))), (u 3, .inl (cI, 60, .inl (fun _ => nI 0)))]) := by
  refine pl_startV (by decide) (Nat.le_of_ble_eq_true rfl) ?_
  intro p e s m args below meth c A ls X hr hlk hin hK hP hD hS hA hE hl
  have X : CallFix p m c b_Run_init 1 s args TG R_Run := X
  have hx := X.1
  have hb := X.2.1
  have hl : lv_has ls 1 [(0, .ref h)] := hl
  refine lv_aload_n hx hb d_Run_init_0 rfl (lv_at hl 0 rfl) ?_
  refine pl_objInit X ob_Run_3 (by rw [X.2.2.1]; exact hl.1) (by decide) (by decide) d_Run_init_1 ?_
  refine lv_aload_n hx hb d_Run_init_4 rfl (lv_at hl 0 rfl) ?_
  refine lv_bipush (v := nI 14) hx hb d_Run_init_5 (by decide) ?_
  refine pl_newaI X ar_I hK 0 rfl hP hD hS hA (by decide) (by decide) (by decide) d_Run_init_7 (ws' := fun n7 => [(h, .inr (4, [.null, .null, .null, .null, .int (nI 0), .int (nI 0), .int (nI 0), .int (nI 0), .int (nI 0), .int (nI 0)])), (n7, .inl (cI, 14, .inl (fun _ => nI 0)))]) (fun _ => rfl) (fun n7 H hP hD hS => ?_)
  refine pl_putF X fw_Run_9 fp_Run rfl hin rfl hK hP hD hS 0 rfl (v := .ref n7) rfl rfl (Nat.le_of_ble_eq_true rfl) d_Run_init_9 (ws' := [(h, .inr (4, [.ref n7, .null, .null, .null, .int (nI 0), .int (nI 0), .int (nI 0), .int (nI 0), .int (nI 0), .int (nI 0)])), (n7, .inl (cI, 14, .inl (fun _ => nI 0)))]) rfl (fun H locs hP hD hS => ?_)
  refine lv_aload_n hx hb d_Run_init_12 rfl (lv_at hl 0 rfl) ?_
  refine lv_bipush (v := nI 8) hx hb d_Run_init_13 (by decide) ?_
  refine pl_newaI X ar_I hK 0 rfl hP hD hS hA (by decide) (by decide) (by decide) d_Run_init_15 (ws' := fun n15 => [(h, .inr (4, [.ref n7, .null, .null, .null, .int (nI 0), .int (nI 0), .int (nI 0), .int (nI 0), .int (nI 0), .int (nI 0)])), (n7, .inl (cI, 14, .inl (fun _ => nI 0))), (n15, .inl (cI, 8, .inl (fun _ => nI 0)))]) (fun _ => rfl) (fun n15 H hP hD hS => ?_)
  refine pl_putF X fw_Run_15 fp_Run rfl hin rfl hK hP hD hS 0 rfl (v := .ref n15) rfl rfl (Nat.le_of_ble_eq_true rfl) d_Run_init_17 (ws' := [(h, .inr (4, [.ref n7, .ref n15, .null, .null, .int (nI 0), .int (nI 0), .int (nI 0), .int (nI 0), .int (nI 0), .int (nI 0)])), (n7, .inl (cI, 14, .inl (fun _ => nI 0))), (n15, .inl (cI, 8, .inl (fun _ => nI 0)))]) rfl (fun H locs hP hD hS => ?_)
  refine lv_aload_n hx hb d_Run_init_20 rfl (lv_at hl 0 rfl) ?_
  refine lv_bipush (v := nI 60) hx hb d_Run_init_21 (by decide) ?_
  refine pl_newaI X ar_I hK 0 rfl hP hD hS hA (by decide) (by decide) (by decide) d_Run_init_23 (ws' := fun n23 => [(h, .inr (4, [.ref n7, .ref n15, .null, .null, .int (nI 0), .int (nI 0), .int (nI 0), .int (nI 0), .int (nI 0), .int (nI 0)])), (n7, .inl (cI, 14, .inl (fun _ => nI 0))), (n15, .inl (cI, 8, .inl (fun _ => nI 0))), (n23, .inl (cI, 60, .inl (fun _ => nI 0)))]) (fun _ => rfl) (fun n23 H hP hD hS => ?_)
  refine pl_putF X fw_Run_18 fp_Run rfl hin rfl hK hP hD hS 0 rfl (v := .ref n23) rfl rfl (Nat.le_of_ble_eq_true rfl) d_Run_init_25 (ws' := [(h, .inr (4, [.ref n7, .ref n15, .ref n23, .null, .int (nI 0), .int (nI 0), .int (nI 0), .int (nI 0), .int (nI 0), .int (nI 0)])), (n7, .inl (cI, 14, .inl (fun _ => nI 0))), (n15, .inl (cI, 8, .inl (fun _ => nI 0))), (n23, .inl (cI, 60, .inl (fun _ => nI 0)))]) rfl (fun H locs hP hD hS => ?_)
  refine lv_aload_n hx hb d_Run_init_28 rfl (lv_at hl 0 rfl) ?_
  refine lv_bipush (v := nI 60) hx hb d_Run_init_29 (by decide) ?_
  refine pl_newaI X ar_I hK 0 rfl hP hD hS hA (by decide) (by decide) (by decide) d_Run_init_31 (ws' := fun n31 => [(h, .inr (4, [.ref n7, .ref n15, .ref n23, .null, .int (nI 0), .int (nI 0), .int (nI 0), .int (nI 0), .int (nI 0), .int (nI 0)])), (n7, .inl (cI, 14, .inl (fun _ => nI 0))), (n15, .inl (cI, 8, .inl (fun _ => nI 0))), (n23, .inl (cI, 60, .inl (fun _ => nI 0))), (n31, .inl (cI, 60, .inl (fun _ => nI 0)))]) (fun _ => rfl) (fun n31 H hP hD hS => ?_)
  refine pl_putF X fw_Run_21 fp_Run rfl hin rfl hK hP hD hS 0 rfl (v := .ref n31) rfl rfl (Nat.le_of_ble_eq_true rfl) d_Run_init_33 (ws' := [(h, .inr (4, [.ref n7, .ref n15, .ref n23, .ref n31, .int (nI 0), .int (nI 0), .int (nI 0), .int (nI 0), .int (nI 0), .int (nI 0)])), (n7, .inl (cI, 14, .inl (fun _ => nI 0))), (n15, .inl (cI, 8, .inl (fun _ => nI 0))), (n23, .inl (cI, 60, .inl (fun _ => nI 0))), (n31, .inl (cI, 60, .inl (fun _ => nI 0)))]) rfl (fun H locs hP hD hS => ?_)
  refine lv_aload_n hx hb d_Run_init_36 rfl (lv_at hl 0 rfl) ?_
  refine lv_iconst (v := nI 0) hx hb d_Run_init_37 (by decide) ?_
  refine pl_put X fw_Run_24 fp_Run rfl hK hP hD hS 0 rfl (v := .int (nI 0)) rfl rfl (Nat.le_of_ble_eq_true rfl) d_Run_init_38 (ws' := [(h, .inr (4, [.ref n7, .ref n15, .ref n23, .ref n31, .int (nI 0), .int (nI 0), .int (nI 0), .int (nI 0), .int (nI 0), .int (nI 0)])), (n7, .inl (cI, 14, .inl (fun _ => nI 0))), (n15, .inl (cI, 8, .inl (fun _ => nI 0))), (n23, .inl (cI, 60, .inl (fun _ => nI 0))), (n31, .inl (cI, 60, .inl (fun _ => nI 0)))]) rfl (fun H locs hP hD hS => ?_)
  exact pl_vret X hr hlk hK (fun k => [n7, n15, n23, n31].getD k 0) trivial hP hD hS d_Run_init_41

set_option maxHeartbeats 4000000 in
set_option maxRecDepth 100000 in
theorem c_Weaver_init (l : Launch) (D : va_G) (cI cZ cL : ClassId) (h : Nat)  : pl_V l y_Weaver_init b_Weaver_init 1 ({ frames := 2, cells := 4, slots := 3195, locals := 33 } : Room) pl_E0 D classes (TY cI cZ cL) [.ref h] [(h, .inr (3, [.null, .null]))] (fun (_ : Nat → Nat) => True) (fun (u : (Nat → Nat)) => [(h, .inr (3, [.ref (u 0), .ref (u 3)])), (u 0, .inr (0, [.ref (u 1), .ref (u 2), .int (nI 0)])), (u 1, .inl (cI, 1584, .inl (fun _ => nI 0))), (u 2, .inl (cI, 1584, .inl (fun _ => nI 0))), (u 3, .inl (cI, 24, .inl (fun _ => nI 0)))]) := by
  refine pl_startV (by decide) (Nat.le_of_ble_eq_true rfl) ?_
  intro p e s m args below meth c A ls X hr hlk hin hK hP hD hS hA hE hl
  have X : CallFix p m c b_Weaver_init 1 s args TG R_Weaver := X
  have hx := X.1
  have hb := X.2.1
  have hl : lv_has ls 1 [(0, .ref h)] := hl
  refine lv_aload_n hx hb d_Weaver_init_0 rfl (lv_at hl 0 rfl) ?_
  refine pl_objInit X ob_Weaver_3 (by rw [X.2.2.1]; exact hl.1) (by decide) (by decide) d_Weaver_init_1 ?_
  refine lv_aload_n hx hb d_Weaver_init_4 rfl (lv_at hl 0 rfl) ?_
  refine pl_new X cn_Weaver_9 hK hP hD hS hA (fs := [.null, .null, .int (nI 0)]) (fun j hj => by rcases (show j = 0 ∨ j = 1 ∨ j = 2 by omega) with rfl | rfl | rfl <;> rfl) (by decide) (by decide) d_Weaver_init_5 (ws' := fun n5 => [(h, .inr (3, [.null, .null])), (n5, .inr (0, [.null, .null, .int (nI 0)]))]) (fun _ => rfl) (fun n5 H hP hD hS => ?_)
  refine lv_dup hx hb d_Weaver_init_8 rfl ?_
  refine lv_sipush (v := nI 1584) hx hb d_Weaver_init_9 (by decide) ?_
  refine pl_callIV X (rest := [.ref n5, .ref h]) (As := [.int (nI 1584)]) (b := n5) (c_Listing_init_1584 l D cI cZ cL n5) ck_Weaver_11 pl_E0_ok trivial hK hP hD hS hA [1] [0] [0, 1, 2, 3] rfl (by decide) (wr := [(h, .inr (3, [.null, .null]))]) rfl (by decide) (by decide) (wf := fun (ul : Nat → Nat) => [(h, .inr (3, [.null, .null])), (n5, .inr (0, [.ref (ul 0), .ref (ul 1), .int (nI 0)])), (ul 0, .inl (cI, 1584, .inl (fun _ => nI 0))), (ul 1, .inl (cI, 1584, .inl (fun _ => nI 0)))]) (fun _ => rfl) (by decide) rfl hl.1 rfl (Nat.le_of_ble_eq_true rfl) (by decide) (by decide) d_Weaver_init_12 (fun ul H locs hcq hP hD hS => ?_)
  refine pl_putF X fw_Weaver_14 fp_Weaver rfl hin rfl hK hP hD hS 0 rfl (v := .ref n5) rfl rfl (Nat.le_of_ble_eq_true rfl) d_Weaver_init_15 (ws' := [(h, .inr (3, [.ref n5, .null])), (n5, .inr (0, [.ref (ul 0), .ref (ul 1), .int (nI 0)])), (ul 0, .inl (cI, 1584, .inl (fun _ => nI 0))), (ul 1, .inl (cI, 1584, .inl (fun _ => nI 0)))]) rfl (fun H locs hP hD hS => ?_)
  refine lv_aload_n hx hb d_Weaver_init_18 rfl (lv_at hl 0 rfl) ?_
  refine lv_bipush (v := nI 24) hx hb d_Weaver_init_19 (by decide) ?_
  refine pl_newaI X ar_I hK 0 rfl hP hD hS hA (by decide) (by decide) (by decide) d_Weaver_init_21 (ws' := fun n21 => [(h, .inr (3, [.ref n5, .null])), (n5, .inr (0, [.ref (ul 0), .ref (ul 1), .int (nI 0)])), (ul 0, .inl (cI, 1584, .inl (fun _ => nI 0))), (ul 1, .inl (cI, 1584, .inl (fun _ => nI 0))), (n21, .inl (cI, 24, .inl (fun _ => nI 0)))]) (fun _ => rfl) (fun n21 H hP hD hS => ?_)
  refine pl_putF X fw_Weaver_20 fp_Weaver rfl hin rfl hK hP hD hS 0 rfl (v := .ref n21) rfl rfl (Nat.le_of_ble_eq_true rfl) d_Weaver_init_23 (ws' := [(h, .inr (3, [.ref n5, .ref n21])), (n5, .inr (0, [.ref (ul 0), .ref (ul 1), .int (nI 0)])), (ul 0, .inl (cI, 1584, .inl (fun _ => nI 0))), (ul 1, .inl (cI, 1584, .inl (fun _ => nI 0))), (n21, .inl (cI, 24, .inl (fun _ => nI 0)))]) rfl (fun H locs hP hD hS => ?_)
  exact pl_vret X hr hlk hK (fun k => [n5, ul 0, ul 1, n21].getD k 0) trivial hP hD hS d_Weaver_init_26

set_option maxHeartbeats 4000000 in
set_option maxRecDepth 100000 in
theorem c_Loom_init (l : Launch) (D : va_G) (cI cZ cL : ClassId) (x0 : Nat)  : pl_V l y_Loom_init b_Loom_init 1 ({ frames := 3, cells := 20, slots := 3552, locals := 53 } : Room) pl_E0 D classes (TY cI cZ cL) [.ref x0] [(x0, .inr (5, [.null, .null, .null, .null, .null, .int (nI 0), .int (nI 0)]))] (fun (_ : Nat → Nat) => True) (fun (u : (Nat → Nat)) => [(x0, .inr (5, [.ref (u 0), .ref (u 3), .ref (u 7), .ref (u 10), .ref (u 15), .int (bI (false)), .int (bI (false))])), (u 0, .inr (0, [.ref (u 1), .ref (u 2), .int (nI 0)])), (u 1, .inl (cI, 24, .inl (fun _ => nI 0))), (u 2, .inl (cI, 24, .inl (fun _ => nI 0))), (u 3, .inr (1, [.ref (u 4), .ref (u 5), .ref (u 6), .int (nI 1)])), (u 4, .inl (cI, 32, .inl (fun _ => nI 0))), (u 5, .inl (cI, 32, .inl (fun _ => nI 0))), (u 6, .inl (cI, 32, .inl (fun _ => -1))), (u 7, .inr (2, [.ref (u 8), .ref (u 9), .int (nI 0), .int (bI (false))])), (u 8, .inl (cI, 24, .inl (fun _ => nI 0))), (u 9, .inl (cI, 24, .inl (fun _ => nI 0))), (u 10, .inr (3, [.ref (u 12), .ref (u 11)])), (u 11, .inl (cI, 24, .inl (fun _ => nI 0))), (u 12, .inr (0, [.ref (u 13), .ref (u 14), .int (nI 0)])), (u 13, .inl (cI, 1584, .inl (fun _ => nI 0))), (u 14, .inl (cI, 1584, .inl (fun _ => nI 0))), (u 15, .inr (4, [.ref (u 16), .ref (u 17), .ref (u 18), .ref (u 19), .int (nI 0), .int (nI 0), .int (nI 0), .int (nI 0), .int (nI 0), .int (nI 0)])), (u 16, .inl (cI, 14, .inl (fun _ => nI 0))), (u 17, .inl (cI, 8, .inl (fun _ => nI 0))), (u 18, .inl (cI, 60, .inl (fun _ => nI 0))), (u 19, .inl (cI, 60, .inl (fun _ => nI 0)))]) := by
  refine pl_startV (by decide) (Nat.le_of_ble_eq_true rfl) ?_
  intro p e s m args below meth c A ls X hr hlk hin hK hP hD hS hA hE hl
  have X : CallFix p m c b_Loom_init 1 s args TG R_Loom := X
  have hx := X.1
  have hb := X.2.1
  have hl : lv_has ls 1 [(0, .ref x0)] := hl
  refine lv_aload_n hx hb d_Loom_init_0 rfl (lv_at hl 0 rfl) ?_
  refine pl_objInit X ob_Loom_3 (by rw [X.2.2.1]; exact hl.1) (by decide) (by decide) d_Loom_init_1 ?_
  refine lv_aload_n hx hb d_Loom_init_4 rfl (lv_at hl 0 rfl) ?_
  refine pl_new X cn_Loom_9 hK hP hD hS hA (fs := [.null, .null, .int (nI 0)]) (fun j hj => by rcases (show j = 0 ∨ j = 1 ∨ j = 2 by omega) with rfl | rfl | rfl <;> rfl) (by decide) (by decide) d_Loom_init_5 (ws' := fun n5 => [(x0, .inr (5, [.null, .null, .null, .null, .null, .int (nI 0), .int (nI 0)])), (n5, .inr (0, [.null, .null, .int (nI 0)]))]) (fun _ => rfl) (fun n5 H hP hD hS => ?_)
  refine lv_dup hx hb d_Loom_init_8 rfl ?_
  refine lv_bipush (v := nI 24) hx hb d_Loom_init_9 (by decide) ?_
  refine pl_callIV X (rest := [.ref n5, .ref x0]) (As := [.int (nI 24)]) (b := n5) (c_Listing_init_24 l D cI cZ cL n5) ck_Loom_11 pl_E0_ok trivial hK hP hD hS hA [1] [0] [0, 1, 2, 3] rfl (by decide) (wr := [(x0, .inr (5, [.null, .null, .null, .null, .null, .int (nI 0), .int (nI 0)]))]) rfl (by decide) (by decide) (wf := fun (u1 : Nat → Nat) => [(x0, .inr (5, [.null, .null, .null, .null, .null, .int (nI 0), .int (nI 0)])), (n5, .inr (0, [.ref (u1 0), .ref (u1 1), .int (nI 0)])), (u1 0, .inl (cI, 24, .inl (fun _ => nI 0))), (u1 1, .inl (cI, 24, .inl (fun _ => nI 0)))]) (fun _ => rfl) (by decide) rfl hl.1 rfl (Nat.le_of_ble_eq_true rfl) (by decide) (by decide) d_Loom_init_11 (fun u1 H locs hcq hP hD hS => ?_)
  refine pl_putF X fw_Loom_14 fp_Loom rfl hin rfl hK hP hD hS 0 rfl (v := .ref n5) rfl rfl (Nat.le_of_ble_eq_true rfl) d_Loom_init_14 (ws' := [(x0, .inr (5, [.ref n5, .null, .null, .null, .null, .int (nI 0), .int (nI 0)])), (n5, .inr (0, [.ref (u1 0), .ref (u1 1), .int (nI 0)])), (u1 0, .inl (cI, 24, .inl (fun _ => nI 0))), (u1 1, .inl (cI, 24, .inl (fun _ => nI 0)))]) rfl (fun H locs hP hD hS => ?_)
  refine lv_aload_n hx hb d_Loom_init_17 rfl (lv_at hl 0 rfl) ?_
  refine pl_new X cn_Loom_18 hK hP hD hS hA (fs := [.null, .null, .null, .int (nI 0)]) (fun j hj => by rcases (show j = 0 ∨ j = 1 ∨ j = 2 ∨ j = 3 by omega) with rfl | rfl | rfl | rfl <;> rfl) (by decide) (by decide) d_Loom_init_18 (ws' := fun n18 => [(x0, .inr (5, [.ref n5, .null, .null, .null, .null, .int (nI 0), .int (nI 0)])), (n5, .inr (0, [.ref (u1 0), .ref (u1 1), .int (nI 0)])), (u1 0, .inl (cI, 24, .inl (fun _ => nI 0))), (u1 1, .inl (cI, 24, .inl (fun _ => nI 0))), (n18, .inr (1, [.null, .null, .null, .int (nI 0)]))]) (fun _ => rfl) (fun n18 H hP hD hS => ?_)
  refine lv_dup hx hb d_Loom_init_21 rfl ?_
  refine pl_callIV X (rest := [.ref n18, .ref x0]) (As := []) (b := n18) (c_Automaton_init l D cI cZ cL n18) ck_Loom_20 pl_E0_ok trivial hK hP hD hS hA [4] [0, 1, 2, 3] [0, 1, 2, 3, 4, 5, 6, 7] rfl (by decide) (wr := [(x0, .inr (5, [.ref n5, .null, .null, .null, .null, .int (nI 0), .int (nI 0)])), (n5, .inr (0, [.ref (u1 0), .ref (u1 1), .int (nI 0)])), (u1 0, .inl (cI, 24, .inl (fun _ => nI 0))), (u1 1, .inl (cI, 24, .inl (fun _ => nI 0)))]) rfl (by decide) (by decide) (wf := fun (u2 : Nat → Nat) => [(x0, .inr (5, [.ref n5, .null, .null, .null, .null, .int (nI 0), .int (nI 0)])), (n5, .inr (0, [.ref (u1 0), .ref (u1 1), .int (nI 0)])), (u1 0, .inl (cI, 24, .inl (fun _ => nI 0))), (u1 1, .inl (cI, 24, .inl (fun _ => nI 0))), (n18, .inr (1, [.ref (u2 0), .ref (u2 1), .ref (u2 2), .int (nI 1)])), (u2 0, .inl (cI, 32, .inl (fun _ => nI 0))), (u2 1, .inl (cI, 32, .inl (fun _ => nI 0))), (u2 2, .inl (cI, 32, .inl (fun _ => -1)))]) (fun _ => rfl) (by decide) rfl hl.1 rfl (Nat.le_of_ble_eq_true rfl) (by decide) (by decide) d_Loom_init_22 (fun u2 H locs hcq hP hD hS => ?_)
  refine pl_putF X fw_Loom_21 fp_Loom rfl hin rfl hK hP hD hS 0 rfl (v := .ref n18) rfl rfl (Nat.le_of_ble_eq_true rfl) d_Loom_init_25 (ws' := [(x0, .inr (5, [.ref n5, .ref n18, .null, .null, .null, .int (nI 0), .int (nI 0)])), (n5, .inr (0, [.ref (u1 0), .ref (u1 1), .int (nI 0)])), (u1 0, .inl (cI, 24, .inl (fun _ => nI 0))), (u1 1, .inl (cI, 24, .inl (fun _ => nI 0))), (n18, .inr (1, [.ref (u2 0), .ref (u2 1), .ref (u2 2), .int (nI 1)])), (u2 0, .inl (cI, 32, .inl (fun _ => nI 0))), (u2 1, .inl (cI, 32, .inl (fun _ => nI 0))), (u2 2, .inl (cI, 32, .inl (fun _ => -1)))]) rfl (fun H locs hP hD hS => ?_)
  refine lv_aload_n hx hb d_Loom_init_28 rfl (lv_at hl 0 rfl) ?_
  refine pl_new X cn_Loom_25 hK hP hD hS hA (fs := [.null, .null, .int (nI 0), .int (nI 0)]) (fun j hj => by rcases (show j = 0 ∨ j = 1 ∨ j = 2 ∨ j = 3 by omega) with rfl | rfl | rfl | rfl <;> rfl) (by decide) (by decide) d_Loom_init_29 (ws' := fun n29 => [(x0, .inr (5, [.ref n5, .ref n18, .null, .null, .null, .int (nI 0), .int (nI 0)])), (n5, .inr (0, [.ref (u1 0), .ref (u1 1), .int (nI 0)])), (u1 0, .inl (cI, 24, .inl (fun _ => nI 0))), (u1 1, .inl (cI, 24, .inl (fun _ => nI 0))), (n18, .inr (1, [.ref (u2 0), .ref (u2 1), .ref (u2 2), .int (nI 1)])), (u2 0, .inl (cI, 32, .inl (fun _ => nI 0))), (u2 1, .inl (cI, 32, .inl (fun _ => nI 0))), (u2 2, .inl (cI, 32, .inl (fun _ => -1))), (n29, .inr (2, [.null, .null, .int (nI 0), .int (nI 0)]))]) (fun _ => rfl) (fun n29 H hP hD hS => ?_)
  refine lv_dup hx hb d_Loom_init_32 rfl ?_
  refine pl_callIV X (rest := [.ref n29, .ref x0]) (As := []) (b := n29) (c_Heights_init l D cI cZ cL n29) ck_Loom_27 pl_E0_ok trivial hK hP hD hS hA [8] [0, 1, 2, 3, 4, 5, 6, 7] [0, 1, 2, 3, 4, 5, 6, 7, 8, 9, 10] rfl (by decide) (wr := [(x0, .inr (5, [.ref n5, .ref n18, .null, .null, .null, .int (nI 0), .int (nI 0)])), (n5, .inr (0, [.ref (u1 0), .ref (u1 1), .int (nI 0)])), (u1 0, .inl (cI, 24, .inl (fun _ => nI 0))), (u1 1, .inl (cI, 24, .inl (fun _ => nI 0))), (n18, .inr (1, [.ref (u2 0), .ref (u2 1), .ref (u2 2), .int (nI 1)])), (u2 0, .inl (cI, 32, .inl (fun _ => nI 0))), (u2 1, .inl (cI, 32, .inl (fun _ => nI 0))), (u2 2, .inl (cI, 32, .inl (fun _ => -1)))]) rfl (by decide) (by decide) (wf := fun (u3 : Nat → Nat) => [(x0, .inr (5, [.ref n5, .ref n18, .null, .null, .null, .int (nI 0), .int (nI 0)])), (n5, .inr (0, [.ref (u1 0), .ref (u1 1), .int (nI 0)])), (u1 0, .inl (cI, 24, .inl (fun _ => nI 0))), (u1 1, .inl (cI, 24, .inl (fun _ => nI 0))), (n18, .inr (1, [.ref (u2 0), .ref (u2 1), .ref (u2 2), .int (nI 1)])), (u2 0, .inl (cI, 32, .inl (fun _ => nI 0))), (u2 1, .inl (cI, 32, .inl (fun _ => nI 0))), (u2 2, .inl (cI, 32, .inl (fun _ => -1))), (n29, .inr (2, [.ref (u3 0), .ref (u3 1), .int (nI 0), .int (bI (false))])), (u3 0, .inl (cI, 24, .inl (fun _ => nI 0))), (u3 1, .inl (cI, 24, .inl (fun _ => nI 0)))]) (fun _ => rfl) (by decide) rfl hl.1 rfl (Nat.le_of_ble_eq_true rfl) (by decide) (by decide) d_Loom_init_33 (fun u3 H locs hcq hP hD hS => ?_)
  refine pl_putF X fw_Loom_28 fp_Loom rfl hin rfl hK hP hD hS 0 rfl (v := .ref n29) rfl rfl (Nat.le_of_ble_eq_true rfl) d_Loom_init_36 (ws' := [(x0, .inr (5, [.ref n5, .ref n18, .ref n29, .null, .null, .int (nI 0), .int (nI 0)])), (n5, .inr (0, [.ref (u1 0), .ref (u1 1), .int (nI 0)])), (u1 0, .inl (cI, 24, .inl (fun _ => nI 0))), (u1 1, .inl (cI, 24, .inl (fun _ => nI 0))), (n18, .inr (1, [.ref (u2 0), .ref (u2 1), .ref (u2 2), .int (nI 1)])), (u2 0, .inl (cI, 32, .inl (fun _ => nI 0))), (u2 1, .inl (cI, 32, .inl (fun _ => nI 0))), (u2 2, .inl (cI, 32, .inl (fun _ => -1))), (n29, .inr (2, [.ref (u3 0), .ref (u3 1), .int (nI 0), .int (bI (false))])), (u3 0, .inl (cI, 24, .inl (fun _ => nI 0))), (u3 1, .inl (cI, 24, .inl (fun _ => nI 0)))]) rfl (fun H locs hP hD hS => ?_)
  refine lv_aload_n hx hb d_Loom_init_39 rfl (lv_at hl 0 rfl) ?_
  refine pl_new X cn_Loom_32 hK hP hD hS hA (fs := [.null, .null]) (fun j hj => by rcases (show j = 0 ∨ j = 1 by omega) with rfl | rfl <;> rfl) (by decide) (by decide) d_Loom_init_40 (ws' := fun n40 => [(x0, .inr (5, [.ref n5, .ref n18, .ref n29, .null, .null, .int (nI 0), .int (nI 0)])), (n5, .inr (0, [.ref (u1 0), .ref (u1 1), .int (nI 0)])), (u1 0, .inl (cI, 24, .inl (fun _ => nI 0))), (u1 1, .inl (cI, 24, .inl (fun _ => nI 0))), (n18, .inr (1, [.ref (u2 0), .ref (u2 1), .ref (u2 2), .int (nI 1)])), (u2 0, .inl (cI, 32, .inl (fun _ => nI 0))), (u2 1, .inl (cI, 32, .inl (fun _ => nI 0))), (u2 2, .inl (cI, 32, .inl (fun _ => -1))), (n29, .inr (2, [.ref (u3 0), .ref (u3 1), .int (nI 0), .int (bI (false))])), (u3 0, .inl (cI, 24, .inl (fun _ => nI 0))), (u3 1, .inl (cI, 24, .inl (fun _ => nI 0))), (n40, .inr (3, [.null, .null]))]) (fun _ => rfl) (fun n40 H hP hD hS => ?_)
  refine lv_dup hx hb d_Loom_init_43 rfl ?_
  refine pl_callIV X (rest := [.ref n40, .ref x0]) (As := []) (b := n40) (c_Weaver_init l D cI cZ cL n40) ck_Loom_34 pl_E0_ok trivial hK hP hD hS hA [11] [0, 1, 2, 3, 4, 5, 6, 7, 8, 9, 10] [0, 1, 2, 3, 4, 5, 6, 7, 8, 9, 10, 11, 12, 13, 14, 15] rfl (by decide) (wr := [(x0, .inr (5, [.ref n5, .ref n18, .ref n29, .null, .null, .int (nI 0), .int (nI 0)])), (n5, .inr (0, [.ref (u1 0), .ref (u1 1), .int (nI 0)])), (u1 0, .inl (cI, 24, .inl (fun _ => nI 0))), (u1 1, .inl (cI, 24, .inl (fun _ => nI 0))), (n18, .inr (1, [.ref (u2 0), .ref (u2 1), .ref (u2 2), .int (nI 1)])), (u2 0, .inl (cI, 32, .inl (fun _ => nI 0))), (u2 1, .inl (cI, 32, .inl (fun _ => nI 0))), (u2 2, .inl (cI, 32, .inl (fun _ => -1))), (n29, .inr (2, [.ref (u3 0), .ref (u3 1), .int (nI 0), .int (bI (false))])), (u3 0, .inl (cI, 24, .inl (fun _ => nI 0))), (u3 1, .inl (cI, 24, .inl (fun _ => nI 0)))]) rfl (by decide) (by decide) (wf := fun (u4 : Nat → Nat) => [(x0, .inr (5, [.ref n5, .ref n18, .ref n29, .null, .null, .int (nI 0), .int (nI 0)])), (n5, .inr (0, [.ref (u1 0), .ref (u1 1), .int (nI 0)])), (u1 0, .inl (cI, 24, .inl (fun _ => nI 0))), (u1 1, .inl (cI, 24, .inl (fun _ => nI 0))), (n18, .inr (1, [.ref (u2 0), .ref (u2 1), .ref (u2 2), .int (nI 1)])), (u2 0, .inl (cI, 32, .inl (fun _ => nI 0))), (u2 1, .inl (cI, 32, .inl (fun _ => nI 0))), (u2 2, .inl (cI, 32, .inl (fun _ => -1))), (n29, .inr (2, [.ref (u3 0), .ref (u3 1), .int (nI 0), .int (bI (false))])), (u3 0, .inl (cI, 24, .inl (fun _ => nI 0))), (u3 1, .inl (cI, 24, .inl (fun _ => nI 0))), (n40, .inr (3, [.ref (u4 0), .ref (u4 3)])), (u4 0, .inr (0, [.ref (u4 1), .ref (u4 2), .int (nI 0)])), (u4 1, .inl (cI, 1584, .inl (fun _ => nI 0))), (u4 2, .inl (cI, 1584, .inl (fun _ => nI 0))), (u4 3, .inl (cI, 24, .inl (fun _ => nI 0)))]) (fun _ => rfl) (by decide) rfl hl.1 rfl (Nat.le_of_ble_eq_true rfl) (by decide) (by decide) d_Loom_init_44 (fun u4 H locs hcq hP hD hS => ?_)
  refine pl_putF X fw_Loom_35 fp_Loom rfl hin rfl hK hP hD hS 0 rfl (v := .ref n40) rfl rfl (Nat.le_of_ble_eq_true rfl) d_Loom_init_47 (ws' := [(x0, .inr (5, [.ref n5, .ref n18, .ref n29, .ref n40, .null, .int (nI 0), .int (nI 0)])), (n5, .inr (0, [.ref (u1 0), .ref (u1 1), .int (nI 0)])), (u1 0, .inl (cI, 24, .inl (fun _ => nI 0))), (u1 1, .inl (cI, 24, .inl (fun _ => nI 0))), (n18, .inr (1, [.ref (u2 0), .ref (u2 1), .ref (u2 2), .int (nI 1)])), (u2 0, .inl (cI, 32, .inl (fun _ => nI 0))), (u2 1, .inl (cI, 32, .inl (fun _ => nI 0))), (u2 2, .inl (cI, 32, .inl (fun _ => -1))), (n29, .inr (2, [.ref (u3 0), .ref (u3 1), .int (nI 0), .int (bI (false))])), (u3 0, .inl (cI, 24, .inl (fun _ => nI 0))), (u3 1, .inl (cI, 24, .inl (fun _ => nI 0))), (n40, .inr (3, [.ref (u4 0), .ref (u4 3)])), (u4 0, .inr (0, [.ref (u4 1), .ref (u4 2), .int (nI 0)])), (u4 1, .inl (cI, 1584, .inl (fun _ => nI 0))), (u4 2, .inl (cI, 1584, .inl (fun _ => nI 0))), (u4 3, .inl (cI, 24, .inl (fun _ => nI 0)))]) rfl (fun H locs hP hD hS => ?_)
  refine lv_aload_n hx hb d_Loom_init_50 rfl (lv_at hl 0 rfl) ?_
  refine pl_new X cn_Loom_39 hK hP hD hS hA (fs := [.null, .null, .null, .null, .int (nI 0), .int (nI 0), .int (nI 0), .int (nI 0), .int (nI 0), .int (nI 0)]) (fun j hj => by rcases (show j = 0 ∨ j = 1 ∨ j = 2 ∨ j = 3 ∨ j = 4 ∨ j = 5 ∨ j = 6 ∨ j = 7 ∨ j = 8 ∨ j = 9 by omega) with rfl | rfl | rfl | rfl | rfl | rfl | rfl | rfl | rfl | rfl <;> rfl) (by decide) (by decide) d_Loom_init_51 (ws' := fun n51 => [(x0, .inr (5, [.ref n5, .ref n18, .ref n29, .ref n40, .null, .int (nI 0), .int (nI 0)])), (n5, .inr (0, [.ref (u1 0), .ref (u1 1), .int (nI 0)])), (u1 0, .inl (cI, 24, .inl (fun _ => nI 0))), (u1 1, .inl (cI, 24, .inl (fun _ => nI 0))), (n18, .inr (1, [.ref (u2 0), .ref (u2 1), .ref (u2 2), .int (nI 1)])), (u2 0, .inl (cI, 32, .inl (fun _ => nI 0))), (u2 1, .inl (cI, 32, .inl (fun _ => nI 0))), (u2 2, .inl (cI, 32, .inl (fun _ => -1))), (n29, .inr (2, [.ref (u3 0), .ref (u3 1), .int (nI 0), .int (bI (false))])), (u3 0, .inl (cI, 24, .inl (fun _ => nI 0))), (u3 1, .inl (cI, 24, .inl (fun _ => nI 0))), (n40, .inr (3, [.ref (u4 0), .ref (u4 3)])), (u4 0, .inr (0, [.ref (u4 1), .ref (u4 2), .int (nI 0)])), (u4 1, .inl (cI, 1584, .inl (fun _ => nI 0))), (u4 2, .inl (cI, 1584, .inl (fun _ => nI 0))), (u4 3, .inl (cI, 24, .inl (fun _ => nI 0))), (n51, .inr (4, [.null, .null, .null, .null, .int (nI 0), .int (nI 0), .int (nI 0), .int (nI 0), .int (nI 0), .int (nI 0)]))]) (fun _ => rfl) (fun n51 H hP hD hS => ?_)
  refine lv_dup hx hb d_Loom_init_54 rfl ?_
  refine pl_callIV X (rest := [.ref n51, .ref x0]) (As := []) (b := n51) (c_Run_init l D cI cZ cL n51) ck_Loom_41 pl_E0_ok trivial hK hP hD hS hA [16] [0, 1, 2, 3, 4, 5, 6, 7, 8, 9, 10, 11, 12, 13, 14, 15] [0, 1, 2, 3, 4, 5, 6, 7, 8, 9, 10, 11, 12, 13, 14, 15, 16, 17, 18, 19, 20] rfl (by decide) (wr := [(x0, .inr (5, [.ref n5, .ref n18, .ref n29, .ref n40, .null, .int (nI 0), .int (nI 0)])), (n5, .inr (0, [.ref (u1 0), .ref (u1 1), .int (nI 0)])), (u1 0, .inl (cI, 24, .inl (fun _ => nI 0))), (u1 1, .inl (cI, 24, .inl (fun _ => nI 0))), (n18, .inr (1, [.ref (u2 0), .ref (u2 1), .ref (u2 2), .int (nI 1)])), (u2 0, .inl (cI, 32, .inl (fun _ => nI 0))), (u2 1, .inl (cI, 32, .inl (fun _ => nI 0))), (u2 2, .inl (cI, 32, .inl (fun _ => -1))), (n29, .inr (2, [.ref (u3 0), .ref (u3 1), .int (nI 0), .int (bI (false))])), (u3 0, .inl (cI, 24, .inl (fun _ => nI 0))), (u3 1, .inl (cI, 24, .inl (fun _ => nI 0))), (n40, .inr (3, [.ref (u4 0), .ref (u4 3)])), (u4 0, .inr (0, [.ref (u4 1), .ref (u4 2), .int (nI 0)])), (u4 1, .inl (cI, 1584, .inl (fun _ => nI 0))), (u4 2, .inl (cI, 1584, .inl (fun _ => nI 0))), (u4 3, .inl (cI, 24, .inl (fun _ => nI 0)))]) rfl (by decide) (by decide) (wf := fun (u5 : Nat → Nat) => [(x0, .inr (5, [.ref n5, .ref n18, .ref n29, .ref n40, .null, .int (nI 0), .int (nI 0)])), (n5, .inr (0, [.ref (u1 0), .ref (u1 1), .int (nI 0)])), (u1 0, .inl (cI, 24, .inl (fun _ => nI 0))), (u1 1, .inl (cI, 24, .inl (fun _ => nI 0))), (n18, .inr (1, [.ref (u2 0), .ref (u2 1), .ref (u2 2), .int (nI 1)])), (u2 0, .inl (cI, 32, .inl (fun _ => nI 0))), (u2 1, .inl (cI, 32, .inl (fun _ => nI 0))), (u2 2, .inl (cI, 32, .inl (fun _ => -1))), (n29, .inr (2, [.ref (u3 0), .ref (u3 1), .int (nI 0), .int (bI (false))])), (u3 0, .inl (cI, 24, .inl (fun _ => nI 0))), (u3 1, .inl (cI, 24, .inl (fun _ => nI 0))), (n40, .inr (3, [.ref (u4 0), .ref (u4 3)])), (u4 0, .inr (0, [.ref (u4 1), .ref (u4 2), .int (nI 0)])), (u4 1, .inl (cI, 1584, .inl (fun _ => nI 0))), (u4 2, .inl (cI, 1584, .inl (fun _ => nI 0))), (u4 3, .inl (cI, 24, .inl (fun _ => nI 0))), (n51, .inr (4, [.ref (u5 0), .ref (u5 1), .ref (u5 2), .ref (u5 3), .int (nI 0), .int (nI 0), .int (nI 0), .int (nI 0), .int (nI 0), .int (nI 0)])), (u5 0, .inl (cI, 14, .inl (fun _ => nI 0))), (u5 1, .inl (cI, 8, .inl (fun _ => nI 0))), (u5 2, .inl (cI, 60, .inl (fun _ => nI 0))), (u5 3, .inl (cI, 60, .inl (fun _ => nI 0)))]) (fun _ => rfl) (by decide) rfl hl.1 rfl (Nat.le_of_ble_eq_true rfl) (by decide) (by decide) d_Loom_init_55 (fun u5 H locs hcq hP hD hS => ?_)
  refine pl_putF X fw_Loom_42 fp_Loom rfl hin rfl hK hP hD hS 0 rfl (v := .ref n51) rfl rfl (Nat.le_of_ble_eq_true rfl) d_Loom_init_58 (ws' := [(x0, .inr (5, [.ref n5, .ref n18, .ref n29, .ref n40, .ref n51, .int (nI 0), .int (nI 0)])), (n5, .inr (0, [.ref (u1 0), .ref (u1 1), .int (nI 0)])), (u1 0, .inl (cI, 24, .inl (fun _ => nI 0))), (u1 1, .inl (cI, 24, .inl (fun _ => nI 0))), (n18, .inr (1, [.ref (u2 0), .ref (u2 1), .ref (u2 2), .int (nI 1)])), (u2 0, .inl (cI, 32, .inl (fun _ => nI 0))), (u2 1, .inl (cI, 32, .inl (fun _ => nI 0))), (u2 2, .inl (cI, 32, .inl (fun _ => -1))), (n29, .inr (2, [.ref (u3 0), .ref (u3 1), .int (nI 0), .int (bI (false))])), (u3 0, .inl (cI, 24, .inl (fun _ => nI 0))), (u3 1, .inl (cI, 24, .inl (fun _ => nI 0))), (n40, .inr (3, [.ref (u4 0), .ref (u4 3)])), (u4 0, .inr (0, [.ref (u4 1), .ref (u4 2), .int (nI 0)])), (u4 1, .inl (cI, 1584, .inl (fun _ => nI 0))), (u4 2, .inl (cI, 1584, .inl (fun _ => nI 0))), (u4 3, .inl (cI, 24, .inl (fun _ => nI 0))), (n51, .inr (4, [.ref (u5 0), .ref (u5 1), .ref (u5 2), .ref (u5 3), .int (nI 0), .int (nI 0), .int (nI 0), .int (nI 0), .int (nI 0), .int (nI 0)])), (u5 0, .inl (cI, 14, .inl (fun _ => nI 0))), (u5 1, .inl (cI, 8, .inl (fun _ => nI 0))), (u5 2, .inl (cI, 60, .inl (fun _ => nI 0))), (u5 3, .inl (cI, 60, .inl (fun _ => nI 0)))]) rfl (fun H locs hP hD hS => ?_)
  refine lv_aload_n hx hb d_Loom_init_61 rfl (lv_at hl 0 rfl) ?_
  refine lv_iconst (v := nI 0) hx hb d_Loom_init_62 (by decide) ?_
  refine pl_put X fw_Loom_46 fp_Loom rfl hK hP hD hS 0 rfl (v := .int (nI 0)) rfl rfl (Nat.le_of_ble_eq_true rfl) d_Loom_init_63 (ws' := [(x0, .inr (5, [.ref n5, .ref n18, .ref n29, .ref n40, .ref n51, .int (nI 0), .int (nI 0)])), (n5, .inr (0, [.ref (u1 0), .ref (u1 1), .int (nI 0)])), (u1 0, .inl (cI, 24, .inl (fun _ => nI 0))), (u1 1, .inl (cI, 24, .inl (fun _ => nI 0))), (n18, .inr (1, [.ref (u2 0), .ref (u2 1), .ref (u2 2), .int (nI 1)])), (u2 0, .inl (cI, 32, .inl (fun _ => nI 0))), (u2 1, .inl (cI, 32, .inl (fun _ => nI 0))), (u2 2, .inl (cI, 32, .inl (fun _ => -1))), (n29, .inr (2, [.ref (u3 0), .ref (u3 1), .int (nI 0), .int (bI (false))])), (u3 0, .inl (cI, 24, .inl (fun _ => nI 0))), (u3 1, .inl (cI, 24, .inl (fun _ => nI 0))), (n40, .inr (3, [.ref (u4 0), .ref (u4 3)])), (u4 0, .inr (0, [.ref (u4 1), .ref (u4 2), .int (nI 0)])), (u4 1, .inl (cI, 1584, .inl (fun _ => nI 0))), (u4 2, .inl (cI, 1584, .inl (fun _ => nI 0))), (u4 3, .inl (cI, 24, .inl (fun _ => nI 0))), (n51, .inr (4, [.ref (u5 0), .ref (u5 1), .ref (u5 2), .ref (u5 3), .int (nI 0), .int (nI 0), .int (nI 0), .int (nI 0), .int (nI 0), .int (nI 0)])), (u5 0, .inl (cI, 14, .inl (fun _ => nI 0))), (u5 1, .inl (cI, 8, .inl (fun _ => nI 0))), (u5 2, .inl (cI, 60, .inl (fun _ => nI 0))), (u5 3, .inl (cI, 60, .inl (fun _ => nI 0)))]) rfl (fun H locs hP hD hS => ?_)
  refine lv_aload_n hx hb d_Loom_init_66 rfl (lv_at hl 0 rfl) ?_
  refine lv_iconst (v := nI 0) hx hb d_Loom_init_67 (by decide) ?_
  refine pl_put X fw_Loom_50 fp_Loom rfl hK hP hD hS 0 rfl (v := .int (nI 0)) rfl rfl (Nat.le_of_ble_eq_true rfl) d_Loom_init_68 (ws' := [(x0, .inr (5, [.ref n5, .ref n18, .ref n29, .ref n40, .ref n51, .int (nI 0), .int (nI 0)])), (n5, .inr (0, [.ref (u1 0), .ref (u1 1), .int (nI 0)])), (u1 0, .inl (cI, 24, .inl (fun _ => nI 0))), (u1 1, .inl (cI, 24, .inl (fun _ => nI 0))), (n18, .inr (1, [.ref (u2 0), .ref (u2 1), .ref (u2 2), .int (nI 1)])), (u2 0, .inl (cI, 32, .inl (fun _ => nI 0))), (u2 1, .inl (cI, 32, .inl (fun _ => nI 0))), (u2 2, .inl (cI, 32, .inl (fun _ => -1))), (n29, .inr (2, [.ref (u3 0), .ref (u3 1), .int (nI 0), .int (bI (false))])), (u3 0, .inl (cI, 24, .inl (fun _ => nI 0))), (u3 1, .inl (cI, 24, .inl (fun _ => nI 0))), (n40, .inr (3, [.ref (u4 0), .ref (u4 3)])), (u4 0, .inr (0, [.ref (u4 1), .ref (u4 2), .int (nI 0)])), (u4 1, .inl (cI, 1584, .inl (fun _ => nI 0))), (u4 2, .inl (cI, 1584, .inl (fun _ => nI 0))), (u4 3, .inl (cI, 24, .inl (fun _ => nI 0))), (n51, .inr (4, [.ref (u5 0), .ref (u5 1), .ref (u5 2), .ref (u5 3), .int (nI 0), .int (nI 0), .int (nI 0), .int (nI 0), .int (nI 0), .int (nI 0)])), (u5 0, .inl (cI, 14, .inl (fun _ => nI 0))), (u5 1, .inl (cI, 8, .inl (fun _ => nI 0))), (u5 2, .inl (cI, 60, .inl (fun _ => nI 0))), (u5 3, .inl (cI, 60, .inl (fun _ => nI 0)))]) rfl (fun H locs hP hD hS => ?_)
  have hP : va_P D classes [(x0, .inr (5, [.ref n5, .ref n18, .ref n29, .ref n40, .ref n51, .int (nI 0), .int (nI 0)])), (n5, .inr (0, [.ref (u1 0), .ref (u1 1), .int (nI 0)])), (u1 0, .inl (cI, 24, .inl (fun _ => nI 0))), (u1 1, .inl (cI, 24, .inl (fun _ => nI 0))), (n18, .inr (1, [.ref (u2 0), .ref (u2 1), .ref (u2 2), .int (nI 1)])), (u2 0, .inl (cI, 32, .inl (fun _ => nI 0))), (u2 1, .inl (cI, 32, .inl (fun _ => nI 0))), (u2 2, .inl (cI, 32, .inl (fun _ => -1))), (n29, .inr (2, [.ref (u3 0), .ref (u3 1), .int (nI 0), .int (bI (false))])), (u3 0, .inl (cI, 24, .inl (fun _ => nI 0))), (u3 1, .inl (cI, 24, .inl (fun _ => nI 0))), (n40, .inr (3, [.ref (u4 0), .ref (u4 3)])), (u4 3, .inl (cI, 24, .inl (fun _ => nI 0))), (u4 0, .inr (0, [.ref (u4 1), .ref (u4 2), .int (nI 0)])), (u4 1, .inl (cI, 1584, .inl (fun _ => nI 0))), (u4 2, .inl (cI, 1584, .inl (fun _ => nI 0))), (n51, .inr (4, [.ref (u5 0), .ref (u5 1), .ref (u5 2), .ref (u5 3), .int (nI 0), .int (nI 0), .int (nI 0), .int (nI 0), .int (nI 0), .int (nI 0)])), (u5 0, .inl (cI, 14, .inl (fun _ => nI 0))), (u5 1, .inl (cI, 8, .inl (fun _ => nI 0))), (u5 2, .inl (cI, 60, .inl (fun _ => nI 0))), (u5 3, .inl (cI, 60, .inl (fun _ => nI 0)))] H := hP.sub [0, 1, 2, 3, 4, 5, 6, 7, 8, 9, 10, 11, 15, 12, 13, 14, 16, 17, 18, 19, 20] rfl
  have hD : va_D A [(x0, .inr (5, [.ref n5, .ref n18, .ref n29, .ref n40, .ref n51, .int (nI 0), .int (nI 0)])), (n5, .inr (0, [.ref (u1 0), .ref (u1 1), .int (nI 0)])), (u1 0, .inl (cI, 24, .inl (fun _ => nI 0))), (u1 1, .inl (cI, 24, .inl (fun _ => nI 0))), (n18, .inr (1, [.ref (u2 0), .ref (u2 1), .ref (u2 2), .int (nI 1)])), (u2 0, .inl (cI, 32, .inl (fun _ => nI 0))), (u2 1, .inl (cI, 32, .inl (fun _ => nI 0))), (u2 2, .inl (cI, 32, .inl (fun _ => -1))), (n29, .inr (2, [.ref (u3 0), .ref (u3 1), .int (nI 0), .int (bI (false))])), (u3 0, .inl (cI, 24, .inl (fun _ => nI 0))), (u3 1, .inl (cI, 24, .inl (fun _ => nI 0))), (n40, .inr (3, [.ref (u4 0), .ref (u4 3)])), (u4 3, .inl (cI, 24, .inl (fun _ => nI 0))), (u4 0, .inr (0, [.ref (u4 1), .ref (u4 2), .int (nI 0)])), (u4 1, .inl (cI, 1584, .inl (fun _ => nI 0))), (u4 2, .inl (cI, 1584, .inl (fun _ => nI 0))), (n51, .inr (4, [.ref (u5 0), .ref (u5 1), .ref (u5 2), .ref (u5 3), .int (nI 0), .int (nI 0), .int (nI 0), .int (nI 0), .int (nI 0), .int (nI 0)])), (u5 0, .inl (cI, 14, .inl (fun _ => nI 0))), (u5 1, .inl (cI, 8, .inl (fun _ => nI 0))), (u5 2, .inl (cI, 60, .inl (fun _ => nI 0))), (u5 3, .inl (cI, 60, .inl (fun _ => nI 0)))] := hD.sub [0, 1, 2, 3, 4, 5, 6, 7, 8, 9, 10, 11, 15, 12, 13, 14, 16, 17, 18, 19, 20] (by decide) rfl
  exact pl_vret X hr hlk hK (fun k => [n5, u1 0, u1 1, n18, u2 0, u2 1, u2 2, n29, u3 0, u3 1, n40, u4 3, u4 0, u4 1, u4 2, n51, u5 0, u5 1, u5 2, u5 3].getD k 0) trivial hP hD hS d_Loom_init_71

set_option maxHeartbeats 4000000 in
set_option maxRecDepth 100000 in
theorem c_Model_init (l : Launch) (D : va_G) (cI cZ cL : ClassId) (m0 : Nat)  : pl_V l y_Model_init b_Model_init 1 ({ frames := 1, cells := 11, slots := 348, locals := 12 } : Room) pl_E0 D classes (TY cI cZ cL) [.ref m0] [(m0, .inr (6, [.int (nI 0), .int (nI 0), .null, .null, .null, .int (nI 0), .null, .null, .null, .null, .int (nI 0), .int (nI 0), .int (nI 0), .int (nI 0), .int (nI 0), .int (nI 0), .int (nI 0), .int (nI 0), .null, .null, .int (nI 0), .null, .null]))] (fun (_ : Nat → Nat) => True) (fun (u : (Nat → Nat)) => [(m0, .inr (6, [.int (nI 0), .int (nI 0), .ref (u 0), .ref (u 1), .ref (u 2), .int (nI 1), .ref (u 3), .ref (u 4), .ref (u 5), .ref (u 6), .int (nI 0), .int (nI 0), .int (nI 0), .int (nI 0), .int (nI 0), .int (nI 0), .int (nI 0), .int (nI 0), .ref (u 7), .ref (u 8), .int (nI 0), .ref (u 9), .ref (u 10)])), (u 0, .inl (cI, 24, .inl (fun _ => nI 0))), (u 1, .inl (cI, 24, .inl (fun _ => nI 0))), (u 2, .inl (cI, 24, .inl (fun _ => nI 0))), (u 3, .inl (cZ, 32, .inl (fun _ => nI 0))), (u 4, .inl (cI, 32, .inl (fun _ => nI 0))), (u 5, .inl (cI, 32, .inl (fun _ => nI 0))), (u 6, .inl (cI, 32, .inl (fun _ => nI 0))), (u 7, .inl (cI, 20, .inl (fun _ => nI 0))), (u 8, .inl (cI, 8, .inl (fun _ => nI 0))), (u 9, .inl (cI, 60, .inl (fun _ => nI 0))), (u 10, .inl (cI, 60, .inl (fun _ => nI 0)))]) := by
  refine pl_startV (by decide) (Nat.le_of_ble_eq_true rfl) ?_
  intro p e s m args below meth c A ls X hr hlk hin hK hP hD hS hA hE hl
  have X : CallFix p m c b_Model_init 1 s args TG R_Model := X
  have hx := X.1
  have hb := X.2.1
  have hl : lv_has ls 1 [(0, .ref m0)] := hl
  refine lv_aload_n hx hb d_Model_init_0 rfl (lv_at hl 0 rfl) ?_
  refine pl_objInit X ob_Model_1 (by rw [X.2.2.1]; exact hl.1) (by decide) (by decide) d_Model_init_1 ?_
  refine lv_aload_n hx hb d_Model_init_4 rfl (lv_at hl 0 rfl) ?_
  refine lv_bipush (v := nI 24) hx hb d_Model_init_5 (by decide) ?_
  refine pl_newaI X ar_I hK 0 rfl hP hD hS hA (by decide) (by decide) (by decide) d_Model_init_7 (ws' := fun n7 => [(m0, .inr (6, [.int (nI 0), .int (nI 0), .null, .null, .null, .int (nI 0), .null, .null, .null, .null, .int (nI 0), .int (nI 0), .int (nI 0), .int (nI 0), .int (nI 0), .int (nI 0), .int (nI 0), .int (nI 0), .null, .null, .int (nI 0), .null, .null])), (n7, .inl (cI, 24, .inl (fun _ => nI 0)))]) (fun _ => rfl) (fun n7 H hP hD hS => ?_)
  refine pl_putF X fw_Model_7 fp_Model rfl hin rfl hK hP hD hS 0 rfl (v := .ref n7) rfl rfl (Nat.le_of_ble_eq_true rfl) d_Model_init_9 (ws' := [(m0, .inr (6, [.int (nI 0), .int (nI 0), .ref n7, .null, .null, .int (nI 0), .null, .null, .null, .null, .int (nI 0), .int (nI 0), .int (nI 0), .int (nI 0), .int (nI 0), .int (nI 0), .int (nI 0), .int (nI 0), .null, .null, .int (nI 0), .null, .null])), (n7, .inl (cI, 24, .inl (fun _ => nI 0)))]) rfl (fun H locs hP hD hS => ?_)
  refine lv_aload_n hx hb d_Model_init_12 rfl (lv_at hl 0 rfl) ?_
  refine lv_bipush (v := nI 24) hx hb d_Model_init_13 (by decide) ?_
  refine pl_newaI X ar_I hK 0 rfl hP hD hS hA (by decide) (by decide) (by decide) d_Model_init_15 (ws' := fun n15 => [(m0, .inr (6, [.int (nI 0), .int (nI 0), .ref n7, .null, .null, .int (nI 0), .null, .null, .null, .null, .int (nI 0), .int (nI 0), .int (nI 0), .int (nI 0), .int (nI 0), .int (nI 0), .int (nI 0), .int (nI 0), .null, .null, .int (nI 0), .null, .null])), (n7, .inl (cI, 24, .inl (fun _ => nI 0))), (n15, .inl (cI, 24, .inl (fun _ => nI 0)))]) (fun _ => rfl) (fun n15 H hP hD hS => ?_)
  refine pl_putF X fw_Model_13 fp_Model rfl hin rfl hK hP hD hS 0 rfl (v := .ref n15) rfl rfl (Nat.le_of_ble_eq_true rfl) d_Model_init_17 (ws' := [(m0, .inr (6, [.int (nI 0), .int (nI 0), .ref n7, .ref n15, .null, .int (nI 0), .null, .null, .null, .null, .int (nI 0), .int (nI 0), .int (nI 0), .int (nI 0), .int (nI 0), .int (nI 0), .int (nI 0), .int (nI 0), .null, .null, .int (nI 0), .null, .null])), (n7, .inl (cI, 24, .inl (fun _ => nI 0))), (n15, .inl (cI, 24, .inl (fun _ => nI 0)))]) rfl (fun H locs hP hD hS => ?_)
  refine lv_aload_n hx hb d_Model_init_20 rfl (lv_at hl 0 rfl) ?_
  refine lv_bipush (v := nI 24) hx hb d_Model_init_21 (by decide) ?_
  refine pl_newaI X ar_I hK 0 rfl hP hD hS hA (by decide) (by decide) (by decide) d_Model_init_23 (ws' := fun n23 => [(m0, .inr (6, [.int (nI 0), .int (nI 0), .ref n7, .ref n15, .null, .int (nI 0), .null, .null, .null, .null, .int (nI 0), .int (nI 0), .int (nI 0), .int (nI 0), .int (nI 0), .int (nI 0), .int (nI 0), .int (nI 0), .null, .null, .int (nI 0), .null, .null])), (n7, .inl (cI, 24, .inl (fun _ => nI 0))), (n15, .inl (cI, 24, .inl (fun _ => nI 0))), (n23, .inl (cI, 24, .inl (fun _ => nI 0)))]) (fun _ => rfl) (fun n23 H hP hD hS => ?_)
  refine pl_putF X fw_Model_16 fp_Model rfl hin rfl hK hP hD hS 0 rfl (v := .ref n23) rfl rfl (Nat.le_of_ble_eq_true rfl) d_Model_init_25 (ws' := [(m0, .inr (6, [.int (nI 0), .int (nI 0), .ref n7, .ref n15, .ref n23, .int (nI 0), .null, .null, .null, .null, .int (nI 0), .int (nI 0), .int (nI 0), .int (nI 0), .int (nI 0), .int (nI 0), .int (nI 0), .int (nI 0), .null, .null, .int (nI 0), .null, .null])), (n7, .inl (cI, 24, .inl (fun _ => nI 0))), (n15, .inl (cI, 24, .inl (fun _ => nI 0))), (n23, .inl (cI, 24, .inl (fun _ => nI 0)))]) rfl (fun H locs hP hD hS => ?_)
  refine lv_aload_n hx hb d_Model_init_28 rfl (lv_at hl 0 rfl) ?_
  refine lv_iconst (v := nI 1) hx hb d_Model_init_29 (by decide) ?_
  refine pl_put X fw_Model_19 fp_Model rfl hK hP hD hS 0 rfl (v := .int (nI 1)) rfl rfl (Nat.le_of_ble_eq_true rfl) d_Model_init_30 (ws' := [(m0, .inr (6, [.int (nI 0), .int (nI 0), .ref n7, .ref n15, .ref n23, .int (nI 1), .null, .null, .null, .null, .int (nI 0), .int (nI 0), .int (nI 0), .int (nI 0), .int (nI 0), .int (nI 0), .int (nI 0), .int (nI 0), .null, .null, .int (nI 0), .null, .null])), (n7, .inl (cI, 24, .inl (fun _ => nI 0))), (n15, .inl (cI, 24, .inl (fun _ => nI 0))), (n23, .inl (cI, 24, .inl (fun _ => nI 0)))]) rfl (fun H locs hP hD hS => ?_)
  refine lv_aload_n hx hb d_Model_init_33 rfl (lv_at hl 0 rfl) ?_
  refine lv_bipush (v := nI 32) hx hb d_Model_init_34 (by decide) ?_
  refine pl_newaZ X ar_Z hK 1 rfl hP hD hS hA (by decide) (by decide) (by decide) d_Model_init_36 (ws' := fun n36 => [(m0, .inr (6, [.int (nI 0), .int (nI 0), .ref n7, .ref n15, .ref n23, .int (nI 1), .null, .null, .null, .null, .int (nI 0), .int (nI 0), .int (nI 0), .int (nI 0), .int (nI 0), .int (nI 0), .int (nI 0), .int (nI 0), .null, .null, .int (nI 0), .null, .null])), (n7, .inl (cI, 24, .inl (fun _ => nI 0))), (n15, .inl (cI, 24, .inl (fun _ => nI 0))), (n23, .inl (cI, 24, .inl (fun _ => nI 0))), (n36, .inl (cZ, 32, .inl (fun _ => nI 0)))]) (fun _ => rfl) (fun n36 H hP hD hS => ?_)
  refine pl_putF X fw_Model_23 fp_Model rfl hin rfl hK hP hD hS 0 rfl (v := .ref n36) rfl rfl (Nat.le_of_ble_eq_true rfl) d_Model_init_38 (ws' := [(m0, .inr (6, [.int (nI 0), .int (nI 0), .ref n7, .ref n15, .ref n23, .int (nI 1), .ref n36, .null, .null, .null, .int (nI 0), .int (nI 0), .int (nI 0), .int (nI 0), .int (nI 0), .int (nI 0), .int (nI 0), .int (nI 0), .null, .null, .int (nI 0), .null, .null])), (n7, .inl (cI, 24, .inl (fun _ => nI 0))), (n15, .inl (cI, 24, .inl (fun _ => nI 0))), (n23, .inl (cI, 24, .inl (fun _ => nI 0))), (n36, .inl (cZ, 32, .inl (fun _ => nI 0)))]) rfl (fun H locs hP hD hS => ?_)
  refine lv_aload_n hx hb d_Model_init_41 rfl (lv_at hl 0 rfl) ?_
  refine lv_bipush (v := nI 32) hx hb d_Model_init_42 (by decide) ?_
  refine pl_newaI X ar_I hK 0 rfl hP hD hS hA (by decide) (by decide) (by decide) d_Model_init_44 (ws' := fun n44 => [(m0, .inr (6, [.int (nI 0), .int (nI 0), .ref n7, .ref n15, .ref n23, .int (nI 1), .ref n36, .null, .null, .null, .int (nI 0), .int (nI 0), .int (nI 0), .int (nI 0), .int (nI 0), .int (nI 0), .int (nI 0), .int (nI 0), .null, .null, .int (nI 0), .null, .null])), (n7, .inl (cI, 24, .inl (fun _ => nI 0))), (n15, .inl (cI, 24, .inl (fun _ => nI 0))), (n23, .inl (cI, 24, .inl (fun _ => nI 0))), (n36, .inl (cZ, 32, .inl (fun _ => nI 0))), (n44, .inl (cI, 32, .inl (fun _ => nI 0)))]) (fun _ => rfl) (fun n44 H hP hD hS => ?_)
  refine pl_putF X fw_Model_27 fp_Model rfl hin rfl hK hP hD hS 0 rfl (v := .ref n44) rfl rfl (Nat.le_of_ble_eq_true rfl) d_Model_init_46 (ws' := [(m0, .inr (6, [.int (nI 0), .int (nI 0), .ref n7, .ref n15, .ref n23, .int (nI 1), .ref n36, .ref n44, .null, .null, .int (nI 0), .int (nI 0), .int (nI 0), .int (nI 0), .int (nI 0), .int (nI 0), .int (nI 0), .int (nI 0), .null, .null, .int (nI 0), .null, .null])), (n7, .inl (cI, 24, .inl (fun _ => nI 0))), (n15, .inl (cI, 24, .inl (fun _ => nI 0))), (n23, .inl (cI, 24, .inl (fun _ => nI 0))), (n36, .inl (cZ, 32, .inl (fun _ => nI 0))), (n44, .inl (cI, 32, .inl (fun _ => nI 0)))]) rfl (fun H locs hP hD hS => ?_)
  refine lv_aload_n hx hb d_Model_init_49 rfl (lv_at hl 0 rfl) ?_
  refine lv_bipush (v := nI 32) hx hb d_Model_init_50 (by decide) ?_
  refine pl_newaI X ar_I hK 0 rfl hP hD hS hA (by decide) (by decide) (by decide) d_Model_init_52 (ws' := fun n52 => [(m0, .inr (6, [.int (nI 0), .int (nI 0), .ref n7, .ref n15, .ref n23, .int (nI 1), .ref n36, .ref n44, .null, .null, .int (nI 0), .int (nI 0), .int (nI 0), .int (nI 0), .int (nI 0), .int (nI 0), .int (nI 0), .int (nI 0), .null, .null, .int (nI 0), .null, .null])), (n7, .inl (cI, 24, .inl (fun _ => nI 0))), (n15, .inl (cI, 24, .inl (fun _ => nI 0))), (n23, .inl (cI, 24, .inl (fun _ => nI 0))), (n36, .inl (cZ, 32, .inl (fun _ => nI 0))), (n44, .inl (cI, 32, .inl (fun _ => nI 0))), (n52, .inl (cI, 32, .inl (fun _ => nI 0)))]) (fun _ => rfl) (fun n52 H hP hD hS => ?_)
  refine pl_putF X fw_Model_30 fp_Model rfl hin rfl hK hP hD hS 0 rfl (v := .ref n52) rfl rfl (Nat.le_of_ble_eq_true rfl) d_Model_init_54 (ws' := [(m0, .inr (6, [.int (nI 0), .int (nI 0), .ref n7, .ref n15, .ref n23, .int (nI 1), .ref n36, .ref n44, .ref n52, .null, .int (nI 0), .int (nI 0), .int (nI 0), .int (nI 0), .int (nI 0), .int (nI 0), .int (nI 0), .int (nI 0), .null, .null, .int (nI 0), .null, .null])), (n7, .inl (cI, 24, .inl (fun _ => nI 0))), (n15, .inl (cI, 24, .inl (fun _ => nI 0))), (n23, .inl (cI, 24, .inl (fun _ => nI 0))), (n36, .inl (cZ, 32, .inl (fun _ => nI 0))), (n44, .inl (cI, 32, .inl (fun _ => nI 0))), (n52, .inl (cI, 32, .inl (fun _ => nI 0)))]) rfl (fun H locs hP hD hS => ?_)
  refine lv_aload_n hx hb d_Model_init_57 rfl (lv_at hl 0 rfl) ?_
  refine lv_bipush (v := nI 32) hx hb d_Model_init_58 (by decide) ?_
  refine pl_newaI X ar_I hK 0 rfl hP hD hS hA (by decide) (by decide) (by decide) d_Model_init_60 (ws' := fun n60 => [(m0, .inr (6, [.int (nI 0), .int (nI 0), .ref n7, .ref n15, .ref n23, .int (nI 1), .ref n36, .ref n44, .ref n52, .null, .int (nI 0), .int (nI 0), .int (nI 0), .int (nI 0), .int (nI 0), .int (nI 0), .int (nI 0), .int (nI 0), .null, .null, .int (nI 0), .null, .null])), (n7, .inl (cI, 24, .inl (fun _ => nI 0))), (n15, .inl (cI, 24, .inl (fun _ => nI 0))), (n23, .inl (cI, 24, .inl (fun _ => nI 0))), (n36, .inl (cZ, 32, .inl (fun _ => nI 0))), (n44, .inl (cI, 32, .inl (fun _ => nI 0))), (n52, .inl (cI, 32, .inl (fun _ => nI 0))), (n60, .inl (cI, 32, .inl (fun _ => nI 0)))]) (fun _ => rfl) (fun n60 H hP hD hS => ?_)
  refine pl_putF X fw_Model_33 fp_Model rfl hin rfl hK hP hD hS 0 rfl (v := .ref n60) rfl rfl (Nat.le_of_ble_eq_true rfl) d_Model_init_62 (ws' := [(m0, .inr (6, [.int (nI 0), .int (nI 0), .ref n7, .ref n15, .ref n23, .int (nI 1), .ref n36, .ref n44, .ref n52, .ref n60, .int (nI 0), .int (nI 0), .int (nI 0), .int (nI 0), .int (nI 0), .int (nI 0), .int (nI 0), .int (nI 0), .null, .null, .int (nI 0), .null, .null])), (n7, .inl (cI, 24, .inl (fun _ => nI 0))), (n15, .inl (cI, 24, .inl (fun _ => nI 0))), (n23, .inl (cI, 24, .inl (fun _ => nI 0))), (n36, .inl (cZ, 32, .inl (fun _ => nI 0))), (n44, .inl (cI, 32, .inl (fun _ => nI 0))), (n52, .inl (cI, 32, .inl (fun _ => nI 0))), (n60, .inl (cI, 32, .inl (fun _ => nI 0)))]) rfl (fun H locs hP hD hS => ?_)
  refine lv_aload_n hx hb d_Model_init_65 rfl (lv_at hl 0 rfl) ?_
  refine lv_bipush (v := nI 20) hx hb d_Model_init_66 (by decide) ?_
  refine pl_newaI X ar_I hK 0 rfl hP hD hS hA (by decide) (by decide) (by decide) d_Model_init_68 (ws' := fun n68 => [(m0, .inr (6, [.int (nI 0), .int (nI 0), .ref n7, .ref n15, .ref n23, .int (nI 1), .ref n36, .ref n44, .ref n52, .ref n60, .int (nI 0), .int (nI 0), .int (nI 0), .int (nI 0), .int (nI 0), .int (nI 0), .int (nI 0), .int (nI 0), .null, .null, .int (nI 0), .null, .null])), (n7, .inl (cI, 24, .inl (fun _ => nI 0))), (n15, .inl (cI, 24, .inl (fun _ => nI 0))), (n23, .inl (cI, 24, .inl (fun _ => nI 0))), (n36, .inl (cZ, 32, .inl (fun _ => nI 0))), (n44, .inl (cI, 32, .inl (fun _ => nI 0))), (n52, .inl (cI, 32, .inl (fun _ => nI 0))), (n60, .inl (cI, 32, .inl (fun _ => nI 0))), (n68, .inl (cI, 20, .inl (fun _ => nI 0)))]) (fun _ => rfl) (fun n68 H hP hD hS => ?_)
  refine pl_putF X fw_Model_36 fp_Model rfl hin rfl hK hP hD hS 0 rfl (v := .ref n68) rfl rfl (Nat.le_of_ble_eq_true rfl) d_Model_init_70 (ws' := [(m0, .inr (6, [.int (nI 0), .int (nI 0), .ref n7, .ref n15, .ref n23, .int (nI 1), .ref n36, .ref n44, .ref n52, .ref n60, .int (nI 0), .int (nI 0), .int (nI 0), .int (nI 0), .int (nI 0), .int (nI 0), .int (nI 0), .int (nI 0), .ref n68, .null, .int (nI 0), .null, .null])), (n7, .inl (cI, 24, .inl (fun _ => nI 0))), (n15, .inl (cI, 24, .inl (fun _ => nI 0))), (n23, .inl (cI, 24, .inl (fun _ => nI 0))), (n36, .inl (cZ, 32, .inl (fun _ => nI 0))), (n44, .inl (cI, 32, .inl (fun _ => nI 0))), (n52, .inl (cI, 32, .inl (fun _ => nI 0))), (n60, .inl (cI, 32, .inl (fun _ => nI 0))), (n68, .inl (cI, 20, .inl (fun _ => nI 0)))]) rfl (fun H locs hP hD hS => ?_)
  refine lv_aload_n hx hb d_Model_init_73 rfl (lv_at hl 0 rfl) ?_
  refine lv_bipush (v := nI 8) hx hb d_Model_init_74 (by decide) ?_
  refine pl_newaI X ar_I hK 0 rfl hP hD hS hA (by decide) (by decide) (by decide) d_Model_init_76 (ws' := fun n76 => [(m0, .inr (6, [.int (nI 0), .int (nI 0), .ref n7, .ref n15, .ref n23, .int (nI 1), .ref n36, .ref n44, .ref n52, .ref n60, .int (nI 0), .int (nI 0), .int (nI 0), .int (nI 0), .int (nI 0), .int (nI 0), .int (nI 0), .int (nI 0), .ref n68, .null, .int (nI 0), .null, .null])), (n7, .inl (cI, 24, .inl (fun _ => nI 0))), (n15, .inl (cI, 24, .inl (fun _ => nI 0))), (n23, .inl (cI, 24, .inl (fun _ => nI 0))), (n36, .inl (cZ, 32, .inl (fun _ => nI 0))), (n44, .inl (cI, 32, .inl (fun _ => nI 0))), (n52, .inl (cI, 32, .inl (fun _ => nI 0))), (n60, .inl (cI, 32, .inl (fun _ => nI 0))), (n68, .inl (cI, 20, .inl (fun _ => nI 0))), (n76, .inl (cI, 8, .inl (fun _ => nI 0)))]) (fun _ => rfl) (fun n76 H hP hD hS => ?_)
  refine pl_putF X fw_Model_39 fp_Model rfl hin rfl hK hP hD hS 0 rfl (v := .ref n76) rfl rfl (Nat.le_of_ble_eq_true rfl) d_Model_init_78 (ws' := [(m0, .inr (6, [.int (nI 0), .int (nI 0), .ref n7, .ref n15, .ref n23, .int (nI 1), .ref n36, .ref n44, .ref n52, .ref n60, .int (nI 0), .int (nI 0), .int (nI 0), .int (nI 0), .int (nI 0), .int (nI 0), .int (nI 0), .int (nI 0), .ref n68, .ref n76, .int (nI 0), .null, .null])), (n7, .inl (cI, 24, .inl (fun _ => nI 0))), (n15, .inl (cI, 24, .inl (fun _ => nI 0))), (n23, .inl (cI, 24, .inl (fun _ => nI 0))), (n36, .inl (cZ, 32, .inl (fun _ => nI 0))), (n44, .inl (cI, 32, .inl (fun _ => nI 0))), (n52, .inl (cI, 32, .inl (fun _ => nI 0))), (n60, .inl (cI, 32, .inl (fun _ => nI 0))), (n68, .inl (cI, 20, .inl (fun _ => nI 0))), (n76, .inl (cI, 8, .inl (fun _ => nI 0)))]) rfl (fun H locs hP hD hS => ?_)
  refine lv_aload_n hx hb d_Model_init_81 rfl (lv_at hl 0 rfl) ?_
  refine lv_bipush (v := nI 60) hx hb d_Model_init_82 (by decide) ?_
  refine pl_newaI X ar_I hK 0 rfl hP hD hS hA (by decide) (by decide) (by decide) d_Model_init_84 (ws' := fun n84 => [(m0, .inr (6, [.int (nI 0), .int (nI 0), .ref n7, .ref n15, .ref n23, .int (nI 1), .ref n36, .ref n44, .ref n52, .ref n60, .int (nI 0), .int (nI 0), .int (nI 0), .int (nI 0), .int (nI 0), .int (nI 0), .int (nI 0), .int (nI 0), .ref n68, .ref n76, .int (nI 0), .null, .null])), (n7, .inl (cI, 24, .inl (fun _ => nI 0))), (n15, .inl (cI, 24, .inl (fun _ => nI 0))), (n23, .inl (cI, 24, .inl (fun _ => nI 0))), (n36, .inl (cZ, 32, .inl (fun _ => nI 0))), (n44, .inl (cI, 32, .inl (fun _ => nI 0))), (n52, .inl (cI, 32, .inl (fun _ => nI 0))), (n60, .inl (cI, 32, .inl (fun _ => nI 0))), (n68, .inl (cI, 20, .inl (fun _ => nI 0))), (n76, .inl (cI, 8, .inl (fun _ => nI 0))), (n84, .inl (cI, 60, .inl (fun _ => nI 0)))]) (fun _ => rfl) (fun n84 H hP hD hS => ?_)
  refine pl_putF X fw_Model_42 fp_Model rfl hin rfl hK hP hD hS 0 rfl (v := .ref n84) rfl rfl (Nat.le_of_ble_eq_true rfl) d_Model_init_86 (ws' := [(m0, .inr (6, [.int (nI 0), .int (nI 0), .ref n7, .ref n15, .ref n23, .int (nI 1), .ref n36, .ref n44, .ref n52, .ref n60, .int (nI 0), .int (nI 0), .int (nI 0), .int (nI 0), .int (nI 0), .int (nI 0), .int (nI 0), .int (nI 0), .ref n68, .ref n76, .int (nI 0), .ref n84, .null])), (n7, .inl (cI, 24, .inl (fun _ => nI 0))), (n15, .inl (cI, 24, .inl (fun _ => nI 0))), (n23, .inl (cI, 24, .inl (fun _ => nI 0))), (n36, .inl (cZ, 32, .inl (fun _ => nI 0))), (n44, .inl (cI, 32, .inl (fun _ => nI 0))), (n52, .inl (cI, 32, .inl (fun _ => nI 0))), (n60, .inl (cI, 32, .inl (fun _ => nI 0))), (n68, .inl (cI, 20, .inl (fun _ => nI 0))), (n76, .inl (cI, 8, .inl (fun _ => nI 0))), (n84, .inl (cI, 60, .inl (fun _ => nI 0)))]) rfl (fun H locs hP hD hS => ?_)
  refine lv_aload_n hx hb d_Model_init_89 rfl (lv_at hl 0 rfl) ?_
  refine lv_bipush (v := nI 60) hx hb d_Model_init_90 (by decide) ?_
  refine pl_newaI X ar_I hK 0 rfl hP hD hS hA (by decide) (by decide) (by decide) d_Model_init_92 (ws' := fun n92 => [(m0, .inr (6, [.int (nI 0), .int (nI 0), .ref n7, .ref n15, .ref n23, .int (nI 1), .ref n36, .ref n44, .ref n52, .ref n60, .int (nI 0), .int (nI 0), .int (nI 0), .int (nI 0), .int (nI 0), .int (nI 0), .int (nI 0), .int (nI 0), .ref n68, .ref n76, .int (nI 0), .ref n84, .null])), (n7, .inl (cI, 24, .inl (fun _ => nI 0))), (n15, .inl (cI, 24, .inl (fun _ => nI 0))), (n23, .inl (cI, 24, .inl (fun _ => nI 0))), (n36, .inl (cZ, 32, .inl (fun _ => nI 0))), (n44, .inl (cI, 32, .inl (fun _ => nI 0))), (n52, .inl (cI, 32, .inl (fun _ => nI 0))), (n60, .inl (cI, 32, .inl (fun _ => nI 0))), (n68, .inl (cI, 20, .inl (fun _ => nI 0))), (n76, .inl (cI, 8, .inl (fun _ => nI 0))), (n84, .inl (cI, 60, .inl (fun _ => nI 0))), (n92, .inl (cI, 60, .inl (fun _ => nI 0)))]) (fun _ => rfl) (fun n92 H hP hD hS => ?_)
  refine pl_putF X fw_Model_45 fp_Model rfl hin rfl hK hP hD hS 0 rfl (v := .ref n92) rfl rfl (Nat.le_of_ble_eq_true rfl) d_Model_init_94 (ws' := [(m0, .inr (6, [.int (nI 0), .int (nI 0), .ref n7, .ref n15, .ref n23, .int (nI 1), .ref n36, .ref n44, .ref n52, .ref n60, .int (nI 0), .int (nI 0), .int (nI 0), .int (nI 0), .int (nI 0), .int (nI 0), .int (nI 0), .int (nI 0), .ref n68, .ref n76, .int (nI 0), .ref n84, .ref n92])), (n7, .inl (cI, 24, .inl (fun _ => nI 0))), (n15, .inl (cI, 24, .inl (fun _ => nI 0))), (n23, .inl (cI, 24, .inl (fun _ => nI 0))), (n36, .inl (cZ, 32, .inl (fun _ => nI 0))), (n44, .inl (cI, 32, .inl (fun _ => nI 0))), (n52, .inl (cI, 32, .inl (fun _ => nI 0))), (n60, .inl (cI, 32, .inl (fun _ => nI 0))), (n68, .inl (cI, 20, .inl (fun _ => nI 0))), (n76, .inl (cI, 8, .inl (fun _ => nI 0))), (n84, .inl (cI, 60, .inl (fun _ => nI 0))), (n92, .inl (cI, 60, .inl (fun _ => nI 0)))]) rfl (fun H locs hP hD hS => ?_)
  exact pl_vret X hr hlk hK (fun k => [n7, n15, n23, n36, n44, n52, n60, n68, n76, n84, n92].getD k 0) trivial hP hD hS d_Model_init_97
end
