section
def lw_okq (q : MethodName × Nat) : Prop := (q.1.cls ≠ "java/lang/invoke/MethodHandle" ∧ q.1.cls ≠ "java/lang/invoke/VarHandle") ∧ Cond.instantiable q.1.cls q.2 ∈ tables_1 ∧ Cond.privateMethod q.1 ∈ tables_1 ∧ Cond.instanceMethod q.1 ∈ tables_1
theorem lw_p0 : lw_okq (⟨"PolicyLoom", "forgetWhatHungOnProgram", "()V"⟩, 7) := ⟨⟨by decide +kernel, by decide +kernel⟩, List.mem_of_getElem? (i := 15) (by decide +kernel), List.mem_of_getElem? (i := 187) (by decide +kernel), List.mem_of_getElem? (i := 188) (by decide +kernel)⟩
theorem lw_p1 : lw_okq (⟨"PolicyLoom", "forgetWhatHungOnAutomaton", "()V"⟩, 7) := ⟨⟨by decide +kernel, by decide +kernel⟩, List.mem_of_getElem? (i := 15) (by decide +kernel), List.mem_of_getElem? (i := 191) (by decide +kernel), List.mem_of_getElem? (i := 192) (by decide +kernel)⟩
theorem lw_p2 : lw_okq (⟨"PolicyLoom", "isWellFormed", "()Z"⟩, 7) := ⟨⟨by decide +kernel, by decide +kernel⟩, List.mem_of_getElem? (i := 15) (by decide +kernel), List.mem_of_getElem? (i := 199) (by decide +kernel), List.mem_of_getElem? (i := 200) (by decide +kernel)⟩
theorem lw_p3 : lw_okq (⟨"PolicyLoom$Heights", "heightsFit", "(LPolicyLoom$Listing;)Z"⟩, 4) := ⟨⟨by decide +kernel, by decide +kernel⟩, List.mem_of_getElem? (i := 79) (by decide +kernel), List.mem_of_getElem? (i := 213) (by decide +kernel), List.mem_of_getElem? (i := 214) (by decide +kernel)⟩
theorem lw_p4 : lw_okq (⟨"PolicyLoom$Heights", "reach", "(LPolicyLoom$Listing;II)Z"⟩, 4) := ⟨⟨by decide +kernel, by decide +kernel⟩, List.mem_of_getElem? (i := 79) (by decide +kernel), List.mem_of_getElem? (i := 217) (by decide +kernel), List.mem_of_getElem? (i := 218) (by decide +kernel)⟩
theorem lw_p5 : lw_okq (⟨"PolicyLoom$Heights", "waysOnFit", "(LPolicyLoom$Listing;I)Z"⟩, 4) := ⟨⟨by decide +kernel, by decide +kernel⟩, List.mem_of_getElem? (i := 79) (by decide +kernel), List.mem_of_getElem? (i := 221) (by decide +kernel), List.mem_of_getElem? (i := 222) (by decide +kernel)⟩
theorem lw_p6 : lw_okq (⟨"java/lang/Throwable", "fillInStackTrace", "(I)Ljava/lang/Throwable;"⟩, 6) := ⟨⟨by decide +kernel, by decide +kernel⟩, List.mem_of_getElem? (i := 279) (by decide +kernel), List.mem_of_getElem? (i := 277) (by decide +kernel), List.mem_of_getElem? (i := 278) (by decide +kernel)⟩
theorem lw_p7 : lw_okq (⟨"PolicyLoom", "requireWellFormed", "()V"⟩, 7) := ⟨⟨by decide +kernel, by decide +kernel⟩, List.mem_of_getElem? (i := 15) (by decide +kernel), List.mem_of_getElem? (i := 367) (by decide +kernel), List.mem_of_getElem? (i := 368) (by decide +kernel)⟩
theorem lw_p8 : lw_okq (⟨"PolicyLoom", "wovenListing", "()LPolicyLoom$Listing;"⟩, 7) := ⟨⟨by decide +kernel, by decide +kernel⟩, List.mem_of_getElem? (i := 15) (by decide +kernel), List.mem_of_getElem? (i := 395) (by decide +kernel), List.mem_of_getElem? (i := 396) (by decide +kernel)⟩
theorem lw_p9 : lw_okq (⟨"PolicyLoom$Weaver", "findFirsts", "(LPolicyLoom$Listing;LPolicyLoom$Automaton;)V"⟩, 2) := ⟨⟨by decide +kernel, by decide +kernel⟩, List.mem_of_getElem? (i := 100) (by decide +kernel), List.mem_of_getElem? (i := 403) (by decide +kernel), List.mem_of_getElem? (i := 404) (by decide +kernel)⟩
theorem lw_p10 : lw_okq (⟨"PolicyLoom$Weaver", "appendGuard", "(LPolicyLoom$Automaton;I)V"⟩, 2) := ⟨⟨by decide +kernel, by decide +kernel⟩, List.mem_of_getElem? (i := 100) (by decide +kernel), List.mem_of_getElem? (i := 419) (by decide +kernel), List.mem_of_getElem? (i := 420) (by decide +kernel)⟩
theorem lw_p11 : lw_okq (⟨"PolicyLoom$Weaver", "appendStateCheck", "(II)V"⟩, 2) := ⟨⟨by decide +kernel, by decide +kernel⟩, List.mem_of_getElem? (i := 100) (by decide +kernel), List.mem_of_getElem? (i := 425) (by decide +kernel), List.mem_of_getElem? (i := 426) (by decide +kernel)⟩
theorem lw_p12 : lw_okq (⟨"PolicyLoom$Weaver", "appendRangeCheck", "(III)V"⟩, 2) := ⟨⟨by decide +kernel, by decide +kernel⟩, List.mem_of_getElem? (i := 100) (by decide +kernel), List.mem_of_getElem? (i := 430) (by decide +kernel), List.mem_of_getElem? (i := 431) (by decide +kernel)⟩
theorem lw_p13 : lw_okq (⟨"PolicyLoom$Weaver", "appendMove", "(II)V"⟩, 2) := ⟨⟨by decide +kernel, by decide +kernel⟩, List.mem_of_getElem? (i := 100) (by decide +kernel), List.mem_of_getElem? (i := 434) (by decide +kernel), List.mem_of_getElem? (i := 435) (by decide +kernel)⟩
theorem lw_p14 : lw_okq (⟨"PolicyLoom$Run", "pop", "()I"⟩, 10) := ⟨⟨by decide +kernel, by decide +kernel⟩, List.mem_of_getElem? (i := 116) (by decide +kernel), List.mem_of_getElem? (i := 471) (by decide +kernel), List.mem_of_getElem? (i := 472) (by decide +kernel)⟩
theorem lw_p15 : lw_okq (⟨"PolicyLoom$Run", "tryAct", "(LPolicyLoom$Automaton;I)V"⟩, 10) := ⟨⟨by decide +kernel, by decide +kernel⟩, List.mem_of_getElem? (i := 116) (by decide +kernel), List.mem_of_getElem? (i := 475) (by decide +kernel), List.mem_of_getElem? (i := 476) (by decide +kernel)⟩
def lw_privs_1 : List (MethodName × Nat) := [(⟨"PolicyLoom", "forgetWhatHungOnProgram", "()V"⟩, 7), (⟨"PolicyLoom", "forgetWhatHungOnAutomaton", "()V"⟩, 7), (⟨"PolicyLoom", "isWellFormed", "()Z"⟩, 7), (⟨"PolicyLoom$Heights", "heightsFit", "(LPolicyLoom$Listing;)Z"⟩, 4), (⟨"PolicyLoom$Heights", "reach", "(LPolicyLoom$Listing;II)Z"⟩, 4), (⟨"PolicyLoom$Heights", "waysOnFit", "(LPolicyLoom$Listing;I)Z"⟩, 4), (⟨"java/lang/Throwable", "fillInStackTrace", "(I)Ljava/lang/Throwable;"⟩, 6), (⟨"PolicyLoom", "requireWellFormed", "()V"⟩, 7), (⟨"PolicyLoom", "wovenListing", "()LPolicyLoom$Listing;"⟩, 7), (⟨"PolicyLoom$Weaver", "findFirsts", "(LPolicyLoom$Listing;LPolicyLoom$Automaton;)V"⟩, 2), (⟨"PolicyLoom$Weaver", "appendGuard", "(LPolicyLoom$Automaton;I)V"⟩, 2), (⟨"PolicyLoom$Weaver", "appendStateCheck", "(II)V"⟩, 2), (⟨"PolicyLoom$Weaver", "appendRangeCheck", "(III)V"⟩, 2), (⟨"PolicyLoom$Weaver", "appendMove", "(II)V"⟩, 2), (⟨"PolicyLoom$Run", "pop", "()I"⟩, 10), (⟨"PolicyLoom$Run", "tryAct", "(LPolicyLoom$Automaton;I)V"⟩, 10)]
theorem lw_r1 : ∀ q ∈ lw_privs_1, lw_okq q := List.forall_mem_cons.mpr ⟨lw_p0, List.forall_mem_cons.mpr ⟨lw_p1, List.forall_mem_cons.mpr ⟨lw_p2, List.forall_mem_cons.mpr ⟨lw_p3, List.forall_mem_cons.mpr ⟨lw_p4, List.forall_mem_cons.mpr ⟨lw_p5, List.forall_mem_cons.mpr ⟨lw_p6, List.forall_mem_cons.mpr ⟨lw_p7, List.forall_mem_cons.mpr ⟨lw_p8, List.forall_mem_cons.mpr ⟨lw_p9, List.forall_mem_cons.mpr ⟨lw_p10, List.forall_mem_cons.mpr ⟨lw_p11, List.forall_mem_cons.mpr ⟨lw_p12, List.forall_mem_cons.mpr ⟨lw_p13, List.forall_mem_cons.mpr ⟨lw_p14, List.forall_mem_cons.mpr ⟨lw_p15, fun _ h => absurd h List.not_mem_nil⟩⟩⟩⟩⟩⟩⟩⟩⟩⟩⟩⟩⟩⟩⟩⟩
theorem lw_p16 : lw_okq (⟨"PolicyLoom$Run", "work", "(II)V"⟩, 10) := ⟨⟨by decide +kernel, by decide +kernel⟩, List.mem_of_getElem? (i := 116) (by decide +kernel), List.mem_of_getElem? (i := 484) (by decide +kernel), List.mem_of_getElem? (i := 485) (by decide +kernel)⟩
theorem lw_p17 : lw_okq (⟨"PolicyLoom$Run", "push", "(I)V"⟩, 10) := ⟨⟨by decide +kernel, by decide +kernel⟩, List.mem_of_getElem? (i := 116) (by decide +kernel), List.mem_of_getElem? (i := 488) (by decide +kernel), List.mem_of_getElem? (i := 489) (by decide +kernel)⟩
theorem lw_p18 : lw_okq (⟨"PolicyLoom$Run", "workOnTwo", "(I)V"⟩, 10) := ⟨⟨by decide +kernel, by decide +kernel⟩, List.mem_of_getElem? (i := 116) (by decide +kernel), List.mem_of_getElem? (i := 492) (by decide +kernel), List.mem_of_getElem? (i := 493) (by decide +kernel)⟩
theorem lw_p19 : lw_okq (⟨"PolicyLoomModel", "refuse", "(I)I"⟩, 23) := ⟨⟨by decide +kernel, by decide +kernel⟩, List.mem_of_getElem? (i := 524) (by decide +kernel), List.mem_of_getElem? (i := 609) (by decide +kernel), List.mem_of_getElem? (i := 610) (by decide +kernel)⟩
theorem lw_p20 : lw_okq (⟨"PolicyLoomModel", "isState", "(I)Z"⟩, 23) := ⟨⟨by decide +kernel, by decide +kernel⟩, List.mem_of_getElem? (i := 524) (by decide +kernel), List.mem_of_getElem? (i := 625) (by decide +kernel), List.mem_of_getElem? (i := 626) (by decide +kernel)⟩
theorem lw_p21 : lw_okq (⟨"PolicyLoomModel", "isWell", "()Z"⟩, 23) := ⟨⟨by decide +kernel, by decide +kernel⟩, List.mem_of_getElem? (i := 524) (by decide +kernel), List.mem_of_getElem? (i := 633) (by decide +kernel), List.mem_of_getElem? (i := 634) (by decide +kernel)⟩
theorem lw_p22 : lw_okq (⟨"PolicyLoomModel", "isK", "(I)Z"⟩, 23) := ⟨⟨by decide +kernel, by decide +kernel⟩, List.mem_of_getElem? (i := 524) (by decide +kernel), List.mem_of_getElem? (i := 637) (by decide +kernel), List.mem_of_getElem? (i := 638) (by decide +kernel)⟩
theorem lw_p23 : lw_okq (⟨"PolicyLoomModel", "isPlace", "(I)Z"⟩, 23) := ⟨⟨by decide +kernel, by decide +kernel⟩, List.mem_of_getElem? (i := 524) (by decide +kernel), List.mem_of_getElem? (i := 641) (by decide +kernel), List.mem_of_getElem? (i := 642) (by decide +kernel)⟩
theorem lw_p24 : lw_okq (⟨"PolicyLoomModel", "reach", "(II)Z"⟩, 23) := ⟨⟨by decide +kernel, by decide +kernel⟩, List.mem_of_getElem? (i := 524) (by decide +kernel), List.mem_of_getElem? (i := 651) (by decide +kernel), List.mem_of_getElem? (i := 652) (by decide +kernel)⟩
theorem lw_p25 : lw_okq (⟨"PolicyLoomModel", "place", "(I)I"⟩, 23) := ⟨⟨by decide +kernel, by decide +kernel⟩, List.mem_of_getElem? (i := 524) (by decide +kernel), List.mem_of_getElem? (i := 663) (by decide +kernel), List.mem_of_getElem? (i := 664) (by decide +kernel)⟩
theorem lw_p26 : lw_okq (⟨"PolicyLoomModel", "aheadOf", "(I)I"⟩, 23) := ⟨⟨by decide +kernel, by decide +kernel⟩, List.mem_of_getElem? (i := 524) (by decide +kernel), List.mem_of_getElem? (i := 667) (by decide +kernel), List.mem_of_getElem? (i := 668) (by decide +kernel)⟩
theorem lw_p27 : lw_okq (⟨"PolicyLoomModel", "testsOf", "(I)I"⟩, 23) := ⟨⟨by decide +kernel, by decide +kernel⟩, List.mem_of_getElem? (i := 524) (by decide +kernel), List.mem_of_getElem? (i := 671) (by decide +kernel), List.mem_of_getElem? (i := 672) (by decide +kernel)⟩
theorem lw_p28 : lw_okq (⟨"PolicyLoomModel", "find", "(I)V"⟩, 23) := ⟨⟨by decide +kernel, by decide +kernel⟩, List.mem_of_getElem? (i := 524) (by decide +kernel), List.mem_of_getElem? (i := 679) (by decide +kernel), List.mem_of_getElem? (i := 680) (by decide +kernel)⟩
theorem lw_p29 : lw_okq (⟨"PolicyLoomModel", "set", "(II)V"⟩, 23) := ⟨⟨by decide +kernel, by decide +kernel⟩, List.mem_of_getElem? (i := 524) (by decide +kernel), List.mem_of_getElem? (i := 683) (by decide +kernel), List.mem_of_getElem? (i := 684) (by decide +kernel)⟩
theorem lw_p30 : lw_okq (⟨"PolicyLoomModel", "test", "(IIII)V"⟩, 23) := ⟨⟨by decide +kernel, by decide +kernel⟩, List.mem_of_getElem? (i := 524) (by decide +kernel), List.mem_of_getElem? (i := 687) (by decide +kernel), List.mem_of_getElem? (i := 688) (by decide +kernel)⟩
theorem lw_p31 : lw_okq (⟨"PolicyLoomModel", "one", "()V"⟩, 23) := ⟨⟨by decide +kernel, by decide +kernel⟩, List.mem_of_getElem? (i := 524) (by decide +kernel), List.mem_of_getElem? (i := 699) (by decide +kernel), List.mem_of_getElem? (i := 700) (by decide +kernel)⟩
def lw_privs_2 : List (MethodName × Nat) := [(⟨"PolicyLoom$Run", "work", "(II)V"⟩, 10), (⟨"PolicyLoom$Run", "push", "(I)V"⟩, 10), (⟨"PolicyLoom$Run", "workOnTwo", "(I)V"⟩, 10), (⟨"PolicyLoomModel", "refuse", "(I)I"⟩, 23), (⟨"PolicyLoomModel", "isState", "(I)Z"⟩, 23), (⟨"PolicyLoomModel", "isWell", "()Z"⟩, 23), (⟨"PolicyLoomModel", "isK", "(I)Z"⟩, 23), (⟨"PolicyLoomModel", "isPlace", "(I)Z"⟩, 23), (⟨"PolicyLoomModel", "reach", "(II)Z"⟩, 23), (⟨"PolicyLoomModel", "place", "(I)I"⟩, 23), (⟨"PolicyLoomModel", "aheadOf", "(I)I"⟩, 23), (⟨"PolicyLoomModel", "testsOf", "(I)I"⟩, 23), (⟨"PolicyLoomModel", "find", "(I)V"⟩, 23), (⟨"PolicyLoomModel", "set", "(II)V"⟩, 23), (⟨"PolicyLoomModel", "test", "(IIII)V"⟩, 23), (⟨"PolicyLoomModel", "one", "()V"⟩, 23)]
theorem lw_r2 : ∀ q ∈ lw_privs_2, lw_okq q := List.forall_mem_cons.mpr ⟨lw_p16, List.forall_mem_cons.mpr ⟨lw_p17, List.forall_mem_cons.mpr ⟨lw_p18, List.forall_mem_cons.mpr ⟨lw_p19, List.forall_mem_cons.mpr ⟨lw_p20, List.forall_mem_cons.mpr ⟨lw_p21, List.forall_mem_cons.mpr ⟨lw_p22, List.forall_mem_cons.mpr ⟨lw_p23, List.forall_mem_cons.mpr ⟨lw_p24, List.forall_mem_cons.mpr ⟨lw_p25, List.forall_mem_cons.mpr ⟨lw_p26, List.forall_mem_cons.mpr ⟨lw_p27, List.forall_mem_cons.mpr ⟨lw_p28, List.forall_mem_cons.mpr ⟨lw_p29, List.forall_mem_cons.mpr ⟨lw_p30, List.forall_mem_cons.mpr ⟨lw_p31, fun _ h => absurd h List.not_mem_nil⟩⟩⟩⟩⟩⟩⟩⟩⟩⟩⟩⟩⟩⟩⟩⟩
theorem lw_p32 : lw_okq (⟨"PolicyLoomModel", "pop", "()I"⟩, 23) := ⟨⟨by decide +kernel, by decide +kernel⟩, List.mem_of_getElem? (i := 524) (by decide +kernel), List.mem_of_getElem? (i := 703) (by decide +kernel), List.mem_of_getElem? (i := 704) (by decide +kernel)⟩
theorem lw_p33 : lw_okq (⟨"PolicyLoomModel", "push", "(I)V"⟩, 23) := ⟨⟨by decide +kernel, by decide +kernel⟩, List.mem_of_getElem? (i := 524) (by decide +kernel), List.mem_of_getElem? (i := 707) (by decide +kernel), List.mem_of_getElem? (i := 708) (by decide +kernel)⟩
theorem lw_p34 : lw_okq (⟨"PolicyLoomModel", "done", "(I)V"⟩, 23) := ⟨⟨by decide +kernel, by decide +kernel⟩, List.mem_of_getElem? (i := 524) (by decide +kernel), List.mem_of_getElem? (i := 711) (by decide +kernel), List.mem_of_getElem? (i := 712) (by decide +kernel)⟩
def lw_privs_3 : List (MethodName × Nat) := [(⟨"PolicyLoomModel", "pop", "()I"⟩, 23), (⟨"PolicyLoomModel", "push", "(I)V"⟩, 23), (⟨"PolicyLoomModel", "done", "(I)V"⟩, 23)]
theorem lw_r3 : ∀ q ∈ lw_privs_3, lw_okq q := List.forall_mem_cons.mpr ⟨lw_p32, List.forall_mem_cons.mpr ⟨lw_p33, List.forall_mem_cons.mpr ⟨lw_p34, fun _ h => absurd h List.not_mem_nil⟩⟩⟩
def lw_privs : List (MethodName × Nat) := lw_privs_1 ++ (lw_privs_2 ++ (lw_privs_3))
def lw_tbl : List Cond := k2_sels lw_privs ++ tables_1
theorem lw_privs_ok : ∀ q ∈ lw_privs, lw_okq q := by
  show ∀ q ∈ lw_privs_1 ++ (lw_privs_2 ++ (lw_privs_3)), lw_okq q
  exact List.forall_mem_append.mpr ⟨lw_r1, List.forall_mem_append.mpr ⟨lw_r2, lw_r3⟩⟩
end
section
/-! Words, contracts, rows: what every walk of this claim uses. -/
def TG : List Cond := lw_tbl.filter goodWord
theorem tg_mem {w : Cond} (i : Nat) (h : lw_tbl[i]? = some w) (g : goodWord w = true) : w ∈ TG := List.mem_filter.mpr ⟨List.mem_of_getElem? h, g⟩
theorem tg_ok {w : Cond} (h : w ∈ TG) : (w.onTables && w.keeps) = true ∨ ∃ ty, w = .arrayClass ty := good_of_word (List.mem_filter.mp h).2
theorem tg_in {ws : List Cond} (h : ∀ w ∈ ws, w ∈ TG) : GoodIn TG ws := fun w hw => ⟨h w hw, tg_ok (h w hw)⟩
theorem tg_cons {w : Cond} (h : w ∈ TG) : GoodIn TG (w :: TG) := tg_in (List.forall_mem_cons.mpr ⟨h, fun _ q => q⟩)
/-- what a method may know of the heap beside its world -/
abbrev pl_Ev : Type := (Nat → Prop) → State → Heap → Prop
def pl_Ok (E : pl_Ev) : Prop := (∀ A U U' H, U.WarmedH U'.vm → E A U H → E A U' H) ∧ ∀ A B U H H1, (∀ a : Nat, a < H.size → ¬ A a → H1[a]? = H[a]?) → (∀ q, B q → A q) → E A U H → E B U H1
def pl_E0 : pl_Ev := fun _ _ _ => True
theorem pl_E0_ok : pl_Ok pl_E0 := ⟨fun _ _ _ _ _ h => h, fun _ _ _ _ _ _ _ h => h⟩
def pl_in (E : pl_Ev) (D : va_G) (cl : List vw_C) (tys : List (ClassId × FieldType)) (ws : va_W) (sz : Nat) : State → Prop := fun U => U.heap.size = sz ∧ va_P D cl ws U.heap ∧ va_K D cl tys U ∧ va_D (fun _ => True) ws ∧ E (va_A ws sz) U U.heap
def pl_out (D : va_G) (cl : List vw_C) (tys : List (ClassId × FieldType)) (A : Nat → Prop) (ws : va_W) : State → Prop := fun t => va_P D cl ws t.heap ∧ va_K D cl tys t ∧ va_D A ws
/-- contracts: a method that answers nothing; an int; a cell that is known -/
def pl_V {S : Type} (l : Launch) (y : MethodName) (b : ByteArray) (n : Nat) (rm : Room) (E : pl_Ev) (D : va_G) (cl : List vw_C) (tys : List (ClassId × FieldType)) (av : List Value) (wi : va_W) (post : S → Prop) (wo : S → va_W) : Prop :=
  ∀ sz, Met l y (Cond.code y b n none :: TG) rm (va_Pc av (pl_in E D cl tys wi sz)) (va_Qv post (fun u => pl_out D cl tys (va_A wi sz) (wo u)) (va_A wi sz)) rm.cells rm.slots (va_A wi sz)
def pl_I {S : Type} (l : Launch) (y : MethodName) (b : ByteArray) (n : Nat) (ret : FieldType) (rm : Room) (E : pl_Ev) (D : va_G) (cl : List vw_C) (tys : List (ClassId × FieldType)) (av : List Value) (wi : va_W) (post : Int32 → S → Prop) (wo : S → va_W) : Prop :=
  ∀ sz, Met l y (Cond.code y b n (some ret) :: TG) rm (va_Pc av (pl_in E D cl tys wi sz)) (va_Qi post (fun u => pl_out D cl tys (va_A wi sz) (wo u)) (va_A wi sz)) rm.cells rm.slots (va_A wi sz)
def pl_R {S : Type} (l : Launch) (y : MethodName) (b : ByteArray) (n : Nat) (ret : FieldType) (rm : Room) (E : pl_Ev) (D : va_G) (cl : List vw_C) (tys : List (ClassId × FieldType)) (av : List Value) (wi : va_W) (a0 : Nat) (post : S → Prop) (wo : S → va_W) : Prop :=
  ∀ sz, Met l y (Cond.code y b n (some ret) :: TG) rm (va_Pc av (pl_in E D cl tys wi sz)) (va_Qr post (fun u a t => a = a0 ∧ pl_out D cl tys (va_A wi sz) (wo u) t) (va_A wi sz)) rm.cells rm.slots (va_A wi sz)
theorem pl_blind {E : pl_Ev} (hE : pl_Ok E) {D : va_G} {cl : List vw_C} {tys : List (ClassId × FieldType)} {ws : va_W} {sz : Nat} {av : List Value} : FrameBlind (va_Pc av (pl_in E D cl tys ws sz)) := by
  intro a U g mk q
  obtain ⟨q0, q1, qP, qK, qD, qE⟩ := q
  exact ⟨q0, q1, qP, va_K.moved (u := U) (U := U.calling g mk a) (Vm.Alike.refl U.vm) qK, qD, hE.1 _ U (U.calling g mk a) _ (State.WarmedH.refl U) qE⟩
theorem pl_pre {E : pl_Ev} (hE : pl_Ok E) {D : va_G} {cl : List vw_C} {tys : List (ClassId × FieldType)} {ws : va_W} {s : State} {H : Heap} {A : Nat → Prop} {av : List Value} (hP : va_P D cl ws H) (hD : va_D A ws) (hK : va_K D cl tys s) (h : E (va_A ws H.size) s H) : PreS s H (va_Pc av (pl_in E D cl tys ws H.size)) av :=
  ⟨pl_blind hE, fun U hU hW => ⟨rfl, by rw [hU], by rw [hU]; exact hP, va_K.moved hW.alike hK, hD.weaken (fun _ _ _ _ => trivial), by rw [hU]; exact hE.1 _ s U _ hW h⟩⟩
section PLB
variable {l : Launch} {y : MethodName} {b : ByteArray} {n : Nat} {rm : Room} {E : pl_Ev} {D : va_G} {cl : List vw_C} {tys : List (ClassId × FieldType)} {av : List Value} {wi : va_W}
/-- a body's start -/
theorem pl_startV {S : Type} {post : S → Prop} {wo : S → va_W} (hy : plainName y.cls = true) (hlen : (lg_sl av).length ≤ n)
    (body : ∀ (p : Program) (e : Env) (s : State) (m : MethodId) (args : Array Value) (below : List Frame) (meth : Method) (c : Code) (A : Nat → Prop) (ls : Array Slot), CallFix p m c b n s args TG y.cls → meth.sig.returnType = none → meth.locks = false → meth.name = y.name → va_K D cl tys s → va_P D cl wi s.heap → va_D A wi → va_S A s.heap s.heap [] → (∀ q, s.heap.size ≤ q → A q) → E A s s.heap → lv_has ls n (lv_args 0 av) →
      W p l e rm s m args below meth c s.heap [] 0 0 (MQ below (va_Qv post (fun u => pl_out D cl tys A (wo u)) A) args s rm.cells rm.slots A) (F0 m 0 ls [])) : pl_V l y b n rm E D cl tys av wi post wo := by
  intro sz
  refine Met.ofW (cc := b) (maxL := n) (ret := none) hy rfl ?_
  intro p e s m args below meth c s₁ B hml hv
  obtain ⟨rfl, hsz, hP, hK, hD0, hE⟩ := hv
  subst hsz
  rw [lg_entry_eq]
  exact body p e s m _ below meth c (va_A wi s.heap.size) _ ⟨B.exec, B.bytes, hml, findClass_of_methodNamed B.named, fun w hw => atoms_spec (ws := Cond.code y b n none :: TG) B.pre w (List.mem_cons_of_mem _ hw)⟩ B.returns B.notSynchronized (name_of_methodNamed B.named B.method).1 hK hP hD0.self va_S.rf (fun q h => Or.inr h) hE (lv_entry av hlen)
theorem pl_startI {S : Type} {ret : FieldType} {post : Int32 → S → Prop} {wo : S → va_W} (hy : plainName y.cls = true) (hlen : (lg_sl av).length ≤ n)
    (body : ∀ (p : Program) (e : Env) (s : State) (m : MethodId) (args : Array Value) (below : List Frame) (meth : Method) (c : Code) (A : Nat → Prop) (ls : Array Slot), CallFix p m c b n s args TG y.cls → meth.sig.returnType = some ret → meth.locks = false → meth.name = y.name → va_K D cl tys s → va_P D cl wi s.heap → va_D A wi → va_S A s.heap s.heap [] → (∀ q, s.heap.size ≤ q → A q) → E A s s.heap → lv_has ls n (lv_args 0 av) →
      W p l e rm s m args below meth c s.heap [] 0 0 (MQ below (va_Qi post (fun u => pl_out D cl tys A (wo u)) A) args s rm.cells rm.slots A) (F0 m 0 ls [])) : pl_I l y b n ret rm E D cl tys av wi post wo := by
  intro sz
  refine Met.ofW (cc := b) (maxL := n) (ret := some ret) hy rfl ?_
  intro p e s m args below meth c s₁ B hml hv
  obtain ⟨rfl, hsz, hP, hK, hD0, hE⟩ := hv
  subst hsz
  rw [lg_entry_eq]
  exact body p e s m _ below meth c (va_A wi s.heap.size) _ ⟨B.exec, B.bytes, hml, findClass_of_methodNamed B.named, fun w hw => atoms_spec (ws := Cond.code y b n (some ret) :: TG) B.pre w (List.mem_cons_of_mem _ hw)⟩ B.returns B.notSynchronized (name_of_methodNamed B.named B.method).1 hK hP hD0.self va_S.rf (fun q h => Or.inr h) hE (lv_entry av hlen)
theorem pl_startR {S : Type} {ret : FieldType} {a0 : Nat} {post : S → Prop} {wo : S → va_W} (hy : plainName y.cls = true) (hlen : (lg_sl av).length ≤ n)
    (body : ∀ (p : Program) (e : Env) (s : State) (m : MethodId) (args : Array Value) (below : List Frame) (meth : Method) (c : Code) (A : Nat → Prop) (ls : Array Slot), CallFix p m c b n s args TG y.cls → meth.sig.returnType = some ret → meth.locks = false → meth.name = y.name → va_K D cl tys s → va_P D cl wi s.heap → va_D A wi → va_S A s.heap s.heap [] → (∀ q, s.heap.size ≤ q → A q) → E A s s.heap → lv_has ls n (lv_args 0 av) →
      W p l e rm s m args below meth c s.heap [] 0 0 (MQ below (va_Qr post (fun u a t => a = a0 ∧ pl_out D cl tys A (wo u) t) A) args s rm.cells rm.slots A) (F0 m 0 ls [])) : pl_R l y b n ret rm E D cl tys av wi a0 post wo := by
  intro sz
  refine Met.ofW (cc := b) (maxL := n) (ret := some ret) hy rfl ?_
  intro p e s m args below meth c s₁ B hml hv
  obtain ⟨rfl, hsz, hP, hK, hD0, hE⟩ := hv
  subst hsz
  rw [lg_entry_eq]
  exact body p e s m _ below meth c (va_A wi s.heap.size) _ ⟨B.exec, B.bytes, hml, findClass_of_methodNamed B.named, fun w hw => atoms_spec (ws := Cond.code y b n (some ret) :: TG) B.pre w (List.mem_cons_of_mem _ hw)⟩ B.returns B.notSynchronized (name_of_methodNamed B.named B.method).1 hK hP hD0.self va_S.rf (fun q h => Or.inr h) hE (lv_entry av hlen)
end PLB
section PLR
variable {p : Program} {l : Launch} {e : Env} {R : Room} {s : State} {m : MethodId} {args : Array Value} {below : List Frame} {meth : Method} {c : Code} {H : Heap} {locs : List Loc} {cells slots : Nat} {Q : State → Prop}
variable {cc : ByteArray} {pc nL : Nat} {ls : Array Slot} {rest : List Value} {D : va_G} {cl : List vw_C} {A : Nat → Prop} {a : Nat} {tys : List (ClassId × FieldType)} {ws : va_W} {own : String}
/-- a body's end -/
theorem pl_vret {S : Type} {post : S → Prop} {wo : S → va_W} (X : CallFix p m c cc nL s args TG own) (hr : meth.sig.returnType = none) (hlocks : meth.locks = false) (hK : va_K D cl tys s) (u : S) (hu : post u) (hP : va_P D cl (wo u) H) (hD : va_D A (wo u)) (hS : va_S A s.heap H locs) (hdg : decode cc pc = .ok (.return_, 1)) :
    W p l e R s m args below meth c H locs cells slots (MQ below (va_Qv post (fun u => pl_out D cl tys A (wo u)) A) args s cells slots A) (F0 m pc ls []) :=
  W.vret X.1 X.2.1 hr (fun t ht hW => ⟨⟨u, rfl, hu, by rw [ht]; exact hP, va_K.moved hW.alike hK, hD⟩, hS.F ht⟩) hS.2.2 hdg hlocks
theorem pl_iret {S : Type} {post : Int32 → S → Prop} {wo : S → va_W} {v : Int32} {ty : FieldType} (X : CallFix p m c cc nL s args TG own) (hr : meth.sig.returnType = some ty) (hlocks : meth.locks = false) (hK : va_K D cl tys s) (hn : narrow ty (.int v) = .int v) (u : S) (hu : post v u) (hP : va_P D cl (wo u) H) (hD : va_D A (wo u)) (hS : va_S A s.heap H locs) (hdg : decode cc pc = .ok (.ireturn, 1)) :
    W p l e R s m args below meth c H locs cells slots (MQ below (va_Qi post (fun u => pl_out D cl tys A (wo u)) A) args s cells slots A) (F0 m pc ls [.int v]) :=
  W.zret X.1 X.2.1 hr hn (fun t ht hW => ⟨⟨v, u, rfl, hu, by rw [ht]; exact hP, va_K.moved hW.alike hK, hD⟩, hS.F ht⟩) hS.2.2 hdg hlocks
theorem pl_aret {S : Type} {a0 : Nat} {post : S → Prop} {wo : S → va_W} {C : String} (X : CallFix p m c cc nL s args TG own) (hr : meth.sig.returnType = some (.object C)) (hlocks : meth.locks = false) (hK : va_K D cl tys s) (u : S) (hu : post u) (hP : va_P D cl (wo u) H) (hD : va_D A (wo u)) (hS : va_S A s.heap H locs) (hdg : decode cc pc = .ok (.areturn, 1)) :
    W p l e R s m args below meth c H locs cells slots (MQ below (va_Qr post (fun u a t => a = a0 ∧ pl_out D cl tys A (wo u) t) A) args s cells slots A) (F0 m pc ls [.ref a0]) :=
  W.aret X.1 X.2.1 hr (Or.inl ⟨C, rfl⟩) (Or.inr ⟨a0, rfl⟩) (fun t ht hW => ⟨⟨u, a0, rfl, hu, rfl, by rw [ht]; exact hP, va_K.moved hW.alike hK, hD⟩, hS.F ht⟩) hS.2.2 hdg hlocks
/-- fields -/
def fw (cl : List vw_C) (own : String) (idx ci k : Nat) (C : String) (T : u_T) (N : Nat) : Prop := cl[ci]? = some (C, T, N) ∧ k < N ∧ (∀ w ∈ u_ws C T N, w ∈ TG) ∧ Cond.fieldLink own idx (T k).1 (T k).2.1 (T k).2.2.1 ∈ TG
def fp (T : u_T) (N : Nat) (ty : Nat → FieldType) : Prop := (∀ k, k < N → parseFieldDescriptor (T k).2.2.1 = some (ty k)) ∧ (∀ a, a < N → ∀ b, b < N → a ≠ b → (T a).2.1 ≠ (T b).2.1)
theorem pl_get {idx ci k N : Nat} {C : String} {T : u_T} (X : CallFix p m c cc nL s args TG own) (F : fw cl own idx ci k C T N) (hK : va_K D cl tys s) (hP : va_P D cl ws H) (q0 : Nat) {fs : List Value} (he : ws[q0]? = some (a, .inr (ci, fs))) {v : Value} (hv : fs[k]? = some v) (hdg : decode cc pc = .ok (.getfield idx, 3))
    (kk : W p l e R s m args below meth c H locs cells slots Q (F0 m (pc + 3) ls (v :: rest))) : W p l e R s m args below meth c H locs cells slots Q (F0 m pc ls (.ref a :: rest)) :=
  va_get X.1 X.2.1 (ref := (T k).1) X.2.2.2.2 F.2.2.1 X.2.2.2.1 hK hP q0 he F.1 k F.2.1 (X.2.2.2.2 _ F.2.2.2) (fun _ h => h) hv hdg kk
theorem pl_put {idx ci k N : Nat} {C : String} {T : u_T} {ty : Nat → FieldType} (X : CallFix p m c cc nL s args TG own) (F : fw cl own idx ci k C T N) (G : fp T N ty) (hfin : (T k).2.2.2 = false) (hK : va_K D cl tys s) (hP : va_P D cl ws H) (hD : va_D A ws) (hS : va_S A s.heap H locs) (q0 : Nat) {fs : List Value} (he : ws[q0]? = some (a, .inr (ci, fs))) {v : Value} (hn : narrow (ty k) v = v) (hfit : fits (ty k) v = true) (hl : k < fs.length) (hdg : decode cc pc = .ok (.putfield idx, 3)) {ws' : va_W} (hw : ws.set q0 (a, .inr (ci, fs.set k v)) = ws')
    (kk : ∀ (H1 : Heap) (locs1 : List Loc), va_P D cl ws' H1 → va_D A ws' → va_S A s.heap H1 locs1 → W p l e R s m args below meth c H1 locs1 cells slots Q (F0 m (pc + 3) ls rest)) : W p l e R s m args below meth c H locs cells slots Q (F0 m pc ls (v :: .ref a :: rest)) := by
  subst hw
  exact va_put X.1 X.2.1 (ref := (T k).1) X.2.2.2.2 F.2.2.1 ty G.1 G.2 X.2.2.2.1 hK hP hD hS q0 he F.1 k F.2.1 (X.2.2.2.2 _ F.2.2.2) (fun _ h => h) hfin (G.1 k F.2.1) hn hfit hl hdg kk
theorem pl_putF {idx ci k N : Nat} {C : String} {T : u_T} {ty : Nat → FieldType} (X : CallFix p m c cc nL s args TG own) (F : fw cl own idx ci k C T N) (G : fp T N ty) (hfin : (T k).2.2.2 = true) (hin : meth.name = "<init>") (hdecl : (T k).1 = own) (hK : va_K D cl tys s) (hP : va_P D cl ws H) (hD : va_D A ws) (hS : va_S A s.heap H locs) (q0 : Nat) {fs : List Value} (he : ws[q0]? = some (a, .inr (ci, fs))) {v : Value} (hn : narrow (ty k) v = v) (hfit : fits (ty k) v = true) (hl : k < fs.length) (hdg : decode cc pc = .ok (.putfield idx, 3)) {ws' : va_W} (hw : ws.set q0 (a, .inr (ci, fs.set k v)) = ws')
    (kk : ∀ (H1 : Heap) (locs1 : List Loc), va_P D cl ws' H1 → va_D A ws' → va_S A s.heap H1 locs1 → W p l e R s m args below meth c H1 locs1 cells slots Q (F0 m (pc + 3) ls rest)) : W p l e R s m args below meth c H locs cells slots Q (F0 m pc ls (v :: .ref a :: rest)) := by
  subst hw
  exact va_putF X.1 X.2.1 (ref := (T k).1) X.2.2.2.2 F.2.2.1 ty G.1 G.2 X.2.2.2.1 hK hP hD hS q0 he F.1 k F.2.1 (X.2.2.2.2 _ F.2.2.2) (fun _ h => h) hfin hin hdecl (G.1 k F.2.1) hn hfit hl hdg kk
/-- int arrays, at places that are natural numbers -/
theorem pl_ix {j n : Nat} (hj : j < n) (hn : n < 2 ^ 31) : vp_in (nI j) n ∧ (nI j).toNatClampNeg = j := ⟨vp_in_nI hj hn, nI_clamp (by omega)⟩
theorem pl_iald (X : CallFix p m c cc nL s args TG own) (hK : va_K D cl tys s) (hP : va_P D cl ws H) (q0 t0 : Nat) {cA : ClassId} {n : Nat} {f : Nat → Int32} (ha : ws[q0]? = some (a, .inl (cA, n, .inl f))) (ht : tys[t0]? = some (cA, .int)) (j : Nat) (hj : j < n) (hn : n < 2 ^ 31) {z : Int32} (hz : f j = z) (hdg : decode cc pc = .ok (.iaload, 1))
    (kk : W p l e R s m args below meth c H locs cells slots Q (F0 m (pc + 1) ls (.int z :: rest))) : W p l e R s m args below meth c H locs cells slots Q (F0 m pc ls (.int (nI j) :: .ref a :: rest)) := by
  subst hz
  refine va_iald X.1 X.2.1 hK hP q0 t0 ha ht (pl_ix hj hn).1 hdg ?_
  rw [(pl_ix hj hn).2]
  exact kk
theorem pl_zald (X : CallFix p m c cc nL s args TG own) (hK : va_K D cl tys s) (hP : va_P D cl ws H) (q0 t0 : Nat) {cA : ClassId} {n : Nat} {f : Nat → Int32} (ha : ws[q0]? = some (a, .inl (cA, n, .inl f))) (ht : tys[t0]? = some (cA, .boolean)) (j : Nat) (hj : j < n) (hn : n < 2 ^ 31) {z : Int32} (hz : f j = z) (hdg : decode cc pc = .ok (.baload, 1))
    (kk : W p l e R s m args below meth c H locs cells slots Q (F0 m (pc + 1) ls (.int z :: rest))) : W p l e R s m args below meth c H locs cells slots Q (F0 m pc ls (.int (nI j) :: .ref a :: rest)) := by
  subst hz
  refine va_zald X.1 X.2.1 hK hP q0 t0 ha ht (pl_ix hj hn).1 hdg ?_
  rw [(pl_ix hj hn).2]
  exact kk
theorem pl_iast (X : CallFix p m c cc nL s args TG own) (hK : va_K D cl tys s) (hP : va_P D cl ws H) (hD : va_D A ws) (hS : va_S A s.heap H locs) (q0 t0 : Nat) {cA : ClassId} {n : Nat} {f : Nat → Int32} (ha : ws[q0]? = some (a, .inl (cA, n, .inl f))) (ht : tys[t0]? = some (cA, .int)) (j : Nat) (hj : j < n) (hn : n < 2 ^ 31) {x : Int32} (hdg : decode cc pc = .ok (.iastore, 1)) {ws' : va_W} (hw : ws.set q0 (a, .inl (cA, n, .inl (upd f j x))) = ws')
    (kk : ∀ (H1 : Heap) (locs1 : List Loc), va_P D cl ws' H1 → va_D A ws' → va_S A s.heap H1 locs1 → W p l e R s m args below meth c H1 locs1 cells slots Q (F0 m (pc + 1) ls rest)) : W p l e R s m args below meth c H locs cells slots Q (F0 m pc ls (.int x :: .int (nI j) :: .ref a :: rest)) := by
  subst hw
  refine va_iast X.1 X.2.1 hK hP hD hS q0 t0 ha ht (pl_ix hj hn).1 hdg ?_
  rw [(pl_ix hj hn).2]
  exact kk
theorem pl_zast (X : CallFix p m c cc nL s args TG own) (hK : va_K D cl tys s) (hP : va_P D cl ws H) (hD : va_D A ws) (hS : va_S A s.heap H locs) (q0 t0 : Nat) {cA : ClassId} {n : Nat} {f : Nat → Int32} (ha : ws[q0]? = some (a, .inl (cA, n, .inl f))) (ht : tys[t0]? = some (cA, .boolean)) (j : Nat) (hj : j < n) (hn : n < 2 ^ 31) {x : Int32} (hx0 : vp_nar .boolean x = x) (hdg : decode cc pc = .ok (.bastore, 1)) {ws' : va_W} (hw : ws.set q0 (a, .inl (cA, n, .inl (upd f j x))) = ws')
    (kk : ∀ (H1 : Heap) (locs1 : List Loc), va_P D cl ws' H1 → va_D A ws' → va_S A s.heap H1 locs1 → W p l e R s m args below meth c H1 locs1 cells slots Q (F0 m (pc + 1) ls rest)) : W p l e R s m args below meth c H locs cells slots Q (F0 m pc ls (.int x :: .int (nI j) :: .ref a :: rest)) := by
  subst hw
  refine va_zast X.1 X.2.1 hK hP hD hS q0 t0 ha ht (pl_ix hj hn).1 hdg ?_
  rw [(pl_ix hj hn).2, hx0]
  exact kk
theorem pl_alen (X : CallFix p m c cc nL s args TG own) (hK : va_K D cl tys s) (hP : va_P D cl ws H) (q0 t0 : Nat) {cA : ClassId} {x : vp_A} (ha : ws[q0]? = some (a, .inl (cA, x))) {ty : FieldType} (ht : tys[t0]? = some (cA, ty)) {L : Nat} (hL : x.1 = L) (hdg : decode cc pc = .ok (.arraylength, 1))
    (kk : W p l e R s m args below meth c H locs cells slots Q (F0 m (pc + 1) ls (.int (nI L) :: rest))) : W p l e R s m args below meth c H locs cells slots Q (F0 m pc ls (.ref a :: rest)) :=
  va_alen X.1 X.2.1 hK hP q0 t0 ha ht (congrArg nI hL) hdg kk
/-- numbers with their value said -/
theorem pl_iadd {x y z : Int32} (X : CallFix p m c cc nL s args TG own) (hdg : decode cc pc = .ok (.iadd, 1)) (hz : x + y = z) (k : W p l e R s m args below meth c H locs cells slots Q (F0 m (pc + 1) ls (.int z :: rest))) : W p l e R s m args below meth c H locs cells slots Q (F0 m pc ls (.int y :: .int x :: rest)) := by
  subst hz; exact lv_iadd X.1 X.2.1 hdg k
theorem pl_isub {x y z : Int32} (X : CallFix p m c cc nL s args TG own) (hdg : decode cc pc = .ok (.isub, 1)) (hz : x - y = z) (k : W p l e R s m args below meth c H locs cells slots Q (F0 m (pc + 1) ls (.int z :: rest))) : W p l e R s m args below meth c H locs cells slots Q (F0 m pc ls (.int y :: .int x :: rest)) := by
  subst hz; exact lv_isub X.1 X.2.1 hdg k
theorem pl_imul {x y z : Int32} (X : CallFix p m c cc nL s args TG own) (hdg : decode cc pc = .ok (.imul, 1)) (hz : x * y = z) (k : W p l e R s m args below meth c H locs cells slots Q (F0 m (pc + 1) ls (.int z :: rest))) : W p l e R s m args below meth c H locs cells slots Q (F0 m pc ls (.int y :: .int x :: rest)) := by
  subst hz; exact lv_imul X.1 X.2.1 hdg k
/-- compares of natural numbers -/
theorem pl_icmp_eq {x y : Nat} (X : CallFix p m c cc nL s args TG own) (hx : x < 2 ^ 31) (hy : y < 2 ^ 31) {off : Int} {tgt : Nat} (hdg : decode cc pc = .ok (.if_icmp .eq off, 3)) (ht : (pc : Int) + off = (tgt : Int)) (kt : x = y → W p l e R s m args below meth c H locs cells slots Q (F0 m tgt ls rest)) (kf : ¬ x = y → W p l e R s m args below meth c H locs cells slots Q (F0 m (pc + 3) ls rest)) : W p l e R s m args below meth c H locs cells slots Q (F0 m pc ls (.int (nI y) :: .int (nI x) :: rest)) :=
  lv_icmp_eq X.1 X.2.1 hdg ht (fun h => kt ((nI_eq hx hy).mp h)) (fun h => kf (fun q => h (by rw [q])))
theorem pl_icmp_ne {x y : Nat} (X : CallFix p m c cc nL s args TG own) (hx : x < 2 ^ 31) (hy : y < 2 ^ 31) {off : Int} {tgt : Nat} (hdg : decode cc pc = .ok (.if_icmp .ne off, 3)) (ht : (pc : Int) + off = (tgt : Int)) (kt : ¬ x = y → W p l e R s m args below meth c H locs cells slots Q (F0 m tgt ls rest)) (kf : x = y → W p l e R s m args below meth c H locs cells slots Q (F0 m (pc + 3) ls rest)) : W p l e R s m args below meth c H locs cells slots Q (F0 m pc ls (.int (nI y) :: .int (nI x) :: rest)) :=
  lv_icmp_ne X.1 X.2.1 hdg ht (fun h => kt (fun q => h (by rw [q]))) (fun h => kf ((nI_eq hx hy).mp h))
theorem pl_icmp_ge {x y : Nat} (X : CallFix p m c cc nL s args TG own) (hx : x < 2 ^ 31) (hy : y < 2 ^ 31) {off : Int} {tgt : Nat} (hdg : decode cc pc = .ok (.if_icmp .ge off, 3)) (ht : (pc : Int) + off = (tgt : Int)) (kt : y ≤ x → W p l e R s m args below meth c H locs cells slots Q (F0 m tgt ls rest)) (kf : x < y → W p l e R s m args below meth c H locs cells slots Q (F0 m (pc + 3) ls rest)) : W p l e R s m args below meth c H locs cells slots Q (F0 m pc ls (.int (nI y) :: .int (nI x) :: rest)) :=
  lv_icmp_ge X.1 X.2.1 hdg ht (fun h => kt ((nI_leI hy hx).mp h)) (fun h => kf (Nat.lt_of_not_le fun q => h ((nI_leI hy hx).mpr q)))
theorem pl_icmp_lt {x y : Nat} (X : CallFix p m c cc nL s args TG own) (hx : x < 2 ^ 31) (hy : y < 2 ^ 31) {off : Int} {tgt : Nat} (hdg : decode cc pc = .ok (.if_icmp .lt off, 3)) (ht : (pc : Int) + off = (tgt : Int)) (kt : x < y → W p l e R s m args below meth c H locs cells slots Q (F0 m tgt ls rest)) (kf : y ≤ x → W p l e R s m args below meth c H locs cells slots Q (F0 m (pc + 3) ls rest)) : W p l e R s m args below meth c H locs cells slots Q (F0 m pc ls (.int (nI y) :: .int (nI x) :: rest)) :=
  lv_icmp_lt X.1 X.2.1 hdg ht (fun h => kt ((nI_ltI hx hy).mp h)) (fun h => kf (Nat.le_of_not_lt fun q => h ((nI_ltI hx hy).mpr q)))
theorem pl_icmp_gt {x y : Nat} (X : CallFix p m c cc nL s args TG own) (hx : x < 2 ^ 31) (hy : y < 2 ^ 31) {off : Int} {tgt : Nat} (hdg : decode cc pc = .ok (.if_icmp .gt off, 3)) (ht : (pc : Int) + off = (tgt : Int)) (kt : y < x → W p l e R s m args below meth c H locs cells slots Q (F0 m tgt ls rest)) (kf : x ≤ y → W p l e R s m args below meth c H locs cells slots Q (F0 m (pc + 3) ls rest)) : W p l e R s m args below meth c H locs cells slots Q (F0 m pc ls (.int (nI y) :: .int (nI x) :: rest)) :=
  lv_icmp_gt X.1 X.2.1 hdg ht (fun h => kt ((nI_ltI hy hx).mp h)) (fun h => kf (Nat.le_of_not_lt fun q => h ((nI_ltI hy hx).mpr q)))
theorem pl_icmp_le {x y : Nat} (X : CallFix p m c cc nL s args TG own) (hx : x < 2 ^ 31) (hy : y < 2 ^ 31) {off : Int} {tgt : Nat} (hdg : decode cc pc = .ok (.if_icmp .le off, 3)) (ht : (pc : Int) + off = (tgt : Int)) (kt : x ≤ y → W p l e R s m args below meth c H locs cells slots Q (F0 m tgt ls rest)) (kf : y < x → W p l e R s m args below meth c H locs cells slots Q (F0 m (pc + 3) ls rest)) : W p l e R s m args below meth c H locs cells slots Q (F0 m pc ls (.int (nI y) :: .int (nI x) :: rest)) :=
  lv_icmp_le X.1 X.2.1 hdg ht (fun h => kt ((nI_leI hx hy).mp h)) (fun h => kf (Nat.lt_of_not_le fun q => h ((nI_leI hx hy).mpr q)))
end PLR
end
section
/-! Calls: the callee's cells are cut out of the world, what comes back is laid into its place. -/
theorem pl_fm {is : List Nat} {ws wi : va_W} (h : is.map (fun i => ws[i]?) = wi.map some) : is.filterMap (fun i => ws[i]?) = wi := by
  have h1 : is.filterMap (fun i => ws[i]?) = (is.map (fun i => ws[i]?)).filterMap id := by rw [List.filterMap_map]; rfl
  rw [h1, h, List.filterMap_map]
  exact List.filterMap_some
theorem ck_app {hs ws : List Cond} (h1 : ∀ w ∈ hs, w ∈ TG) (h2 : ∀ w ∈ ws, w ∈ TG) : ∀ w ∈ hs ++ ws, w ∈ TG := fun w h => (List.mem_append.mp h).elim (h1 w) (h2 w)
theorem ck_c {w : Cond} {ws : List Cond} (h : w ∈ TG) (t : ∀ w ∈ ws, w ∈ TG) : ∀ w' ∈ w :: ws, w' ∈ TG := List.forall_mem_cons.mpr ⟨h, t⟩
theorem ck_n : ∀ w ∈ ([] : List Cond), w ∈ TG := fun _ h => nomatch h
def ckD (y : MethodName) (n : Nat) : Prop := y.cls ≠ "java/lang/invoke/MethodHandle" ∧ y.cls ≠ "java/lang/invoke/VarHandle" ∧ (parseMethodDescriptor y.desc).map (fun d => d.parameters.length) = some n
/-- what a call site knows of the tables -/
def ckV (own : String) (index : Nat) (y : MethodName) (b : ByteArray) (maxL : Nat) (ret : Option FieldType) (n : Nat) : Prop := Cond.methodLink own index y ∈ TG ∧ Cond.instanceMethod y ∈ TG ∧ Cond.selects y.cls y y ∈ TG ∧ Cond.initialized y.cls ∈ TG ∧ Cond.code y b maxL ret ∈ TG ∧ ckD y n
def ckS (own : String) (index : Nat) (y : MethodName) (b : ByteArray) (maxL : Nat) (ret : Option FieldType) (n : Nat) : Prop := Cond.methodLink own index y ∈ TG ∧ Cond.static y ∈ TG ∧ Cond.initialized y.cls ∈ TG ∧ Cond.code y b maxL ret ∈ TG ∧ ckD y n
def ckI (own : String) (index : Nat) (y : MethodName) (b : ByteArray) (maxL : Nat) (n : Nat) : Prop := Cond.methodLink own index y ∈ TG ∧ Cond.instanceMethod y ∈ TG ∧ Cond.initialized y.cls ∈ TG ∧ Cond.code y b maxL none ∈ TG ∧ y.name = "<init>" ∧ ckD y n
section PLC
variable {p : Program} {l : Launch} {e : Env} {R : Room} {s : State} {m : MethodId} {args : Array Value} {below : List Frame} {meth : Method} {c : Code} {H : Heap} {locs : List Loc} {cells slots : Nat} {Q : State → Prop}
variable {cc bytes : ByteArray} {pc nL maxL index n ci N b : Nat} {ls : Array Slot} {rest st0 As : List Value} {D : va_G} {cl : List vw_C} {A : Nat → Prop} {tys : List (ClassId × FieldType)} {ws wi wr : va_W} {own : String} {y : MethodName} {rm : Room} {E : pl_Ev} {T : u_T} {fs : List Value}
theorem ckV.w {ret : Option FieldType} (K : ckV own index y bytes maxL ret n) (X : CallFix p m c cc nL s args TG own) (hR : rm.frames + 1 ≤ R.frames ∧ 8 + (maxL + 11) + rm.locals ≤ R.locals) : CallW R s args own y.cls index y bytes maxL ret (Cond.code y bytes maxL ret :: TG) rm rm.cells rm.slots n :=
  cwV n X.2.2.2.2 (tg_in (ck_app (ck_c K.1 (ck_c K.2.1 (ck_c K.2.2.1 (ck_c K.2.2.2.1 ck_n)))) (ck_c K.2.2.2.2.1 (fun _ h => h)))) rfl rfl rfl ⟨rfl, K.2.2.2.2.2⟩ hR
theorem ckS.w {ret : Option FieldType} (K : ckS own index y bytes maxL ret n) (X : CallFix p m c cc nL s args TG own) (hR : rm.frames + 1 ≤ R.frames ∧ 8 + (maxL + 11) + rm.locals ≤ R.locals) : CallB R s args own index y bytes maxL ret (Cond.code y bytes maxL ret :: TG) rm rm.cells rm.slots n ∧ (Cond.static y).before args s = true :=
  va_cwS n X.2.2.2.2 (tg_in (ck_app (ck_c K.1 (ck_c K.2.1 (ck_c K.2.2.1 ck_n))) (ck_c K.2.2.2.1 (fun _ h => h)))) rfl rfl rfl K.2.2.2.2 hR
theorem ckI.w (K : ckI own index y bytes maxL n) (X : CallFix p m c cc nL s args TG own) (hR : rm.frames + 1 ≤ R.frames ∧ 8 + (maxL + 11) + rm.locals ≤ R.locals) : CallB R s args own index y bytes maxL none (Cond.code y bytes maxL none :: TG) rm rm.cells rm.slots n ∧ y.name = "<init>" ∧ (Cond.instanceMethod y).before args s = true :=
  cwI n X.2.2.2.2 (tg_cons K.2.2.2.1) rfl rfl rfl (X.2.2.2.2 _ K.2.2.1) (X.2.2.2.2 _ K.1) (X.2.2.2.2 _ K.2.1) K.2.2.2.2.1 K.2.2.2.2.2 hR
/-- the world behind a call, in its old order -/
theorem pl_back {wo1 wf : va_W} {H1 : Heap} (hP : va_P D cl ws H) (hD : va_D A ws) (isC isR isF : List Nat) (hC : isC.map (fun i => ws[i]?) = wi.map some) (hR : isR.map (fun i => ws[i]?) = wr.map some) (hnR : va_nd isR = true) (hdis : ∀ i ∈ isR, i ∉ isC) (hF : isF.map (fun i => (wr ++ wo1)[i]?) = wf.map some) (hnF : va_nd isF = true)
    (hk1 : ∀ q : Nat, q < H.size → ¬ va_A wi H.size q → H1[q]? = H[q]?) (hFc : ∀ q, va_A wi H.size q → A q) (hP1 : va_P D cl wo1 H1) (hD1 : va_D (va_A wi H.size) wo1) : va_P D cl wf H1 ∧ va_D A wf := by
  obtain ⟨hP2, hD2⟩ := va_join (wr := wr) (w1 := wo1) hP hD isC isR hC hR hnR hdis hk1 hFc hP1 hD1
  exact ⟨hP2.sub isF (pl_fm hF), hD2.sub isF hnF hF⟩
theorem pl_callVV {S : Type} {post : S → Prop} {wo wf : S → va_W} (X : CallFix p m c cc nL s args TG own) (hM : pl_V l y bytes maxL rm E D cl tys (.ref b :: As) wi post wo) (K : ckV own index y bytes maxL none n) (hE : pl_Ok E) (hEc : E (va_A wi H.size) s H) (hK : va_K D cl tys s) (hP : va_P D cl ws H) (hD : va_D A ws) (hS : va_S A s.heap H locs) (hA : ∀ q, s.heap.size ≤ q → A q) (hc : cl[ci]? = some (y.cls, T, N)) (q0 : Nat) (he : ws[q0]? = some (b, .inr (ci, fs))) (isC isR isF : List Nat) (hC : isC.map (fun i => ws[i]?) = wi.map some) (hnC : va_nd isC = true) (hR : isR.map (fun i => ws[i]?) = wr.map some) (hnR : va_nd isR = true) (hdis : ∀ i ∈ isR, i ∉ isC) (hF : ∀ u, isF.map (fun i => (wr ++ wo u)[i]?) = (wf u).map some) (hnF : va_nd isF = true) (hlen : As.length = n) (hsize : ls.size = nL) (hst : st0 = As.reverse ++ .ref b :: rest) (hcat : (rest.map fun v => v.category).sum ≤ 8) (hroom : rm.frames + 1 ≤ R.frames ∧ 8 + (maxL + 11) + rm.locals ≤ R.locals) (hf : cells + rm.cells ≤ R.cells ∧ slots + rm.slots ≤ R.slots) (hdg : decode cc pc = .ok (.invokevirtual index, 3))
    (kk : ∀ (u : S) (H1 : Heap) (locs1 : List Loc), post u → va_P D cl (wf u) H1 → va_D A (wf u) → va_S A s.heap H1 locs1 → W p l e R s m args below meth c H1 locs1 (cells + rm.cells) (slots + rm.slots) Q (F0 m (pc + 3) ls (rest))) : W p l e R s m args below meth c H locs cells slots Q (F0 m pc ls st0) := by
  have hFc := va_free (wc := wi) hD hS hA isC hC
  refine va_callv (va_runV (As := As) (rest := rest) X (hM H.size) (K.w X hroom) (⟨(pl_blind hE), va_recv hK hP hc he, (pl_pre (av := .ref b :: As) hE (hP.sub isC (pl_fm hC)) (hD.sub isC hnC hC) hK hEc).2⟩) rfl hlen hsize hst (lv_room hcat) hdg hf) hS (fun q _ h => hFc q h) hFc (fun u t H1 locs1 ht hvm hpo hB hz1 hk1 hS1 => ?_)
  obtain ⟨hP1, hK1, hD1⟩ := hB
  rw [ht] at hP1
  obtain ⟨hP2, hD2⟩ := pl_back (wf := wf u) hP hD isC isR isF hC hR hnR hdis (hF u) hnF hk1 hFc hP1 hD1
  exact kk u H1 locs1 hpo hP2 hD2 hS1
theorem pl_callVI {S : Type} {post : Int32 → S → Prop} {wo wf : S → va_W} {ret : FieldType} (X : CallFix p m c cc nL s args TG own) (hM : pl_I l y bytes maxL ret rm E D cl tys (.ref b :: As) wi post wo) (K : ckV own index y bytes maxL (some ret) n) (hE : pl_Ok E) (hEc : E (va_A wi H.size) s H) (hK : va_K D cl tys s) (hP : va_P D cl ws H) (hD : va_D A ws) (hS : va_S A s.heap H locs) (hA : ∀ q, s.heap.size ≤ q → A q) (hc : cl[ci]? = some (y.cls, T, N)) (q0 : Nat) (he : ws[q0]? = some (b, .inr (ci, fs))) (isC isR isF : List Nat) (hC : isC.map (fun i => ws[i]?) = wi.map some) (hnC : va_nd isC = true) (hR : isR.map (fun i => ws[i]?) = wr.map some) (hnR : va_nd isR = true) (hdis : ∀ i ∈ isR, i ∉ isC) (hF : ∀ u, isF.map (fun i => (wr ++ wo u)[i]?) = (wf u).map some) (hnF : va_nd isF = true) (hlen : As.length = n) (hsize : ls.size = nL) (hst : st0 = As.reverse ++ .ref b :: rest) (hcat : (rest.map fun v => v.category).sum ≤ 8) (hroom : rm.frames + 1 ≤ R.frames ∧ 8 + (maxL + 11) + rm.locals ≤ R.locals) (hf : cells + rm.cells ≤ R.cells ∧ slots + rm.slots ≤ R.slots) (hdg : decode cc pc = .ok (.invokevirtual index, 3))
    (kk : ∀ (r : Int32) (u : S) (H1 : Heap) (locs1 : List Loc), post r u → va_P D cl (wf u) H1 → va_D A (wf u) → va_S A s.heap H1 locs1 → W p l e R s m args below meth c H1 locs1 (cells + rm.cells) (slots + rm.slots) Q (F0 m (pc + 3) ls (.int r :: rest))) : W p l e R s m args below meth c H locs cells slots Q (F0 m pc ls st0) := by
  have hFc := va_free (wc := wi) hD hS hA isC hC
  refine va_calli (va_runV (As := As) (rest := rest) X (hM H.size) (K.w X hroom) (⟨(pl_blind hE), va_recv hK hP hc he, (pl_pre (av := .ref b :: As) hE (hP.sub isC (pl_fm hC)) (hD.sub isC hnC hC) hK hEc).2⟩) rfl hlen hsize hst (lv_room hcat) hdg hf) hS (fun q _ h => hFc q h) hFc (fun r u t H1 locs1 ht hvm hpo hB hz1 hk1 hS1 => ?_)
  obtain ⟨hP1, hK1, hD1⟩ := hB
  rw [ht] at hP1
  obtain ⟨hP2, hD2⟩ := pl_back (wf := wf u) hP hD isC isR isF hC hR hnR hdis (hF u) hnF hk1 hFc hP1 hD1
  exact kk r u H1 locs1 hpo hP2 hD2 hS1
theorem pl_callVR {S : Type} {post : S → Prop} {wo wf : S → va_W} {ret : FieldType} {a0 : Nat} (X : CallFix p m c cc nL s args TG own) (hM : pl_R l y bytes maxL ret rm E D cl tys (.ref b :: As) wi a0 post wo) (K : ckV own index y bytes maxL (some ret) n) (hE : pl_Ok E) (hEc : E (va_A wi H.size) s H) (hK : va_K D cl tys s) (hP : va_P D cl ws H) (hD : va_D A ws) (hS : va_S A s.heap H locs) (hA : ∀ q, s.heap.size ≤ q → A q) (hc : cl[ci]? = some (y.cls, T, N)) (q0 : Nat) (he : ws[q0]? = some (b, .inr (ci, fs))) (isC isR isF : List Nat) (hC : isC.map (fun i => ws[i]?) = wi.map some) (hnC : va_nd isC = true) (hR : isR.map (fun i => ws[i]?) = wr.map some) (hnR : va_nd isR = true) (hdis : ∀ i ∈ isR, i ∉ isC) (hF : ∀ u, isF.map (fun i => (wr ++ wo u)[i]?) = (wf u).map some) (hnF : va_nd isF = true) (hlen : As.length = n) (hsize : ls.size = nL) (hst : st0 = As.reverse ++ .ref b :: rest) (hcat : (rest.map fun v => v.category).sum ≤ 8) (hroom : rm.frames + 1 ≤ R.frames ∧ 8 + (maxL + 11) + rm.locals ≤ R.locals) (hf : cells + rm.cells ≤ R.cells ∧ slots + rm.slots ≤ R.slots) (hdg : decode cc pc = .ok (.invokevirtual index, 3))
    (kk : ∀ (u : S) (H1 : Heap) (locs1 : List Loc), post u → va_P D cl (wf u) H1 → va_D A (wf u) → va_S A s.heap H1 locs1 → W p l e R s m args below meth c H1 locs1 (cells + rm.cells) (slots + rm.slots) Q (F0 m (pc + 3) ls (.ref a0 :: rest))) : W p l e R s m args below meth c H locs cells slots Q (F0 m pc ls st0) := by
  have hFc := va_free (wc := wi) hD hS hA isC hC
  refine va_callr (va_runV (As := As) (rest := rest) X (hM H.size) (K.w X hroom) (⟨(pl_blind hE), va_recv hK hP hc he, (pl_pre (av := .ref b :: As) hE (hP.sub isC (pl_fm hC)) (hD.sub isC hnC hC) hK hEc).2⟩) rfl hlen hsize hst (lv_room hcat) hdg hf) hS (fun q _ h => hFc q h) hFc (fun u ra t H1 locs1 ht hvm hpo hB hz1 hk1 hS1 => ?_)
  obtain ⟨hra, hP1, hK1, hD1⟩ := hB
  subst hra
  rw [ht] at hP1
  obtain ⟨hP2, hD2⟩ := pl_back (wf := wf u) hP hD isC isR isF hC hR hnR hdis (hF u) hnF hk1 hFc hP1 hD1
  exact kk u H1 locs1 hpo hP2 hD2 hS1
theorem pl_callSI {S : Type} {post : Int32 → S → Prop} {wo wf : S → va_W} {ret : FieldType} (X : CallFix p m c cc nL s args TG own) (hM : pl_I l y bytes maxL ret rm E D cl tys As wi post wo) (K : ckS own index y bytes maxL (some ret) n) (hE : pl_Ok E) (hEc : E (va_A wi H.size) s H) (hK : va_K D cl tys s) (hP : va_P D cl ws H) (hD : va_D A ws) (hS : va_S A s.heap H locs) (hA : ∀ q, s.heap.size ≤ q → A q) (isC isR isF : List Nat) (hC : isC.map (fun i => ws[i]?) = wi.map some) (hnC : va_nd isC = true) (hR : isR.map (fun i => ws[i]?) = wr.map some) (hnR : va_nd isR = true) (hdis : ∀ i ∈ isR, i ∉ isC) (hF : ∀ u, isF.map (fun i => (wr ++ wo u)[i]?) = (wf u).map some) (hnF : va_nd isF = true) (hlen : As.length = n) (hsize : ls.size = nL) (hst : st0 = As.reverse ++ rest) (hcat : (rest.map fun v => v.category).sum ≤ 8) (hroom : rm.frames + 1 ≤ R.frames ∧ 8 + (maxL + 11) + rm.locals ≤ R.locals) (hf : cells + rm.cells ≤ R.cells ∧ slots + rm.slots ≤ R.slots) (hdg : decode cc pc = .ok (.invokestatic index, 3))
    (kk : ∀ (r : Int32) (u : S) (H1 : Heap) (locs1 : List Loc), post r u → va_P D cl (wf u) H1 → va_D A (wf u) → va_S A s.heap H1 locs1 → W p l e R s m args below meth c H1 locs1 (cells + rm.cells) (slots + rm.slots) Q (F0 m (pc + 3) ls (.int r :: rest))) : W p l e R s m args below meth c H locs cells slots Q (F0 m pc ls st0) := by
  have hFc := va_free (wc := wi) hD hS hA isC hC
  refine va_calli (va_runS (As := As) (rest := rest) X (hM H.size) (K.w X hroom) (pl_pre hE (hP.sub isC (pl_fm hC)) (hD.sub isC hnC hC) hK hEc) rfl hlen hsize hst (lv_room hcat) hdg hf) hS (fun q _ h => hFc q h) hFc (fun r u t H1 locs1 ht hvm hpo hB hz1 hk1 hS1 => ?_)
  obtain ⟨hP1, hK1, hD1⟩ := hB
  rw [ht] at hP1
  obtain ⟨hP2, hD2⟩ := pl_back (wf := wf u) hP hD isC isR isF hC hR hnR hdis (hF u) hnF hk1 hFc hP1 hD1
  exact kk r u H1 locs1 hpo hP2 hD2 hS1
theorem pl_callSV {S : Type} {post : S → Prop} {wo wf : S → va_W} (X : CallFix p m c cc nL s args TG own) (hM : pl_V l y bytes maxL rm E D cl tys As wi post wo) (K : ckS own index y bytes maxL none n) (hE : pl_Ok E) (hEc : E (va_A wi H.size) s H) (hK : va_K D cl tys s) (hP : va_P D cl ws H) (hD : va_D A ws) (hS : va_S A s.heap H locs) (hA : ∀ q, s.heap.size ≤ q → A q) (isC isR isF : List Nat) (hC : isC.map (fun i => ws[i]?) = wi.map some) (hnC : va_nd isC = true) (hR : isR.map (fun i => ws[i]?) = wr.map some) (hnR : va_nd isR = true) (hdis : ∀ i ∈ isR, i ∉ isC) (hF : ∀ u, isF.map (fun i => (wr ++ wo u)[i]?) = (wf u).map some) (hnF : va_nd isF = true) (hlen : As.length = n) (hsize : ls.size = nL) (hst : st0 = As.reverse ++ rest) (hcat : (rest.map fun v => v.category).sum ≤ 8) (hroom : rm.frames + 1 ≤ R.frames ∧ 8 + (maxL + 11) + rm.locals ≤ R.locals) (hf : cells + rm.cells ≤ R.cells ∧ slots + rm.slots ≤ R.slots) (hdg : decode cc pc = .ok (.invokestatic index, 3))
    (kk : ∀ (u : S) (H1 : Heap) (locs1 : List Loc), post u → va_P D cl (wf u) H1 → va_D A (wf u) → va_S A s.heap H1 locs1 → W p l e R s m args below meth c H1 locs1 (cells + rm.cells) (slots + rm.slots) Q (F0 m (pc + 3) ls (rest))) : W p l e R s m args below meth c H locs cells slots Q (F0 m pc ls st0) := by
  have hFc := va_free (wc := wi) hD hS hA isC hC
  refine va_callv (va_runS (As := As) (rest := rest) X (hM H.size) (K.w X hroom) (pl_pre hE (hP.sub isC (pl_fm hC)) (hD.sub isC hnC hC) hK hEc) rfl hlen hsize hst (lv_room hcat) hdg hf) hS (fun q _ h => hFc q h) hFc (fun u t H1 locs1 ht hvm hpo hB hz1 hk1 hS1 => ?_)
  obtain ⟨hP1, hK1, hD1⟩ := hB
  rw [ht] at hP1
  obtain ⟨hP2, hD2⟩ := pl_back (wf := wf u) hP hD isC isR isF hC hR hnR hdis (hF u) hnF hk1 hFc hP1 hD1
  exact kk u H1 locs1 hpo hP2 hD2 hS1
theorem pl_callIV {S : Type} {post : S → Prop} {wo wf : S → va_W} (X : CallFix p m c cc nL s args TG own) (hM : pl_V l y bytes maxL rm E D cl tys (.ref b :: As) wi post wo) (K : ckI own index y bytes maxL n) (hE : pl_Ok E) (hEc : E (va_A wi H.size) s H) (hK : va_K D cl tys s) (hP : va_P D cl ws H) (hD : va_D A ws) (hS : va_S A s.heap H locs) (hA : ∀ q, s.heap.size ≤ q → A q) (isC isR isF : List Nat) (hC : isC.map (fun i => ws[i]?) = wi.map some) (hnC : va_nd isC = true) (hR : isR.map (fun i => ws[i]?) = wr.map some) (hnR : va_nd isR = true) (hdis : ∀ i ∈ isR, i ∉ isC) (hF : ∀ u, isF.map (fun i => (wr ++ wo u)[i]?) = (wf u).map some) (hnF : va_nd isF = true) (hlen : As.length = n) (hsize : ls.size = nL) (hst : st0 = As.reverse ++ .ref b :: rest) (hcat : (rest.map fun v => v.category).sum ≤ 8) (hroom : rm.frames + 1 ≤ R.frames ∧ 8 + (maxL + 11) + rm.locals ≤ R.locals) (hf : cells + rm.cells ≤ R.cells ∧ slots + rm.slots ≤ R.slots) (hdg : decode cc pc = .ok (.invokespecial index, 3))
    (kk : ∀ (u : S) (H1 : Heap) (locs1 : List Loc), post u → va_P D cl (wf u) H1 → va_D A (wf u) → va_S A s.heap H1 locs1 → W p l e R s m args below meth c H1 locs1 (cells + rm.cells) (slots + rm.slots) Q (F0 m (pc + 3) ls (rest))) : W p l e R s m args below meth c H locs cells slots Q (F0 m pc ls st0) := by
  have hFc := va_free (wc := wi) hD hS hA isC hC
  refine va_callv (va_runI (As := As) (rest := rest) X (hM H.size) (K.w X hroom) (pl_pre hE (hP.sub isC (pl_fm hC)) (hD.sub isC hnC hC) hK hEc) rfl hlen hsize hst (lv_room hcat) hdg hf) hS (fun q _ h => hFc q h) hFc (fun u t H1 locs1 ht hvm hpo hB hz1 hk1 hS1 => ?_)
  obtain ⟨hP1, hK1, hD1⟩ := hB
  rw [ht] at hP1
  obtain ⟨hP2, hD2⟩ := pl_back (wf := wf u) hP hD isC isR isF hC hR hnR hdis (hF u) hnF hk1 hFc hP1 hD1
  exact kk u H1 locs1 hpo hP2 hD2 hS1
end PLC
end
section
/-! Truth values, numbers, arrays that agree. -/
def bI (b : Bool) : Int32 := cond b 1 0
theorem bI_t {b : Bool} (h : b = true) : nI 1 = bI b := by subst h; rfl
theorem bI_f {b : Bool} (h : b = false) : nI 0 = bI b := by subst h; rfl
theorem bI_nar (b : Bool) : narrow .boolean (.int (bI b)) = .int (bI b) := by cases b <;> rfl
theorem bI_fit (b : Bool) : fits .boolean (.int (bI b)) = true := by cases b <;> rfl
theorem bI_0 {b : Bool} : bI b = 0 ↔ b = false := by cases b <;> simp [bI] <;> decide
theorem nI_0iff {x : Nat} (hx : x < 2 ^ 31) : nI x = 0 ↔ x = 0 := by rw [← nI_0]; exact nI_eq hx (by decide)
theorem i_lt0 {x : Int32} : x < 0 ↔ x.toInt < 0 := by rw [Int32.lt_iff_toInt_lt]; rfl
theorem i_le {x y : Int32} : x ≤ y ↔ x.toInt ≤ y.toInt := Int32.le_iff_toInt_le
theorem i_lt {x y : Int32} : x < y ↔ x.toInt < y.toInt := Int32.lt_iff_toInt_lt
/-- an int that is a natural number below n -/
def inB (x : Int32) (n : Nat) : Bool := decide (0 ≤ x.toInt ∧ x.toInt < n)
theorem inB_lo {x : Int32} {n : Nat} (h : x < 0) : inB x n = false := by
  have := i_lt0.mp h
  simp only [inB, decide_eq_false_iff_not]; omega
theorem inB_hi {x : Int32} {n : Nat} (hn : n < 2 ^ 31) (h : nI n ≤ x) : inB x n = false := by
  have h1 := i_le.mp h
  rw [nI_toInt hn] at h1
  simp only [inB, decide_eq_false_iff_not]; omega
theorem inB_in {x : Int32} {n : Nat} (hn : n < 2 ^ 31) (h0 : ¬ x < 0) (h : ¬ nI n ≤ x) : inB x n = true := by
  have h1 : ¬ x.toInt < 0 := fun q => h0 (i_lt0.mpr q)
  have h2 : ¬ (n : Int) ≤ x.toInt := fun q => h (i_le.mpr (by rw [nI_toInt hn]; exact q))
  simp only [inB, decide_eq_true_eq]; omega
theorem inB_nI {j n : Nat} (hj : j < 2 ^ 31) : inB (nI j) n = decide (j < n) := by
  simp only [inB, nI_toInt hj]
  by_cases h : j < n
  · rw [decide_eq_true h, decide_eq_true]; omega
  · rw [decide_eq_false h, decide_eq_false]; omega
theorem inB_of {x : Int32} {n : Nat} (hn : n < 2 ^ 31) (h : inB x n = true) : ∃ j : Nat, j < n ∧ x = nI j := by
  simp only [inB, decide_eq_true_eq] at h
  exact vp_in_of (vp_in_iff.mpr h) hn
theorem nI_inc1 (a : Nat) : nI a + Int32.ofInt 1 = nI (a + 1) := by rw [lit1]; exact nI_1 a
theorem upd_s {f : Nat → Int32} {k : Nat} {x : Int32} : upd f k x k = x := by simp [upd]
theorem upd_n {f : Nat → Int32} {k j : Nat} {x : Int32} (h : j ≠ k) : upd f k x j = f j := by simp [upd, h]
theorem arrV_ext {cA : ClassId} {n : Nat} {f g : Nat → Int32} (h : ∀ j, j < n → f j = g j) : vp_cell cA (n, .inl f) = vp_cell cA (n, .inl g) := by
  rw [vp_cell_i, vp_cell_i]
  unfold arrV
  congr 1
  apply congrArg
  funext j
  show Value.int (f j.val) = Value.int (g j.val)
  rw [h j.val j.isLt]
/-- a world whose array agrees with another one -/
theorem pl_ext {D : va_G} {cl : List vw_C} {ws : va_W} {H : Heap} (hP : va_P D cl ws H) (q : Nat) {a : Nat} {cA : ClassId} {n : Nat} {f : Nat → Int32} (he : ws[q]? = some (a, .inl (cA, n, .inl f))) (g : Nat → Int32) (h : ∀ j, j < n → f j = g j) {ws' : va_W} (hw : ws.set q (a, .inl (cA, n, .inl g)) = ws') : va_P D cl ws' H := by
  subst hw
  intro k x hk
  have hl := (List.getElem?_eq_some_iff.mp he).1
  by_cases hkq : k = q
  · subst hkq
    rw [List.getElem?_set_self hl] at hk
    cases hk
    have h1 := hP k _ he
    show H[a]? = some (vp_cell cA (n, .inl g))
    rw [← arrV_ext h]
    exact h1
  · rw [List.getElem?_set_ne (Ne.symm hkq)] at hk
    exact hP k x hk
theorem pl_extD {A : Nat → Prop} {ws : va_W} (hD : va_D A ws) (q : Nat) {a : Nat} {e : va_E} (he : ws[q]? = some (a, e)) (e' : va_E) {ws' : va_W} (hw : ws.set q (a, e') = ws') : va_D A ws' := by
  subst hw
  exact hD.set he
section PLN
variable {p : Program} {l : Launch} {e : Env} {R : Room} {s : State} {m : MethodId} {args : Array Value} {below : List Frame} {meth : Method} {c : Code} {H : Heap} {locs : List Loc} {cells slots : Nat} {Q : State → Prop}
variable {cc : ByteArray} {pc nL : Nat} {ls : Array Slot} {rest : List Value} {own : String} {off : Int} {tgt x : Nat} {b : Bool}
theorem pl_if_eq (X : CallFix p m c cc nL s args TG own) (hx : x < 2 ^ 31) (hdg : decode cc pc = .ok (.ifCond .eq off, 3)) (ht : (pc : Int) + off = (tgt : Int)) (kt : x = 0 → W p l e R s m args below meth c H locs cells slots Q (F0 m tgt ls rest)) (kf : ¬ x = 0 → W p l e R s m args below meth c H locs cells slots Q (F0 m (pc + 3) ls rest)) : W p l e R s m args below meth c H locs cells slots Q (F0 m pc ls (.int (nI x) :: rest)) :=
  lv_if_eq X.1 X.2.1 hdg ht (fun h => kt ((nI_0iff hx).mp h)) (fun h => kf (fun q => h ((nI_0iff hx).mpr q)))
theorem pl_if_ne (X : CallFix p m c cc nL s args TG own) (hx : x < 2 ^ 31) (hdg : decode cc pc = .ok (.ifCond .ne off, 3)) (ht : (pc : Int) + off = (tgt : Int)) (kt : ¬ x = 0 → W p l e R s m args below meth c H locs cells slots Q (F0 m tgt ls rest)) (kf : x = 0 → W p l e R s m args below meth c H locs cells slots Q (F0 m (pc + 3) ls rest)) : W p l e R s m args below meth c H locs cells slots Q (F0 m pc ls (.int (nI x) :: rest)) :=
  lv_if_ne X.1 X.2.1 hdg ht (fun h => kt (fun q => h ((nI_0iff hx).mpr q))) (fun h => kf ((nI_0iff hx).mp h))
theorem pl_if_lt (X : CallFix p m c cc nL s args TG own) (hx : x < 2 ^ 31) (hdg : decode cc pc = .ok (.ifCond .lt off, 3)) (ht : (pc : Int) + off = (tgt : Int)) (kf : W p l e R s m args below meth c H locs cells slots Q (F0 m (pc + 3) ls rest)) : W p l e R s m args below meth c H locs cells slots Q (F0 m pc ls (.int (nI x) :: rest)) :=
  lv_if_lt X.1 X.2.1 hdg ht (fun h => absurd h (nI_pos hx)) (fun _ => kf)
theorem pl_if_ge (X : CallFix p m c cc nL s args TG own) (hx : x < 2 ^ 31) (hdg : decode cc pc = .ok (.ifCond .ge off, 3)) (ht : (pc : Int) + off = (tgt : Int)) (kt : W p l e R s m args below meth c H locs cells slots Q (F0 m tgt ls rest)) : W p l e R s m args below meth c H locs cells slots Q (F0 m pc ls (.int (nI x) :: rest)) :=
  lv_if_ge X.1 X.2.1 hdg ht (fun _ => kt) (fun h => absurd (nI_pos' hx) h)
theorem pl_if_le (X : CallFix p m c cc nL s args TG own) (hx : x < 2 ^ 31) (hdg : decode cc pc = .ok (.ifCond .le off, 3)) (ht : (pc : Int) + off = (tgt : Int)) (kt : x = 0 → W p l e R s m args below meth c H locs cells slots Q (F0 m tgt ls rest)) (kf : 0 < x → W p l e R s m args below meth c H locs cells slots Q (F0 m (pc + 3) ls rest)) : W p l e R s m args below meth c H locs cells slots Q (F0 m pc ls (.int (nI x) :: rest)) :=
  lv_if_le X.1 X.2.1 hdg ht (fun h => kt (by rcases Nat.eq_zero_or_pos x with q | q; exact q; exact absurd h (nI_nle q hx))) (fun h => kf (Nat.pos_of_ne_zero fun q => h (by rw [q]; decide)))
theorem pl_if_gt (X : CallFix p m c cc nL s args TG own) (hx : x < 2 ^ 31) (hdg : decode cc pc = .ok (.ifCond .gt off, 3)) (ht : (pc : Int) + off = (tgt : Int)) (kt : 0 < x → W p l e R s m args below meth c H locs cells slots Q (F0 m tgt ls rest)) (kf : x = 0 → W p l e R s m args below meth c H locs cells slots Q (F0 m (pc + 3) ls rest)) : W p l e R s m args below meth c H locs cells slots Q (F0 m pc ls (.int (nI x) :: rest)) :=
  lv_if_gt X.1 X.2.1 hdg ht (fun h => kt (Nat.pos_of_ne_zero fun q => by rw [q] at h; exact absurd h (by decide))) (fun h => kf (by rcases Nat.eq_zero_or_pos x with q | q; exact q; exact absurd (by rw [← nI_0]; exact nI_lt q hx) h))
theorem pl_ifB_eq (X : CallFix p m c cc nL s args TG own) (hdg : decode cc pc = .ok (.ifCond .eq off, 3)) (ht : (pc : Int) + off = (tgt : Int)) (kt : b = false → W p l e R s m args below meth c H locs cells slots Q (F0 m tgt ls rest)) (kf : b = true → W p l e R s m args below meth c H locs cells slots Q (F0 m (pc + 3) ls rest)) : W p l e R s m args below meth c H locs cells slots Q (F0 m pc ls (.int (bI b) :: rest)) :=
  lv_if_eq X.1 X.2.1 hdg ht (fun h => kt (bI_0.mp h)) (fun h => kf (by cases b; exact absurd rfl h; rfl))
theorem pl_ifB_ne (X : CallFix p m c cc nL s args TG own) (hdg : decode cc pc = .ok (.ifCond .ne off, 3)) (ht : (pc : Int) + off = (tgt : Int)) (kt : b = true → W p l e R s m args below meth c H locs cells slots Q (F0 m tgt ls rest)) (kf : b = false → W p l e R s m args below meth c H locs cells slots Q (F0 m (pc + 3) ls rest)) : W p l e R s m args below meth c H locs cells slots Q (F0 m pc ls (.int (bI b) :: rest)) :=
  lv_if_ne X.1 X.2.1 hdg ht (fun h => kt (by cases b; exact absurd rfl h; rfl)) (fun h => kf (bI_0.mp h))
def ckO (own : String) (idx : Nat) : Prop := Cond.methodLink own idx Lib.objectInit ∈ TG ∧ Cond.instanceMethod Lib.objectInit ∈ TG ∧ Cond.code Lib.objectInit ⟨#[0xb1]⟩ 1 none ∈ TG
theorem pl_objInit {idx a : Nat} (X : CallFix p m c cc nL s args TG own) (K : ckO own idx) (hsize : ls.size = c.maxLocals) (hframes : 1 ≤ R.frames) (hlocals : (rest.map fun v => v.category).sum + 12 ≤ R.locals) (hdg : decode cc pc = .ok (.invokespecial idx, 3))
    (kk : W p l e R s m args below meth c H locs cells slots Q (F0 m (pc + 3) ls rest)) : W p l e R s m args below meth c H locs cells slots Q (F0 m pc ls (.ref a :: rest)) :=
  W.objInit X.1 X.2.1 X.2.2.2.1 (X.2.2.2.2 _ K.1) (X.2.2.2.2 _ K.2.1) (X.2.2.2.2 _ K.2.2) rfl hsize rfl hdg hframes (by have : (F0 m pc ls (.ref a :: rest)).monitorRoom = 0 := rfl; omega) kk
end PLN
theorem i_nle {x y : Int32} : ¬ x ≤ y ↔ y < x := by rw [i_le, i_lt]; omega
theorem i_nlt {x y : Int32} : ¬ x < y ↔ y ≤ x := by rw [i_le, i_lt]; omega
/-- how many of the states below s have a rule for the act t -/
def cntR (th : Nat → Int32) (t : Nat) : Nat → Nat
  | 0 => 0
  | s + 1 => cntR th t s + (if th (s * 8 + t) = -1 then 0 else 1)
theorem cntR_le (th : Nat → Int32) (t : Nat) : ∀ s, cntR th t s ≤ s
  | 0 => Nat.le_refl _
  | s + 1 => by
    have := cntR_le th t s
    simp only [cntR]
    split <;> omega
theorem nI_dec (q : Nat) : nI (q + 1) - nI 1 = nI q := by rw [pk_sub (by omega)]; rfl
/-- what an act makes of status, place, height, state, how many were done, and the trace -/
abbrev RSa : Type := Nat × Nat × Nat × Nat × Nat × (Nat → Int32) × (Nat → Int32)
def actS (how : Nat) (ok : Bool) (pl q stt dn t j : Nat) (v : Int32) (ta tn : Nat → Int32) : RSa :=
  if how = 2 ∧ ok = false then (4, pl, q + 1, stt, dn, ta, tn) else if 60 ≤ dn then (3, pl, q + 1, stt, dn, ta, tn) else (1, pl + 1, q, (if how = 2 then t else stt), dn + 1, upd ta dn (nI j), upd tn dn v)
end
section
/-! Rows laid one behind another into an array; the tests ahead of an act. -/
def apd (f : Nat → Int32) (z : Nat) : List Int32 → (Nat → Int32)
  | [] => f
  | x :: l => apd (upd f z x) (z + 1) l
theorem apd_app (f : Nat → Int32) (z : Nat) (l1 l2 : List Int32) : apd f z (l1 ++ l2) = apd (apd f z l1) (z + l1.length) l2 := by
  induction l1 generalizing f z with
  | nil => rfl
  | cons x l ih =>
    simp only [List.cons_append, apd, List.length_cons]
    rw [ih, show z + (l.length + 1) = z + 1 + l.length by omega]
theorem apd_lo (l : List Int32) : ∀ (f : Nat → Int32) (z j : Nat), j < z → apd f z l j = f j := by
  induction l with
  | nil => intros; rfl
  | cons x l ih =>
    intro f z j hj
    simp only [apd]
    rw [ih _ _ _ (by omega), upd_n (by omega)]
theorem apd_at (l : List Int32) : ∀ (f : Nat → Int32) (z j : Nat), j < l.length → apd f z l (z + j) = l.getD j 0 := by
  induction l with
  | nil => intro f z j hj; exact absurd hj (Nat.not_lt_zero j)
  | cons x l ih =>
    intro f z j hj
    simp only [apd]
    cases j with
    | zero =>
      show apd (upd f z x) (z + 1) l z = x
      rw [apd_lo l _ _ _ (by omega), upd_s]
    | succ j =>
      rw [show z + (j + 1) = z + 1 + j by omega, ih _ _ _ (by simpa using hj)]
      rfl
abbrev l4o : List Int32 := [nI 5, nI 0, nI 3, nI 8]
abbrev l4k (i z : Nat) : List Int32 := [nI 7, nI i, nI 0, nI (z + 16)]
abbrev l9o : List Int32 := [nI 11, nI 0, nI 4, nI 8, nI 11, nI 0, nI 10, nI 4, nI 8]
abbrev l9k (a b : Int32) (stop : Nat) : List Int32 := [nI 0, a, nI 0, nI stop, nI 0, b, nI 0, nI 0, nI stop]
abbrev l3o : List Int32 := [nI 0, nI 6, nI 7]
abbrev l3k (a : Int32) (stop : Nat) : List Int32 := [a, nI 7, nI (stop + 1)]
/-- the tests of the states below s for the act t; they begin at z, the guard's end stands at stop -/
def gO (th : Nat → Int32) (t : Nat) : Nat → List Int32
  | 0 => []
  | s + 1 => gO th t s ++ (if th (s * 8 + t) = -1 then [] else l4o ++ l9o ++ l3o)
def gK (lo hi th : Nat → Int32) (t z stop : Nat) : Nat → List Int32
  | 0 => []
  | s + 1 => gK lo hi th t z stop s ++ (if th (s * 8 + t) = -1 then [] else l4k s (z + 16 * cntR th t s) ++ l9k (lo (s * 8 + t)) (hi (s * 8 + t)) stop ++ l3k (th (s * 8 + t)) stop)
theorem gO_len (th : Nat → Int32) (t : Nat) : ∀ s, (gO th t s).length = 16 * cntR th t s
  | 0 => rfl
  | s + 1 => by
    have := gO_len th t s
    simp only [gO, cntR]
    split <;> simp <;> omega
theorem gK_len (lo hi th : Nat → Int32) (t z stop : Nat) : ∀ s, (gK lo hi th t z stop s).length = 16 * cntR th t s
  | 0 => rfl
  | s + 1 => by
    have := gK_len lo hi th t z stop s
    simp only [gK, cntR]
    split <;> simp <;> omega
section GG
variable {th : Nat → Int32} {t s : Nat}
theorem rn_no (g : decide (¬ th (s * 8 + t) = -1) = false) : th (s * 8 + t) = -1 := by
  simpa using g
theorem rn_yes (g : decide (¬ th (s * 8 + t) = -1) = true) : ¬ th (s * 8 + t) = -1 := of_decide_eq_true g
theorem cntR_no (g : decide (¬ th (s * 8 + t) = -1) = false) : cntR th t (s + 1) = cntR th t s := by
  simp only [cntR]; rw [if_pos (rn_no g)]; rfl
theorem cntR_yes (g : decide (¬ th (s * 8 + t) = -1) = true) : cntR th t (s + 1) = cntR th t s + 1 := by
  simp only [cntR]; rw [if_neg (rn_yes g)]
theorem gO_no (g : decide (¬ th (s * 8 + t) = -1) = false) : gO th t (s + 1) = gO th t s := by
  simp only [gO]; rw [if_pos (rn_no g), List.append_nil]
theorem gK_no {lo hi : Nat → Int32} {z stop : Nat} (g : decide (¬ th (s * 8 + t) = -1) = false) : gK lo hi th t z stop (s + 1) = gK lo hi th t z stop s := by
  simp only [gK]; rw [if_pos (rn_no g), List.append_nil]
theorem gO_yes (f : Nat → Int32) (z : Nat) (g : decide (¬ th (s * 8 + t) = -1) = true) : apd f z (gO th t (s + 1)) = apd (apd (apd (apd f z (gO th t s)) (z + 16 * cntR th t s) l4o) (z + 16 * cntR th t s + 4) l9o) (z + 16 * cntR th t s + 4 + 9) l3o := by
  simp only [gO]
  rw [if_neg (rn_yes g), apd_app, apd_app, apd_app, gO_len]
  rfl
theorem gK_yes (lo hi f : Nat → Int32) (z stop : Nat) (g : decide (¬ th (s * 8 + t) = -1) = true) : apd f z (gK lo hi th t z stop (s + 1)) = apd (apd (apd (apd f z (gK lo hi th t z stop s)) (z + 16 * cntR th t s) (l4k s (z + 16 * cntR th t s))) (z + 16 * cntR th t s + 4) (l9k (lo (s * 8 + t)) (hi (s * 8 + t)) stop)) (z + 16 * cntR th t s + 4 + 9) (l3k (th (s * 8 + t)) stop) := by
  simp only [gK]
  rw [if_neg (rn_yes g), apd_app, apd_app, apd_app, gK_len]
  rfl
end GG
theorem gO_end (f : Nat → Int32) (z : Nat) (th : Nat → Int32) (t n : Nat) (x : Int32) : apd f z (gO th t n ++ [x]) = upd (apd f z (gO th t n)) (z + 16 * cntR th t n) x := by
  rw [apd_app, gO_len]; rfl
theorem gK_end (lo hi f : Nat → Int32) (z stop : Nat) (th : Nat → Int32) (t n : Nat) (x : Int32) : apd f z (gK lo hi th t z stop n ++ [x]) = upd (apd f z (gK lo hi th t z stop n)) (z + 16 * cntR th t n) x := by
  rw [apd_app, gK_len]; rfl
theorem cntR_mono (th : Nat → Int32) (t : Nat) {a b : Nat} (h : a ≤ b) : cntR th t a ≤ cntR th t b := by
  induction b with
  | zero => rw [Nat.le_zero.mp h]; exact Nat.le_refl _
  | succ b ih =>
    rcases Nat.lt_or_eq_of_le h with q | q
    · exact Nat.le_trans (ih (by omega)) (by simp only [cntR]; omega)
    · rw [q]; exact Nat.le_refl _
end
section
/-! Which heights a program has: labels of instructions (-1: none), closed ones, the least. -/
def opn (P : Nat → Int32) (i : Nat) : Nat := (P i).toNatClampNeg
def kn (K : Nat → Int32) (i : Nat) : Nat := (K i).toNatClampNeg
def tkN (o : Nat) : Nat := [0, 1, 2, 2, 2, 0, 1, 0, 1, 1, 2, 1, 0].getD o 0
def lvN (o : Nat) : Nat := [1, 0, 1, 1, 1, 1, 0, 0, 0, 0, 2, 2, 0].getD o 0
def okP (P : Nat → Int32) (n : Nat) : Prop := ∀ i, i < n → P i = nI (opn P i) ∧ opn P i ≤ 12
def numFit (o : Nat) (k : Int32) (n : Nat) : Bool := if o = 5 ∨ o = 6 then inB k 7 else if o = 7 ∨ o = 8 then inB k n else if o = 9 then inB k 8 else true
def okK (P K : Nat → Int32) (n : Nat) : Prop := ∀ i, i < n → numFit (opn P i) (K i) n = true
def aft (P : Nat → Int32) (i h : Nat) : Nat := h - tkN (opn P i) + lvN (opn P i)
def clo (P K : Nat → Int32) (n : Nat) (F : Nat → Int32) (i h : Nat) : Prop := tkN (opn P i) ≤ h ∧ aft P i h ≤ 12 ∧ ((opn P i = 7 ∨ opn P i = 8) → kn K i < n ∧ F (kn K i) = nI (aft P i h)) ∧ (opn P i ≠ 7 → opn P i ≠ 12 → i + 1 < n ∧ F (i + 1) = nI (aft P i h))
def closed (P K : Nat → Int32) (n : Nat) (F : Nat → Int32) : Prop := 0 < n ∧ F 0 = nI 0 ∧ ∀ i h, i < n → h ≤ 12 → F i = nI h → clo P K n F i h
def least (P K : Nat → Int32) (n : Nat) (F : Nat → Int32) : Prop := ∀ G, closed P K n G → ∀ i h, i < n → h ≤ 12 → F i = nI h → G i = nI h
def labs (n : Nat) (F : Nat → Int32) : Prop := ∀ i, i < n → F i = -1 ∨ ∃ h, h ≤ 12 ∧ F i = nI h
theorem nI_nm1 {h : Nat} (hh : h < 2 ^ 31) : ¬ nI h = -1 := by
  intro q
  have h1 := congrArg Int32.toInt q
  rw [nI_toInt hh] at h1
  have h2 : (-1 : Int32).toInt = -1 := by decide
  omega
theorem nI_inj {a b : Nat} (ha : a < 2 ^ 31) (hb : b < 2 ^ 31) (h : nI a = nI b) : a = b := (nI_eq ha hb).mp h
theorem lab_eq {P K : Nat → Int32} {n : Nat} {F G : Nat → Int32} (c1 : closed P K n F) (l1 : least P K n F) (a1 : labs n F) (c2 : closed P K n G) (l2 : least P K n G) (a2 : labs n G) : ∀ i, i < n → F i = G i := by
  intro i hi
  rcases a1 i hi with q | ⟨h, hh, q⟩
  · rcases a2 i hi with r | ⟨h, hh, r⟩
    · rw [q, r]
    · have := l2 F c1 i h hi hh r
      exact absurd (this.symm.trans q) (nI_nm1 (by omega))
  · rw [q, l1 G c2 i h hi hh q]
/-- how many are labelled -/
def cntL (F : Nat → Int32) : Nat → Nat
  | 0 => 0
  | i + 1 => cntL F i + (if F i = -1 then 0 else 1)
theorem cntL_le (F : Nat → Int32) : ∀ n, cntL F n ≤ n
  | 0 => Nat.le_refl _
  | n + 1 => by
    have := cntL_le F n
    simp only [cntL]
    split <;> omega
theorem cntL_lt {F : Nat → Int32} {i : Nat} (h : F i = -1) : ∀ n, i < n → cntL F n < n
  | 0, q => absurd q (Nat.not_lt_zero i)
  | n + 1, q => by
    simp only [cntL]
    rcases Nat.lt_succ_iff_lt_or_eq.mp q with r | r
    · have := cntL_lt h n r
      split <;> omega
    · subst r
      have := cntL_le F i
      rw [if_pos h]; omega
theorem cntL_out {F : Nat → Int32} {i : Nat} {x : Int32} : ∀ n, n ≤ i → cntL (upd F i x) n = cntL F n
  | 0, _ => rfl
  | n + 1, q => by
    simp only [cntL]
    rw [cntL_out n (by omega), upd_n (by omega)]
theorem cntL_upd {F : Nat → Int32} {i : Nat} {x : Int32} (h : F i = -1) (hx : ¬ x = -1) : ∀ n, i < n → cntL (upd F i x) n = cntL F n + 1
  | 0, q => absurd q (Nat.not_lt_zero i)
  | n + 1, q => by
    simp only [cntL]
    rcases Nat.lt_succ_iff_lt_or_eq.mp q with r | r
    · rw [cntL_upd h hx n r, upd_n (by omega)]; omega
    · subst r
      rw [cntL_out i (Nat.le_refl _), upd_s, if_neg hx, if_pos h]
/-- what holds while the queue is worked off -/
def hInv (P K : Nat → Int32) (n : Nat) (F Qu : Nat → Int32) (qd : Nat) : Prop :=
  F 0 = nI 0 ∧ labs n F ∧ qd = cntL F n ∧ (∀ a, a < qd → ∃ j, j < n ∧ Qu a = nI j ∧ ¬ F j = -1) ∧ (∀ j, j < n → ¬ F j = -1 → ∃ a, a < qd ∧ Qu a = nI j) ∧ least P K n F
/-- labels only come -/
def hExt (n : Nat) (F G : Nat → Int32) : Prop := ∀ i, i < n → ¬ F i = -1 → G i = F i
theorem hExt.refl {n : Nat} {F : Nat → Int32} : hExt n F F := fun _ _ _ => rfl
theorem hExt.trans {n : Nat} {F G I : Nat → Int32} (h1 : hExt n F G) (h2 : hExt n G I) : hExt n F I := fun i hi q => by
  have e := h1 i hi q
  rw [h2 i hi (by rw [e]; exact q), e]
theorem hExt.new {n i : Nat} {F : Nat → Int32} {x : Int32} (h : F i = -1) : hExt n F (upd F i x) := fun j _ q => upd_n (fun e => q (by rw [e]; exact h))
theorem hInv.new {P K : Nat → Int32} {n : Nat} {F Qu : Nat → Int32} {qd i h : Nat} (v : hInv P K n F Qu qd) (hi : i < n) (hh : h ≤ 12) (hF : F i = -1) (hG : ∀ G, closed P K n G → G i = nI h) : hInv P K n (upd F i (nI h)) (upd Qu qd (nI i)) (qd + 1) := by
  obtain ⟨v1, v2, v3, v4, v5, v6⟩ := v
  have hne : ¬ nI h = -1 := nI_nm1 (by omega)
  refine ⟨?_, ?_, ?_, ?_, ?_, ?_⟩
  · by_cases q : 0 = i
    · rw [← q, v1] at hF; exact absurd hF (nI_nm1 (by omega))
    · rw [upd_n q]; exact v1
  · intro j hj
    by_cases q : j = i
    · rw [q, upd_s]; exact Or.inr ⟨h, hh, rfl⟩
    · rw [upd_n q]; exact v2 j hj
  · rw [cntL_upd hF hne n hi, v3]
  · intro a ha
    rcases Nat.lt_succ_iff_lt_or_eq.mp ha with q | q
    · obtain ⟨j, h1, h2, h3⟩ := v4 a q
      refine ⟨j, h1, by rw [upd_n (by omega)]; exact h2, ?_⟩
      by_cases r : j = i
      · rw [r, upd_s]; exact hne
      · rw [upd_n r]; exact h3
    · exact ⟨i, hi, by rw [q, upd_s], by rw [upd_s]; exact hne⟩
  · intro j hj q
    by_cases r : j = i
    · exact ⟨qd, by omega, by rw [r, upd_s]⟩
    · rw [upd_n r] at q
      obtain ⟨a, h1, h2⟩ := v5 j hj q
      exact ⟨a, by omega, by rw [upd_n (by omega)]; exact h2⟩
  · intro G hG2 j g hj hg q
    by_cases r : j = i
    · rw [r, upd_s] at q
      rw [r, hG G hG2]; exact q
    · rw [upd_n r] at q
      exact v6 G hG2 j g hj hg q
end
section
/-! A static method of a nest mate that is its own; tables that nobody writes. -/
def ckN (y : MethodName) (b : ByteArray) (maxL : Nat) (ret : Option FieldType) (n : Nat) : Prop := Cond.static y ∈ TG ∧ Cond.initialized y.cls ∈ TG ∧ Cond.code y b maxL ret ∈ TG ∧ ckD y n
section PLS
variable {p : Program} {l : Launch} {e : Env} {R : Room} {s : State} {m : MethodId} {args : Array Value} {below : List Frame} {meth : Method} {c : Code} {H : Heap} {locs : List Loc} {cells slots : Nat} {Q : State → Prop}
variable {cc bytes : ByteArray} {pc nL maxL index n ci N b : Nat} {ls : Array Slot} {rest st0 As : List Value} {D : va_G} {cl : List vw_C} {A : Nat → Prop} {tys : List (ClassId × FieldType)} {ws wi wr : va_W} {own host : String} {y : MethodName} {rm : Room} {E : pl_Ev}
theorem ckN.w {ret : Option FieldType} (K : ckN y bytes maxL ret n) (X : CallFix p m c cc nL s args TG own) (hl : va_Nw (.methodLinkNest own index y host) s) (hR : rm.frames + 1 ≤ R.frames ∧ 8 + (maxL + 11) + rm.locals ≤ R.locals) : va_CN R s args own index y host bytes maxL ret (Cond.code y bytes maxL ret :: TG) rm rm.cells rm.slots n ∧ (Cond.static y).before args s = true ∧ True :=
  ⟨va_cnB n X.2.2.2.2 (tg_cons K.2.2.1) rfl rfl rfl hl (X.2.2.2.2 _ K.2.1) K.2.2.2 hR, X.2.2.2.2 _ K.1, trivial⟩
theorem pl_callNI {S : Type} {post : Int32 → S → Prop} {wo wf : S → va_W} {ret : FieldType} (X : CallFix p m c cc nL s args TG own) (hM : pl_I l y bytes maxL ret rm E D cl tys As wi post wo) (K : ckN y bytes maxL (some ret) n) (hl : va_Nw (.methodLinkNest own index y host) s) (hE : pl_Ok E) (hEc : E (va_A wi H.size) s H) (hK : va_K D cl tys s) (hP : va_P D cl ws H) (hD : va_D A ws) (hS : va_S A s.heap H locs) (hA : ∀ q, s.heap.size ≤ q → A q) (isC isR isF : List Nat) (hC : isC.map (fun i => ws[i]?) = wi.map some) (hnC : va_nd isC = true) (hR : isR.map (fun i => ws[i]?) = wr.map some) (hnR : va_nd isR = true) (hdis : ∀ i ∈ isR, i ∉ isC) (hF : ∀ u, isF.map (fun i => (wr ++ wo u)[i]?) = (wf u).map some) (hnF : va_nd isF = true) (hlen : As.length = n) (hsize : ls.size = nL) (hst : st0 = As.reverse ++ rest) (hcat : (rest.map fun v => v.category).sum ≤ 8) (hroom : rm.frames + 1 ≤ R.frames ∧ 8 + (maxL + 11) + rm.locals ≤ R.locals) (hf : cells + rm.cells ≤ R.cells ∧ slots + rm.slots ≤ R.slots) (hdg : decode cc pc = .ok (.invokestatic index, 3))
    (kk : ∀ (r : Int32) (u : S) (H1 : Heap) (locs1 : List Loc), post r u → va_P D cl (wf u) H1 → va_D A (wf u) → va_S A s.heap H1 locs1 → W p l e R s m args below meth c H1 locs1 (cells + rm.cells) (slots + rm.slots) Q (F0 m (pc + 3) ls (.int r :: rest))) : W p l e R s m args below meth c H locs cells slots Q (F0 m pc ls st0) := by
  have hFc := va_free (wc := wi) hD hS hA isC hC
  refine va_calli (va_runSN (As := As) (rest := rest) X (hM H.size) (K.w X hl hroom) (pl_pre hE (hP.sub isC (pl_fm hC)) (hD.sub isC hnC hC) hK hEc) rfl hlen hsize hst (lv_room hcat) hdg hf) hS (fun q _ h => hFc q h) hFc (fun r u t H1 locs1 ht hvm hpo hB hz1 hk1 hS1 => ?_)
  obtain ⟨hP1, hK1, hD1⟩ := hB
  rw [ht] at hP1
  obtain ⟨hP2, hD2⟩ := pl_back (wf := wf u) hP hD isC isR isF hC hR hnR hdis (hF u) hnF hk1 hFc hP1 hD1
  exact kk r u H1 locs1 hpo hP2 hD2 hS1
theorem pl_ti {t N : Nat} {f : Nat → Value} (X : CallFix p m c cc nL s args TG own) (hT : va_T .int t N f A s s.heap) (hS : va_S A s.heap H locs) (j : Nat) (hj : j < N) (hN : N < 2 ^ 31) {v : Value} (hv : f j = v) (hdg : decode cc pc = .ok (.iaload, 1))
    (kk : W p l e R s m args below meth c H locs cells slots Q (F0 m (pc + 1) ls (v :: rest))) : W p l e R s m args below meth c H locs cells slots Q (F0 m pc ls (.int (nI j) :: .ref t :: rest)) :=
  va_ti X.1 X.2.1 hT hS (pl_ix hj hN).1 (by rw [(pl_ix hj hN).2]; exact hv) hdg kk
end PLS
end
section
/-! Names: classes, fields, methods; which words the tables have. -/
def R_Listing : String := "PolicyLoom$Listing"
def F_Listing : u_T := fun k => match k with
  | 0 => ("PolicyLoom$Listing", "operations", "[I", true)
  | 1 => ("PolicyLoom$Listing", "numbers", "[I", true)
  | _ => ("PolicyLoom$Listing", "size", "I", false)
def t_Listing : Nat → FieldType := fun k => match k with
  | 0 => .array .int
  | 1 => .array .int
  | _ => .int
abbrev N_Listing : Nat := 3
def R_Automaton : String := "PolicyLoom$Automaton"
def F_Automaton : u_T := fun k => match k with
  | 0 => ("PolicyLoom$Automaton", "lowest", "[I", true)
  | 1 => ("PolicyLoom$Automaton", "highest", "[I", true)
  | 2 => ("PolicyLoom$Automaton", "then", "[I", true)
  | _ => ("PolicyLoom$Automaton", "size", "I", false)
def t_Automaton : Nat → FieldType := fun k => match k with
  | 0 => .array .int
  | 1 => .array .int
  | 2 => .array .int
  | _ => .int
abbrev N_Automaton : Nat := 4
def R_Heights : String := "PolicyLoom$Heights"
def F_Heights : u_T := fun k => match k with
  | 0 => ("PolicyLoom$Heights", "found", "[I", true)
  | 1 => ("PolicyLoom$Heights", "queue", "[I", true)
  | 2 => ("PolicyLoom$Heights", "queued", "I", false)
  | _ => ("PolicyLoom$Heights", "wellFormed", "Z", false)
def t_Heights : Nat → FieldType := fun k => match k with
  | 0 => .array .int
  | 1 => .array .int
  | 2 => .int
  | _ => .boolean
abbrev N_Heights : Nat := 4
def R_Weaver : String := "PolicyLoom$Weaver"
def F_Weaver : u_T := fun k => match k with
  | 0 => ("PolicyLoom$Weaver", "listing", "LPolicyLoom$Listing;", true)
  | _ => ("PolicyLoom$Weaver", "firstOf", "[I", true)
def t_Weaver : Nat → FieldType := fun k => match k with
  | 0 => .object "PolicyLoom$Listing"
  | _ => .array .int
abbrev N_Weaver : Nat := 2
def R_Run : String := "PolicyLoom$Run"
def F_Run : u_T := fun k => match k with
  | 0 => ("PolicyLoom$Run", "stack", "[I", true)
  | 1 => ("PolicyLoom$Run", "cells", "[I", true)
  | 2 => ("PolicyLoom$Run", "traceActs", "[I", true)
  | 3 => ("PolicyLoom$Run", "traceNumbers", "[I", true)
  | 4 => ("PolicyLoom$Run", "how", "I", false)
  | 5 => ("PolicyLoom$Run", "status", "I", false)
  | 6 => ("PolicyLoom$Run", "place", "I", false)
  | 7 => ("PolicyLoom$Run", "stacked", "I", false)
  | 8 => ("PolicyLoom$Run", "state", "I", false)
  | _ => ("PolicyLoom$Run", "done", "I", false)
def t_Run : Nat → FieldType := fun k => match k with
  | 0 => .array .int
  | 1 => .array .int
  | 2 => .array .int
  | 3 => .array .int
  | 4 => .int
  | 5 => .int
  | 6 => .int
  | 7 => .int
  | 8 => .int
  | _ => .int
abbrev N_Run : Nat := 10
def R_Loom : String := "PolicyLoom"
def F_Loom : u_T := fun k => match k with
  | 0 => ("PolicyLoom", "program", "LPolicyLoom$Listing;", true)
  | 1 => ("PolicyLoom", "automaton", "LPolicyLoom$Automaton;", true)
  | 2 => ("PolicyLoom", "heights", "LPolicyLoom$Heights;", true)
  | 3 => ("PolicyLoom", "weaver", "LPolicyLoom$Weaver;", true)
  | 4 => ("PolicyLoom", "run", "LPolicyLoom$Run;", true)
  | 5 => ("PolicyLoom", "examined", "Z", false)
  | _ => ("PolicyLoom", "woven", "Z", false)
def t_Loom : Nat → FieldType := fun k => match k with
  | 0 => .object "PolicyLoom$Listing"
  | 1 => .object "PolicyLoom$Automaton"
  | 2 => .object "PolicyLoom$Heights"
  | 3 => .object "PolicyLoom$Weaver"
  | 4 => .object "PolicyLoom$Run"
  | 5 => .boolean
  | _ => .boolean
abbrev N_Loom : Nat := 7
def R_Model : String := "PolicyLoomModel"
def F_Model : u_T := fun k => match k with
  | 0 => ("PolicyLoomModel", "code", "I", false)
  | 1 => ("PolicyLoomModel", "count", "I", false)
  | 2 => ("PolicyLoomModel", "operation", "[I", true)
  | 3 => ("PolicyLoomModel", "ks", "[I", true)
  | 4 => ("PolicyLoomModel", "heights", "[I", true)
  | 5 => ("PolicyLoomModel", "states", "I", false)
  | 6 => ("PolicyLoomModel", "rules", "[Z", true)
  | 7 => ("PolicyLoomModel", "lowest", "[I", true)
  | 8 => ("PolicyLoomModel", "highest", "[I", true)
  | 9 => ("PolicyLoomModel", "then", "[I", true)
  | 10 => ("PolicyLoomModel", "foundOperation", "I", false)
  | 11 => ("PolicyLoomModel", "foundK", "I", false)
  | 12 => ("PolicyLoomModel", "state", "I", false)
  | 13 => ("PolicyLoomModel", "how", "I", false)
  | 14 => ("PolicyLoomModel", "at", "I", false)
  | 15 => ("PolicyLoomModel", "last", "I", false)
  | 16 => ("PolicyLoomModel", "automaton", "I", false)
  | 17 => ("PolicyLoomModel", "height", "I", false)
  | 18 => ("PolicyLoomModel", "stack", "[I", true)
  | 19 => ("PolicyLoomModel", "cells", "[I", true)
  | 20 => ("PolicyLoomModel", "acts", "I", false)
  | 21 => ("PolicyLoomModel", "acted", "[I", true)
  | _ => ("PolicyLoomModel", "numbers", "[I", true)
def t_Model : Nat → FieldType := fun k => match k with
  | 0 => .int
  | 1 => .int
  | 2 => .array .int
  | 3 => .array .int
  | 4 => .array .int
  | 5 => .int
  | 6 => .array .boolean
  | 7 => .array .int
  | 8 => .array .int
  | 9 => .array .int
  | 10 => .int
  | 11 => .int
  | 12 => .int
  | 13 => .int
  | 14 => .int
  | 15 => .int
  | 16 => .int
  | 17 => .int
  | 18 => .array .int
  | 19 => .array .int
  | 20 => .int
  | 21 => .array .int
  | _ => .array .int
abbrev N_Model : Nat := 23
def R_Law : String := "PolicyLoomLaw"
abbrev classes : List vw_C := [(R_Listing, F_Listing, 3), (R_Automaton, F_Automaton, 4), (R_Heights, F_Heights, 4), (R_Weaver, F_Weaver, 2), (R_Run, F_Run, 10), (R_Loom, F_Loom, 7), (R_Model, F_Model, 23)]
abbrev TY (cI cZ cL : ClassId) : List (ClassId × FieldType) := [(cI, .int), (cZ, .boolean), (cL, .long)]
theorem fp_Listing : fp F_Listing 3 t_Listing := ⟨by decide +kernel, by decide +kernel⟩
set_option maxRecDepth 20000 in
theorem uw_Listing : ∀ w ∈ u_ws R_Listing F_Listing 3, w ∈ TG := ck_c (tg_mem 77 rfl rfl) (ck_c (tg_mem 79 rfl rfl) (ck_c (tg_mem 81 rfl rfl) (ck_n)))
theorem fp_Automaton : fp F_Automaton 4 t_Automaton := ⟨by decide +kernel, by decide +kernel⟩
set_option maxRecDepth 20000 in
theorem uw_Automaton : ∀ w ∈ u_ws R_Automaton F_Automaton 4, w ∈ TG := ck_c (tg_mem 104 rfl rfl) (ck_c (tg_mem 106 rfl rfl) (ck_c (tg_mem 108 rfl rfl) (ck_c (tg_mem 110 rfl rfl) (ck_n))))
theorem fp_Heights : fp F_Heights 4 t_Heights := ⟨by decide +kernel, by decide +kernel⟩
set_option maxRecDepth 20000 in
theorem uw_Heights : ∀ w ∈ u_ws R_Heights F_Heights 4, w ∈ TG := ck_c (tg_mem 125 rfl rfl) (ck_c (tg_mem 127 rfl rfl) (ck_c (tg_mem 129 rfl rfl) (ck_c (tg_mem 131 rfl rfl) (ck_n))))
theorem fp_Weaver : fp F_Weaver 2 t_Weaver := ⟨by decide +kernel, by decide +kernel⟩
set_option maxRecDepth 20000 in
theorem uw_Weaver : ∀ w ∈ u_ws R_Weaver F_Weaver 2, w ∈ TG := ck_c (tg_mem 145 rfl rfl) (ck_c (tg_mem 147 rfl rfl) (ck_n))
theorem fp_Run : fp F_Run 10 t_Run := ⟨by decide +kernel, by decide +kernel⟩
set_option maxRecDepth 20000 in
theorem uw_Run : ∀ w ∈ u_ws R_Run F_Run 10, w ∈ TG := ck_c (tg_mem 174 rfl rfl) (ck_c (tg_mem 176 rfl rfl) (ck_c (tg_mem 178 rfl rfl) (ck_c (tg_mem 180 rfl rfl) (ck_c (tg_mem 182 rfl rfl) (ck_c (tg_mem 184 rfl rfl) (ck_c (tg_mem 186 rfl rfl) (ck_c (tg_mem 188 rfl rfl) (ck_c (tg_mem 190 rfl rfl) (ck_c (tg_mem 192 rfl rfl) (ck_n))))))))))
theorem fp_Loom : fp F_Loom 7 t_Loom := ⟨by decide +kernel, by decide +kernel⟩
set_option maxRecDepth 20000 in
theorem uw_Loom : ∀ w ∈ u_ws R_Loom F_Loom 7, w ∈ TG := ck_c (tg_mem 202 rfl rfl) (ck_c (tg_mem 204 rfl rfl) (ck_c (tg_mem 206 rfl rfl) (ck_c (tg_mem 208 rfl rfl) (ck_c (tg_mem 210 rfl rfl) (ck_c (tg_mem 212 rfl rfl) (ck_c (tg_mem 214 rfl rfl) (ck_n)))))))
theorem fp_Model : fp F_Model 23 t_Model := ⟨by decide +kernel, by decide +kernel⟩
set_option maxRecDepth 20000 in
theorem uw_Model : ∀ w ∈ u_ws R_Model F_Model 23, w ∈ TG := ck_c (tg_mem 587 rfl rfl) (ck_c (tg_mem 589 rfl rfl) (ck_c (tg_mem 591 rfl rfl) (ck_c (tg_mem 593 rfl rfl) (ck_c (tg_mem 595 rfl rfl) (ck_c (tg_mem 597 rfl rfl) (ck_c (tg_mem 599 rfl rfl) (ck_c (tg_mem 601 rfl rfl) (ck_c (tg_mem 603 rfl rfl) (ck_c (tg_mem 605 rfl rfl) (ck_c (tg_mem 607 rfl rfl) (ck_c (tg_mem 609 rfl rfl) (ck_c (tg_mem 611 rfl rfl) (ck_c (tg_mem 613 rfl rfl) (ck_c (tg_mem 615 rfl rfl) (ck_c (tg_mem 617 rfl rfl) (ck_c (tg_mem 619 rfl rfl) (ck_c (tg_mem 621 rfl rfl) (ck_c (tg_mem 623 rfl rfl) (ck_c (tg_mem 625 rfl rfl) (ck_c (tg_mem 627 rfl rfl) (ck_c (tg_mem 629 rfl rfl) (ck_c (tg_mem 631 rfl rfl) (ck_n)))))))))))))))))))))))
abbrev b_Loom_init : ByteArray := prog_1_method_1_code
def y_Loom_init : MethodName := ⟨R_Loom, "<init>", "()V"⟩
abbrev b_Listing_init : ByteArray := prog_4_method_1_code
def y_Listing_init : MethodName := ⟨R_Listing, "<init>", "(I)V"⟩
abbrev b_Automaton_init : ByteArray := prog_2_method_1_code
def y_Automaton_init : MethodName := ⟨R_Automaton, "<init>", "()V"⟩
abbrev b_Automaton_reset : ByteArray := prog_2_method_3_code
def y_Automaton_reset : MethodName := ⟨R_Automaton, "reset", "(I)V"⟩
abbrev b_Heights_init : ByteArray := prog_3_method_1_code
def y_Heights_init : MethodName := ⟨R_Heights, "<init>", "()V"⟩
abbrev b_Weaver_init : ByteArray := prog_6_method_1_code
def y_Weaver_init : MethodName := ⟨R_Weaver, "<init>", "()V"⟩
abbrev b_Run_init : ByteArray := prog_5_method_1_code
def y_Run_init : MethodName := ⟨R_Run, "<init>", "()V"⟩
abbrev b_Loom_clear : ByteArray := prog_1_method_3_code
def y_Loom_clear : MethodName := ⟨R_Loom, "clear", "()V"⟩
abbrev b_Loom_forgetWhatHungOnProgram : ByteArray := prog_1_method_15_code
def y_Loom_forgetWhatHungOnProgram : MethodName := ⟨R_Loom, "forgetWhatHungOnProgram", "()V"⟩
abbrev b_Loom_forgetWhatHungOnAutomaton : ByteArray := prog_1_method_16_code
def y_Loom_forgetWhatHungOnAutomaton : MethodName := ⟨R_Loom, "forgetWhatHungOnAutomaton", "()V"⟩
abbrev b_Loom_well : ByteArray := prog_1_method_6_code
def y_Loom_well : MethodName := ⟨R_Loom, "well", "()Z"⟩
abbrev b_Loom_isWellFormed : ByteArray := prog_1_method_17_code
def y_Loom_isWellFormed : MethodName := ⟨R_Loom, "isWellFormed", "()Z"⟩
abbrev b_Heights_examine : ByteArray := prog_3_method_2_code
def y_Heights_examine : MethodName := ⟨R_Heights, "examine", "(LPolicyLoom$Listing;)V"⟩
abbrev b_Heights_numbersFit : ByteArray := prog_3_method_3_code
def y_Heights_numbersFit : MethodName := ⟨R_Heights, "numbersFit", "(LPolicyLoom$Listing;)Z"⟩
abbrev b_Heights_numberFits : ByteArray := prog_3_method_4_code
def y_Heights_numberFits : MethodName := ⟨R_Heights, "numberFits", "(III)Z"⟩
abbrev b_Heights_heightsFit : ByteArray := prog_3_method_5_code
def y_Heights_heightsFit : MethodName := ⟨R_Heights, "heightsFit", "(LPolicyLoom$Listing;)Z"⟩
abbrev b_Heights_reach : ByteArray := prog_3_method_7_code
def y_Heights_reach : MethodName := ⟨R_Heights, "reach", "(LPolicyLoom$Listing;II)Z"⟩
abbrev b_Heights_waysOnFit : ByteArray := prog_3_method_6_code
def y_Heights_waysOnFit : MethodName := ⟨R_Heights, "waysOnFit", "(LPolicyLoom$Listing;I)Z"⟩
abbrev b_Loom_goesElsewhere : ByteArray := prog_1_method_20_code
def y_Loom_goesElsewhere : MethodName := ⟨R_Loom, "goesElsewhere", "(I)Z"⟩
abbrev b_Law_code : ByteArray := method_3_code
def y_Law_code : MethodName := ⟨R_Law, "code", "(LPolicyLoom;II[J)I"⟩
abbrev b_Loom_code : ByteArray := prog_1_method_2_code
def y_Loom_code : MethodName := ⟨R_Loom, "code", "(II)I"⟩
abbrev b_Listing_append : ByteArray := prog_4_method_2_code
def y_Listing_append : MethodName := ⟨R_Listing, "append", "(II)V"⟩
abbrev b_Law_states : ByteArray := method_4_code
def y_Law_states : MethodName := ⟨R_Law, "states", "(LPolicyLoom;I)I"⟩
abbrev b_Loom_states : ByteArray := prog_1_method_4_code
def y_Loom_states : MethodName := ⟨R_Loom, "states", "(I)V"⟩
abbrev b_Law_rule : ByteArray := method_5_code
def y_Law_rule : MethodName := ⟨R_Law, "rule", "(LPolicyLoom;IIIII)I"⟩
abbrev b_Loom_rule : ByteArray := prog_1_method_5_code
def y_Loom_rule : MethodName := ⟨R_Loom, "rule", "(IIIII)V"⟩
abbrev b_Automaton_hasState : ByteArray := prog_2_method_4_code
def y_Automaton_hasState : MethodName := ⟨R_Automaton, "hasState", "(I)Z"⟩
abbrev b_Automaton_place : ByteArray := prog_2_method_2_code
def y_Automaton_place : MethodName := ⟨R_Automaton, "place", "(II)I"⟩
abbrev b_Automaton_setRule : ByteArray := prog_2_method_5_code
def y_Automaton_setRule : MethodName := ⟨R_Automaton, "setRule", "(IIII)V"⟩
abbrev b_Law_height : ByteArray := method_6_code
def y_Law_height : MethodName := ⟨R_Law, "height", "(LPolicyLoom;I[J)I"⟩
abbrev b_Loom_height : ByteArray := prog_1_method_7_code
def y_Loom_height : MethodName := ⟨R_Loom, "height", "(I)I"⟩
abbrev b_Loom_requireWellFormed : ByteArray := prog_1_method_18_code
def y_Loom_requireWellFormed : MethodName := ⟨R_Loom, "requireWellFormed", "()V"⟩
abbrev b_Law_enforce : ByteArray := method_7_code
def y_Law_enforce : MethodName := ⟨R_Law, "enforce", "(LPolicyLoom;[J)I"⟩
abbrev b_Loom_enforce : ByteArray := prog_1_method_8_code
def y_Loom_enforce : MethodName := ⟨R_Loom, "enforce", "()I"⟩
abbrev b_Loom_wovenListing : ByteArray := prog_1_method_19_code
def y_Loom_wovenListing : MethodName := ⟨R_Loom, "wovenListing", "()LPolicyLoom$Listing;"⟩
abbrev b_Weaver_weave : ByteArray := prog_6_method_2_code
def y_Weaver_weave : MethodName := ⟨R_Weaver, "weave", "(LPolicyLoom$Listing;LPolicyLoom$Automaton;)V"⟩
abbrev b_Weaver_findFirsts : ByteArray := prog_6_method_3_code
def y_Weaver_findFirsts : MethodName := ⟨R_Weaver, "findFirsts", "(LPolicyLoom$Listing;LPolicyLoom$Automaton;)V"⟩
abbrev b_Weaver_guardLength : ByteArray := prog_6_method_4_code
def y_Weaver_guardLength : MethodName := ⟨R_Weaver, "guardLength", "(LPolicyLoom$Automaton;I)I"⟩
abbrev b_Automaton_countRules : ByteArray := prog_2_method_8_code
def y_Automaton_countRules : MethodName := ⟨R_Automaton, "countRules", "(I)I"⟩
abbrev b_Automaton_hasRule : ByteArray := prog_2_method_6_code
def y_Automaton_hasRule : MethodName := ⟨R_Automaton, "hasRule", "(I)Z"⟩
abbrev b_Weaver_appendGuard : ByteArray := prog_6_method_5_code
def y_Weaver_appendGuard : MethodName := ⟨R_Weaver, "appendGuard", "(LPolicyLoom$Automaton;I)V"⟩
abbrev b_Weaver_appendStateCheck : ByteArray := prog_6_method_6_code
def y_Weaver_appendStateCheck : MethodName := ⟨R_Weaver, "appendStateCheck", "(II)V"⟩
abbrev b_Weaver_appendRangeCheck : ByteArray := prog_6_method_7_code
def y_Weaver_appendRangeCheck : MethodName := ⟨R_Weaver, "appendRangeCheck", "(III)V"⟩
abbrev b_Weaver_appendMove : ByteArray := prog_6_method_8_code
def y_Weaver_appendMove : MethodName := ⟨R_Weaver, "appendMove", "(II)V"⟩
abbrev b_Law_enforced : ByteArray := method_8_code
def y_Law_enforced : MethodName := ⟨R_Law, "enforced", "(LPolicyLoom;IZ[J)I"⟩
abbrev b_Loom_enforced : ByteArray := prog_1_method_9_code
def y_Loom_enforced : MethodName := ⟨R_Loom, "enforced", "(IZ)I"⟩
abbrev b_Law_start : ByteArray := method_9_code
def y_Law_start : MethodName := ⟨R_Law, "start", "(LPolicyLoom;II)I"⟩
abbrev b_Loom_start : ByteArray := prog_1_method_10_code
def y_Loom_start : MethodName := ⟨R_Loom, "start", "(II)V"⟩
abbrev b_Run_begin : ByteArray := prog_5_method_2_code
def y_Run_begin : MethodName := ⟨R_Run, "begin", "(II)V"⟩
abbrev b_Law_step : ByteArray := method_10_code
def y_Law_step : MethodName := ⟨R_Law, "step", "(LPolicyLoom;I[J)I"⟩
abbrev b_Loom_step : ByteArray := prog_1_method_11_code
def y_Loom_step : MethodName := ⟨R_Loom, "step", "(I)I"⟩
abbrev b_Run_advance : ByteArray := prog_5_method_4_code
def y_Run_advance : MethodName := ⟨R_Run, "advance", "(LPolicyLoom$Listing;LPolicyLoom$Automaton;)V"⟩
abbrev b_Run_pop : ByteArray := prog_5_method_9_code
def y_Run_pop : MethodName := ⟨R_Run, "pop", "()I"⟩
abbrev b_Run_tryAct : ByteArray := prog_5_method_5_code
def y_Run_tryAct : MethodName := ⟨R_Run, "tryAct", "(LPolicyLoom$Automaton;I)V"⟩
abbrev b_Automaton_allows : ByteArray := prog_2_method_7_code
def y_Automaton_allows : MethodName := ⟨R_Automaton, "allows", "(II)Z"⟩
abbrev b_Run_work : ByteArray := prog_5_method_6_code
def y_Run_work : MethodName := ⟨R_Run, "work", "(II)V"⟩
abbrev b_Run_push : ByteArray := prog_5_method_8_code
def y_Run_push : MethodName := ⟨R_Run, "push", "(I)V"⟩
abbrev b_Run_workOnTwo : ByteArray := prog_5_method_7_code
def y_Run_workOnTwo : MethodName := ⟨R_Run, "workOnTwo", "(I)V"⟩
abbrev b_Law_look : ByteArray := method_11_code
def y_Law_look : MethodName := ⟨R_Law, "look", "(LPolicyLoom;I[J)I"⟩
abbrev b_Loom_look : ByteArray := prog_1_method_12_code
def y_Loom_look : MethodName := ⟨R_Loom, "look", "(I)I"⟩
abbrev b_Run_policyState : ByteArray := prog_5_method_3_code
def y_Run_policyState : MethodName := ⟨R_Run, "policyState", "()I"⟩
abbrev b_Law_act : ByteArray := method_12_code
def y_Law_act : MethodName := ⟨R_Law, "act", "(LPolicyLoom;IZ[J)I"⟩
abbrev b_Loom_act : ByteArray := prog_1_method_13_code
def y_Loom_act : MethodName := ⟨R_Loom, "act", "(IZ)I"⟩
abbrev b_Law_cell1 : ByteArray := method_13_code
def y_Law_cell1 : MethodName := ⟨R_Law, "cell", "(LPolicyLoom;I[J)I"⟩
abbrev b_Loom_cell : ByteArray := prog_1_method_14_code
def y_Loom_cell : MethodName := ⟨R_Loom, "cell", "(I)I"⟩
abbrev b_Model_init : ByteArray := prog_8_method_1_code
def y_Model_init : MethodName := ⟨R_Model, "<init>", "()V"⟩
abbrev b_Model_thrown : ByteArray := prog_8_method_2_code
def y_Model_thrown : MethodName := ⟨R_Model, "thrown", "()I"⟩
abbrev b_Model_code : ByteArray := prog_8_method_4_code
def y_Model_code : MethodName := ⟨R_Model, "code", "(II)I"⟩
abbrev b_Model_refuse : ByteArray := prog_8_method_3_code
def y_Model_refuse : MethodName := ⟨R_Model, "refuse", "(I)I"⟩
abbrev b_Model_clear : ByteArray := prog_8_method_5_code
def y_Model_clear : MethodName := ⟨R_Model, "clear", "()V"⟩
abbrev b_Model_states : ByteArray := prog_8_method_6_code
def y_Model_states : MethodName := ⟨R_Model, "states", "(I)V"⟩
abbrev b_Model_rule : ByteArray := prog_8_method_8_code
def y_Model_rule : MethodName := ⟨R_Model, "rule", "(IIIII)V"⟩
abbrev b_Model_isState : ByteArray := prog_8_method_7_code
def y_Model_isState : MethodName := ⟨R_Model, "isState", "(I)Z"⟩
abbrev b_Model_well : ByteArray := prog_8_method_15_code
def y_Model_well : MethodName := ⟨R_Model, "well", "()Z"⟩
abbrev b_Model_isWell : ByteArray := prog_8_method_14_code
def y_Model_isWell : MethodName := ⟨R_Model, "isWell", "()Z"⟩
abbrev b_Model_isK : ByteArray := prog_8_method_12_code
def y_Model_isK : MethodName := ⟨R_Model, "isK", "(I)Z"⟩
abbrev b_Model_isPlace : ByteArray := prog_8_method_11_code
def y_Model_isPlace : MethodName := ⟨R_Model, "isPlace", "(I)Z"⟩
abbrev b_Model_takes : ByteArray := prog_8_method_9_code
def y_Model_takes : MethodName := ⟨R_Model, "takes", "(I)I"⟩
abbrev b_Model_gives : ByteArray := prog_8_method_10_code
def y_Model_gives : MethodName := ⟨R_Model, "gives", "(I)I"⟩
abbrev b_Model_reach : ByteArray := prog_8_method_13_code
def y_Model_reach : MethodName := ⟨R_Model, "reach", "(II)Z"⟩
abbrev b_Model_height : ByteArray := prog_8_method_16_code
def y_Model_height : MethodName := ⟨R_Model, "height", "(I)I"⟩
abbrev b_Model_enforce : ByteArray := prog_8_method_23_code
def y_Model_enforce : MethodName := ⟨R_Model, "enforce", "()I"⟩
abbrev b_Model_place : ByteArray := prog_8_method_19_code
def y_Model_place : MethodName := ⟨R_Model, "place", "(I)I"⟩
abbrev b_Model_aheadOf : ByteArray := prog_8_method_18_code
def y_Model_aheadOf : MethodName := ⟨R_Model, "aheadOf", "(I)I"⟩
abbrev b_Model_testsOf : ByteArray := prog_8_method_17_code
def y_Model_testsOf : MethodName := ⟨R_Model, "testsOf", "(I)I"⟩
abbrev b_Model_enforced : ByteArray := prog_8_method_24_code
def y_Model_enforced : MethodName := ⟨R_Model, "enforced", "(IZ)I"⟩
abbrev b_Model_find : ByteArray := prog_8_method_21_code
def y_Model_find : MethodName := ⟨R_Model, "find", "(I)V"⟩
abbrev b_Model_set : ByteArray := prog_8_method_20_code
def y_Model_set : MethodName := ⟨R_Model, "set", "(II)V"⟩
abbrev b_Model_test : ByteArray := prog_8_method_22_code
def y_Model_test : MethodName := ⟨R_Model, "test", "(IIII)V"⟩
abbrev b_Model_start : ByteArray := prog_8_method_25_code
def y_Model_start : MethodName := ⟨R_Model, "start", "(II)V"⟩
abbrev b_Model_step : ByteArray := prog_8_method_30_code
def y_Model_step : MethodName := ⟨R_Model, "step", "(I)I"⟩
abbrev b_Model_one : ByteArray := prog_8_method_29_code
def y_Model_one : MethodName := ⟨R_Model, "one", "()V"⟩
abbrev b_Model_pop : ByteArray := prog_8_method_26_code
def y_Model_pop : MethodName := ⟨R_Model, "pop", "()I"⟩
abbrev b_Model_push : ByteArray := prog_8_method_27_code
def y_Model_push : MethodName := ⟨R_Model, "push", "(I)V"⟩
abbrev b_Model_done : ByteArray := prog_8_method_28_code
def y_Model_done : MethodName := ⟨R_Model, "done", "(I)V"⟩
abbrev b_Model_look : ByteArray := prog_8_method_31_code
def y_Model_look : MethodName := ⟨R_Model, "look", "(I)I"⟩
abbrev b_Model_act : ByteArray := prog_8_method_32_code
def y_Model_act : MethodName := ⟨R_Model, "act", "(IZ)I"⟩
abbrev b_Model_cell : ByteArray := prog_8_method_33_code
def y_Model_cell : MethodName := ⟨R_Model, "cell", "(I)I"⟩
end
section
/-! What the fields and calls of Listing, Automaton, Run, Weaver stand on. -/
set_option maxRecDepth 20000 in
theorem fw_Automaton_9 : fw classes R_Automaton 9 1 0 R_Automaton F_Automaton 4 := ⟨rfl, by decide, uw_Automaton, tg_mem 95 rfl rfl⟩
set_option maxRecDepth 20000 in
theorem fw_Automaton_15 : fw classes R_Automaton 15 1 1 R_Automaton F_Automaton 4 := ⟨rfl, by decide, uw_Automaton, tg_mem 97 rfl rfl⟩
set_option maxRecDepth 20000 in
theorem fw_Automaton_18 : fw classes R_Automaton 18 1 2 R_Automaton F_Automaton 4 := ⟨rfl, by decide, uw_Automaton, tg_mem 99 rfl rfl⟩
set_option maxRecDepth 20000 in
theorem fw_Automaton_25 : fw classes R_Automaton 25 1 3 R_Automaton F_Automaton 4 := ⟨rfl, by decide, uw_Automaton, tg_mem 102 rfl rfl⟩
set_option maxRecDepth 20000 in
theorem fw_Listing_7 : fw classes R_Listing 7 0 0 R_Listing F_Listing 3 := ⟨rfl, by decide, uw_Listing, tg_mem 63 rfl rfl⟩
set_option maxRecDepth 20000 in
theorem fw_Listing_13 : fw classes R_Listing 13 0 1 R_Listing F_Listing 3 := ⟨rfl, by decide, uw_Listing, tg_mem 68 rfl rfl⟩
set_option maxRecDepth 20000 in
theorem fw_Listing_16 : fw classes R_Listing 16 0 2 R_Listing F_Listing 3 := ⟨rfl, by decide, uw_Listing, tg_mem 73 rfl rfl⟩
set_option maxRecDepth 20000 in
theorem fw_Run_9 : fw classes R_Run 9 4 0 R_Run F_Run 10 := ⟨rfl, by decide, uw_Run, tg_mem 156 rfl rfl⟩
set_option maxRecDepth 20000 in
theorem fw_Run_15 : fw classes R_Run 15 4 1 R_Run F_Run 10 := ⟨rfl, by decide, uw_Run, tg_mem 157 rfl rfl⟩
set_option maxRecDepth 20000 in
theorem fw_Run_18 : fw classes R_Run 18 4 2 R_Run F_Run 10 := ⟨rfl, by decide, uw_Run, tg_mem 159 rfl rfl⟩
set_option maxRecDepth 20000 in
theorem fw_Run_21 : fw classes R_Run 21 4 3 R_Run F_Run 10 := ⟨rfl, by decide, uw_Run, tg_mem 161 rfl rfl⟩
set_option maxRecDepth 20000 in
theorem fw_Run_24 : fw classes R_Run 24 4 5 R_Run F_Run 10 := ⟨rfl, by decide, uw_Run, tg_mem 165 rfl rfl⟩
set_option maxRecDepth 20000 in
theorem fw_Run_28 : fw classes R_Run 28 4 4 R_Run F_Run 10 := ⟨rfl, by decide, uw_Run, tg_mem 163 rfl rfl⟩
set_option maxRecDepth 20000 in
theorem fw_Run_31 : fw classes R_Run 31 4 6 R_Run F_Run 10 := ⟨rfl, by decide, uw_Run, tg_mem 167 rfl rfl⟩
set_option maxRecDepth 20000 in
theorem fw_Run_34 : fw classes R_Run 34 4 7 R_Run F_Run 10 := ⟨rfl, by decide, uw_Run, tg_mem 169 rfl rfl⟩
set_option maxRecDepth 20000 in
theorem fw_Run_37 : fw classes R_Run 37 4 8 R_Run F_Run 10 := ⟨rfl, by decide, uw_Run, tg_mem 171 rfl rfl⟩
set_option maxRecDepth 20000 in
theorem fw_Run_40 : fw classes R_Run 40 4 9 R_Run F_Run 10 := ⟨rfl, by decide, uw_Run, tg_mem 172 rfl rfl⟩
set_option maxRecDepth 20000 in
theorem fw_Run_43 : fw classes R_Run 43 0 0 R_Listing F_Listing 3 := ⟨rfl, by decide, uw_Listing, tg_mem 66 rfl rfl⟩
set_option maxRecDepth 20000 in
theorem fw_Run_48 : fw classes R_Run 48 0 1 R_Listing F_Listing 3 := ⟨rfl, by decide, uw_Listing, tg_mem 71 rfl rfl⟩
set_option maxRecDepth 20000 in
theorem fw_Run_72 : fw classes R_Run 72 1 2 R_Automaton F_Automaton 4 := ⟨rfl, by decide, uw_Automaton, tg_mem 100 rfl rfl⟩
set_option maxRecDepth 20000 in
theorem fw_Weaver_14 : fw classes R_Weaver 14 3 0 R_Weaver F_Weaver 2 := ⟨rfl, by decide, uw_Weaver, tg_mem 142 rfl rfl⟩
set_option maxRecDepth 20000 in
theorem fw_Weaver_20 : fw classes R_Weaver 20 3 1 R_Weaver F_Weaver 2 := ⟨rfl, by decide, uw_Weaver, tg_mem 144 rfl rfl⟩
set_option maxRecDepth 20000 in
theorem fw_Weaver_28 : fw classes R_Weaver 28 0 2 R_Listing F_Listing 3 := ⟨rfl, by decide, uw_Listing, tg_mem 75 rfl rfl⟩
set_option maxRecDepth 20000 in
theorem fw_Weaver_32 : fw classes R_Weaver 32 0 0 R_Listing F_Listing 3 := ⟨rfl, by decide, uw_Listing, tg_mem 64 rfl rfl⟩
set_option maxRecDepth 20000 in
theorem fw_Weaver_35 : fw classes R_Weaver 35 0 1 R_Listing F_Listing 3 := ⟨rfl, by decide, uw_Listing, tg_mem 69 rfl rfl⟩
set_option maxRecDepth 20000 in
theorem fw_Weaver_60 : fw classes R_Weaver 60 1 3 R_Automaton F_Automaton 4 := ⟨rfl, by decide, uw_Automaton, tg_mem 103 rfl rfl⟩
set_option maxRecDepth 20000 in
theorem fw_Weaver_71 : fw classes R_Weaver 71 1 0 R_Automaton F_Automaton 4 := ⟨rfl, by decide, uw_Automaton, tg_mem 96 rfl rfl⟩
set_option maxRecDepth 20000 in
theorem fw_Weaver_74 : fw classes R_Weaver 74 1 1 R_Automaton F_Automaton 4 := ⟨rfl, by decide, uw_Automaton, tg_mem 98 rfl rfl⟩
set_option maxRecDepth 20000 in
theorem fw_Weaver_81 : fw classes R_Weaver 81 1 2 R_Automaton F_Automaton 4 := ⟨rfl, by decide, uw_Automaton, tg_mem 101 rfl rfl⟩
set_option maxRecDepth 20000 in
theorem ob_Automaton_3 : ckO R_Automaton 3 := ⟨tg_mem 90 rfl rfl, tg_mem 55 rfl rfl, tg_mem 56 rfl rfl⟩
set_option maxRecDepth 20000 in
theorem ck_Automaton_21 : ckV R_Automaton 21 y_Automaton_reset b_Automaton_reset 3 none 1 := ⟨tg_mem 91 rfl rfl, tg_mem 92 rfl rfl, tg_mem 93 rfl rfl, tg_mem 38 rfl rfl, tg_mem 94 rfl rfl, ⟨by decide, by decide, by decide +kernel⟩⟩
set_option maxRecDepth 20000 in
theorem ck_Automaton_29 : ckV R_Automaton 29 y_Automaton_hasRule b_Automaton_hasRule 2 (some (Jvm.ClassFile.FieldType.boolean)) 1 := ⟨tg_mem 449 rfl rfl, tg_mem 450 rfl rfl, tg_mem 451 rfl rfl, tg_mem 38 rfl rfl, tg_mem 452 rfl rfl, ⟨by decide, by decide, by decide +kernel⟩⟩
set_option maxRecDepth 20000 in
theorem ck_Automaton_33 : ckS R_Automaton 33 y_Automaton_place b_Automaton_place 2 (some (Jvm.ClassFile.FieldType.int)) 2 := ⟨tg_mem 448 rfl rfl, tg_mem 387 rfl rfl, tg_mem 38 rfl rfl, tg_mem 388 rfl rfl, ⟨by decide, by decide, by decide +kernel⟩⟩
set_option maxRecDepth 20000 in
theorem ob_Listing_1 : ckO R_Listing 1 := ⟨tg_mem 62 rfl rfl, tg_mem 55 rfl rfl, tg_mem 56 rfl rfl⟩
set_option maxRecDepth 20000 in
theorem ob_Run_3 : ckO R_Run 3 := ⟨tg_mem 155 rfl rfl, tg_mem 55 rfl rfl, tg_mem 56 rfl rfl⟩
set_option maxRecDepth 20000 in
theorem ck_Run_51 : ckV R_Run 51 y_Run_pop b_Run_pop 1 (some (Jvm.ClassFile.FieldType.int)) 0 := ⟨tg_mem 505 rfl rfl, tg_mem 507 rfl rfl, tg_mem 14 rfl rfl, tg_mem 41 rfl rfl, tg_mem 508 rfl rfl, ⟨by decide, by decide, by decide +kernel⟩⟩
set_option maxRecDepth 20000 in
theorem ck_Run_55 : ckV R_Run 55 y_Run_tryAct b_Run_tryAct 5 none 2 := ⟨tg_mem 509 rfl rfl, tg_mem 511 rfl rfl, tg_mem 15 rfl rfl, tg_mem 41 rfl rfl, tg_mem 512 rfl rfl, ⟨by decide, by decide, by decide +kernel⟩⟩
set_option maxRecDepth 20000 in
theorem ck_Run_59 : ckV R_Run 59 y_Run_work b_Run_work 3 none 2 := ⟨tg_mem 518 rfl rfl, tg_mem 520 rfl rfl, tg_mem 16 rfl rfl, tg_mem 41 rfl rfl, tg_mem 521 rfl rfl, ⟨by decide, by decide, by decide +kernel⟩⟩
set_option maxRecDepth 20000 in
theorem ck_Run_63 : ckS R_Run 63 y_Automaton_place b_Automaton_place 2 (some (Jvm.ClassFile.FieldType.int)) 2 := ⟨tg_mem 513 rfl rfl, tg_mem 387 rfl rfl, tg_mem 38 rfl rfl, tg_mem 388 rfl rfl, ⟨by decide, by decide, by decide +kernel⟩⟩
set_option maxRecDepth 20000 in
theorem ck_Run_68 : ckV R_Run 68 y_Automaton_allows b_Automaton_allows 3 (some (Jvm.ClassFile.FieldType.boolean)) 2 := ⟨tg_mem 514 rfl rfl, tg_mem 515 rfl rfl, tg_mem 516 rfl rfl, tg_mem 38 rfl rfl, tg_mem 517 rfl rfl, ⟨by decide, by decide, by decide +kernel⟩⟩
set_option maxRecDepth 20000 in
theorem ck_Run_75 : ckV R_Run 75 y_Run_push b_Run_push 2 none 1 := ⟨tg_mem 522 rfl rfl, tg_mem 524 rfl rfl, tg_mem 17 rfl rfl, tg_mem 41 rfl rfl, tg_mem 525 rfl rfl, ⟨by decide, by decide, by decide +kernel⟩⟩
set_option maxRecDepth 20000 in
theorem ck_Run_79 : ckV R_Run 79 y_Run_workOnTwo b_Run_workOnTwo 4 none 1 := ⟨tg_mem 526 rfl rfl, tg_mem 528 rfl rfl, tg_mem 18 rfl rfl, tg_mem 41 rfl rfl, tg_mem 529 rfl rfl, ⟨by decide, by decide, by decide +kernel⟩⟩
set_option maxRecDepth 20000 in
theorem ob_Weaver_3 : ckO R_Weaver 3 := ⟨tg_mem 139 rfl rfl, tg_mem 55 rfl rfl, tg_mem 56 rfl rfl⟩
set_option maxRecDepth 20000 in
theorem ck_Weaver_11 : ckI R_Weaver 11 y_Listing_init b_Listing_init 2 1 := ⟨tg_mem 141 rfl rfl, tg_mem 60 rfl rfl, tg_mem 37 rfl rfl, tg_mem 61 rfl rfl, rfl, ⟨by decide, by decide, by decide +kernel⟩⟩
set_option maxRecDepth 20000 in
theorem ck_Weaver_24 : ckV R_Weaver 24 y_Weaver_findFirsts b_Weaver_findFirsts 5 none 2 := ⟨tg_mem 437 rfl rfl, tg_mem 439 rfl rfl, tg_mem 9 rfl rfl, tg_mem 40 rfl rfl, tg_mem 440 rfl rfl, ⟨by decide, by decide, by decide +kernel⟩⟩
set_option maxRecDepth 20000 in
theorem ck_Weaver_38 : ckV R_Weaver 38 y_Weaver_appendGuard b_Weaver_appendGuard 6 none 2 := ⟨tg_mem 453 rfl rfl, tg_mem 455 rfl rfl, tg_mem 10 rfl rfl, tg_mem 40 rfl rfl, tg_mem 456 rfl rfl, ⟨by decide, by decide, by decide +kernel⟩⟩
set_option maxRecDepth 20000 in
theorem ck_Weaver_46 : ckV R_Weaver 46 y_Listing_append b_Listing_append 3 none 2 := ⟨tg_mem 463 rfl rfl, tg_mem 360 rfl rfl, tg_mem 361 rfl rfl, tg_mem 37 rfl rfl, tg_mem 362 rfl rfl, ⟨by decide, by decide, by decide +kernel⟩⟩
set_option maxRecDepth 20000 in
theorem ck_Weaver_50 : ckS R_Weaver 50 y_Weaver_guardLength b_Weaver_guardLength 2 (some (Jvm.ClassFile.FieldType.int)) 2 := ⟨tg_mem 441 rfl rfl, tg_mem 442 rfl rfl, tg_mem 40 rfl rfl, tg_mem 443 rfl rfl, ⟨by decide, by decide, by decide +kernel⟩⟩
set_option maxRecDepth 20000 in
theorem ck_Weaver_54 : ckV R_Weaver 54 y_Automaton_countRules b_Automaton_countRules 4 (some (Jvm.ClassFile.FieldType.int)) 1 := ⟨tg_mem 444 rfl rfl, tg_mem 445 rfl rfl, tg_mem 446 rfl rfl, tg_mem 38 rfl rfl, tg_mem 447 rfl rfl, ⟨by decide, by decide, by decide +kernel⟩⟩
set_option maxRecDepth 20000 in
theorem ck_Weaver_61 : ckS R_Weaver 61 y_Automaton_place b_Automaton_place 2 (some (Jvm.ClassFile.FieldType.int)) 2 := ⟨tg_mem 457 rfl rfl, tg_mem 387 rfl rfl, tg_mem 38 rfl rfl, tg_mem 388 rfl rfl, ⟨by decide, by decide, by decide +kernel⟩⟩
set_option maxRecDepth 20000 in
theorem ck_Weaver_65 : ckV R_Weaver 65 y_Automaton_hasRule b_Automaton_hasRule 2 (some (Jvm.ClassFile.FieldType.boolean)) 1 := ⟨tg_mem 458 rfl rfl, tg_mem 450 rfl rfl, tg_mem 451 rfl rfl, tg_mem 38 rfl rfl, tg_mem 452 rfl rfl, ⟨by decide, by decide, by decide +kernel⟩⟩
set_option maxRecDepth 20000 in
theorem ck_Weaver_68 : ckV R_Weaver 68 y_Weaver_appendStateCheck b_Weaver_appendStateCheck 3 none 2 := ⟨tg_mem 459 rfl rfl, tg_mem 461 rfl rfl, tg_mem 11 rfl rfl, tg_mem 40 rfl rfl, tg_mem 462 rfl rfl, ⟨by decide, by decide, by decide +kernel⟩⟩
set_option maxRecDepth 20000 in
theorem ck_Weaver_77 : ckV R_Weaver 77 y_Weaver_appendRangeCheck b_Weaver_appendRangeCheck 4 none 3 := ⟨tg_mem 464 rfl rfl, tg_mem 466 rfl rfl, tg_mem 12 rfl rfl, tg_mem 40 rfl rfl, tg_mem 467 rfl rfl, ⟨by decide, by decide, by decide +kernel⟩⟩
set_option maxRecDepth 20000 in
theorem ck_Weaver_84 : ckV R_Weaver 84 y_Weaver_appendMove b_Weaver_appendMove 3 none 2 := ⟨tg_mem 468 rfl rfl, tg_mem 470 rfl rfl, tg_mem 13 rfl rfl, tg_mem 40 rfl rfl, tg_mem 471 rfl rfl, ⟨by decide, by decide, by decide +kernel⟩⟩
end
section
/-! Decode rows of Listing, Automaton. -/
theorem d_Listing_append_0 : decode b_Listing_append 0 = .ok (.aload_n 0, 1) := by decide +kernel
theorem d_Listing_append_1 : decode b_Listing_append 1 = .ok (.getfield 16, 3) := by decide +kernel
theorem d_Listing_append_4 : decode b_Listing_append 4 = .ok (.aload_n 0, 1) := by decide +kernel
theorem d_Listing_append_5 : decode b_Listing_append 5 = .ok (.getfield 7, 3) := by decide +kernel
theorem d_Listing_append_8 : decode b_Listing_append 8 = .ok (.arraylength, 1) := by decide +kernel
theorem d_Listing_append_9 : decode b_Listing_append 9 = .ok (.if_icmp .ge 33, 3) := by decide +kernel
theorem d_Listing_append_12 : decode b_Listing_append 12 = .ok (.aload_n 0, 1) := by decide +kernel
theorem d_Listing_append_13 : decode b_Listing_append 13 = .ok (.getfield 7, 3) := by decide +kernel
theorem d_Listing_append_16 : decode b_Listing_append 16 = .ok (.aload_n 0, 1) := by decide +kernel
theorem d_Listing_append_17 : decode b_Listing_append 17 = .ok (.getfield 16, 3) := by decide +kernel
theorem d_Listing_append_20 : decode b_Listing_append 20 = .ok (.iload_n 1, 1) := by decide +kernel
theorem d_Listing_append_21 : decode b_Listing_append 21 = .ok (.iastore, 1) := by decide +kernel
theorem d_Listing_append_22 : decode b_Listing_append 22 = .ok (.aload_n 0, 1) := by decide +kernel
theorem d_Listing_append_23 : decode b_Listing_append 23 = .ok (.getfield 13, 3) := by decide +kernel
theorem d_Listing_append_26 : decode b_Listing_append 26 = .ok (.aload_n 0, 1) := by decide +kernel
theorem d_Listing_append_27 : decode b_Listing_append 27 = .ok (.getfield 16, 3) := by decide +kernel
theorem d_Listing_append_30 : decode b_Listing_append 30 = .ok (.iload_n 2, 1) := by decide +kernel
theorem d_Listing_append_31 : decode b_Listing_append 31 = .ok (.iastore, 1) := by decide +kernel
theorem d_Listing_append_32 : decode b_Listing_append 32 = .ok (.aload_n 0, 1) := by decide +kernel
theorem d_Listing_append_33 : decode b_Listing_append 33 = .ok (.dup, 1) := by decide +kernel
theorem d_Listing_append_34 : decode b_Listing_append 34 = .ok (.getfield 16, 3) := by decide +kernel
theorem d_Listing_append_37 : decode b_Listing_append 37 = .ok (.iconst 1, 1) := by decide +kernel
theorem d_Listing_append_38 : decode b_Listing_append 38 = .ok (.iadd, 1) := by decide +kernel
theorem d_Listing_append_39 : decode b_Listing_append 39 = .ok (.putfield 16, 3) := by decide +kernel
theorem d_Listing_append_42 : decode b_Listing_append 42 = .ok (.return_, 1) := by decide +kernel
theorem d_Automaton_place_0 : decode b_Automaton_place 0 = .ok (.iload_n 0, 1) := by decide +kernel
theorem d_Automaton_place_1 : decode b_Automaton_place 1 = .ok (.bipush 8, 2) := by decide +kernel
theorem d_Automaton_place_3 : decode b_Automaton_place 3 = .ok (.imul, 1) := by decide +kernel
theorem d_Automaton_place_4 : decode b_Automaton_place 4 = .ok (.iload_n 1, 1) := by decide +kernel
theorem d_Automaton_place_5 : decode b_Automaton_place 5 = .ok (.iadd, 1) := by decide +kernel
theorem d_Automaton_place_6 : decode b_Automaton_place 6 = .ok (.ireturn, 1) := by decide +kernel
theorem d_Automaton_reset_0 : decode b_Automaton_reset 0 = .ok (.aload_n 0, 1) := by decide +kernel
theorem d_Automaton_reset_1 : decode b_Automaton_reset 1 = .ok (.iload_n 1, 1) := by decide +kernel
theorem d_Automaton_reset_2 : decode b_Automaton_reset 2 = .ok (.putfield 25, 3) := by decide +kernel
theorem d_Automaton_reset_5 : decode b_Automaton_reset 5 = .ok (.iconst 0, 1) := by decide +kernel
theorem d_Automaton_reset_6 : decode b_Automaton_reset 6 = .ok (.istore_n 2, 1) := by decide +kernel
theorem d_Automaton_reset_7 : decode b_Automaton_reset 7 = .ok (.iload_n 2, 1) := by decide +kernel
theorem d_Automaton_reset_8 : decode b_Automaton_reset 8 = .ok (.aload_n 0, 1) := by decide +kernel
theorem d_Automaton_reset_9 : decode b_Automaton_reset 9 = .ok (.getfield 18, 3) := by decide +kernel
theorem d_Automaton_reset_12 : decode b_Automaton_reset 12 = .ok (.arraylength, 1) := by decide +kernel
theorem d_Automaton_reset_13 : decode b_Automaton_reset 13 = .ok (.if_icmp .ge 16, 3) := by decide +kernel
theorem d_Automaton_reset_16 : decode b_Automaton_reset 16 = .ok (.aload_n 0, 1) := by decide +kernel
theorem d_Automaton_reset_17 : decode b_Automaton_reset 17 = .ok (.getfield 18, 3) := by decide +kernel
theorem d_Automaton_reset_20 : decode b_Automaton_reset 20 = .ok (.iload_n 2, 1) := by decide +kernel
theorem d_Automaton_reset_21 : decode b_Automaton_reset 21 = .ok (.iconst (-1), 1) := by decide +kernel
theorem d_Automaton_reset_22 : decode b_Automaton_reset 22 = .ok (.iastore, 1) := by decide +kernel
theorem d_Automaton_reset_23 : decode b_Automaton_reset 23 = .ok (.iinc 2 1, 3) := by decide +kernel
theorem d_Automaton_reset_26 : decode b_Automaton_reset 26 = .ok (.goto (-19), 3) := by decide +kernel
theorem d_Automaton_reset_29 : decode b_Automaton_reset 29 = .ok (.return_, 1) := by decide +kernel
theorem d_Automaton_hasState_0 : decode b_Automaton_hasState 0 = .ok (.iload_n 1, 1) := by decide +kernel
theorem d_Automaton_hasState_1 : decode b_Automaton_hasState 1 = .ok (.ifCond .lt 15, 3) := by decide +kernel
theorem d_Automaton_hasState_4 : decode b_Automaton_hasState 4 = .ok (.iload_n 1, 1) := by decide +kernel
theorem d_Automaton_hasState_5 : decode b_Automaton_hasState 5 = .ok (.aload_n 0, 1) := by decide +kernel
theorem d_Automaton_hasState_6 : decode b_Automaton_hasState 6 = .ok (.getfield 25, 3) := by decide +kernel
theorem d_Automaton_hasState_9 : decode b_Automaton_hasState 9 = .ok (.if_icmp .ge 7, 3) := by decide +kernel
theorem d_Automaton_hasState_12 : decode b_Automaton_hasState 12 = .ok (.iconst 1, 1) := by decide +kernel
theorem d_Automaton_hasState_13 : decode b_Automaton_hasState 13 = .ok (.goto 4, 3) := by decide +kernel
theorem d_Automaton_hasState_16 : decode b_Automaton_hasState 16 = .ok (.iconst 0, 1) := by decide +kernel
theorem d_Automaton_hasState_17 : decode b_Automaton_hasState 17 = .ok (.ireturn, 1) := by decide +kernel
theorem d_Automaton_setRule_0 : decode b_Automaton_setRule 0 = .ok (.aload_n 0, 1) := by decide +kernel
theorem d_Automaton_setRule_1 : decode b_Automaton_setRule 1 = .ok (.getfield 9, 3) := by decide +kernel
theorem d_Automaton_setRule_4 : decode b_Automaton_setRule 4 = .ok (.iload_n 1, 1) := by decide +kernel
theorem d_Automaton_setRule_5 : decode b_Automaton_setRule 5 = .ok (.iload_n 2, 1) := by decide +kernel
theorem d_Automaton_setRule_6 : decode b_Automaton_setRule 6 = .ok (.iastore, 1) := by decide +kernel
theorem d_Automaton_setRule_7 : decode b_Automaton_setRule 7 = .ok (.aload_n 0, 1) := by decide +kernel
theorem d_Automaton_setRule_8 : decode b_Automaton_setRule 8 = .ok (.getfield 15, 3) := by decide +kernel
theorem d_Automaton_setRule_11 : decode b_Automaton_setRule 11 = .ok (.iload_n 1, 1) := by decide +kernel
theorem d_Automaton_setRule_12 : decode b_Automaton_setRule 12 = .ok (.iload_n 3, 1) := by decide +kernel
theorem d_Automaton_setRule_13 : decode b_Automaton_setRule 13 = .ok (.iastore, 1) := by decide +kernel
theorem d_Automaton_setRule_14 : decode b_Automaton_setRule 14 = .ok (.aload_n 0, 1) := by decide +kernel
theorem d_Automaton_setRule_15 : decode b_Automaton_setRule 15 = .ok (.getfield 18, 3) := by decide +kernel
theorem d_Automaton_setRule_18 : decode b_Automaton_setRule 18 = .ok (.iload_n 1, 1) := by decide +kernel
theorem d_Automaton_setRule_19 : decode b_Automaton_setRule 19 = .ok (.iload 4, 2) := by decide +kernel
theorem d_Automaton_setRule_21 : decode b_Automaton_setRule 21 = .ok (.iastore, 1) := by decide +kernel
theorem d_Automaton_setRule_22 : decode b_Automaton_setRule 22 = .ok (.return_, 1) := by decide +kernel
theorem d_Automaton_hasRule_0 : decode b_Automaton_hasRule 0 = .ok (.aload_n 0, 1) := by decide +kernel
theorem d_Automaton_hasRule_1 : decode b_Automaton_hasRule 1 = .ok (.getfield 18, 3) := by decide +kernel
theorem d_Automaton_hasRule_4 : decode b_Automaton_hasRule 4 = .ok (.iload_n 1, 1) := by decide +kernel
theorem d_Automaton_hasRule_5 : decode b_Automaton_hasRule 5 = .ok (.iaload, 1) := by decide +kernel
theorem d_Automaton_hasRule_6 : decode b_Automaton_hasRule 6 = .ok (.iconst (-1), 1) := by decide +kernel
theorem d_Automaton_hasRule_7 : decode b_Automaton_hasRule 7 = .ok (.if_icmp .eq 7, 3) := by decide +kernel
theorem d_Automaton_hasRule_10 : decode b_Automaton_hasRule 10 = .ok (.iconst 1, 1) := by decide +kernel
theorem d_Automaton_hasRule_11 : decode b_Automaton_hasRule 11 = .ok (.goto 4, 3) := by decide +kernel
theorem d_Automaton_hasRule_14 : decode b_Automaton_hasRule 14 = .ok (.iconst 0, 1) := by decide +kernel
theorem d_Automaton_hasRule_15 : decode b_Automaton_hasRule 15 = .ok (.ireturn, 1) := by decide +kernel
theorem d_Automaton_allows_0 : decode b_Automaton_allows 0 = .ok (.aload_n 0, 1) := by decide +kernel
theorem d_Automaton_allows_1 : decode b_Automaton_allows 1 = .ok (.iload_n 1, 1) := by decide +kernel
theorem d_Automaton_allows_2 : decode b_Automaton_allows 2 = .ok (.invokevirtual 29, 3) := by decide +kernel
theorem d_Automaton_allows_5 : decode b_Automaton_allows 5 = .ok (.ifCond .eq 27, 3) := by decide +kernel
theorem d_Automaton_allows_8 : decode b_Automaton_allows 8 = .ok (.aload_n 0, 1) := by decide +kernel
theorem d_Automaton_allows_9 : decode b_Automaton_allows 9 = .ok (.getfield 9, 3) := by decide +kernel
theorem d_Automaton_allows_12 : decode b_Automaton_allows 12 = .ok (.iload_n 1, 1) := by decide +kernel
theorem d_Automaton_allows_13 : decode b_Automaton_allows 13 = .ok (.iaload, 1) := by decide +kernel
theorem d_Automaton_allows_14 : decode b_Automaton_allows 14 = .ok (.iload_n 2, 1) := by decide +kernel
theorem d_Automaton_allows_15 : decode b_Automaton_allows 15 = .ok (.if_icmp .gt 17, 3) := by decide +kernel
theorem d_Automaton_allows_18 : decode b_Automaton_allows 18 = .ok (.iload_n 2, 1) := by decide +kernel
theorem d_Automaton_allows_19 : decode b_Automaton_allows 19 = .ok (.aload_n 0, 1) := by decide +kernel
theorem d_Automaton_allows_20 : decode b_Automaton_allows 20 = .ok (.getfield 15, 3) := by decide +kernel
theorem d_Automaton_allows_23 : decode b_Automaton_allows 23 = .ok (.iload_n 1, 1) := by decide +kernel
theorem d_Automaton_allows_24 : decode b_Automaton_allows 24 = .ok (.iaload, 1) := by decide +kernel
theorem d_Automaton_allows_25 : decode b_Automaton_allows 25 = .ok (.if_icmp .gt 7, 3) := by decide +kernel
theorem d_Automaton_allows_28 : decode b_Automaton_allows 28 = .ok (.iconst 1, 1) := by decide +kernel
theorem d_Automaton_allows_29 : decode b_Automaton_allows 29 = .ok (.goto 4, 3) := by decide +kernel
theorem d_Automaton_allows_32 : decode b_Automaton_allows 32 = .ok (.iconst 0, 1) := by decide +kernel
theorem d_Automaton_allows_33 : decode b_Automaton_allows 33 = .ok (.ireturn, 1) := by decide +kernel
theorem d_Automaton_countRules_0 : decode b_Automaton_countRules 0 = .ok (.iconst 0, 1) := by decide +kernel
theorem d_Automaton_countRules_1 : decode b_Automaton_countRules 1 = .ok (.istore_n 2, 1) := by decide +kernel
theorem d_Automaton_countRules_2 : decode b_Automaton_countRules 2 = .ok (.iconst 0, 1) := by decide +kernel
theorem d_Automaton_countRules_3 : decode b_Automaton_countRules 3 = .ok (.istore_n 3, 1) := by decide +kernel
theorem d_Automaton_countRules_4 : decode b_Automaton_countRules 4 = .ok (.iload_n 3, 1) := by decide +kernel
theorem d_Automaton_countRules_5 : decode b_Automaton_countRules 5 = .ok (.aload_n 0, 1) := by decide +kernel
theorem d_Automaton_countRules_6 : decode b_Automaton_countRules 6 = .ok (.getfield 25, 3) := by decide +kernel
theorem d_Automaton_countRules_9 : decode b_Automaton_countRules 9 = .ok (.if_icmp .ge 24, 3) := by decide +kernel
theorem d_Automaton_countRules_12 : decode b_Automaton_countRules 12 = .ok (.aload_n 0, 1) := by decide +kernel
theorem d_Automaton_countRules_13 : decode b_Automaton_countRules 13 = .ok (.iload_n 3, 1) := by decide +kernel
theorem d_Automaton_countRules_14 : decode b_Automaton_countRules 14 = .ok (.iload_n 1, 1) := by decide +kernel
theorem d_Automaton_countRules_15 : decode b_Automaton_countRules 15 = .ok (.invokestatic 33, 3) := by decide +kernel
theorem d_Automaton_countRules_18 : decode b_Automaton_countRules 18 = .ok (.invokevirtual 29, 3) := by decide +kernel
theorem d_Automaton_countRules_21 : decode b_Automaton_countRules 21 = .ok (.ifCond .eq 6, 3) := by decide +kernel
theorem d_Automaton_countRules_24 : decode b_Automaton_countRules 24 = .ok (.iinc 2 1, 3) := by decide +kernel
theorem d_Automaton_countRules_27 : decode b_Automaton_countRules 27 = .ok (.iinc 3 1, 3) := by decide +kernel
theorem d_Automaton_countRules_30 : decode b_Automaton_countRules 30 = .ok (.goto (-26), 3) := by decide +kernel
theorem d_Automaton_countRules_33 : decode b_Automaton_countRules 33 = .ok (.iload_n 2, 1) := by decide +kernel
theorem d_Automaton_countRules_34 : decode b_Automaton_countRules 34 = .ok (.ireturn, 1) := by decide +kernel
end
section
set_option maxHeartbeats 4000000 in
set_option maxRecDepth 100000 in
theorem c_Listing_append (l : Launch) (D : va_G) (cI cZ cL : ClassId) (h a1 a2 N z : Nat) (f g : Nat → Int32) (o k : Int32) (hN : N < 2 ^ 31) (hz : z < N) : pl_V l y_Listing_append b_Listing_append 3 ({ frames := 0, cells := 0, slots := 0, locals := 0 } : Room) pl_E0 D classes (TY cI cZ cL) [.ref h, .int o, .int k] [(h, .inr (0, [.ref a1, .ref a2, .int (nI z)])), (a1, .inl (cI, N, .inl f)), (a2, .inl (cI, N, .inl g))] (fun _ : Unit => True) (fun (_ : Unit) => [(h, .inr (0, [.ref a1, .ref a2, .int (nI (z + 1))])), (a1, .inl (cI, N, .inl (upd f z o))), (a2, .inl (cI, N, .inl (upd g z k)))]) := by
  refine pl_startV (by decide) (Nat.le_of_ble_eq_true rfl) ?_
  intro p e s m args below meth c A ls X hr hlk hin hK hP hD hS hA hE hl
  have X : CallFix p m c b_Listing_append 3 s args TG R_Listing := X
  have hx := X.1
  have hb := X.2.1
  have hl : lv_has ls 3 [(0, .ref h), (1, .int o), (2, .int k)] := hl
  refine lv_aload_n hx hb d_Listing_append_0 rfl (lv_at hl 0 rfl) ?_
  refine pl_get X fw_Listing_16 hK hP 0 rfl (v := .int (nI z)) rfl d_Listing_append_1 ?_
  refine lv_aload_n hx hb d_Listing_append_4 rfl (lv_at hl 0 rfl) ?_
  refine pl_get X fw_Listing_7 hK hP 0 rfl (v := .ref a1) rfl d_Listing_append_5 ?_
  refine pl_alen X hK hP 1 0 rfl rfl (L := N) rfl d_Listing_append_8 ?_
  refine pl_icmp_ge X (by omega) (by omega) d_Listing_append_9 rfl (fun g9 => ?_) (fun g9 => ?_)
  · skip
    exact absurd g9 (by omega)
  · skip
    refine lv_aload_n hx hb d_Listing_append_12 rfl (lv_at hl 0 rfl) ?_
    refine pl_get X fw_Listing_7 hK hP 0 rfl (v := .ref a1) rfl d_Listing_append_13 ?_
    refine lv_aload_n hx hb d_Listing_append_16 rfl (lv_at hl 0 rfl) ?_
    refine pl_get X fw_Listing_16 hK hP 0 rfl (v := .int (nI z)) rfl d_Listing_append_17 ?_
    refine lv_iload_n hx hb d_Listing_append_20 rfl (lv_at hl 1 rfl) ?_
    refine pl_iast X hK hP hD hS 1 0 rfl rfl z (by omega) (by omega) d_Listing_append_21 (ws' := [(h, .inr (0, [.ref a1, .ref a2, .int (nI z)])), (a1, .inl (cI, N, .inl (upd f z o))), (a2, .inl (cI, N, .inl g))]) rfl (fun H locs hP hD hS => ?_)
    refine lv_aload_n hx hb d_Listing_append_22 rfl (lv_at hl 0 rfl) ?_
    refine pl_get X fw_Listing_13 hK hP 0 rfl (v := .ref a2) rfl d_Listing_append_23 ?_
    refine lv_aload_n hx hb d_Listing_append_26 rfl (lv_at hl 0 rfl) ?_
    refine pl_get X fw_Listing_16 hK hP 0 rfl (v := .int (nI z)) rfl d_Listing_append_27 ?_
    refine lv_iload_n hx hb d_Listing_append_30 rfl (lv_at hl 2 rfl) ?_
    refine pl_iast X hK hP hD hS 2 0 rfl rfl z (by omega) (by omega) d_Listing_append_31 (ws' := [(h, .inr (0, [.ref a1, .ref a2, .int (nI z)])), (a1, .inl (cI, N, .inl (upd f z o))), (a2, .inl (cI, N, .inl (upd g z k)))]) rfl (fun H locs hP hD hS => ?_)
    refine lv_aload_n hx hb d_Listing_append_32 rfl (lv_at hl 0 rfl) ?_
    refine lv_dup hx hb d_Listing_append_33 rfl ?_
    refine pl_get X fw_Listing_16 hK hP 0 rfl (v := .int (nI z)) rfl d_Listing_append_34 ?_
    refine lv_iconst (v := nI 1) hx hb d_Listing_append_37 (by decide) ?_
    refine pl_iadd X d_Listing_append_38 (z := nI (z + 1)) (nI_add _ _) ?_
    refine pl_put X fw_Listing_16 fp_Listing rfl hK hP hD hS 0 rfl (v := .int (nI (z + 1))) rfl rfl (Nat.le_of_ble_eq_true rfl) d_Listing_append_39 (ws' := [(h, .inr (0, [.ref a1, .ref a2, .int (nI (z + 1))])), (a1, .inl (cI, N, .inl (upd f z o))), (a2, .inl (cI, N, .inl (upd g z k)))]) rfl (fun H locs hP hD hS => ?_)
    exact pl_vret X hr hlk hK () trivial hP hD hS d_Listing_append_42

set_option maxHeartbeats 4000000 in
set_option maxRecDepth 100000 in
theorem c_Automaton_place (l : Launch) (D : va_G) (cI cZ cL : ClassId) (q t : Nat)  : pl_I l y_Automaton_place b_Automaton_place 2 .int ({ frames := 0, cells := 0, slots := 0, locals := 0 } : Room) pl_E0 D classes (TY cI cZ cL) [.int (nI q), .int (nI t)] [] (fun (r : Int32) (_ : Unit) => r = nI (q * 8 + t)) (fun (_ : Unit) => []) := by
  refine pl_startI (by decide) (Nat.le_of_ble_eq_true rfl) ?_
  intro p e s m args below meth c A ls X hr hlk hin hK hP hD hS hA hE hl
  have X : CallFix p m c b_Automaton_place 2 s args TG R_Automaton := X
  have hx := X.1
  have hb := X.2.1
  have hl : lv_has ls 2 [(0, .int (nI q)), (1, .int (nI t))] := hl
  refine lv_iload_n hx hb d_Automaton_place_0 rfl (lv_at hl 0 rfl) ?_
  refine lv_bipush (v := nI 8) hx hb d_Automaton_place_1 (by decide) ?_
  refine pl_imul X d_Automaton_place_3 (z := nI (q * 8)) (pk_mul _ _) ?_
  refine lv_iload_n hx hb d_Automaton_place_4 rfl (lv_at hl 1 rfl) ?_
  refine pl_iadd X d_Automaton_place_5 (z := nI (q * 8 + t)) (nI_add _ _) ?_
  exact pl_iret X hr hlk hK rfl () rfl hP hD hS d_Automaton_place_6

set_option maxHeartbeats 4000000 in
set_option maxRecDepth 100000 in
theorem c_Automaton_reset (l : Launch) (D : va_G) (cI cZ cL : ClassId) (h a1 a2 a3 n : Nat) (lo hi th : Nat → Int32) (z : Nat)  : pl_V l y_Automaton_reset b_Automaton_reset 3 ({ frames := 0, cells := 0, slots := 0, locals := 0 } : Room) pl_E0 D classes (TY cI cZ cL) [.ref h, .int (nI z)] [(h, .inr (1, [.ref a1, .ref a2, .ref a3, .int (nI n)])), (a1, .inl (cI, 32, .inl lo)), (a2, .inl (cI, 32, .inl hi)), (a3, .inl (cI, 32, .inl th))] (fun _ : Unit => True) (fun (_ : Unit) => [(h, .inr (1, [.ref a1, .ref a2, .ref a3, .int (nI z)])), (a1, .inl (cI, 32, .inl lo)), (a2, .inl (cI, 32, .inl hi)), (a3, .inl (cI, 32, .inl (fun _ => -1)))]) := by
  refine pl_startV (by decide) (Nat.le_of_ble_eq_true rfl) ?_
  intro p e s m args below meth c A ls X hr hlk hin hK hP hD hS hA hE hl
  have X : CallFix p m c b_Automaton_reset 3 s args TG R_Automaton := X
  have hx := X.1
  have hb := X.2.1
  have hl : lv_has ls 3 [(0, .ref h), (1, .int (nI z))] := hl
  refine lv_aload_n hx hb d_Automaton_reset_0 rfl (lv_at hl 0 rfl) ?_
  refine lv_iload_n hx hb d_Automaton_reset_1 rfl (lv_at hl 1 rfl) ?_
  refine pl_put X fw_Automaton_25 fp_Automaton rfl hK hP hD hS 0 rfl (v := .int (nI z)) rfl rfl (Nat.le_of_ble_eq_true rfl) d_Automaton_reset_2 (ws' := [(h, .inr (1, [.ref a1, .ref a2, .ref a3, .int (nI z)])), (a1, .inl (cI, 32, .inl lo)), (a2, .inl (cI, 32, .inl hi)), (a3, .inl (cI, 32, .inl th))]) rfl (fun H locs hP hD hS => ?_)
  refine lv_iconst (v := nI 0) hx hb d_Automaton_reset_5 (by decide) ?_
  refine lv_istore_n hx hb d_Automaton_reset_6 rfl hl (by decide) (lv' := [(2, .int (nI 0)), (0, .ref h), (1, .int (nI z))]) rfl (fun ls hl => ?_)
  have loop_7 : ∀ (k : Nat) (i : Nat) (g : Nat → Int32) (H : Heap) (locs : List Loc) (ls : Array Slot), 32 - i = k → (i ≤ 32) → (∀ j, j < i → g j = -1) → va_P D classes [(h, .inr (1, [.ref a1, .ref a2, .ref a3, .int (nI z)])), (a1, .inl (cI, 32, .inl lo)), (a2, .inl (cI, 32, .inl hi)), (a3, .inl (cI, 32, .inl g))] H → va_D A [(h, .inr (1, [.ref a1, .ref a2, .ref a3, .int (nI z)])), (a1, .inl (cI, 32, .inl lo)), (a2, .inl (cI, 32, .inl hi)), (a3, .inl (cI, 32, .inl g))] → va_S A s.heap H locs → lv_has ls 3 [(2, .int (nI i)), (0, .ref h), (1, .int (nI z))] → W p l e ({ frames := 0, cells := 0, slots := 0, locals := 0 } : Room) s m args below meth c H locs 0 0 (MQ below (va_Qv (fun _ : Unit => True) (fun u => pl_out D classes (TY cI cZ cL) A ((fun (_ : Unit) => [(h, .inr (1, [.ref a1, .ref a2, .ref a3, .int (nI z)])), (a1, .inl (cI, 32, .inl lo)), (a2, .inl (cI, 32, .inl hi)), (a3, .inl (cI, 32, .inl (fun _ => -1)))]) u)) A) args s 0 0 A) (F0 m 7 ls []) := by
    intro k
    induction k using Nat.strongRecOn with
    | _ k ih =>
    intro i g H locs ls hk hi0 hg hP hD hS hl
    refine lv_iload_n hx hb d_Automaton_reset_7 rfl (lv_at hl 0 rfl) ?_
    refine lv_aload_n hx hb d_Automaton_reset_8 rfl (lv_at hl 1 rfl) ?_
    refine pl_get X fw_Automaton_18 hK hP 0 rfl (v := .ref a3) rfl d_Automaton_reset_9 ?_
    refine pl_alen X hK hP 3 0 rfl rfl (L := 32) rfl d_Automaton_reset_12 ?_
    refine pl_icmp_ge X (by omega) (by decide) d_Automaton_reset_13 rfl (fun g13 => ?_) (fun g13 => ?_)
    · skip
      have hP := pl_ext hP 3 rfl (fun _ => -1) (fun j hj => hg j (by omega)) (ws' := [(h, .inr (1, [.ref a1, .ref a2, .ref a3, .int (nI z)])), (a1, .inl (cI, 32, .inl lo)), (a2, .inl (cI, 32, .inl hi)), (a3, .inl (cI, 32, .inl (fun _ => -1)))]) rfl
      have hD := pl_extD hD 3 rfl (.inl (cI, 32, .inl (fun _ => -1))) (ws' := [(h, .inr (1, [.ref a1, .ref a2, .ref a3, .int (nI z)])), (a1, .inl (cI, 32, .inl lo)), (a2, .inl (cI, 32, .inl hi)), (a3, .inl (cI, 32, .inl (fun _ => -1)))]) rfl
      exact pl_vret X hr hlk hK () trivial hP hD hS d_Automaton_reset_29
    · skip
      refine lv_aload_n hx hb d_Automaton_reset_16 rfl (lv_at hl 1 rfl) ?_
      refine pl_get X fw_Automaton_18 hK hP 0 rfl (v := .ref a3) rfl d_Automaton_reset_17 ?_
      refine lv_iload_n hx hb d_Automaton_reset_20 rfl (lv_at hl 0 rfl) ?_
      refine lv_iconst (v := -1) hx hb d_Automaton_reset_21 (by decide) ?_
      refine pl_iast X hK hP hD hS 3 0 rfl rfl i (by omega) (by decide) d_Automaton_reset_22 (ws' := [(h, .inr (1, [.ref a1, .ref a2, .ref a3, .int (nI z)])), (a1, .inl (cI, 32, .inl lo)), (a2, .inl (cI, 32, .inl hi)), (a3, .inl (cI, 32, .inl (upd g i (-1))))]) rfl (fun H locs hP hD hS => ?_)
      refine lv_iinc hx hb d_Automaton_reset_23 hl (k := 0) rfl (nI_inc1 _) (by decide) (lv' := [(2, .int (nI (i + 1))), (0, .ref h), (1, .int (nI z))]) rfl (fun ls hl => ?_)
      refine lv_goto hx hb d_Automaton_reset_26 rfl ?_
      exact ih _ (by omega) (i + 1) (upd g i (-1)) _ _ _ rfl (by omega) (fun j hj => by rcases Nat.lt_succ_iff_lt_or_eq.mp hj with q | q; (rw [upd_n (Nat.ne_of_lt q)]; exact hg j q); (rw [q]; exact upd_s)) hP hD hS hl
  exact loop_7 _ 0 th _ _ _ rfl (Nat.zero_le _) (fun j hj => absurd hj (Nat.not_lt_zero j)) hP hD hS hl

set_option maxHeartbeats 4000000 in
set_option maxRecDepth 100000 in
theorem c_Automaton_hasState (l : Launch) (D : va_G) (cI cZ cL : ClassId) (h a1 a2 a3 n : Nat) (lo hi th : Nat → Int32) (x : Int32) (hn : n < 2 ^ 31) : pl_I l y_Automaton_hasState b_Automaton_hasState 2 .boolean ({ frames := 0, cells := 0, slots := 0, locals := 0 } : Room) pl_E0 D classes (TY cI cZ cL) [.ref h, .int x] [(h, .inr (1, [.ref a1, .ref a2, .ref a3, .int (nI n)])), (a1, .inl (cI, 32, .inl lo)), (a2, .inl (cI, 32, .inl hi)), (a3, .inl (cI, 32, .inl th))] (fun (r : Int32) (_ : Unit) => r = bI (inB x n)) (fun (_ : Unit) => [(h, .inr (1, [.ref a1, .ref a2, .ref a3, .int (nI n)])), (a1, .inl (cI, 32, .inl lo)), (a2, .inl (cI, 32, .inl hi)), (a3, .inl (cI, 32, .inl th))]) := by
  refine pl_startI (by decide) (Nat.le_of_ble_eq_true rfl) ?_
  intro p e s m args below meth c A ls X hr hlk hin hK hP hD hS hA hE hl
  have X : CallFix p m c b_Automaton_hasState 2 s args TG R_Automaton := X
  have hx := X.1
  have hb := X.2.1
  have hl : lv_has ls 2 [(0, .ref h), (1, .int x)] := hl
  refine lv_iload_n hx hb d_Automaton_hasState_0 rfl (lv_at hl 1 rfl) ?_
  refine lv_if_lt hx hb d_Automaton_hasState_1 rfl (fun g1 => ?_) (fun g1 => ?_)
  · skip
    refine lv_iconst (v := nI 0) hx hb d_Automaton_hasState_16 (by decide) ?_
    exact pl_iret X hr hlk hK rfl () (bI_f (inB_lo g1)) hP hD hS d_Automaton_hasState_17
  · skip
    refine lv_iload_n hx hb d_Automaton_hasState_4 rfl (lv_at hl 1 rfl) ?_
    refine lv_aload_n hx hb d_Automaton_hasState_5 rfl (lv_at hl 0 rfl) ?_
    refine pl_get X fw_Automaton_25 hK hP 0 rfl (v := .int (nI n)) rfl d_Automaton_hasState_6 ?_
    refine lv_icmp_ge hx hb d_Automaton_hasState_9 rfl (fun g9 => ?_) (fun g9 => ?_)
    · skip
      refine lv_iconst (v := nI 0) hx hb d_Automaton_hasState_16 (by decide) ?_
      exact pl_iret X hr hlk hK rfl () (bI_f (inB_hi hn g9)) hP hD hS d_Automaton_hasState_17
    · skip
      refine lv_iconst (v := nI 1) hx hb d_Automaton_hasState_12 (by decide) ?_
      refine lv_goto hx hb d_Automaton_hasState_13 rfl ?_
      exact pl_iret X hr hlk hK rfl () (bI_t (inB_in hn g1 g9)) hP hD hS d_Automaton_hasState_17

set_option maxHeartbeats 4000000 in
set_option maxRecDepth 100000 in
theorem c_Automaton_setRule (l : Launch) (D : va_G) (cI cZ cL : ClassId) (h a1 a2 a3 n : Nat) (lo hi th : Nat → Int32) (j : Nat) (u v w : Int32) (hj : j < 32) : pl_V l y_Automaton_setRule b_Automaton_setRule 5 ({ frames := 0, cells := 0, slots := 0, locals := 0 } : Room) pl_E0 D classes (TY cI cZ cL) [.ref h, .int (nI j), .int u, .int v, .int w] [(h, .inr (1, [.ref a1, .ref a2, .ref a3, .int (nI n)])), (a1, .inl (cI, 32, .inl lo)), (a2, .inl (cI, 32, .inl hi)), (a3, .inl (cI, 32, .inl th))] (fun _ : Unit => True) (fun (_ : Unit) => [(h, .inr (1, [.ref a1, .ref a2, .ref a3, .int (nI n)])), (a1, .inl (cI, 32, .inl (upd lo j u))), (a2, .inl (cI, 32, .inl (upd hi j v))), (a3, .inl (cI, 32, .inl (upd th j w)))]) := by
  refine pl_startV (by decide) (Nat.le_of_ble_eq_true rfl) ?_
  intro p e s m args below meth c A ls X hr hlk hin hK hP hD hS hA hE hl
  have X : CallFix p m c b_Automaton_setRule 5 s args TG R_Automaton := X
  have hx := X.1
  have hb := X.2.1
  have hl : lv_has ls 5 [(0, .ref h), (1, .int (nI j)), (2, .int u), (3, .int v), (4, .int w)] := hl
  refine lv_aload_n hx hb d_Automaton_setRule_0 rfl (lv_at hl 0 rfl) ?_
  refine pl_get X fw_Automaton_9 hK hP 0 rfl (v := .ref a1) rfl d_Automaton_setRule_1 ?_
  refine lv_iload_n hx hb d_Automaton_setRule_4 rfl (lv_at hl 1 rfl) ?_
  refine lv_iload_n hx hb d_Automaton_setRule_5 rfl (lv_at hl 2 rfl) ?_
  refine pl_iast X hK hP hD hS 1 0 rfl rfl j (by omega) (by decide) d_Automaton_setRule_6 (ws' := [(h, .inr (1, [.ref a1, .ref a2, .ref a3, .int (nI n)])), (a1, .inl (cI, 32, .inl (upd lo j u))), (a2, .inl (cI, 32, .inl hi)), (a3, .inl (cI, 32, .inl th))]) rfl (fun H locs hP hD hS => ?_)
  refine lv_aload_n hx hb d_Automaton_setRule_7 rfl (lv_at hl 0 rfl) ?_
  refine pl_get X fw_Automaton_15 hK hP 0 rfl (v := .ref a2) rfl d_Automaton_setRule_8 ?_
  refine lv_iload_n hx hb d_Automaton_setRule_11 rfl (lv_at hl 1 rfl) ?_
  refine lv_iload_n hx hb d_Automaton_setRule_12 rfl (lv_at hl 3 rfl) ?_
  refine pl_iast X hK hP hD hS 2 0 rfl rfl j (by omega) (by decide) d_Automaton_setRule_13 (ws' := [(h, .inr (1, [.ref a1, .ref a2, .ref a3, .int (nI n)])), (a1, .inl (cI, 32, .inl (upd lo j u))), (a2, .inl (cI, 32, .inl (upd hi j v))), (a3, .inl (cI, 32, .inl th))]) rfl (fun H locs hP hD hS => ?_)
  refine lv_aload_n hx hb d_Automaton_setRule_14 rfl (lv_at hl 0 rfl) ?_
  refine pl_get X fw_Automaton_18 hK hP 0 rfl (v := .ref a3) rfl d_Automaton_setRule_15 ?_
  refine lv_iload_n hx hb d_Automaton_setRule_18 rfl (lv_at hl 1 rfl) ?_
  refine lv_iload hx hb d_Automaton_setRule_19 (lv_at hl 4 rfl) ?_
  refine pl_iast X hK hP hD hS 3 0 rfl rfl j (by omega) (by decide) d_Automaton_setRule_21 (ws' := [(h, .inr (1, [.ref a1, .ref a2, .ref a3, .int (nI n)])), (a1, .inl (cI, 32, .inl (upd lo j u))), (a2, .inl (cI, 32, .inl (upd hi j v))), (a3, .inl (cI, 32, .inl (upd th j w)))]) rfl (fun H locs hP hD hS => ?_)
  exact pl_vret X hr hlk hK () trivial hP hD hS d_Automaton_setRule_22

set_option maxHeartbeats 4000000 in
set_option maxRecDepth 100000 in
theorem c_Automaton_hasRule (l : Launch) (D : va_G) (cI cZ cL : ClassId) (h a1 a2 a3 n : Nat) (lo hi th : Nat → Int32) (j : Nat) (hj : j < 32) : pl_I l y_Automaton_hasRule b_Automaton_hasRule 2 .boolean ({ frames := 0, cells := 0, slots := 0, locals := 0 } : Room) pl_E0 D classes (TY cI cZ cL) [.ref h, .int (nI j)] [(h, .inr (1, [.ref a1, .ref a2, .ref a3, .int (nI n)])), (a1, .inl (cI, 32, .inl lo)), (a2, .inl (cI, 32, .inl hi)), (a3, .inl (cI, 32, .inl th))] (fun (r : Int32) (_ : Unit) => r = bI (decide (¬ th j = -1))) (fun (_ : Unit) => [(h, .inr (1, [.ref a1, .ref a2, .ref a3, .int (nI n)])), (a1, .inl (cI, 32, .inl lo)), (a2, .inl (cI, 32, .inl hi)), (a3, .inl (cI, 32, .inl th))]) := by
  refine pl_startI (by decide) (Nat.le_of_ble_eq_true rfl) ?_
  intro p e s m args below meth c A ls X hr hlk hin hK hP hD hS hA hE hl
  have X : CallFix p m c b_Automaton_hasRule 2 s args TG R_Automaton := X
  have hx := X.1
  have hb := X.2.1
  have hl : lv_has ls 2 [(0, .ref h), (1, .int (nI j))] := hl
  refine lv_aload_n hx hb d_Automaton_hasRule_0 rfl (lv_at hl 0 rfl) ?_
  refine pl_get X fw_Automaton_18 hK hP 0 rfl (v := .ref a3) rfl d_Automaton_hasRule_1 ?_
  refine lv_iload_n hx hb d_Automaton_hasRule_4 rfl (lv_at hl 1 rfl) ?_
  refine pl_iald X hK hP 3 0 rfl rfl j (by omega) (by decide) (z := th j) rfl d_Automaton_hasRule_5 ?_
  refine lv_iconst (v := -1) hx hb d_Automaton_hasRule_6 (by decide) ?_
  refine lv_icmp_eq hx hb d_Automaton_hasRule_7 rfl (fun g7 => ?_) (fun g7 => ?_)
  · skip
    refine lv_iconst (v := nI 0) hx hb d_Automaton_hasRule_14 (by decide) ?_
    exact pl_iret X hr hlk hK rfl () (bI_f (decide_eq_false (not_not_intro g7))) hP hD hS d_Automaton_hasRule_15
  · skip
    refine lv_iconst (v := nI 1) hx hb d_Automaton_hasRule_10 (by decide) ?_
    refine lv_goto hx hb d_Automaton_hasRule_11 rfl ?_
    exact pl_iret X hr hlk hK rfl () (bI_t (decide_eq_true g7)) hP hD hS d_Automaton_hasRule_15

set_option maxHeartbeats 4000000 in
set_option maxRecDepth 100000 in
theorem c_Automaton_allows (l : Launch) (D : va_G) (cI cZ cL : ClassId) (h a1 a2 a3 n : Nat) (lo hi th : Nat → Int32) (j : Nat) (v : Int32) (hj : j < 32) : pl_I l y_Automaton_allows b_Automaton_allows 3 .boolean ({ frames := 1, cells := 0, slots := 0, locals := 21 } : Room) pl_E0 D classes (TY cI cZ cL) [.ref h, .int (nI j), .int v] [(h, .inr (1, [.ref a1, .ref a2, .ref a3, .int (nI n)])), (a1, .inl (cI, 32, .inl lo)), (a2, .inl (cI, 32, .inl hi)), (a3, .inl (cI, 32, .inl th))] (fun (r : Int32) (_ : Unit) => r = bI (decide (¬ th j = -1) && (decide (lo j ≤ v) && decide (v ≤ hi j)))) (fun (_ : Unit) => [(h, .inr (1, [.ref a1, .ref a2, .ref a3, .int (nI n)])), (a1, .inl (cI, 32, .inl lo)), (a2, .inl (cI, 32, .inl hi)), (a3, .inl (cI, 32, .inl th))]) := by
  refine pl_startI (by decide) (Nat.le_of_ble_eq_true rfl) ?_
  intro p e s m args below meth c A ls X hr hlk hin hK hP hD hS hA hE hl
  have X : CallFix p m c b_Automaton_allows 3 s args TG R_Automaton := X
  have hx := X.1
  have hb := X.2.1
  have hl : lv_has ls 3 [(0, .ref h), (1, .int (nI j)), (2, .int v)] := hl
  refine lv_aload_n hx hb d_Automaton_allows_0 rfl (lv_at hl 0 rfl) ?_
  refine lv_iload_n hx hb d_Automaton_allows_1 rfl (lv_at hl 1 rfl) ?_
  refine pl_callVI X (rest := []) (As := [.int (nI j)]) (b := h) (c_Automaton_hasRule l D cI cZ cL h a1 a2 a3 n lo hi th j hj) ck_Automaton_29 pl_E0_ok trivial hK hP hD hS hA (T := F_Automaton) (N := N_Automaton) (ci := 1) rfl 0 rfl [0, 1, 2, 3] [] [0, 1, 2, 3] rfl (by decide) (wr := []) rfl (by decide) (by decide) (wf := fun _ => [(h, .inr (1, [.ref a1, .ref a2, .ref a3, .int (nI n)])), (a1, .inl (cI, 32, .inl lo)), (a2, .inl (cI, 32, .inl hi)), (a3, .inl (cI, 32, .inl th))]) (fun _ => rfl) (by decide) rfl hl.1 rfl (Nat.le_of_ble_eq_true rfl) (by decide) (by decide) d_Automaton_allows_2 (fun r u H locs hcq hP hD hS => ?_)
  subst hcq
  refine pl_ifB_eq X d_Automaton_allows_5 rfl (fun g5 => ?_) (fun g5 => ?_)
  · skip
    refine lv_iconst (v := nI 0) hx hb d_Automaton_allows_32 (by decide) ?_
    exact pl_iret X hr hlk hK rfl () (bI_f (by rw [g5]; rfl)) hP hD hS d_Automaton_allows_33
  · skip
    refine lv_aload_n hx hb d_Automaton_allows_8 rfl (lv_at hl 0 rfl) ?_
    refine pl_get X fw_Automaton_9 hK hP 0 rfl (v := .ref a1) rfl d_Automaton_allows_9 ?_
    refine lv_iload_n hx hb d_Automaton_allows_12 rfl (lv_at hl 1 rfl) ?_
    refine pl_iald X hK hP 1 0 rfl rfl j (by omega) (by decide) (z := lo j) rfl d_Automaton_allows_13 ?_
    refine lv_iload_n hx hb d_Automaton_allows_14 rfl (lv_at hl 2 rfl) ?_
    refine lv_icmp_gt hx hb d_Automaton_allows_15 rfl (fun g15 => ?_) (fun g15 => ?_)
    · skip
      refine lv_iconst (v := nI 0) hx hb d_Automaton_allows_32 (by decide) ?_
      exact pl_iret X hr hlk hK rfl () (bI_f (by rw [decide_eq_false (i_nle.mpr g15)]; simp)) hP hD hS d_Automaton_allows_33
    · skip
      refine lv_iload_n hx hb d_Automaton_allows_18 rfl (lv_at hl 2 rfl) ?_
      refine lv_aload_n hx hb d_Automaton_allows_19 rfl (lv_at hl 0 rfl) ?_
      refine pl_get X fw_Automaton_15 hK hP 0 rfl (v := .ref a2) rfl d_Automaton_allows_20 ?_
      refine lv_iload_n hx hb d_Automaton_allows_23 rfl (lv_at hl 1 rfl) ?_
      refine pl_iald X hK hP 2 0 rfl rfl j (by omega) (by decide) (z := hi j) rfl d_Automaton_allows_24 ?_
      refine lv_icmp_gt hx hb d_Automaton_allows_25 rfl (fun g25 => ?_) (fun g25 => ?_)
      · skip
        refine lv_iconst (v := nI 0) hx hb d_Automaton_allows_32 (by decide) ?_
        exact pl_iret X hr hlk hK rfl () (bI_f (by rw [decide_eq_false (i_nle.mpr g25)]; simp)) hP hD hS d_Automaton_allows_33
      · skip
        refine lv_iconst (v := nI 1) hx hb d_Automaton_allows_28 (by decide) ?_
        refine lv_goto hx hb d_Automaton_allows_29 rfl ?_
        exact pl_iret X hr hlk hK rfl () (bI_t (by rw [g5, decide_eq_true (i_nlt.mp g15), decide_eq_true (i_nlt.mp g25)]; rfl)) hP hD hS d_Automaton_allows_33

set_option maxHeartbeats 4000000 in
set_option maxRecDepth 100000 in
theorem c_Automaton_countRules (l : Launch) (D : va_G) (cI cZ cL : ClassId) (h a1 a2 a3 n : Nat) (lo hi th : Nat → Int32) (t : Nat) (hn : n ≤ 4) (ht : t < 8) : pl_I l y_Automaton_countRules b_Automaton_countRules 4 .int ({ frames := 1, cells := 0, slots := 0, locals := 21 } : Room) pl_E0 D classes (TY cI cZ cL) [.ref h, .int (nI t)] [(h, .inr (1, [.ref a1, .ref a2, .ref a3, .int (nI n)])), (a1, .inl (cI, 32, .inl lo)), (a2, .inl (cI, 32, .inl hi)), (a3, .inl (cI, 32, .inl th))] (fun (r : Int32) (_ : Unit) => r = nI (cntR th t n)) (fun (_ : Unit) => [(h, .inr (1, [.ref a1, .ref a2, .ref a3, .int (nI n)])), (a1, .inl (cI, 32, .inl lo)), (a2, .inl (cI, 32, .inl hi)), (a3, .inl (cI, 32, .inl th))]) := by
  refine pl_startI (by decide) (Nat.le_of_ble_eq_true rfl) ?_
  intro p e s m args below meth c A ls X hr hlk hin hK hP hD hS hA hE hl
  have X : CallFix p m c b_Automaton_countRules 4 s args TG R_Automaton := X
  have hx := X.1
  have hb := X.2.1
  have hl : lv_has ls 4 [(0, .ref h), (1, .int (nI t))] := hl
  refine lv_iconst (v := nI 0) hx hb d_Automaton_countRules_0 (by decide) ?_
  refine lv_istore_n hx hb d_Automaton_countRules_1 rfl hl (by decide) (lv' := [(2, .int (nI 0)), (0, .ref h), (1, .int (nI t))]) rfl (fun ls hl => ?_)
  refine lv_iconst (v := nI 0) hx hb d_Automaton_countRules_2 (by decide) ?_
  refine lv_istore_n hx hb d_Automaton_countRules_3 rfl hl (by decide) (lv' := [(3, .int (nI 0)), (2, .int (nI 0)), (0, .ref h), (1, .int (nI t))]) rfl (fun ls hl => ?_)
  have loop_4 : ∀ (k : Nat) (i c0 : Nat) (H : Heap) (locs : List Loc) (ls : Array Slot), n - i = k → (i ≤ n) → (c0 = cntR th t i) → va_P D classes [(h, .inr (1, [.ref a1, .ref a2, .ref a3, .int (nI n)])), (a1, .inl (cI, 32, .inl lo)), (a2, .inl (cI, 32, .inl hi)), (a3, .inl (cI, 32, .inl th))] H → va_D A [(h, .inr (1, [.ref a1, .ref a2, .ref a3, .int (nI n)])), (a1, .inl (cI, 32, .inl lo)), (a2, .inl (cI, 32, .inl hi)), (a3, .inl (cI, 32, .inl th))] → va_S A s.heap H locs → lv_has ls 4 [(3, .int (nI i)), (2, .int (nI c0)), (0, .ref h), (1, .int (nI t))] → W p l e ({ frames := 1, cells := 0, slots := 0, locals := 21 } : Room) s m args below meth c H locs 0 0 (MQ below (va_Qi (fun (r : Int32) (_ : Unit) => r = nI (cntR th t n)) (fun u => pl_out D classes (TY cI cZ cL) A ((fun (_ : Unit) => [(h, .inr (1, [.ref a1, .ref a2, .ref a3, .int (nI n)])), (a1, .inl (cI, 32, .inl lo)), (a2, .inl (cI, 32, .inl hi)), (a3, .inl (cI, 32, .inl th))]) u)) A) args s 0 0 A) (F0 m 4 ls []) := by
    intro k
    induction k using Nat.strongRecOn with
    | _ k ih =>
    intro i c0 H locs ls hk hi0 hc hP hD hS hl
    refine lv_iload_n hx hb d_Automaton_countRules_4 rfl (lv_at hl 0 rfl) ?_
    refine lv_aload_n hx hb d_Automaton_countRules_5 rfl (lv_at hl 2 rfl) ?_
    refine pl_get X fw_Automaton_25 hK hP 0 rfl (v := .int (nI n)) rfl d_Automaton_countRules_6 ?_
    refine pl_icmp_ge X (by omega) (by omega) d_Automaton_countRules_9 rfl (fun g9 => ?_) (fun g9 => ?_)
    · skip
      refine lv_iload_n hx hb d_Automaton_countRules_33 rfl (lv_at hl 1 rfl) ?_
      exact pl_iret X hr hlk hK rfl () (by rw [hc, show i = n by omega]) hP hD hS d_Automaton_countRules_34
    · skip
      refine lv_aload_n hx hb d_Automaton_countRules_12 rfl (lv_at hl 2 rfl) ?_
      refine lv_iload_n hx hb d_Automaton_countRules_13 rfl (lv_at hl 0 rfl) ?_
      refine lv_iload_n hx hb d_Automaton_countRules_14 rfl (lv_at hl 3 rfl) ?_
      refine pl_callSI X (rest := [.ref h]) (As := [.int (nI i), .int (nI t)]) (c_Automaton_place l D cI cZ cL i t) ck_Automaton_33 pl_E0_ok trivial hK hP hD hS hA [] [0, 1, 2, 3] [0, 1, 2, 3] rfl (by decide) (wr := [(h, .inr (1, [.ref a1, .ref a2, .ref a3, .int (nI n)])), (a1, .inl (cI, 32, .inl lo)), (a2, .inl (cI, 32, .inl hi)), (a3, .inl (cI, 32, .inl th))]) rfl (by decide) (by decide) (wf := fun _ => [(h, .inr (1, [.ref a1, .ref a2, .ref a3, .int (nI n)])), (a1, .inl (cI, 32, .inl lo)), (a2, .inl (cI, 32, .inl hi)), (a3, .inl (cI, 32, .inl th))]) (fun _ => rfl) (by decide) rfl hl.1 rfl (Nat.le_of_ble_eq_true rfl) (by decide) (by decide) d_Automaton_countRules_15 (fun r u H locs hcq hP hD hS => ?_)
      subst hcq
      refine pl_callVI X (rest := []) (As := [.int (nI (i * 8 + t))]) (b := h) (c_Automaton_hasRule l D cI cZ cL h a1 a2 a3 n lo hi th (i * 8 + t) (by omega)) ck_Automaton_29 pl_E0_ok trivial hK hP hD hS hA (T := F_Automaton) (N := N_Automaton) (ci := 1) rfl 0 rfl [0, 1, 2, 3] [] [0, 1, 2, 3] rfl (by decide) (wr := []) rfl (by decide) (by decide) (wf := fun _ => [(h, .inr (1, [.ref a1, .ref a2, .ref a3, .int (nI n)])), (a1, .inl (cI, 32, .inl lo)), (a2, .inl (cI, 32, .inl hi)), (a3, .inl (cI, 32, .inl th))]) (fun _ => rfl) (by decide) rfl hl.1 rfl (Nat.le_of_ble_eq_true rfl) (by decide) (by decide) d_Automaton_countRules_18 (fun r u H locs hcq hP hD hS => ?_)
      subst hcq
      refine pl_ifB_eq X d_Automaton_countRules_21 rfl (fun g21 => ?_) (fun g21 => ?_)
      · skip
        refine lv_iinc hx hb d_Automaton_countRules_27 hl (k := 0) rfl (nI_inc1 _) (by decide) (lv' := [(3, .int (nI (i + 1))), (2, .int (nI c0)), (0, .ref h), (1, .int (nI t))]) rfl (fun ls hl => ?_)
        refine lv_goto hx hb d_Automaton_countRules_30 rfl ?_
        exact ih _ (by omega) (i + 1) c0 _ _ _ rfl (by omega) (by subst hc; simp only [decide_eq_true_eq, decide_eq_false_iff_not, Decidable.not_not] at g21; simp [cntR, g21]) hP hD hS hl
      · skip
        refine lv_iinc hx hb d_Automaton_countRules_24 hl (k := 1) rfl (nI_inc1 _) (by decide) (lv' := [(2, .int (nI (c0 + 1))), (3, .int (nI i)), (0, .ref h), (1, .int (nI t))]) rfl (fun ls hl => ?_)
        refine lv_iinc hx hb d_Automaton_countRules_27 hl (k := 1) rfl (nI_inc1 _) (by decide) (lv' := [(3, .int (nI (i + 1))), (2, .int (nI (c0 + 1))), (0, .ref h), (1, .int (nI t))]) rfl (fun ls hl => ?_)
        refine lv_goto hx hb d_Automaton_countRules_30 rfl ?_
        exact ih _ (by omega) (i + 1) (c0 + 1) _ _ _ rfl (by omega) (by subst hc; simp only [decide_eq_true_eq, decide_eq_false_iff_not, Decidable.not_not] at g21; simp [cntR, g21]) hP hD hS hl
  exact loop_4 _ 0 0 _ _ _ rfl (Nat.zero_le _) rfl hP hD hS hl
end
