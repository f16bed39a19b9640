/-! What the law starts from. -/
theorem st_arr {ty : FieldType} {args : Array Value} {s : State} (h : (Cond.arrayClass ty).before args s = true) : ∃ cA, ArrOfT s cA ty ∧ s.vm.findClass ("[" ++ ty.toString) = some cA := by
  obtain ⟨c, k, comp, h1, h2, h3⟩ := Cond.arrayClass_spec h
  exact ⟨c, fun n z => ⟨fun k h => (by cases h), k, h2, comp, h3⟩, h1⟩
theorem st_str {own tx cls : String} {k : Nat} {A : Array Value} {s : State} (h1 : (Cond.stringRef own k tx).before A s = true) (h2 : (Cond.exactly (.string own k) cls).before A s = true) : ∃ a, vk_R own k tx a s := by
  obtain ⟨a, -, -, -, ha, -⟩ := Cond.exactly_spec h2
  exact ⟨a, vk_R.of h1 ha⟩
set_option maxRecDepth 20000 in
theorem st_K {args : Array Value} {s : State} (hts : ∀ w ∈ TG, w.before args s = true) : ∃ (D : va_G) (cI cZ cL : ClassId), va_K D classes (TY cI cZ cL) s := by
  obtain ⟨c0, k0, e0⟩ := u_known hts uw_Listing (hts _ (tg_mem 58 rfl rfl))
  obtain ⟨c1, k1, e1⟩ := u_known hts uw_Automaton (hts _ (tg_mem 86 rfl rfl))
  obtain ⟨c2, k2, e2⟩ := u_known hts uw_Heights (hts _ (tg_mem 114 rfl rfl))
  obtain ⟨c3, k3, e3⟩ := u_known hts uw_Weaver (hts _ (tg_mem 135 rfl rfl))
  obtain ⟨c4, k4, e4⟩ := u_known hts uw_Run (hts _ (tg_mem 151 rfl rfl))
  obtain ⟨c5, k5, e5⟩ := u_known hts uw_Loom (hts _ (tg_mem 50 rfl rfl))
  obtain ⟨c6, k6, e6⟩ := u_known hts uw_Model (hts _ (tg_mem 559 rfl rfl))
  obtain ⟨cI, aI, fI⟩ := st_arr (hts _ ar_I)
  obtain ⟨cZ, aZ, fZ⟩ := st_arr (hts _ ar_Z)
  obtain ⟨cL, aL, fL⟩ := st_arr (hts _ ar_L)
  refine ⟨(fun c => match c with | 0 => c0 | 1 => c1 | 2 => c2 | 3 => c3 | 4 => c4 | 5 => c5 | _ => c6, fun c => match c with | 0 => k0 | 1 => k1 | 2 => k2 | 3 => k3 | 4 => k4 | 5 => k5 | _ => k6), cI, cZ, cL, fun c q hq => ?_, fun k q hk => ?_⟩
  · match c, hq with
    | 0, hq => cases hq; exact e0
    | 1, hq => cases hq; exact e1
    | 2, hq => cases hq; exact e2
    | 3, hq => cases hq; exact e3
    | 4, hq => cases hq; exact e4
    | 5, hq => cases hq; exact e5
    | 6, hq => cases hq; exact e6
    | n + 7, hq => cases hq
  · match k, hk with
    | 0, hk => cases hk; exact ⟨aI, fI⟩
    | 1, hk => cases hk; exact ⟨aZ, fZ⟩
    | 2, hk => cases hk; exact ⟨aL, fL⟩
    | n + 3, hk => cases hk
set_option maxRecDepth 100000 in
set_option maxHeartbeats 4000000 in
theorem st_TAKES {args : Array Value} {s : State} {A : Nat → Prop} (hA : ∀ a : Nat, a < s.heap.size → ¬ A a) (hts : ∀ w ∈ lw_tbl, w.before args s = true) (hgv : (Jvm.Cond.and given_1 narrow_1).before args s = true) : ∃ t, va_Z R_Heights "TAKES" "[I" (.ref t) A s s.heap ∧ va_T .int t 13 (fun j => .int (nI (tkN j))) A s s.heap := by
  have hs := flat_of_before _ hgv
  obtain ⟨t, h1, h2⟩ := va_Tof (tm := (Term.static "PolicyLoom$Heights" "TAKES" "[I")) (N := 13) (f := fun j => .int (nI (tkN j))) (by decide) (hs (Cond.arrayOf (Term.static "PolicyLoom$Heights" "TAKES" "[I") .int) (by decide +kernel)) (Cond.eq_int (hs (Cond.eq (.length (Term.static "PolicyLoom$Heights" "TAKES" "[I")) (.int 13)) (by decide +kernel)) rfl) (fun j hj => by
    rcases (show j = 0 ∨ j = 1 ∨ j = 2 ∨ j = 3 ∨ j = 4 ∨ j = 5 ∨ j = 6 ∨ j = 7 ∨ j = 8 ∨ j = 9 ∨ j = 10 ∨ j = 11 ∨ j = 12 by omega) with rfl | rfl | rfl | rfl | rfl | rfl | rfl | rfl | rfl | rfl | rfl | rfl | rfl
    · exact Cond.eq_int (hs (Cond.eq (.elem (Term.static "PolicyLoom$Heights" "TAKES" "[I") (.int 0)) (.int 0)) (by decide +kernel)) rfl
    · exact Cond.eq_int (hs (Cond.eq (.elem (Term.static "PolicyLoom$Heights" "TAKES" "[I") (.int 1)) (.int 1)) (by decide +kernel)) rfl
    · exact Cond.eq_int (hs (Cond.eq (.elem (Term.static "PolicyLoom$Heights" "TAKES" "[I") (.int 2)) (.int 2)) (by decide +kernel)) rfl
    · exact Cond.eq_int (hs (Cond.eq (.elem (Term.static "PolicyLoom$Heights" "TAKES" "[I") (.int 3)) (.int 2)) (by decide +kernel)) rfl
    · exact Cond.eq_int (hs (Cond.eq (.elem (Term.static "PolicyLoom$Heights" "TAKES" "[I") (.int 4)) (.int 2)) (by decide +kernel)) rfl
    · exact Cond.eq_int (hs (Cond.eq (.elem (Term.static "PolicyLoom$Heights" "TAKES" "[I") (.int 5)) (.int 0)) (by decide +kernel)) rfl
    · exact Cond.eq_int (hs (Cond.eq (.elem (Term.static "PolicyLoom$Heights" "TAKES" "[I") (.int 6)) (.int 1)) (by decide +kernel)) rfl
    · exact Cond.eq_int (hs (Cond.eq (.elem (Term.static "PolicyLoom$Heights" "TAKES" "[I") (.int 7)) (.int 0)) (by decide +kernel)) rfl
    · exact Cond.eq_int (hs (Cond.eq (.elem (Term.static "PolicyLoom$Heights" "TAKES" "[I") (.int 8)) (.int 1)) (by decide +kernel)) rfl
    · exact Cond.eq_int (hs (Cond.eq (.elem (Term.static "PolicyLoom$Heights" "TAKES" "[I") (.int 9)) (.int 1)) (by decide +kernel)) rfl
    · exact Cond.eq_int (hs (Cond.eq (.elem (Term.static "PolicyLoom$Heights" "TAKES" "[I") (.int 10)) (.int 2)) (by decide +kernel)) rfl
    · exact Cond.eq_int (hs (Cond.eq (.elem (Term.static "PolicyLoom$Heights" "TAKES" "[I") (.int 11)) (.int 1)) (by decide +kernel)) rfl
    · exact Cond.eq_int (hs (Cond.eq (.elem (Term.static "PolicyLoom$Heights" "TAKES" "[I") (.int 12)) (.int 0)) (by decide +kernel)) rfl) hA
  exact ⟨t, va_Zof (hts _ (List.mem_of_getElem? (i := 260) rfl)) (hts _ (List.mem_of_getElem? (i := 39) rfl)) h1 hA, h2⟩
set_option maxRecDepth 100000 in
set_option maxHeartbeats 4000000 in
theorem st_LEAVES {args : Array Value} {s : State} {A : Nat → Prop} (hA : ∀ a : Nat, a < s.heap.size → ¬ A a) (hts : ∀ w ∈ lw_tbl, w.before args s = true) (hgv : (Jvm.Cond.and given_1 narrow_1).before args s = true) : ∃ t, va_Z R_Heights "LEAVES" "[I" (.ref t) A s s.heap ∧ va_T .int t 13 (fun j => .int (nI (lvN j))) A s s.heap := by
  have hs := flat_of_before _ hgv
  obtain ⟨t, h1, h2⟩ := va_Tof (tm := (Term.static "PolicyLoom$Heights" "LEAVES" "[I")) (N := 13) (f := fun j => .int (nI (lvN j))) (by decide) (hs (Cond.arrayOf (Term.static "PolicyLoom$Heights" "LEAVES" "[I") .int) (by decide +kernel)) (Cond.eq_int (hs (Cond.eq (.length (Term.static "PolicyLoom$Heights" "LEAVES" "[I")) (.int 13)) (by decide +kernel)) rfl) (fun j hj => by
    rcases (show j = 0 ∨ j = 1 ∨ j = 2 ∨ j = 3 ∨ j = 4 ∨ j = 5 ∨ j = 6 ∨ j = 7 ∨ j = 8 ∨ j = 9 ∨ j = 10 ∨ j = 11 ∨ j = 12 by omega) with rfl | rfl | rfl | rfl | rfl | rfl | rfl | rfl | rfl | rfl | rfl | rfl | rfl
    · exact Cond.eq_int (hs (Cond.eq (.elem (Term.static "PolicyLoom$Heights" "LEAVES" "[I") (.int 0)) (.int 1)) (by decide +kernel)) rfl
    · exact Cond.eq_int (hs (Cond.eq (.elem (Term.static "PolicyLoom$Heights" "LEAVES" "[I") (.int 1)) (.int 0)) (by decide +kernel)) rfl
    · exact Cond.eq_int (hs (Cond.eq (.elem (Term.static "PolicyLoom$Heights" "LEAVES" "[I") (.int 2)) (.int 1)) (by decide +kernel)) rfl
    · exact Cond.eq_int (hs (Cond.eq (.elem (Term.static "PolicyLoom$Heights" "LEAVES" "[I") (.int 3)) (.int 1)) (by decide +kernel)) rfl
    · exact Cond.eq_int (hs (Cond.eq (.elem (Term.static "PolicyLoom$Heights" "LEAVES" "[I") (.int 4)) (.int 1)) (by decide +kernel)) rfl
    · exact Cond.eq_int (hs (Cond.eq (.elem (Term.static "PolicyLoom$Heights" "LEAVES" "[I") (.int 5)) (.int 1)) (by decide +kernel)) rfl
    · exact Cond.eq_int (hs (Cond.eq (.elem (Term.static "PolicyLoom$Heights" "LEAVES" "[I") (.int 6)) (.int 0)) (by decide +kernel)) rfl
    · exact Cond.eq_int (hs (Cond.eq (.elem (Term.static "PolicyLoom$Heights" "LEAVES" "[I") (.int 7)) (.int 0)) (by decide +kernel)) rfl
    · exact Cond.eq_int (hs (Cond.eq (.elem (Term.static "PolicyLoom$Heights" "LEAVES" "[I") (.int 8)) (.int 0)) (by decide +kernel)) rfl
    · exact Cond.eq_int (hs (Cond.eq (.elem (Term.static "PolicyLoom$Heights" "LEAVES" "[I") (.int 9)) (.int 0)) (by decide +kernel)) rfl
    · exact Cond.eq_int (hs (Cond.eq (.elem (Term.static "PolicyLoom$Heights" "LEAVES" "[I") (.int 10)) (.int 2)) (by decide +kernel)) rfl
    · exact Cond.eq_int (hs (Cond.eq (.elem (Term.static "PolicyLoom$Heights" "LEAVES" "[I") (.int 11)) (.int 2)) (by decide +kernel)) rfl
    · exact Cond.eq_int (hs (Cond.eq (.elem (Term.static "PolicyLoom$Heights" "LEAVES" "[I") (.int 12)) (.int 0)) (by decide +kernel)) rfl) hA
  exact ⟨t, va_Zof (hts _ (List.mem_of_getElem? (i := 262) rfl)) (hts _ (List.mem_of_getElem? (i := 39) rfl)) h1 hA, h2⟩
set_option maxRecDepth 100000 in
set_option maxHeartbeats 4000000 in
theorem st_strs {args : Array Value} {s : State} (hts : ∀ w ∈ lw_tbl, w.before args s = true) (hgv : (Jvm.Cond.and given_1 narrow_1).before args s = true) : ∀ q ∈ strX, ∃ a, vk_R R_Loom q.1 q.2 a s := by
  have hs := flat_of_before _ hgv
  exact List.forall_mem_cons.mpr ⟨st_str (hts _ (List.mem_of_getElem? (i := 316) rfl)) (hs (Cond.exactly (.string "PolicyLoom" 55) "java/lang/String") (by decide +kernel)), List.forall_mem_cons.mpr ⟨st_str (hts _ (List.mem_of_getElem? (i := 352) rfl)) (hs (Cond.exactly (.string "PolicyLoom" 66) "java/lang/String") (by decide +kernel)), List.forall_mem_cons.mpr ⟨st_str (hts _ (List.mem_of_getElem? (i := 370) rfl)) (hs (Cond.exactly (.string "PolicyLoom" 76) "java/lang/String") (by decide +kernel)), List.forall_mem_cons.mpr ⟨st_str (hts _ (List.mem_of_getElem? (i := 383) rfl)) (hs (Cond.exactly (.string "PolicyLoom" 88) "java/lang/String") (by decide +kernel)), List.forall_mem_cons.mpr ⟨st_str (hts _ (List.mem_of_getElem? (i := 384) rfl)) (hs (Cond.exactly (.string "PolicyLoom" 90) "java/lang/String") (by decide +kernel)), List.forall_mem_cons.mpr ⟨st_str (hts _ (List.mem_of_getElem? (i := 385) rfl)) (hs (Cond.exactly (.string "PolicyLoom" 92) "java/lang/String") (by decide +kernel)), List.forall_mem_cons.mpr ⟨st_str (hts _ (List.mem_of_getElem? (i := 414) rfl)) (hs (Cond.exactly (.string "PolicyLoom" 181) "java/lang/String") (by decide +kernel)), List.forall_mem_cons.mpr ⟨st_str (hts _ (List.mem_of_getElem? (i := 421) rfl)) (hs (Cond.exactly (.string "PolicyLoom" 109) "java/lang/String") (by decide +kernel)), List.forall_mem_cons.mpr ⟨st_str (hts _ (List.mem_of_getElem? (i := 487) rfl)) (hs (Cond.exactly (.string "PolicyLoom" 125) "java/lang/String") (by decide +kernel)), List.forall_mem_cons.mpr ⟨st_str (hts _ (List.mem_of_getElem? (i := 499) rfl)) (hs (Cond.exactly (.string "PolicyLoom" 135) "java/lang/String") (by decide +kernel)), List.forall_mem_cons.mpr ⟨st_str (hts _ (List.mem_of_getElem? (i := 500) rfl)) (hs (Cond.exactly (.string "PolicyLoom" 138) "java/lang/String") (by decide +kernel)), List.forall_mem_cons.mpr ⟨st_str (hts _ (List.mem_of_getElem? (i := 537) rfl)) (hs (Cond.exactly (.string "PolicyLoom" 147) "java/lang/String") (by decide +kernel)), List.forall_mem_cons.mpr ⟨st_str (hts _ (List.mem_of_getElem? (i := 549) rfl)) (hs (Cond.exactly (.string "PolicyLoom" 161) "java/lang/String") (by decide +kernel)), List.forall_mem_cons.mpr ⟨st_str (hts _ (List.mem_of_getElem? (i := 557) rfl)) (hs (Cond.exactly (.string "PolicyLoom" 169) "java/lang/String") (by decide +kernel)), fun _ h => nomatch h⟩⟩⟩⟩⟩⟩⟩⟩⟩⟩⟩⟩⟩⟩
theorem badX_ot : ∀ w ∈ badX, w.onTables = true := by decide +kernel
set_option maxRecDepth 100000 in
theorem badX_in : ∀ w ∈ badX, w ∈ lw_tbl := by decide +kernel
set_option maxRecDepth 100000 in
set_option maxHeartbeats 4000000 in
theorem st_E {args : Array Value} {s : State} {A : Nat → Prop} (hA : ∀ a : Nat, a < s.heap.size → ¬ A a) (hts : ∀ w ∈ lw_tbl, w.before args s = true) (hgv : (Jvm.Cond.and given_1 narrow_1).before args s = true) : ∃ t1 t2, EL t1 t2 A s s.heap := by
  have hs := flat_of_before _ hgv
  obtain ⟨t1, h1, h2⟩ := st_TAKES hA hts hgv
  obtain ⟨t2, h3, h4⟩ := st_LEAVES hA hts hgv
  have n1 : va_Nw (.methodLinkNest R_Heights 62 y_Loom_goesElsewhere R_Loom) s := va_Nw.of rfl (hts _ (List.mem_of_getElem? (i := 263) rfl))
  have n2 : va_Nw (.methodLinkNest R_Weaver 42 y_Loom_goesElsewhere R_Loom) s := va_Nw.of rfl (hts _ (List.mem_of_getElem? (i := 472) rfl))
  have z1 : vx_Zq Bundle.tN "UNASSIGNED_STACK" Bundle.steD A s s.heap := vx_Zqof (hts _ (List.mem_of_getElem? (i := 302) rfl)) (hts _ (List.mem_of_getElem? (i := 43) rfl)) (hs (Cond.isRef (.static Bundle.tN "UNASSIGNED_STACK" Bundle.steD)) (by decide +kernel)) hA
  have z2 : vx_Zq Bundle.tN "SUPPRESSED_SENTINEL" Bundle.listD A s s.heap := vx_Zqof (hts _ (List.mem_of_getElem? (i := 304) rfl)) (hts _ (List.mem_of_getElem? (i := 43) rfl)) (hs (Cond.isRef (.static Bundle.tN "SUPPRESSED_SENTINEL" Bundle.listD)) (by decide +kernel)) hA
  exact ⟨t1, t2, ⟨⟨n1, n2, h1, h2, h3, h4⟩, z1, z2, fun w hw => va_Nw.of (badX_ot w hw) (hts w (badX_in w hw)), st_strs hts hgv⟩, va_Nc.of (hs (Cond.not (.castable iobS iaeS)) (by decide +kernel)), va_Nc.of (hs (Cond.not (.castable iobS iseS)) (by decide +kernel)), va_Nc.of (hs (Cond.not (.castable iaeS iseS)) (by decide +kernel))⟩
theorem LI_0 : LI (fun _ => nI 0) (fun _ => nI 0) (fun _ => nI 0) (fun _ => nI 0) (fun _ => -1) (fun _ => nI 0) (fun _ => nI 0) (fun _ => nI 0) (fun _ => nI 0) (fun _ => nI 0) (fun _ => nI 0) (fun _ => nI 0) (fun _ => nI 0) (fun _ => nI 0) (fun _ => nI 0) 0 1 0 0 0 0 0 0 0 0 0 0 false false false := ⟨Nat.zero_le _, fun j hj => absurd hj (Nat.not_lt_zero j), ⟨Nat.le_refl _, by decide⟩, thV_no, rulR_no, (fun h => nomatch h), (fun h => nomatch h), ⟨Nat.zero_le _, Nat.zero_le _, Nat.zero_le _⟩, fun h => absurd rfl h⟩
