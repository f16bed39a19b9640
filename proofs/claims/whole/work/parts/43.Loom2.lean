set_option maxHeartbeats 4000000 in
set_option maxRecDepth 100000 in
theorem c_Loom_code (l : Launch) (D : va_G) (cI cZ cL : ClassId) (t1 t2 : Nat) (x0 p0 p1 p2 h a1 a2 a3 e0 e1 e2 w w1 v v1 v2 r b1 b2 b3 b4 : Nat) (P K lo hi th F Qu fo f g sa ca ta tn : Nat → Int32) (np n qd z how stat pl q stt dn : Nat) (b ex wv : Bool) (x k : Int32) (hl0 : l.stackTraces = false) (hnp : np ≤ 24) : pl_TI l y_Loom_code b_Loom_code 3 .int ({ frames := 6, cells := 1, slots := 6, locals := 82 } : Room) (EX t1 t2) D classes (TY cI cZ cL) [.ref x0, .int x, .int k] [(x0, .inr (5, [.ref p0, .ref h, .ref e0, .ref w, .ref r, .int (bI (ex)), .int (bI (wv))])), (p0, .inr (0, [.ref p1, .ref p2, .int (nI np)])), (p1, .inl (cI, 24, .inl P)), (p2, .inl (cI, 24, .inl K)), (r, .inr (4, [.ref b1, .ref b2, .ref b3, .ref b4, .int (nI how), .int (nI stat), .int (nI pl), .int (nI q), .int (nI stt), .int (nI dn)])), (b1, .inl (cI, 14, .inl sa)), (b2, .inl (cI, 8, .inl ca)), (b3, .inl (cI, 60, .inl ta)), (b4, .inl (cI, 60, .inl tn))] (fun (r : Int32) (_ : Unit) => r = nI np ∧ inB x 13 = true ∧ np < 24) (fun (_ : Unit) => [(x0, .inr (5, [.ref p0, .ref h, .ref e0, .ref w, .ref r, .int (bI (false)), .int (bI (false))])), (p0, .inr (0, [.ref p1, .ref p2, .int (nI (np + 1))])), (p1, .inl (cI, 24, .inl (upd P np x))), (p2, .inl (cI, 24, .inl (upd K np k))), (r, .inr (4, [.ref b1, .ref b2, .ref b3, .ref b4, .int (nI how), .int (nI 0), .int (nI pl), .int (nI q), .int (nI stt), .int (nI dn)])), (b1, .inl (cI, 14, .inl sa)), (b2, .inl (cI, 8, .inl ca)), (b3, .inl (cI, 60, .inl ta)), (b4, .inl (cI, 60, .inl tn))]) (fun (Nm : String) (_ : Unit) => (Nm = iaeS ∧ inB x 13 = false) ∨ (Nm = iobS ∧ inB x 13 = true ∧ np = 24)) (fun (_ : Unit) => [(x0, .inr (5, [.ref p0, .ref h, .ref e0, .ref w, .ref r, .int (bI (ex)), .int (bI (wv))])), (p0, .inr (0, [.ref p1, .ref p2, .int (nI np)])), (p1, .inl (cI, 24, .inl P)), (p2, .inl (cI, 24, .inl K)), (r, .inr (4, [.ref b1, .ref b2, .ref b3, .ref b4, .int (nI how), .int (nI stat), .int (nI pl), .int (nI q), .int (nI stt), .int (nI dn)])), (b1, .inl (cI, 14, .inl sa)), (b2, .inl (cI, 8, .inl ca)), (b3, .inl (cI, 60, .inl ta)), (b4, .inl (cI, 60, .inl tn))]) := by
  refine pl_startTI (by decide) (Nat.le_of_ble_eq_true rfl) ?_
  intro p e s m args below meth c A ls X hr hlk hno hK hP hD hS hA hE hl
  have X : CallFix p m c b_Loom_code 3 s args TG R_Loom := X
  have hx := X.1
  have hb := X.2.1
  have hl : lv_has ls 3 [(0, .ref x0), (1, .int x), (2, .int k)] := hl
  refine lv_iload_n hx hb d_Loom_code_0 rfl (lv_at hl 1 rfl) ?_
  refine lv_if_lt hx hb d_Loom_code_1 rfl (fun g1 => ?_) (fun g1 => ?_)
  · skip
    exact pl_throw (is := 55) (text := "no operation") X hl0 xw_iaeS hE (by decide +kernel) hno hlk hK () (Or.inl ⟨rfl, inB_lo g1⟩) hP hD hS hl.1 d_Loom_code_10 d_Loom_code_13 d_Loom_code_14 d_Loom_code_16 d_Loom_code_19 (by decide) (Nat.le_of_ble_eq_true rfl) (by decide) (by decide) (by decide) (by decide)
  · skip
    refine lv_iload_n hx hb d_Loom_code_4 rfl (lv_at hl 1 rfl) ?_
    refine lv_bipush (v := nI 12) hx hb d_Loom_code_5 (by decide) ?_
    refine lv_icmp_le hx hb d_Loom_code_7 rfl (fun g7 => ?_) (fun g7 => ?_)
    · skip
      refine lv_aload_n hx hb d_Loom_code_20 rfl (lv_at hl 0 rfl) ?_
      refine pl_get X fw_Loom_14 hK hP 0 rfl (v := .ref p0) rfl d_Loom_code_21 ?_
      refine pl_get X fw_Loom_60 hK hP 1 rfl (v := .int (nI np)) rfl d_Loom_code_24 ?_
      refine lv_bipush (v := nI 24) hx hb d_Loom_code_27 (by decide) ?_
      refine pl_icmp_lt X (by omega) (by decide) d_Loom_code_29 rfl (fun g29 => ?_) (fun g29 => ?_)
      · skip
        refine lv_aload_n hx hb d_Loom_code_42 rfl (lv_at hl 0 rfl) ?_
        refine pl_callVV X (rest := []) (As := []) (b := x0) (c_Loom_forgetWhatHungOnProgram l D cI cZ cL x0 p0 p1 p2 h a1 a2 a3 e0 e1 e2 w w1 v v1 v2 r b1 b2 b3 b4 P K lo hi th F Qu fo f g sa ca ta tn np n qd z how stat pl q stt dn b ex wv ) ck_Loom_69 pl_E0_ok trivial hK hP hD hS hA (T := F_Loom) (N := N_Loom) (ci := 5) rfl 0 rfl [0, 4, 5, 6, 7, 8] [1, 2, 3] [3, 0, 1, 2, 4, 5, 6, 7, 8] rfl (by decide) (wr := [(p0, .inr (0, [.ref p1, .ref p2, .int (nI np)])), (p1, .inl (cI, 24, .inl P)), (p2, .inl (cI, 24, .inl K))]) rfl (by decide) (by decide) (wf := fun _ => [(x0, .inr (5, [.ref p0, .ref h, .ref e0, .ref w, .ref r, .int (bI (false)), .int (bI (false))])), (p0, .inr (0, [.ref p1, .ref p2, .int (nI np)])), (p1, .inl (cI, 24, .inl P)), (p2, .inl (cI, 24, .inl K)), (r, .inr (4, [.ref b1, .ref b2, .ref b3, .ref b4, .int (nI how), .int (nI 0), .int (nI pl), .int (nI q), .int (nI stt), .int (nI dn)])), (b1, .inl (cI, 14, .inl sa)), (b2, .inl (cI, 8, .inl ca)), (b3, .inl (cI, 60, .inl ta)), (b4, .inl (cI, 60, .inl tn))]) (fun _ => rfl) (by decide) rfl hl.1 rfl (Nat.le_of_ble_eq_true rfl) (by decide) (by decide) d_Loom_code_43 (fun u0 H locs hcq hP hD hS => ?_)
        refine lv_aload_n hx hb d_Loom_code_46 rfl (lv_at hl 0 rfl) ?_
        refine pl_get X fw_Loom_14 hK hP 0 rfl (v := .ref p0) rfl d_Loom_code_47 ?_
        refine lv_iload_n hx hb d_Loom_code_50 rfl (lv_at hl 1 rfl) ?_
        refine lv_iload_n hx hb d_Loom_code_51 rfl (lv_at hl 2 rfl) ?_
        refine pl_callVV X (rest := []) (As := [.int x, .int k]) (b := p0) (c_Listing_append l D cI cZ cL p0 p1 p2 24 np P K x k (by decide) g29) ck_Loom_72 pl_E0_ok trivial hK hP hD hS hA (T := F_Listing) (N := N_Listing) (ci := 0) rfl 1 rfl [1, 2, 3] [0, 4, 5, 6, 7, 8] [0, 6, 7, 8, 1, 2, 3, 4, 5] rfl (by decide) (wr := [(x0, .inr (5, [.ref p0, .ref h, .ref e0, .ref w, .ref r, .int (bI (false)), .int (bI (false))])), (r, .inr (4, [.ref b1, .ref b2, .ref b3, .ref b4, .int (nI how), .int (nI 0), .int (nI pl), .int (nI q), .int (nI stt), .int (nI dn)])), (b1, .inl (cI, 14, .inl sa)), (b2, .inl (cI, 8, .inl ca)), (b3, .inl (cI, 60, .inl ta)), (b4, .inl (cI, 60, .inl tn))]) rfl (by decide) (by decide) (wf := fun _ => [(x0, .inr (5, [.ref p0, .ref h, .ref e0, .ref w, .ref r, .int (bI (false)), .int (bI (false))])), (p0, .inr (0, [.ref p1, .ref p2, .int (nI (np + 1))])), (p1, .inl (cI, 24, .inl (upd P np x))), (p2, .inl (cI, 24, .inl (upd K np k))), (r, .inr (4, [.ref b1, .ref b2, .ref b3, .ref b4, .int (nI how), .int (nI 0), .int (nI pl), .int (nI q), .int (nI stt), .int (nI dn)])), (b1, .inl (cI, 14, .inl sa)), (b2, .inl (cI, 8, .inl ca)), (b3, .inl (cI, 60, .inl ta)), (b4, .inl (cI, 60, .inl tn))]) (fun _ => rfl) (by decide) rfl hl.1 rfl (Nat.le_of_ble_eq_true rfl) (by decide) (by decide) d_Loom_code_52 (fun u0 H locs hcq hP hD hS => ?_)
        refine lv_aload_n hx hb d_Loom_code_55 rfl (lv_at hl 0 rfl) ?_
        refine pl_get X fw_Loom_14 hK hP 0 rfl (v := .ref p0) rfl d_Loom_code_56 ?_
        refine pl_get X fw_Loom_60 hK hP 1 rfl (v := .int (nI (np + 1))) rfl d_Loom_code_59 ?_
        refine lv_iconst (v := nI 1) hx hb d_Loom_code_62 (by decide) ?_
        refine pl_isub X d_Loom_code_63 (z := nI np) (nI_dec _) ?_
        exact pl_iretT X hr hlk hK rfl () ⟨rfl, inB_le_t (by omega) g1 g7, g29⟩ hP hD hS (by decide) (by decide) d_Loom_code_64
      · skip
        exact pl_throw (is := 66) (text := "the program has all its instructions") X hl0 xw_iobS hE (by decide +kernel) hno hlk hK () (Or.inr ⟨rfl, inB_le_t (by omega) g1 g7, by omega⟩) hP hD hS hl.1 d_Loom_code_32 d_Loom_code_35 d_Loom_code_36 d_Loom_code_38 d_Loom_code_41 (by decide) (Nat.le_of_ble_eq_true rfl) (by decide) (by decide) (by decide) (by decide)
    · skip
      exact pl_throw (is := 55) (text := "no operation") X hl0 xw_iaeS hE (by decide +kernel) hno hlk hK () (Or.inl ⟨rfl, inB_le_f (by omega) g7⟩) hP hD hS hl.1 d_Loom_code_10 d_Loom_code_13 d_Loom_code_14 d_Loom_code_16 d_Loom_code_19 (by decide) (Nat.le_of_ble_eq_true rfl) (by decide) (by decide) (by decide) (by decide)

set_option maxHeartbeats 4000000 in
set_option maxRecDepth 100000 in
theorem c_Loom_states (l : Launch) (D : va_G) (cI cZ cL : ClassId) (t1 t2 : Nat) (x0 p0 p1 p2 h a1 a2 a3 e0 e1 e2 w w1 v v1 v2 r b1 b2 b3 b4 : Nat) (P K lo hi th F Qu fo f g sa ca ta tn : Nat → Int32) (np n qd z how stat pl q stt dn : Nat) (b ex wv : Bool) (x : Int32) (hl0 : l.stackTraces = false)  : pl_TV l y_Loom_states b_Loom_states 2 ({ frames := 6, cells := 1, slots := 6, locals := 82 } : Room) (EX t1 t2) D classes (TY cI cZ cL) [.ref x0, .int x] [(x0, .inr (5, [.ref p0, .ref h, .ref e0, .ref w, .ref r, .int (bI (ex)), .int (bI (wv))])), (h, .inr (1, [.ref a1, .ref a2, .ref a3, .int (nI n)])), (a1, .inl (cI, 32, .inl lo)), (a2, .inl (cI, 32, .inl hi)), (a3, .inl (cI, 32, .inl th)), (r, .inr (4, [.ref b1, .ref b2, .ref b3, .ref b4, .int (nI how), .int (nI stat), .int (nI pl), .int (nI q), .int (nI stt), .int (nI dn)])), (b1, .inl (cI, 14, .inl sa)), (b2, .inl (cI, 8, .inl ca)), (b3, .inl (cI, 60, .inl ta)), (b4, .inl (cI, 60, .inl tn))] (fun (u : Nat) => x = nI u ∧ 1 ≤ u ∧ u ≤ 4) (fun (u : Nat) => [(x0, .inr (5, [.ref p0, .ref h, .ref e0, .ref w, .ref r, .int (bI (ex)), .int (bI (false))])), (h, .inr (1, [.ref a1, .ref a2, .ref a3, .int (nI u)])), (a1, .inl (cI, 32, .inl lo)), (a2, .inl (cI, 32, .inl hi)), (a3, .inl (cI, 32, .inl (fun _ => -1))), (r, .inr (4, [.ref b1, .ref b2, .ref b3, .ref b4, .int (nI how), .int (nI 0), .int (nI pl), .int (nI q), .int (nI stt), .int (nI dn)])), (b1, .inl (cI, 14, .inl sa)), (b2, .inl (cI, 8, .inl ca)), (b3, .inl (cI, 60, .inl ta)), (b4, .inl (cI, 60, .inl tn))]) (fun (Nm : String) (_ : Unit) => Nm = iaeS ∧ in14 x = false) (fun (_ : Unit) => [(x0, .inr (5, [.ref p0, .ref h, .ref e0, .ref w, .ref r, .int (bI (ex)), .int (bI (wv))])), (h, .inr (1, [.ref a1, .ref a2, .ref a3, .int (nI n)])), (a1, .inl (cI, 32, .inl lo)), (a2, .inl (cI, 32, .inl hi)), (a3, .inl (cI, 32, .inl th)), (r, .inr (4, [.ref b1, .ref b2, .ref b3, .ref b4, .int (nI how), .int (nI stat), .int (nI pl), .int (nI q), .int (nI stt), .int (nI dn)])), (b1, .inl (cI, 14, .inl sa)), (b2, .inl (cI, 8, .inl ca)), (b3, .inl (cI, 60, .inl ta)), (b4, .inl (cI, 60, .inl tn))]) := by
  refine pl_startTV (by decide) (Nat.le_of_ble_eq_true rfl) ?_
  intro p e s m args below meth c A ls X hr hlk hno hK hP hD hS hA hE hl
  have X : CallFix p m c b_Loom_states 2 s args TG R_Loom := X
  have hx := X.1
  have hb := X.2.1
  have hl : lv_has ls 2 [(0, .ref x0), (1, .int x)] := hl
  refine lv_iload_n hx hb d_Loom_states_0 rfl (lv_at hl 1 rfl) ?_
  refine lv_iconst (v := nI 1) hx hb d_Loom_states_1 (by decide) ?_
  refine lv_icmp_lt hx hb d_Loom_states_2 rfl (fun g2 => ?_) (fun g2 => ?_)
  · skip
    exact pl_throw (is := 76) (text := "no such number of states") X hl0 xw_iaeS hE (by decide +kernel) hno hlk hK () ⟨rfl, in14_lo g2⟩ hP hD hS hl.1 d_Loom_states_10 d_Loom_states_13 d_Loom_states_14 d_Loom_states_16 d_Loom_states_19 (by decide) (Nat.le_of_ble_eq_true rfl) (by decide) (by decide) (by decide) (by decide)
  · skip
    refine lv_iload_n hx hb d_Loom_states_5 rfl (lv_at hl 1 rfl) ?_
    refine lv_iconst (v := nI 4) hx hb d_Loom_states_6 (by decide) ?_
    refine lv_icmp_le hx hb d_Loom_states_7 rfl (fun g7 => ?_) (fun g7 => ?_)
    · skip
      obtain ⟨j, hj1, hj2, hxj⟩ := in14_of (in14_in g2 g7)
      have hl : lv_has ls 2 [(0, .ref x0), (1, .int (nI j))] := by rw [← hxj]; exact hl
      refine lv_aload_n hx hb d_Loom_states_20 rfl (lv_at hl 0 rfl) ?_
      refine pl_callVV X (rest := []) (As := []) (b := x0) (c_Loom_forgetWhatHungOnAutomaton l D cI cZ cL x0 p0 p1 p2 h a1 a2 a3 e0 e1 e2 w w1 v v1 v2 r b1 b2 b3 b4 P K lo hi th F Qu fo f g sa ca ta tn np n qd z how stat pl q stt dn b ex wv ) ck_Loom_78 pl_E0_ok trivial hK hP hD hS hA (T := F_Loom) (N := N_Loom) (ci := 5) rfl 0 rfl [0, 5, 6, 7, 8, 9] [1, 2, 3, 4] [4, 0, 1, 2, 3, 5, 6, 7, 8, 9] rfl (by decide) (wr := [(h, .inr (1, [.ref a1, .ref a2, .ref a3, .int (nI n)])), (a1, .inl (cI, 32, .inl lo)), (a2, .inl (cI, 32, .inl hi)), (a3, .inl (cI, 32, .inl th))]) rfl (by decide) (by decide) (wf := fun _ => [(x0, .inr (5, [.ref p0, .ref h, .ref e0, .ref w, .ref r, .int (bI (ex)), .int (bI (false))])), (h, .inr (1, [.ref a1, .ref a2, .ref a3, .int (nI n)])), (a1, .inl (cI, 32, .inl lo)), (a2, .inl (cI, 32, .inl hi)), (a3, .inl (cI, 32, .inl th)), (r, .inr (4, [.ref b1, .ref b2, .ref b3, .ref b4, .int (nI how), .int (nI 0), .int (nI pl), .int (nI q), .int (nI stt), .int (nI dn)])), (b1, .inl (cI, 14, .inl sa)), (b2, .inl (cI, 8, .inl ca)), (b3, .inl (cI, 60, .inl ta)), (b4, .inl (cI, 60, .inl tn))]) (fun _ => rfl) (by decide) rfl hl.1 rfl (Nat.le_of_ble_eq_true rfl) (by decide) (by decide) d_Loom_states_21 (fun u0 H locs hcq hP hD hS => ?_)
      refine lv_aload_n hx hb d_Loom_states_24 rfl (lv_at hl 0 rfl) ?_
      refine pl_get X fw_Loom_21 hK hP 0 rfl (v := .ref h) rfl d_Loom_states_25 ?_
      refine lv_iload_n hx hb d_Loom_states_28 rfl (lv_at hl 1 rfl) ?_
      refine pl_callVV X (rest := []) (As := [.int (nI j)]) (b := h) (c_Automaton_reset l D cI cZ cL h a1 a2 a3 n lo hi th j) ck_Loom_81 pl_E0_ok trivial hK hP hD hS hA (T := F_Automaton) (N := N_Automaton) (ci := 1) rfl 1 rfl [1, 2, 3, 4] [0, 5, 6, 7, 8, 9] [0, 6, 7, 8, 9, 1, 2, 3, 4, 5] rfl (by decide) (wr := [(x0, .inr (5, [.ref p0, .ref h, .ref e0, .ref w, .ref r, .int (bI (ex)), .int (bI (false))])), (r, .inr (4, [.ref b1, .ref b2, .ref b3, .ref b4, .int (nI how), .int (nI 0), .int (nI pl), .int (nI q), .int (nI stt), .int (nI dn)])), (b1, .inl (cI, 14, .inl sa)), (b2, .inl (cI, 8, .inl ca)), (b3, .inl (cI, 60, .inl ta)), (b4, .inl (cI, 60, .inl tn))]) rfl (by decide) (by decide) (wf := fun _ => [(x0, .inr (5, [.ref p0, .ref h, .ref e0, .ref w, .ref r, .int (bI (ex)), .int (bI (false))])), (h, .inr (1, [.ref a1, .ref a2, .ref a3, .int (nI j)])), (a1, .inl (cI, 32, .inl lo)), (a2, .inl (cI, 32, .inl hi)), (a3, .inl (cI, 32, .inl (fun _ => -1))), (r, .inr (4, [.ref b1, .ref b2, .ref b3, .ref b4, .int (nI how), .int (nI 0), .int (nI pl), .int (nI q), .int (nI stt), .int (nI dn)])), (b1, .inl (cI, 14, .inl sa)), (b2, .inl (cI, 8, .inl ca)), (b3, .inl (cI, 60, .inl ta)), (b4, .inl (cI, 60, .inl tn))]) (fun _ => rfl) (by decide) rfl hl.1 rfl (Nat.le_of_ble_eq_true rfl) (by decide) (by decide) d_Loom_states_29 (fun u0 H locs hcq hP hD hS => ?_)
      exact pl_vretT X hr hlk hK j ⟨hxj, hj1, hj2⟩ hP hD hS (by decide) (by decide) d_Loom_states_32
    · skip
      exact pl_throw (is := 76) (text := "no such number of states") X hl0 xw_iaeS hE (by decide +kernel) hno hlk hK () ⟨rfl, in14_hi g7⟩ hP hD hS hl.1 d_Loom_states_10 d_Loom_states_13 d_Loom_states_14 d_Loom_states_16 d_Loom_states_19 (by decide) (Nat.le_of_ble_eq_true rfl) (by decide) (by decide) (by decide) (by decide)

set_option maxHeartbeats 4000000 in
set_option maxRecDepth 100000 in
theorem c_Loom_rule (l : Launch) (D : va_G) (cI cZ cL : ClassId) (t1 t2 : Nat) (x0 p0 p1 p2 h a1 a2 a3 e0 e1 e2 w w1 v v1 v2 r b1 b2 b3 b4 : Nat) (P K lo hi th F Qu fo f g sa ca ta tn : Nat → Int32) (np n qd z how stat pl q stt dn : Nat) (b ex wv : Bool) (x1 x2 x3 x4 x5 : Int32) (hl0 : l.stackTraces = false) (hn : n ≤ 4) : pl_TV l y_Loom_rule b_Loom_rule 6 ({ frames := 6, cells := 1, slots := 6, locals := 82 } : Room) (EX t1 t2) D classes (TY cI cZ cL) [.ref x0, .int x1, .int x2, .int x3, .int x4, .int x5] [(x0, .inr (5, [.ref p0, .ref h, .ref e0, .ref w, .ref r, .int (bI (ex)), .int (bI (wv))])), (h, .inr (1, [.ref a1, .ref a2, .ref a3, .int (nI n)])), (a1, .inl (cI, 32, .inl lo)), (a2, .inl (cI, 32, .inl hi)), (a3, .inl (cI, 32, .inl th)), (r, .inr (4, [.ref b1, .ref b2, .ref b3, .ref b4, .int (nI how), .int (nI stat), .int (nI pl), .int (nI q), .int (nI stt), .int (nI dn)])), (b1, .inl (cI, 14, .inl sa)), (b2, .inl (cI, 8, .inl ca)), (b3, .inl (cI, 60, .inl ta)), (b4, .inl (cI, 60, .inl tn))] (fun (u : Nat × Nat × Nat) => x1 = nI u.1 ∧ u.1 < n ∧ x2 = nI u.2.1 ∧ u.2.1 < 8 ∧ x5 = nI u.2.2 ∧ u.2.2 < n ∧ ruleOk n x1 x2 x3 x4 x5 = true) (fun (u : (Nat × Nat × Nat)) => [(x0, .inr (5, [.ref p0, .ref h, .ref e0, .ref w, .ref r, .int (bI (ex)), .int (bI (false))])), (h, .inr (1, [.ref a1, .ref a2, .ref a3, .int (nI n)])), (a1, .inl (cI, 32, .inl (upd lo (u.1 * 8 + u.2.1) x3))), (a2, .inl (cI, 32, .inl (upd hi (u.1 * 8 + u.2.1) x4))), (a3, .inl (cI, 32, .inl (upd th (u.1 * 8 + u.2.1) (nI u.2.2)))), (r, .inr (4, [.ref b1, .ref b2, .ref b3, .ref b4, .int (nI how), .int (nI 0), .int (nI pl), .int (nI q), .int (nI stt), .int (nI dn)])), (b1, .inl (cI, 14, .inl sa)), (b2, .inl (cI, 8, .inl ca)), (b3, .inl (cI, 60, .inl ta)), (b4, .inl (cI, 60, .inl tn))]) (fun (Nm : String) (_ : Unit) => Nm = iaeS ∧ ruleOk n x1 x2 x3 x4 x5 = false) (fun (_ : Unit) => [(x0, .inr (5, [.ref p0, .ref h, .ref e0, .ref w, .ref r, .int (bI (ex)), .int (bI (wv))])), (h, .inr (1, [.ref a1, .ref a2, .ref a3, .int (nI n)])), (a1, .inl (cI, 32, .inl lo)), (a2, .inl (cI, 32, .inl hi)), (a3, .inl (cI, 32, .inl th)), (r, .inr (4, [.ref b1, .ref b2, .ref b3, .ref b4, .int (nI how), .int (nI stat), .int (nI pl), .int (nI q), .int (nI stt), .int (nI dn)])), (b1, .inl (cI, 14, .inl sa)), (b2, .inl (cI, 8, .inl ca)), (b3, .inl (cI, 60, .inl ta)), (b4, .inl (cI, 60, .inl tn))]) := by
  refine pl_startTV (by decide) (Nat.le_of_ble_eq_true rfl) ?_
  intro p e s m args below meth c A ls X hr hlk hno hK hP hD hS hA hE hl
  have X : CallFix p m c b_Loom_rule 6 s args TG R_Loom := X
  have hx := X.1
  have hb := X.2.1
  have hl : lv_has ls 6 [(0, .ref x0), (1, .int x1), (2, .int x2), (3, .int x3), (4, .int x4), (5, .int x5)] := hl
  refine lv_aload_n hx hb d_Loom_rule_0 rfl (lv_at hl 0 rfl) ?_
  refine pl_get X fw_Loom_21 hK hP 0 rfl (v := .ref h) rfl d_Loom_rule_1 ?_
  refine lv_iload_n hx hb d_Loom_rule_4 rfl (lv_at hl 1 rfl) ?_
  refine pl_callVI X (rest := []) (As := [.int x1]) (b := h) (c_Automaton_hasState l D cI cZ cL h a1 a2 a3 n lo hi th x1 (by omega)) ck_Loom_84 pl_E0_ok trivial hK hP hD hS hA (T := F_Automaton) (N := N_Automaton) (ci := 1) rfl 1 rfl [1, 2, 3, 4] [0, 5, 6, 7, 8, 9] [0, 6, 7, 8, 9, 1, 2, 3, 4, 5] rfl (by decide) (wr := [(x0, .inr (5, [.ref p0, .ref h, .ref e0, .ref w, .ref r, .int (bI (ex)), .int (bI (wv))])), (r, .inr (4, [.ref b1, .ref b2, .ref b3, .ref b4, .int (nI how), .int (nI stat), .int (nI pl), .int (nI q), .int (nI stt), .int (nI dn)])), (b1, .inl (cI, 14, .inl sa)), (b2, .inl (cI, 8, .inl ca)), (b3, .inl (cI, 60, .inl ta)), (b4, .inl (cI, 60, .inl tn))]) rfl (by decide) (by decide) (wf := fun _ => [(x0, .inr (5, [.ref p0, .ref h, .ref e0, .ref w, .ref r, .int (bI (ex)), .int (bI (wv))])), (h, .inr (1, [.ref a1, .ref a2, .ref a3, .int (nI n)])), (a1, .inl (cI, 32, .inl lo)), (a2, .inl (cI, 32, .inl hi)), (a3, .inl (cI, 32, .inl th)), (r, .inr (4, [.ref b1, .ref b2, .ref b3, .ref b4, .int (nI how), .int (nI stat), .int (nI pl), .int (nI q), .int (nI stt), .int (nI dn)])), (b1, .inl (cI, 14, .inl sa)), (b2, .inl (cI, 8, .inl ca)), (b3, .inl (cI, 60, .inl ta)), (b4, .inl (cI, 60, .inl tn))]) (fun _ => rfl) (by decide) rfl hl.1 rfl (Nat.le_of_ble_eq_true rfl) (by decide) (by decide) d_Loom_rule_5 (fun r u0 H locs hcq hP hD hS => ?_)
  subst hcq
  refine pl_ifB_eq X d_Loom_rule_8 rfl (fun g8 => ?_) (fun g8 => ?_)
  · skip
    exact pl_throw (is := 88) (text := "no state") X hl0 xw_iaeS hE (by decide +kernel) hno hlk hK () ⟨rfl, by unfold ruleOk; rw [g8]; rfl⟩ hP hD hS hl.1 d_Loom_rule_23 d_Loom_rule_26 d_Loom_rule_27 d_Loom_rule_29 d_Loom_rule_32 (by decide) (Nat.le_of_ble_eq_true rfl) (by decide) (by decide) (by decide) (by decide)
  · skip
    refine lv_aload_n hx hb d_Loom_rule_11 rfl (lv_at hl 0 rfl) ?_
    refine pl_get X fw_Loom_21 hK hP 0 rfl (v := .ref h) rfl d_Loom_rule_12 ?_
    refine lv_iload hx hb d_Loom_rule_15 (lv_at hl 5 rfl) ?_
    refine pl_callVI X (rest := []) (As := [.int x5]) (b := h) (c_Automaton_hasState l D cI cZ cL h a1 a2 a3 n lo hi th x5 (by omega)) ck_Loom_84 pl_E0_ok trivial hK hP hD hS hA (T := F_Automaton) (N := N_Automaton) (ci := 1) rfl 1 rfl [1, 2, 3, 4] [0, 5, 6, 7, 8, 9] [0, 6, 7, 8, 9, 1, 2, 3, 4, 5] rfl (by decide) (wr := [(x0, .inr (5, [.ref p0, .ref h, .ref e0, .ref w, .ref r, .int (bI (ex)), .int (bI (wv))])), (r, .inr (4, [.ref b1, .ref b2, .ref b3, .ref b4, .int (nI how), .int (nI stat), .int (nI pl), .int (nI q), .int (nI stt), .int (nI dn)])), (b1, .inl (cI, 14, .inl sa)), (b2, .inl (cI, 8, .inl ca)), (b3, .inl (cI, 60, .inl ta)), (b4, .inl (cI, 60, .inl tn))]) rfl (by decide) (by decide) (wf := fun _ => [(x0, .inr (5, [.ref p0, .ref h, .ref e0, .ref w, .ref r, .int (bI (ex)), .int (bI (wv))])), (h, .inr (1, [.ref a1, .ref a2, .ref a3, .int (nI n)])), (a1, .inl (cI, 32, .inl lo)), (a2, .inl (cI, 32, .inl hi)), (a3, .inl (cI, 32, .inl th)), (r, .inr (4, [.ref b1, .ref b2, .ref b3, .ref b4, .int (nI how), .int (nI stat), .int (nI pl), .int (nI q), .int (nI stt), .int (nI dn)])), (b1, .inl (cI, 14, .inl sa)), (b2, .inl (cI, 8, .inl ca)), (b3, .inl (cI, 60, .inl ta)), (b4, .inl (cI, 60, .inl tn))]) (fun _ => rfl) (by decide) rfl hl.1 rfl (Nat.le_of_ble_eq_true rfl) (by decide) (by decide) d_Loom_rule_17 (fun r u0 H locs hcq hP hD hS => ?_)
    subst hcq
    refine pl_ifB_ne X d_Loom_rule_20 rfl (fun g20 => ?_) (fun g20 => ?_)
    · skip
      refine lv_iload_n hx hb d_Loom_rule_33 rfl (lv_at hl 2 rfl) ?_
      refine lv_if_lt hx hb d_Loom_rule_34 rfl (fun g34 => ?_) (fun g34 => ?_)
      · skip
        exact pl_throw (is := 90) (text := "no act") X hl0 xw_iaeS hE (by decide +kernel) hno hlk hK () ⟨rfl, by unfold ruleOk; rw [inB_lo g34]; simp⟩ hP hD hS hl.1 d_Loom_rule_43 d_Loom_rule_46 d_Loom_rule_47 d_Loom_rule_49 d_Loom_rule_52 (by decide) (Nat.le_of_ble_eq_true rfl) (by decide) (by decide) (by decide) (by decide)
      · skip
        refine lv_iload_n hx hb d_Loom_rule_37 rfl (lv_at hl 2 rfl) ?_
        refine lv_bipush (v := nI 8) hx hb d_Loom_rule_38 (by decide) ?_
        refine lv_icmp_lt hx hb d_Loom_rule_40 rfl (fun g40 => ?_) (fun g40 => ?_)
        · skip
          refine lv_iload hx hb d_Loom_rule_53 (lv_at hl 4 rfl) ?_
          refine lv_iload_n hx hb d_Loom_rule_55 rfl (lv_at hl 3 rfl) ?_
          refine lv_icmp_ge hx hb d_Loom_rule_56 rfl (fun g56 => ?_) (fun g56 => ?_)
          · skip
            obtain ⟨fr, hf1, hf2⟩ := inB_of (by omega) g8
            obtain ⟨tw, hw1, hw2⟩ := inB_of (by omega) g20
            have ga := inB_in (n := 8) (by omega) g34 (i_nle.mpr g40)
            obtain ⟨ac, ha1, ha2⟩ := inB_of (by omega) ga
            have hok : ruleOk n x1 x2 x3 x4 x5 = true := by unfold ruleOk; rw [g8, g20, ga, decide_eq_true g56]; rfl
            have hl : lv_has ls 6 [(0, .ref x0), (1, .int (nI fr)), (2, .int (nI ac)), (3, .int x3), (4, .int x4), (5, .int (nI tw))] := by rw [← hf2, ← ha2, ← hw2]; exact hl
            refine lv_aload_n hx hb d_Loom_rule_69 rfl (lv_at hl 0 rfl) ?_
            refine pl_callVV X (rest := []) (As := []) (b := x0) (c_Loom_forgetWhatHungOnAutomaton l D cI cZ cL x0 p0 p1 p2 h a1 a2 a3 e0 e1 e2 w w1 v v1 v2 r b1 b2 b3 b4 P K lo hi th F Qu fo f g sa ca ta tn np n qd z how stat pl q stt dn b ex wv ) ck_Loom_78 pl_E0_ok trivial hK hP hD hS hA (T := F_Loom) (N := N_Loom) (ci := 5) rfl 0 rfl [0, 5, 6, 7, 8, 9] [1, 2, 3, 4] [4, 0, 1, 2, 3, 5, 6, 7, 8, 9] rfl (by decide) (wr := [(h, .inr (1, [.ref a1, .ref a2, .ref a3, .int (nI n)])), (a1, .inl (cI, 32, .inl lo)), (a2, .inl (cI, 32, .inl hi)), (a3, .inl (cI, 32, .inl th))]) rfl (by decide) (by decide) (wf := fun _ => [(x0, .inr (5, [.ref p0, .ref h, .ref e0, .ref w, .ref r, .int (bI (ex)), .int (bI (false))])), (h, .inr (1, [.ref a1, .ref a2, .ref a3, .int (nI n)])), (a1, .inl (cI, 32, .inl lo)), (a2, .inl (cI, 32, .inl hi)), (a3, .inl (cI, 32, .inl th)), (r, .inr (4, [.ref b1, .ref b2, .ref b3, .ref b4, .int (nI how), .int (nI 0), .int (nI pl), .int (nI q), .int (nI stt), .int (nI dn)])), (b1, .inl (cI, 14, .inl sa)), (b2, .inl (cI, 8, .inl ca)), (b3, .inl (cI, 60, .inl ta)), (b4, .inl (cI, 60, .inl tn))]) (fun _ => rfl) (by decide) rfl hl.1 rfl (Nat.le_of_ble_eq_true rfl) (by decide) (by decide) d_Loom_rule_70 (fun u0 H locs hcq hP hD hS => ?_)
            refine lv_aload_n hx hb d_Loom_rule_73 rfl (lv_at hl 0 rfl) ?_
            refine pl_get X fw_Loom_21 hK hP 0 rfl (v := .ref h) rfl d_Loom_rule_74 ?_
            refine lv_iload_n hx hb d_Loom_rule_77 rfl (lv_at hl 1 rfl) ?_
            refine lv_iload_n hx hb d_Loom_rule_78 rfl (lv_at hl 2 rfl) ?_
            refine pl_callSI X (rest := [.ref h]) (As := [.int (nI fr), .int (nI ac)]) (c_Automaton_place l D cI cZ cL fr ac) ck_Loom_94 pl_E0_ok trivial hK hP hD hS hA [] [0, 1, 2, 3, 4, 5, 6, 7, 8, 9] [0, 1, 2, 3, 4, 5, 6, 7, 8, 9] rfl (by decide) (wr := [(x0, .inr (5, [.ref p0, .ref h, .ref e0, .ref w, .ref r, .int (bI (ex)), .int (bI (false))])), (h, .inr (1, [.ref a1, .ref a2, .ref a3, .int (nI n)])), (a1, .inl (cI, 32, .inl lo)), (a2, .inl (cI, 32, .inl hi)), (a3, .inl (cI, 32, .inl th)), (r, .inr (4, [.ref b1, .ref b2, .ref b3, .ref b4, .int (nI how), .int (nI 0), .int (nI pl), .int (nI q), .int (nI stt), .int (nI dn)])), (b1, .inl (cI, 14, .inl sa)), (b2, .inl (cI, 8, .inl ca)), (b3, .inl (cI, 60, .inl ta)), (b4, .inl (cI, 60, .inl tn))]) rfl (by decide) (by decide) (wf := fun _ => [(x0, .inr (5, [.ref p0, .ref h, .ref e0, .ref w, .ref r, .int (bI (ex)), .int (bI (false))])), (h, .inr (1, [.ref a1, .ref a2, .ref a3, .int (nI n)])), (a1, .inl (cI, 32, .inl lo)), (a2, .inl (cI, 32, .inl hi)), (a3, .inl (cI, 32, .inl th)), (r, .inr (4, [.ref b1, .ref b2, .ref b3, .ref b4, .int (nI how), .int (nI 0), .int (nI pl), .int (nI q), .int (nI stt), .int (nI dn)])), (b1, .inl (cI, 14, .inl sa)), (b2, .inl (cI, 8, .inl ca)), (b3, .inl (cI, 60, .inl ta)), (b4, .inl (cI, 60, .inl tn))]) (fun _ => rfl) (by decide) rfl hl.1 rfl (Nat.le_of_ble_eq_true rfl) (by decide) (by decide) d_Loom_rule_79 (fun r u0 H locs hcq hP hD hS => ?_)
            subst hcq
            refine lv_iload_n hx hb d_Loom_rule_82 rfl (lv_at hl 3 rfl) ?_
            refine lv_iload hx hb d_Loom_rule_83 (lv_at hl 4 rfl) ?_
            refine lv_iload hx hb d_Loom_rule_85 (lv_at hl 5 rfl) ?_
            refine pl_callVV X (rest := []) (As := [.int (nI (fr * 8 + ac)), .int x3, .int x4, .int (nI tw)]) (b := h) (c_Automaton_setRule l D cI cZ cL h a1 a2 a3 n lo hi th (fr * 8 + ac) x3 x4 (nI tw) (by omega)) ck_Loom_98 pl_E0_ok trivial hK hP hD hS hA (T := F_Automaton) (N := N_Automaton) (ci := 1) rfl 1 rfl [1, 2, 3, 4] [0, 5, 6, 7, 8, 9] [0, 6, 7, 8, 9, 1, 2, 3, 4, 5] rfl (by decide) (wr := [(x0, .inr (5, [.ref p0, .ref h, .ref e0, .ref w, .ref r, .int (bI (ex)), .int (bI (false))])), (r, .inr (4, [.ref b1, .ref b2, .ref b3, .ref b4, .int (nI how), .int (nI 0), .int (nI pl), .int (nI q), .int (nI stt), .int (nI dn)])), (b1, .inl (cI, 14, .inl sa)), (b2, .inl (cI, 8, .inl ca)), (b3, .inl (cI, 60, .inl ta)), (b4, .inl (cI, 60, .inl tn))]) rfl (by decide) (by decide) (wf := fun _ => [(x0, .inr (5, [.ref p0, .ref h, .ref e0, .ref w, .ref r, .int (bI (ex)), .int (bI (false))])), (h, .inr (1, [.ref a1, .ref a2, .ref a3, .int (nI n)])), (a1, .inl (cI, 32, .inl (upd lo (fr * 8 + ac) x3))), (a2, .inl (cI, 32, .inl (upd hi (fr * 8 + ac) x4))), (a3, .inl (cI, 32, .inl (upd th (fr * 8 + ac) (nI tw)))), (r, .inr (4, [.ref b1, .ref b2, .ref b3, .ref b4, .int (nI how), .int (nI 0), .int (nI pl), .int (nI q), .int (nI stt), .int (nI dn)])), (b1, .inl (cI, 14, .inl sa)), (b2, .inl (cI, 8, .inl ca)), (b3, .inl (cI, 60, .inl ta)), (b4, .inl (cI, 60, .inl tn))]) (fun _ => rfl) (by decide) rfl hl.1 rfl (Nat.le_of_ble_eq_true rfl) (by decide) (by decide) d_Loom_rule_87 (fun u0 H locs hcq hP hD hS => ?_)
            exact pl_vretT X hr hlk hK (fr, ac, tw) ⟨hf2, hf1, ha2, ha1, hw2, hw1, hok⟩ hP hD hS (by decide) (by decide) d_Loom_rule_90
          · skip
            exact pl_throw (is := 92) (text := "highest is below lowest") X hl0 xw_iaeS hE (by decide +kernel) hno hlk hK () ⟨rfl, by unfold ruleOk; rw [decide_eq_false g56]; simp⟩ hP hD hS hl.1 d_Loom_rule_59 d_Loom_rule_62 d_Loom_rule_63 d_Loom_rule_65 d_Loom_rule_68 (by decide) (Nat.le_of_ble_eq_true rfl) (by decide) (by decide) (by decide) (by decide)
        · skip
          exact pl_throw (is := 90) (text := "no act") X hl0 xw_iaeS hE (by decide +kernel) hno hlk hK () ⟨rfl, by unfold ruleOk; rw [inB_hi (by omega) (i_nlt.mp g40)]; simp⟩ hP hD hS hl.1 d_Loom_rule_43 d_Loom_rule_46 d_Loom_rule_47 d_Loom_rule_49 d_Loom_rule_52 (by decide) (Nat.le_of_ble_eq_true rfl) (by decide) (by decide) (by decide) (by decide)
    · skip
      exact pl_throw (is := 88) (text := "no state") X hl0 xw_iaeS hE (by decide +kernel) hno hlk hK () ⟨rfl, by unfold ruleOk; rw [g20]; simp⟩ hP hD hS hl.1 d_Loom_rule_23 d_Loom_rule_26 d_Loom_rule_27 d_Loom_rule_29 d_Loom_rule_32 (by decide) (Nat.le_of_ble_eq_true rfl) (by decide) (by decide) (by decide) (by decide)

set_option maxHeartbeats 4000000 in
set_option maxRecDepth 100000 in
theorem c_Loom_start (l : Launch) (D : va_G) (cI cZ cL : ClassId) (t1 t2 : Nat) (x0 p0 p1 p2 h a1 a2 a3 e0 e1 e2 w w1 v v1 v2 r b1 b2 b3 b4 : Nat) (P K lo hi th F Qu fo f g sa ca ta tn : Nat → Int32) (np n qd z how stat pl q stt dn : Nat) (b ex wv : Bool) (x k : Int32) (hl0 : l.stackTraces = false) (hnp : np ≤ 24) (hop : okP P np) (hex : ex = true → exaP P K np (F, Qu, qd, b)) : pl_TV l y_Loom_start b_Loom_start 3 ({ frames := 7, cells := 2, slots := 12, locals := 131 } : Room) (EX t1 t2) D classes (TY cI cZ cL) [.ref x0, .int x, .int k] [(x0, .inr (5, [.ref p0, .ref h, .ref e0, .ref w, .ref r, .int (bI (ex)), .int (bI (wv))])), (p0, .inr (0, [.ref p1, .ref p2, .int (nI np)])), (p1, .inl (cI, 24, .inl P)), (p2, .inl (cI, 24, .inl K)), (e0, .inr (2, [.ref e1, .ref e2, .int (nI qd), .int (bI (b))])), (e1, .inl (cI, 24, .inl F)), (e2, .inl (cI, 24, .inl Qu)), (r, .inr (4, [.ref b1, .ref b2, .ref b3, .ref b4, .int (nI how), .int (nI stat), .int (nI pl), .int (nI q), .int (nI stt), .int (nI dn)])), (b1, .inl (cI, 14, .inl sa)), (b2, .inl (cI, 8, .inl ca)), (b3, .inl (cI, 60, .inl ta)), (b4, .inl (cI, 60, .inl tn))] (fun (u : HS × Nat) => exaP P K np u.1 ∧ u.1.2.2.2 = true ∧ x = nI u.2 ∧ u.2 ≤ 2) (fun (u : (HS × Nat)) => [(x0, .inr (5, [.ref p0, .ref h, .ref e0, .ref w, .ref r, .int (bI (true)), .int (bI (wv))])), (p0, .inr (0, [.ref p1, .ref p2, .int (nI np)])), (p1, .inl (cI, 24, .inl P)), (p2, .inl (cI, 24, .inl K)), (e0, .inr (2, [.ref e1, .ref e2, .int (nI u.1.2.2.1), .int (bI (u.1.2.2.2))])), (e1, .inl (cI, 24, .inl u.1.1)), (e2, .inl (cI, 24, .inl u.1.2.1)), (r, .inr (4, [.ref b1, .ref b2, .ref b3, .ref b4, .int (nI u.2), .int (nI 1), .int (nI 0), .int (nI 0), .int (nI 0), .int (nI 0)])), (b1, .inl (cI, 14, .inl sa)), (b2, .inl (cI, 8, .inl (upd (fun _ => nI 0) 0 k))), (b3, .inl (cI, 60, .inl ta)), (b4, .inl (cI, 60, .inl tn))]) (fun (Nm : String) (u : HS) => exaP P K np u ∧ ((Nm = iseS ∧ u.2.2.2 = false) ∨ (Nm = iaeS ∧ u.2.2.2 = true ∧ inB x 3 = false))) (fun (u : HS) => [(x0, .inr (5, [.ref p0, .ref h, .ref e0, .ref w, .ref r, .int (bI (true)), .int (bI (wv))])), (p0, .inr (0, [.ref p1, .ref p2, .int (nI np)])), (p1, .inl (cI, 24, .inl P)), (p2, .inl (cI, 24, .inl K)), (e0, .inr (2, [.ref e1, .ref e2, .int (nI u.2.2.1), .int (bI (u.2.2.2))])), (e1, .inl (cI, 24, .inl u.1)), (e2, .inl (cI, 24, .inl u.2.1)), (r, .inr (4, [.ref b1, .ref b2, .ref b3, .ref b4, .int (nI how), .int (nI stat), .int (nI pl), .int (nI q), .int (nI stt), .int (nI dn)])), (b1, .inl (cI, 14, .inl sa)), (b2, .inl (cI, 8, .inl ca)), (b3, .inl (cI, 60, .inl ta)), (b4, .inl (cI, 60, .inl tn))]) := by
  refine pl_startTV (by decide) (Nat.le_of_ble_eq_true rfl) ?_
  intro p e s m args below meth c A ls X hr hlk hno hK hP hD hS hA hE hl
  have X : CallFix p m c b_Loom_start 3 s args TG R_Loom := X
  have hx := X.1
  have hb := X.2.1
  have hl : lv_has ls 3 [(0, .ref x0), (1, .int x), (2, .int k)] := hl
  refine lv_aload_n hx hb d_Loom_start_0 rfl (lv_at hl 0 rfl) ?_
  refine pl_callTV X (rest := []) (As := []) (b := x0) (c_Loom_requireWellFormed l D cI cZ cL t1 t2 x0 p0 p1 p2 h a1 a2 a3 e0 e1 e2 w w1 v v1 v2 r b1 b2 b3 b4 P K lo hi th F Qu fo f g sa ca ta tn np n qd z how stat pl q stt dn b ex wv hl0 hnp hop hex) ck_Loom_106 (EX_ok t1 t2) (pl_pass (EX_ok t1 t2) hE hD hS hA [0, 1, 2, 3, 4, 5, 6] rfl) hK hP hD hS hA (T := F_Loom) (N := N_Loom) (ci := 5) rfl 0 rfl [0, 1, 2, 3, 4, 5, 6] [7, 8, 9, 10, 11] [5, 6, 7, 8, 9, 10, 11, 0, 1, 2, 3, 4] [5, 6, 7, 8, 9, 10, 11, 0, 1, 2, 3, 4] rfl (by decide) (wr := [(r, .inr (4, [.ref b1, .ref b2, .ref b3, .ref b4, .int (nI how), .int (nI stat), .int (nI pl), .int (nI q), .int (nI stt), .int (nI dn)])), (b1, .inl (cI, 14, .inl sa)), (b2, .inl (cI, 8, .inl ca)), (b3, .inl (cI, 60, .inl ta)), (b4, .inl (cI, 60, .inl tn))]) rfl (by decide) (by decide) (wf := fun (u : HS) => [(x0, .inr (5, [.ref p0, .ref h, .ref e0, .ref w, .ref r, .int (bI (true)), .int (bI (wv))])), (p0, .inr (0, [.ref p1, .ref p2, .int (nI np)])), (p1, .inl (cI, 24, .inl P)), (p2, .inl (cI, 24, .inl K)), (e0, .inr (2, [.ref e1, .ref e2, .int (nI u.2.2.1), .int (bI (u.2.2.2))])), (e1, .inl (cI, 24, .inl u.1)), (e2, .inl (cI, 24, .inl u.2.1)), (r, .inr (4, [.ref b1, .ref b2, .ref b3, .ref b4, .int (nI how), .int (nI stat), .int (nI pl), .int (nI q), .int (nI stt), .int (nI dn)])), (b1, .inl (cI, 14, .inl sa)), (b2, .inl (cI, 8, .inl ca)), (b3, .inl (cI, 60, .inl ta)), (b4, .inl (cI, 60, .inl tn))]) (fun _ => rfl) (by decide) (wfx := fun (ux : HS) => [(x0, .inr (5, [.ref p0, .ref h, .ref e0, .ref w, .ref r, .int (bI (true)), .int (bI (wv))])), (p0, .inr (0, [.ref p1, .ref p2, .int (nI np)])), (p1, .inl (cI, 24, .inl P)), (p2, .inl (cI, 24, .inl K)), (e0, .inr (2, [.ref e1, .ref e2, .int (nI ux.2.2.1), .int (bI (ux.2.2.2))])), (e1, .inl (cI, 24, .inl ux.1)), (e2, .inl (cI, 24, .inl ux.2.1)), (r, .inr (4, [.ref b1, .ref b2, .ref b3, .ref b4, .int (nI how), .int (nI stat), .int (nI pl), .int (nI q), .int (nI stt), .int (nI dn)])), (b1, .inl (cI, 14, .inl sa)), (b2, .inl (cI, 8, .inl ca)), (b3, .inl (cI, 60, .inl ta)), (b4, .inl (cI, 60, .inl tn))]) (fun _ => rfl) (by decide) rfl hl.1 rfl (Nat.le_of_ble_eq_true rfl) (by decide) (by decide) d_Loom_start_1 (fun Nm ce qx ux H locs hpx hP hD hS hce hcv hcl => ?_) (fun u H locs hcq hP hD hS => ?_)
  · skip
    exact pl_outT hno hlk hK hce hcv hcl ux ⟨hpx.2.2, Or.inl ⟨hpx.1, hpx.2.1⟩⟩ hP hD hS (by decide) (by decide)
  · skip
    obtain ⟨hub, hxa⟩ := hcq
    have hwf := hxa.1 hub
    refine lv_iload_n hx hb d_Loom_start_4 rfl (lv_at hl 1 rfl) ?_
    refine lv_if_lt hx hb d_Loom_start_5 rfl (fun g5 => ?_) (fun g5 => ?_)
    · skip
      exact pl_throw (is := 125) (text := "no such run") X hl0 xw_iaeS hE (by decide +kernel) hno hlk hK u ⟨hxa, Or.inr ⟨rfl, hub, inB_lo g5⟩⟩ hP hD hS hl.1 d_Loom_start_13 d_Loom_start_16 d_Loom_start_17 d_Loom_start_19 d_Loom_start_22 (by decide) (Nat.le_of_ble_eq_true rfl) (by decide) (by decide) (by decide) (by decide)
    · skip
      refine lv_iload_n hx hb d_Loom_start_8 rfl (lv_at hl 1 rfl) ?_
      refine lv_iconst (v := nI 2) hx hb d_Loom_start_9 (by decide) ?_
      refine lv_icmp_le hx hb d_Loom_start_10 rfl (fun g10 => ?_) (fun g10 => ?_)
      · skip
        obtain ⟨j, hj, hxj⟩ := inB_of (by omega) (inB_le_t (m := 2) (by omega) g5 g10)
        have hl : lv_has ls 3 [(0, .ref x0), (1, .int (nI j)), (2, .int k)] := by rw [← hxj]; exact hl
        refine lv_aload_n hx hb d_Loom_start_23 rfl (lv_at hl 0 rfl) ?_
        refine pl_get X fw_Loom_42 hK hP 0 rfl (v := .ref r) rfl d_Loom_start_24 ?_
        refine lv_iload_n hx hb d_Loom_start_27 rfl (lv_at hl 1 rfl) ?_
        refine lv_iload_n hx hb d_Loom_start_28 rfl (lv_at hl 2 rfl) ?_
        refine pl_callVV X (rest := []) (As := [.int (nI j), .int k]) (b := r) (c_Run_begin l D cI cZ cL r b1 b2 b3 b4 sa ca ta tn how stat pl q stt dn j k) ck_Loom_127 pl_E0_ok trivial hK hP hD hS hA (T := F_Run) (N := N_Run) (ci := 4) rfl 7 rfl [7, 8, 9, 10, 11] [0, 1, 2, 3, 4, 5, 6] [0, 1, 2, 3, 4, 5, 6, 7, 8, 9, 10, 11] rfl (by decide) (wr := [(x0, .inr (5, [.ref p0, .ref h, .ref e0, .ref w, .ref r, .int (bI (true)), .int (bI (wv))])), (p0, .inr (0, [.ref p1, .ref p2, .int (nI np)])), (p1, .inl (cI, 24, .inl P)), (p2, .inl (cI, 24, .inl K)), (e0, .inr (2, [.ref e1, .ref e2, .int (nI u.2.2.1), .int (bI (u.2.2.2))])), (e1, .inl (cI, 24, .inl u.1)), (e2, .inl (cI, 24, .inl u.2.1))]) rfl (by decide) (by decide) (wf := fun _ => [(x0, .inr (5, [.ref p0, .ref h, .ref e0, .ref w, .ref r, .int (bI (true)), .int (bI (wv))])), (p0, .inr (0, [.ref p1, .ref p2, .int (nI np)])), (p1, .inl (cI, 24, .inl P)), (p2, .inl (cI, 24, .inl K)), (e0, .inr (2, [.ref e1, .ref e2, .int (nI u.2.2.1), .int (bI (u.2.2.2))])), (e1, .inl (cI, 24, .inl u.1)), (e2, .inl (cI, 24, .inl u.2.1)), (r, .inr (4, [.ref b1, .ref b2, .ref b3, .ref b4, .int (nI j), .int (nI 1), .int (nI 0), .int (nI 0), .int (nI 0), .int (nI 0)])), (b1, .inl (cI, 14, .inl sa)), (b2, .inl (cI, 8, .inl (upd (fun _ => nI 0) 0 k))), (b3, .inl (cI, 60, .inl ta)), (b4, .inl (cI, 60, .inl tn))]) (fun _ => rfl) (by decide) rfl hl.1 rfl (Nat.le_of_ble_eq_true rfl) (by decide) (by decide) d_Loom_start_29 (fun u0 H locs hcq hP hD hS => ?_)
        exact pl_vretT X hr hlk hK (u, j) ⟨hxa, hub, hxj, by omega⟩ hP hD hS (by decide) (by decide) d_Loom_start_32
      · skip
        exact pl_throw (is := 125) (text := "no such run") X hl0 xw_iaeS hE (by decide +kernel) hno hlk hK u ⟨hxa, Or.inr ⟨rfl, hub, inB_le_f (by omega) g10⟩⟩ hP hD hS hl.1 d_Loom_start_13 d_Loom_start_16 d_Loom_start_17 d_Loom_start_19 d_Loom_start_22 (by decide) (Nat.le_of_ble_eq_true rfl) (by decide) (by decide) (by decide) (by decide)

set_option maxHeartbeats 4000000 in
set_option maxRecDepth 100000 in
theorem c_Loom_look (l : Launch) (D : va_G) (cI cZ cL : ClassId) (t1 t2 : Nat) (x0 p0 p1 p2 h a1 a2 a3 e0 e1 e2 w w1 v v1 v2 r b1 b2 b3 b4 : Nat) (P K lo hi th F Qu fo f g sa ca ta tn : Nat → Int32) (np n qd z how stat pl q stt dn : Nat) (b ex wv : Bool) (x : Int32) (hl0 : l.stackTraces = false) (hh : how ≤ 2) (hst : stat ≤ 4) : pl_TI l y_Loom_look b_Loom_look 2 .int ({ frames := 6, cells := 1, slots := 6, locals := 82 } : Room) (EX t1 t2) D classes (TY cI cZ cL) [.ref x0, .int x] [(x0, .inr (5, [.ref p0, .ref h, .ref e0, .ref w, .ref r, .int (bI (ex)), .int (bI (wv))])), (r, .inr (4, [.ref b1, .ref b2, .ref b3, .ref b4, .int (nI how), .int (nI stat), .int (nI pl), .int (nI q), .int (nI stt), .int (nI dn)])), (b1, .inl (cI, 14, .inl sa)), (b2, .inl (cI, 8, .inl ca)), (b3, .inl (cI, 60, .inl ta)), (b4, .inl (cI, 60, .inl tn))] (fun (r : Int32) (_ : Unit) => ∃ j, j ≤ 4 ∧ x = nI j ∧ r = lookV j how stat pl q stt dn ca) (fun (_ : Unit) => [(x0, .inr (5, [.ref p0, .ref h, .ref e0, .ref w, .ref r, .int (bI (ex)), .int (bI (wv))])), (r, .inr (4, [.ref b1, .ref b2, .ref b3, .ref b4, .int (nI how), .int (nI stat), .int (nI pl), .int (nI q), .int (nI stt), .int (nI dn)])), (b1, .inl (cI, 14, .inl sa)), (b2, .inl (cI, 8, .inl ca)), (b3, .inl (cI, 60, .inl ta)), (b4, .inl (cI, 60, .inl tn))]) (fun (Nm : String) (_ : Unit) => Nm = iaeS ∧ inB x 5 = false) (fun (_ : Unit) => [(x0, .inr (5, [.ref p0, .ref h, .ref e0, .ref w, .ref r, .int (bI (ex)), .int (bI (wv))])), (r, .inr (4, [.ref b1, .ref b2, .ref b3, .ref b4, .int (nI how), .int (nI stat), .int (nI pl), .int (nI q), .int (nI stt), .int (nI dn)])), (b1, .inl (cI, 14, .inl sa)), (b2, .inl (cI, 8, .inl ca)), (b3, .inl (cI, 60, .inl ta)), (b4, .inl (cI, 60, .inl tn))]) := by
  refine pl_startTI (by decide) (Nat.le_of_ble_eq_true rfl) ?_
  intro p e s m args below meth c A ls X hr hlk hno hK hP hD hS hA hE hl
  have X : CallFix p m c b_Loom_look 2 s args TG R_Loom := X
  have hx := X.1
  have hb := X.2.1
  have hl : lv_has ls 2 [(0, .ref x0), (1, .int x)] := hl
  refine lv_iload_n hx hb d_Loom_look_0 rfl (lv_at hl 1 rfl) ?_
  refine lv_if_lt hx hb d_Loom_look_1 rfl (fun g1 => ?_) (fun g1 => ?_)
  · skip
    exact pl_throw (is := 147) (text := "nothing to look at") X hl0 xw_iaeS hE (by decide +kernel) hno hlk hK () ⟨rfl, inB_lo g1⟩ hP hD hS hl.1 d_Loom_look_9 d_Loom_look_12 d_Loom_look_13 d_Loom_look_15 d_Loom_look_18 (by decide) (Nat.le_of_ble_eq_true rfl) (by decide) (by decide) (by decide) (by decide)
  · skip
    refine lv_iload_n hx hb d_Loom_look_4 rfl (lv_at hl 1 rfl) ?_
    refine lv_iconst (v := nI 4) hx hb d_Loom_look_5 (by decide) ?_
    refine lv_icmp_le hx hb d_Loom_look_6 rfl (fun g6 => ?_) (fun g6 => ?_)
    · skip
      refine lv_aload_n hx hb d_Loom_look_19 rfl (lv_at hl 0 rfl) ?_
      refine pl_get X fw_Loom_42 hK hP 0 rfl (v := .ref r) rfl d_Loom_look_20 ?_
      refine pl_get X fw_Loom_130 hK hP 1 rfl (v := .int (nI stat)) rfl d_Loom_look_23 ?_
      refine pl_if_ne X (by omega) d_Loom_look_26 rfl (fun g26 => ?_) (fun g26 => ?_)
      · skip
        rcases lk5 g1 g6 with hxj | hxj | hxj | hxj | hxj
        · skip
          have hl : lv_has ls 2 [(0, .ref x0), (1, .int (nI 0))] := by rw [← hxj]; exact hl
          refine lv_iload_n hx hb d_Loom_look_31 rfl (lv_at hl 1 rfl) ?_
          refine lv_tableIn hx hb d_Loom_look_32 (by decide) (by decide) (off := 32) (by decide) (tgt := 64) rfl ?_
          refine lv_aload_n hx hb d_Loom_look_64 rfl (lv_at hl 0 rfl) ?_
          refine pl_get X fw_Loom_42 hK hP 0 rfl (v := .ref r) rfl d_Loom_look_65 ?_
          refine pl_get X fw_Loom_130 hK hP 1 rfl (v := .int (nI stat)) rfl d_Loom_look_68 ?_
          exact pl_iretT X hr hlk hK rfl () ⟨0, by omega, hxj, by unfold lookV; rw [if_neg g26]; rfl⟩ hP hD hS (by decide) (by decide) d_Loom_look_71
        · skip
          have hl : lv_has ls 2 [(0, .ref x0), (1, .int (nI 1))] := by rw [← hxj]; exact hl
          refine lv_iload_n hx hb d_Loom_look_31 rfl (lv_at hl 1 rfl) ?_
          refine lv_tableIn hx hb d_Loom_look_32 (by decide) (by decide) (off := 40) (by decide) (tgt := 72) rfl ?_
          refine lv_aload_n hx hb d_Loom_look_72 rfl (lv_at hl 0 rfl) ?_
          refine pl_get X fw_Loom_42 hK hP 0 rfl (v := .ref r) rfl d_Loom_look_73 ?_
          refine pl_get X fw_Loom_149 hK hP 1 rfl (v := .int (nI pl)) rfl d_Loom_look_76 ?_
          exact pl_iretT X hr hlk hK rfl () ⟨1, by omega, hxj, by unfold lookV; rw [if_neg g26]; rfl⟩ hP hD hS (by decide) (by decide) d_Loom_look_79
        · skip
          have hl : lv_has ls 2 [(0, .ref x0), (1, .int (nI 2))] := by rw [← hxj]; exact hl
          refine lv_iload_n hx hb d_Loom_look_31 rfl (lv_at hl 1 rfl) ?_
          refine lv_tableIn hx hb d_Loom_look_32 (by decide) (by decide) (off := 48) (by decide) (tgt := 80) rfl ?_
          refine lv_aload_n hx hb d_Loom_look_80 rfl (lv_at hl 0 rfl) ?_
          refine pl_get X fw_Loom_42 hK hP 0 rfl (v := .ref r) rfl d_Loom_look_81 ?_
          refine pl_get X fw_Loom_151 hK hP 1 rfl (v := .int (nI q)) rfl d_Loom_look_84 ?_
          exact pl_iretT X hr hlk hK rfl () ⟨2, by omega, hxj, by unfold lookV; rw [if_neg g26]; rfl⟩ hP hD hS (by decide) (by decide) d_Loom_look_87
        · skip
          have hl : lv_has ls 2 [(0, .ref x0), (1, .int (nI 3))] := by rw [← hxj]; exact hl
          refine lv_iload_n hx hb d_Loom_look_31 rfl (lv_at hl 1 rfl) ?_
          refine lv_tableIn hx hb d_Loom_look_32 (by decide) (by decide) (off := 56) (by decide) (tgt := 88) rfl ?_
          refine lv_aload_n hx hb d_Loom_look_88 rfl (lv_at hl 0 rfl) ?_
          refine pl_get X fw_Loom_42 hK hP 0 rfl (v := .ref r) rfl d_Loom_look_89 ?_
          refine pl_callVI X (rest := []) (As := []) (b := r) (c_Run_policyState l D cI cZ cL r b1 b2 b3 b4 sa ca ta tn how stat pl q stt dn hh) ck_Loom_154 pl_E0_ok trivial hK hP hD hS hA (T := F_Run) (N := N_Run) (ci := 4) rfl 1 rfl [1, 2, 3, 4, 5] [0] [0, 1, 2, 3, 4, 5] rfl (by decide) (wr := [(x0, .inr (5, [.ref p0, .ref h, .ref e0, .ref w, .ref r, .int (bI (ex)), .int (bI (wv))]))]) rfl (by decide) (by decide) (wf := fun _ => [(x0, .inr (5, [.ref p0, .ref h, .ref e0, .ref w, .ref r, .int (bI (ex)), .int (bI (wv))])), (r, .inr (4, [.ref b1, .ref b2, .ref b3, .ref b4, .int (nI how), .int (nI stat), .int (nI pl), .int (nI q), .int (nI stt), .int (nI dn)])), (b1, .inl (cI, 14, .inl sa)), (b2, .inl (cI, 8, .inl ca)), (b3, .inl (cI, 60, .inl ta)), (b4, .inl (cI, 60, .inl tn))]) (fun _ => rfl) (by decide) rfl hl.1 rfl (Nat.le_of_ble_eq_true rfl) (by decide) (by decide) d_Loom_look_92 (fun r u0 H locs hcq hP hD hS => ?_)
          subst hcq
          exact pl_iretT X hr hlk hK rfl () ⟨3, by omega, hxj, by unfold lookV; rw [if_neg g26]; rfl⟩ hP hD hS (by decide) (by decide) d_Loom_look_95
        · skip
          have hl : lv_has ls 2 [(0, .ref x0), (1, .int (nI 4))] := by rw [← hxj]; exact hl
          refine lv_iload_n hx hb d_Loom_look_31 rfl (lv_at hl 1 rfl) ?_
          refine lv_tableOut hx hb d_Loom_look_32 (by decide) (tgt := 96) rfl ?_
          refine lv_aload_n hx hb d_Loom_look_96 rfl (lv_at hl 0 rfl) ?_
          refine pl_get X fw_Loom_42 hK hP 0 rfl (v := .ref r) rfl d_Loom_look_97 ?_
          refine pl_get X fw_Loom_158 hK hP 1 rfl (v := .int (nI dn)) rfl d_Loom_look_100 ?_
          exact pl_iretT X hr hlk hK rfl () ⟨4, by omega, hxj, by unfold lookV; rw [if_neg g26]; rfl⟩ hP hD hS (by decide) (by decide) d_Loom_look_103
      · skip
        obtain ⟨j, hj, hxj⟩ := inB_of (by omega) (inB_le_t (m := 4) (by omega) g1 g6)
        refine lv_iconst (v := nI 0) hx hb d_Loom_look_29 (by decide) ?_
        exact pl_iretT X hr hlk hK rfl () ⟨j, by omega, hxj, by unfold lookV; rw [if_pos g26]⟩ hP hD hS (by decide) (by decide) d_Loom_look_30
    · skip
      exact pl_throw (is := 147) (text := "nothing to look at") X hl0 xw_iaeS hE (by decide +kernel) hno hlk hK () ⟨rfl, inB_le_f (by omega) g6⟩ hP hD hS hl.1 d_Loom_look_9 d_Loom_look_12 d_Loom_look_13 d_Loom_look_15 d_Loom_look_18 (by decide) (Nat.le_of_ble_eq_true rfl) (by decide) (by decide) (by decide) (by decide)

set_option maxHeartbeats 4000000 in
set_option maxRecDepth 100000 in
theorem c_Loom_act (l : Launch) (D : va_G) (cI cZ cL : ClassId) (t1 t2 : Nat) (x0 p0 p1 p2 h a1 a2 a3 e0 e1 e2 w w1 v v1 v2 r b1 b2 b3 b4 : Nat) (P K lo hi th F Qu fo f g sa ca ta tn : Nat → Int32) (np n qd z how stat pl q stt dn : Nat) (b ex wv : Bool) (x : Int32) (nb : Bool) (hl0 : l.stackTraces = false) (hst : stat ≤ 4) (hdn : dn ≤ 60) : pl_TI l y_Loom_act b_Loom_act 3 .int ({ frames := 6, cells := 1, slots := 6, locals := 82 } : Room) (EX t1 t2) D classes (TY cI cZ cL) [.ref x0, .int x, .int (bI (nb))] [(x0, .inr (5, [.ref p0, .ref h, .ref e0, .ref w, .ref r, .int (bI (ex)), .int (bI (wv))])), (r, .inr (4, [.ref b1, .ref b2, .ref b3, .ref b4, .int (nI how), .int (nI stat), .int (nI pl), .int (nI q), .int (nI stt), .int (nI dn)])), (b1, .inl (cI, 14, .inl sa)), (b2, .inl (cI, 8, .inl ca)), (b3, .inl (cI, 60, .inl ta)), (b4, .inl (cI, 60, .inl tn))] (fun (r : Int32) (_ : Unit) => ¬ stat = 0 ∧ ∃ j, j < dn ∧ x = nI j ∧ r = if nb = true then tn j else ta j) (fun (_ : Unit) => [(x0, .inr (5, [.ref p0, .ref h, .ref e0, .ref w, .ref r, .int (bI (ex)), .int (bI (wv))])), (r, .inr (4, [.ref b1, .ref b2, .ref b3, .ref b4, .int (nI how), .int (nI stat), .int (nI pl), .int (nI q), .int (nI stt), .int (nI dn)])), (b1, .inl (cI, 14, .inl sa)), (b2, .inl (cI, 8, .inl ca)), (b3, .inl (cI, 60, .inl ta)), (b4, .inl (cI, 60, .inl tn))]) (fun (Nm : String) (_ : Unit) => Nm = iobS ∧ (stat = 0 ∨ inB x dn = false)) (fun (_ : Unit) => [(x0, .inr (5, [.ref p0, .ref h, .ref e0, .ref w, .ref r, .int (bI (ex)), .int (bI (wv))])), (r, .inr (4, [.ref b1, .ref b2, .ref b3, .ref b4, .int (nI how), .int (nI stat), .int (nI pl), .int (nI q), .int (nI stt), .int (nI dn)])), (b1, .inl (cI, 14, .inl sa)), (b2, .inl (cI, 8, .inl ca)), (b3, .inl (cI, 60, .inl ta)), (b4, .inl (cI, 60, .inl tn))]) := by
  refine pl_startTI (by decide) (Nat.le_of_ble_eq_true rfl) ?_
  intro p e s m args below meth c A ls X hr hlk hno hK hP hD hS hA hE hl
  have X : CallFix p m c b_Loom_act 3 s args TG R_Loom := X
  have hx := X.1
  have hb := X.2.1
  have hl : lv_has ls 3 [(0, .ref x0), (1, .int x), (2, .int (bI (nb)))] := hl
  refine lv_aload_n hx hb d_Loom_act_0 rfl (lv_at hl 0 rfl) ?_
  refine pl_get X fw_Loom_42 hK hP 0 rfl (v := .ref r) rfl d_Loom_act_1 ?_
  refine pl_get X fw_Loom_130 hK hP 1 rfl (v := .int (nI stat)) rfl d_Loom_act_4 ?_
  refine pl_if_eq X (by omega) d_Loom_act_7 rfl (fun g7 => ?_) (fun g7 => ?_)
  · skip
    exact pl_throw (is := 161) (text := "no such act was done") X hl0 xw_iobS hE (by decide +kernel) hno hlk hK () ⟨rfl, Or.inl g7⟩ hP hD hS hl.1 d_Loom_act_25 d_Loom_act_28 d_Loom_act_29 d_Loom_act_31 d_Loom_act_34 (by decide) (Nat.le_of_ble_eq_true rfl) (by decide) (by decide) (by decide) (by decide)
  · skip
    refine lv_iload_n hx hb d_Loom_act_10 rfl (lv_at hl 1 rfl) ?_
    refine lv_if_lt hx hb d_Loom_act_11 rfl (fun g11 => ?_) (fun g11 => ?_)
    · skip
      exact pl_throw (is := 161) (text := "no such act was done") X hl0 xw_iobS hE (by decide +kernel) hno hlk hK () ⟨rfl, Or.inr (inB_lo g11)⟩ hP hD hS hl.1 d_Loom_act_25 d_Loom_act_28 d_Loom_act_29 d_Loom_act_31 d_Loom_act_34 (by decide) (Nat.le_of_ble_eq_true rfl) (by decide) (by decide) (by decide) (by decide)
    · skip
      refine lv_iload_n hx hb d_Loom_act_14 rfl (lv_at hl 1 rfl) ?_
      refine lv_aload_n hx hb d_Loom_act_15 rfl (lv_at hl 0 rfl) ?_
      refine pl_get X fw_Loom_42 hK hP 0 rfl (v := .ref r) rfl d_Loom_act_16 ?_
      refine pl_get X fw_Loom_158 hK hP 1 rfl (v := .int (nI dn)) rfl d_Loom_act_19 ?_
      refine lv_icmp_lt hx hb d_Loom_act_22 rfl (fun g22 => ?_) (fun g22 => ?_)
      · skip
        obtain ⟨j, hj, hxj⟩ := inB_of (by omega) (inB_in (by omega) g11 (i_nle.mpr g22))
        have hl : lv_has ls 3 [(0, .ref x0), (1, .int (nI j)), (2, .int (bI (nb)))] := by rw [← hxj]; exact hl
        refine lv_iload_n hx hb d_Loom_act_35 rfl (lv_at hl 2 rfl) ?_
        refine pl_ifB_eq X d_Loom_act_36 rfl (fun g36 => ?_) (fun g36 => ?_)
        · skip
          refine lv_aload_n hx hb d_Loom_act_51 rfl (lv_at hl 0 rfl) ?_
          refine pl_get X fw_Loom_42 hK hP 0 rfl (v := .ref r) rfl d_Loom_act_52 ?_
          refine pl_get X fw_Loom_166 hK hP 1 rfl (v := .ref b3) rfl d_Loom_act_55 ?_
          refine lv_iload_n hx hb d_Loom_act_58 rfl (lv_at hl 1 rfl) ?_
          refine pl_iald X hK hP 4 0 rfl rfl j (by omega) (by decide) (z := ta j) rfl d_Loom_act_59 ?_
          exact pl_iretT X hr hlk hK rfl () ⟨g7, j, hj, hxj, by rw [if_neg (by rw [g36]; decide)]⟩ hP hD hS (by decide) (by decide) d_Loom_act_60
        · skip
          refine lv_aload_n hx hb d_Loom_act_39 rfl (lv_at hl 0 rfl) ?_
          refine pl_get X fw_Loom_42 hK hP 0 rfl (v := .ref r) rfl d_Loom_act_40 ?_
          refine pl_get X fw_Loom_163 hK hP 1 rfl (v := .ref b4) rfl d_Loom_act_43 ?_
          refine lv_iload_n hx hb d_Loom_act_46 rfl (lv_at hl 1 rfl) ?_
          refine pl_iald X hK hP 5 0 rfl rfl j (by omega) (by decide) (z := tn j) rfl d_Loom_act_47 ?_
          refine lv_goto hx hb d_Loom_act_48 rfl ?_
          exact pl_iretT X hr hlk hK rfl () ⟨g7, j, hj, hxj, by rw [if_pos g36]⟩ hP hD hS (by decide) (by decide) d_Loom_act_60
      · skip
        exact pl_throw (is := 161) (text := "no such act was done") X hl0 xw_iobS hE (by decide +kernel) hno hlk hK () ⟨rfl, Or.inr (inB_hi (by omega) (i_nlt.mp g22))⟩ hP hD hS hl.1 d_Loom_act_25 d_Loom_act_28 d_Loom_act_29 d_Loom_act_31 d_Loom_act_34 (by decide) (Nat.le_of_ble_eq_true rfl) (by decide) (by decide) (by decide) (by decide)

set_option maxHeartbeats 4000000 in
set_option maxRecDepth 100000 in
theorem c_Loom_cell (l : Launch) (D : va_G) (cI cZ cL : ClassId) (t1 t2 : Nat) (x0 p0 p1 p2 h a1 a2 a3 e0 e1 e2 w w1 v v1 v2 r b1 b2 b3 b4 : Nat) (P K lo hi th F Qu fo f g sa ca ta tn : Nat → Int32) (np n qd z how stat pl q stt dn : Nat) (b ex wv : Bool) (x : Int32) (hl0 : l.stackTraces = false) (hst : stat ≤ 4) : pl_TI l y_Loom_cell b_Loom_cell 2 .int ({ frames := 6, cells := 1, slots := 6, locals := 82 } : Room) (EX t1 t2) D classes (TY cI cZ cL) [.ref x0, .int x] [(x0, .inr (5, [.ref p0, .ref h, .ref e0, .ref w, .ref r, .int (bI (ex)), .int (bI (wv))])), (r, .inr (4, [.ref b1, .ref b2, .ref b3, .ref b4, .int (nI how), .int (nI stat), .int (nI pl), .int (nI q), .int (nI stt), .int (nI dn)])), (b1, .inl (cI, 14, .inl sa)), (b2, .inl (cI, 8, .inl ca)), (b3, .inl (cI, 60, .inl ta)), (b4, .inl (cI, 60, .inl tn))] (fun (r : Int32) (_ : Unit) => ∃ j, j < 8 ∧ x = nI j ∧ r = if stat = 0 then nI 0 else ca j) (fun (_ : Unit) => [(x0, .inr (5, [.ref p0, .ref h, .ref e0, .ref w, .ref r, .int (bI (ex)), .int (bI (wv))])), (r, .inr (4, [.ref b1, .ref b2, .ref b3, .ref b4, .int (nI how), .int (nI stat), .int (nI pl), .int (nI q), .int (nI stt), .int (nI dn)])), (b1, .inl (cI, 14, .inl sa)), (b2, .inl (cI, 8, .inl ca)), (b3, .inl (cI, 60, .inl ta)), (b4, .inl (cI, 60, .inl tn))]) (fun (Nm : String) (_ : Unit) => Nm = iobS ∧ inB x 8 = false) (fun (_ : Unit) => [(x0, .inr (5, [.ref p0, .ref h, .ref e0, .ref w, .ref r, .int (bI (ex)), .int (bI (wv))])), (r, .inr (4, [.ref b1, .ref b2, .ref b3, .ref b4, .int (nI how), .int (nI stat), .int (nI pl), .int (nI q), .int (nI stt), .int (nI dn)])), (b1, .inl (cI, 14, .inl sa)), (b2, .inl (cI, 8, .inl ca)), (b3, .inl (cI, 60, .inl ta)), (b4, .inl (cI, 60, .inl tn))]) := by
  refine pl_startTI (by decide) (Nat.le_of_ble_eq_true rfl) ?_
  intro p e s m args below meth c A ls X hr hlk hno hK hP hD hS hA hE hl
  have X : CallFix p m c b_Loom_cell 2 s args TG R_Loom := X
  have hx := X.1
  have hb := X.2.1
  have hl : lv_has ls 2 [(0, .ref x0), (1, .int x)] := hl
  refine lv_iload_n hx hb d_Loom_cell_0 rfl (lv_at hl 1 rfl) ?_
  refine lv_if_lt hx hb d_Loom_cell_1 rfl (fun g1 => ?_) (fun g1 => ?_)
  · skip
    exact pl_throw (is := 169) (text := "no cell") X hl0 xw_iobS hE (by decide +kernel) hno hlk hK () ⟨rfl, inB_lo g1⟩ hP hD hS hl.1 d_Loom_cell_10 d_Loom_cell_13 d_Loom_cell_14 d_Loom_cell_16 d_Loom_cell_19 (by decide) (Nat.le_of_ble_eq_true rfl) (by decide) (by decide) (by decide) (by decide)
  · skip
    refine lv_iload_n hx hb d_Loom_cell_4 rfl (lv_at hl 1 rfl) ?_
    refine lv_bipush (v := nI 8) hx hb d_Loom_cell_5 (by decide) ?_
    refine lv_icmp_lt hx hb d_Loom_cell_7 rfl (fun g7 => ?_) (fun g7 => ?_)
    · skip
      obtain ⟨j, hj, hxj⟩ := inB_of (by omega) (inB_in (n := 8) (by omega) g1 (i_nle.mpr g7))
      have hl : lv_has ls 2 [(0, .ref x0), (1, .int (nI j))] := by rw [← hxj]; exact hl
      refine lv_aload_n hx hb d_Loom_cell_20 rfl (lv_at hl 0 rfl) ?_
      refine pl_get X fw_Loom_42 hK hP 0 rfl (v := .ref r) rfl d_Loom_cell_21 ?_
      refine pl_get X fw_Loom_130 hK hP 1 rfl (v := .int (nI stat)) rfl d_Loom_cell_24 ?_
      refine pl_if_ne X (by omega) d_Loom_cell_27 rfl (fun g27 => ?_) (fun g27 => ?_)
      · skip
        refine lv_aload_n hx hb d_Loom_cell_34 rfl (lv_at hl 0 rfl) ?_
        refine pl_get X fw_Loom_42 hK hP 0 rfl (v := .ref r) rfl d_Loom_cell_35 ?_
        refine pl_get X fw_Loom_171 hK hP 1 rfl (v := .ref b2) rfl d_Loom_cell_38 ?_
        refine lv_iload_n hx hb d_Loom_cell_41 rfl (lv_at hl 1 rfl) ?_
        refine pl_iald X hK hP 3 0 rfl rfl j (by omega) (by decide) (z := ca j) rfl d_Loom_cell_42 ?_
        exact pl_iretT X hr hlk hK rfl () ⟨j, hj, hxj, by rw [if_neg g27]⟩ hP hD hS (by decide) (by decide) d_Loom_cell_43
      · skip
        refine lv_iconst (v := nI 0) hx hb d_Loom_cell_30 (by decide) ?_
        refine lv_goto hx hb d_Loom_cell_31 rfl ?_
        exact pl_iretT X hr hlk hK rfl () ⟨j, hj, hxj, by rw [if_pos g27]⟩ hP hD hS (by decide) (by decide) d_Loom_cell_43
    · skip
      exact pl_throw (is := 169) (text := "no cell") X hl0 xw_iobS hE (by decide +kernel) hno hlk hK () ⟨rfl, inB_hi (by omega) (i_nlt.mp g7)⟩ hP hD hS hl.1 d_Loom_cell_10 d_Loom_cell_13 d_Loom_cell_14 d_Loom_cell_16 d_Loom_cell_19 (by decide) (Nat.le_of_ble_eq_true rfl) (by decide) (by decide) (by decide) (by decide)
