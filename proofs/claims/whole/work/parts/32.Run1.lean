set_option maxHeartbeats 4000000 in
set_option maxRecDepth 100000 in
theorem c_Run_push (l : Launch) (D : va_G) (cI cZ cL : ClassId) (r b1 b2 b3 b4 : Nat) (sa ca ta tn : Nat → Int32) (how stat pl : Nat) (q stt dn : Nat) (x : Int32) (hq : q < 14) : pl_V l y_Run_push b_Run_push 2 ({ frames := 0, cells := 0, slots := 0, locals := 0 } : Room) pl_E0 D classes (TY cI cZ cL) [.ref r, .int x] [(r, .inr (4, [.ref b1, .ref b2, .ref b3, .ref b4, .int (nI how), .int (nI stat), .int (nI pl), .int (nI q), .int (nI stt), .int (nI dn)])), (b1, .inl (cI, 14, .inl sa)), (b2, .inl (cI, 8, .inl ca)), (b3, .inl (cI, 60, .inl ta)), (b4, .inl (cI, 60, .inl tn))] (fun _ : Unit => True) (fun (_ : Unit) => [(r, .inr (4, [.ref b1, .ref b2, .ref b3, .ref b4, .int (nI how), .int (nI stat), .int (nI pl), .int (nI (q + 1)), .int (nI stt), .int (nI dn)])), (b1, .inl (cI, 14, .inl (upd sa q x))), (b2, .inl (cI, 8, .inl ca)), (b3, .inl (cI, 60, .inl ta)), (b4, .inl (cI, 60, .inl tn))]) := by
  refine pl_startV (by decide) (Nat.le_of_ble_eq_true rfl) ?_
  intro p e s m args below meth c A ls X hr hlk hin hK hP hD hS hA hE hl
  have X : CallFix p m c b_Run_push 2 s args TG R_Run := X
  have hx := X.1
  have hb := X.2.1
  have hl : lv_has ls 2 [(0, .ref r), (1, .int x)] := hl
  refine lv_aload_n hx hb d_Run_push_0 rfl (lv_at hl 0 rfl) ?_
  refine pl_get X fw_Run_9 hK hP 0 rfl (v := .ref b1) rfl d_Run_push_1 ?_
  refine lv_aload_n hx hb d_Run_push_4 rfl (lv_at hl 0 rfl) ?_
  refine pl_get X fw_Run_34 hK hP 0 rfl (v := .int (nI q)) rfl d_Run_push_5 ?_
  refine lv_iload_n hx hb d_Run_push_8 rfl (lv_at hl 1 rfl) ?_
  refine pl_iast X hK hP hD hS 1 0 rfl rfl q (by omega) (by decide) d_Run_push_9 (ws' := [(r, .inr (4, [.ref b1, .ref b2, .ref b3, .ref b4, .int (nI how), .int (nI stat), .int (nI pl), .int (nI q), .int (nI stt), .int (nI dn)])), (b1, .inl (cI, 14, .inl (upd sa q x))), (b2, .inl (cI, 8, .inl ca)), (b3, .inl (cI, 60, .inl ta)), (b4, .inl (cI, 60, .inl tn))]) rfl (fun H locs hP hD hS => ?_)
  refine lv_aload_n hx hb d_Run_push_10 rfl (lv_at hl 0 rfl) ?_
  refine lv_dup hx hb d_Run_push_11 rfl ?_
  refine pl_get X fw_Run_34 hK hP 0 rfl (v := .int (nI q)) rfl d_Run_push_12 ?_
  refine lv_iconst (v := nI 1) hx hb d_Run_push_15 (by decide) ?_
  refine pl_iadd X d_Run_push_16 (z := nI (q + 1)) (nI_add _ _) ?_
  refine pl_put X fw_Run_34 fp_Run rfl hK hP hD hS 0 rfl (v := .int (nI (q + 1))) rfl rfl (Nat.le_of_ble_eq_true rfl) d_Run_push_17 (ws' := [(r, .inr (4, [.ref b1, .ref b2, .ref b3, .ref b4, .int (nI how), .int (nI stat), .int (nI pl), .int (nI (q + 1)), .int (nI stt), .int (nI dn)])), (b1, .inl (cI, 14, .inl (upd sa q x))), (b2, .inl (cI, 8, .inl ca)), (b3, .inl (cI, 60, .inl ta)), (b4, .inl (cI, 60, .inl tn))]) rfl (fun H locs hP hD hS => ?_)
  exact pl_vret X hr hlk hK () trivial hP hD hS d_Run_push_20

set_option maxHeartbeats 4000000 in
set_option maxRecDepth 100000 in
theorem c_Run_pop (l : Launch) (D : va_G) (cI cZ cL : ClassId) (r b1 b2 b3 b4 : Nat) (sa ca ta tn : Nat → Int32) (how stat pl : Nat) (q stt dn : Nat) (hq : q < 14) : pl_I l y_Run_pop b_Run_pop 1 .int ({ frames := 0, cells := 0, slots := 0, locals := 0 } : Room) pl_E0 D classes (TY cI cZ cL) [.ref r] [(r, .inr (4, [.ref b1, .ref b2, .ref b3, .ref b4, .int (nI how), .int (nI stat), .int (nI pl), .int (nI (q + 1)), .int (nI stt), .int (nI dn)])), (b1, .inl (cI, 14, .inl sa)), (b2, .inl (cI, 8, .inl ca)), (b3, .inl (cI, 60, .inl ta)), (b4, .inl (cI, 60, .inl tn))] (fun (r : Int32) (_ : Unit) => r = sa q) (fun (_ : Unit) => [(r, .inr (4, [.ref b1, .ref b2, .ref b3, .ref b4, .int (nI how), .int (nI stat), .int (nI pl), .int (nI q), .int (nI stt), .int (nI dn)])), (b1, .inl (cI, 14, .inl sa)), (b2, .inl (cI, 8, .inl ca)), (b3, .inl (cI, 60, .inl ta)), (b4, .inl (cI, 60, .inl tn))]) := by
  refine pl_startI (by decide) (Nat.le_of_ble_eq_true rfl) ?_
  intro p e s m args below meth c A ls X hr hlk hin hK hP hD hS hA hE hl
  have X : CallFix p m c b_Run_pop 1 s args TG R_Run := X
  have hx := X.1
  have hb := X.2.1
  have hl : lv_has ls 1 [(0, .ref r)] := hl
  refine lv_aload_n hx hb d_Run_pop_0 rfl (lv_at hl 0 rfl) ?_
  refine lv_dup hx hb d_Run_pop_1 rfl ?_
  refine pl_get X fw_Run_34 hK hP 0 rfl (v := .int (nI (q + 1))) rfl d_Run_pop_2 ?_
  refine lv_iconst (v := nI 1) hx hb d_Run_pop_5 (by decide) ?_
  refine pl_isub X d_Run_pop_6 (z := nI q) (nI_dec _) ?_
  refine pl_put X fw_Run_34 fp_Run rfl hK hP hD hS 0 rfl (v := .int (nI q)) rfl rfl (Nat.le_of_ble_eq_true rfl) d_Run_pop_7 (ws' := [(r, .inr (4, [.ref b1, .ref b2, .ref b3, .ref b4, .int (nI how), .int (nI stat), .int (nI pl), .int (nI q), .int (nI stt), .int (nI dn)])), (b1, .inl (cI, 14, .inl sa)), (b2, .inl (cI, 8, .inl ca)), (b3, .inl (cI, 60, .inl ta)), (b4, .inl (cI, 60, .inl tn))]) rfl (fun H locs hP hD hS => ?_)
  refine lv_aload_n hx hb d_Run_pop_10 rfl (lv_at hl 0 rfl) ?_
  refine pl_get X fw_Run_9 hK hP 0 rfl (v := .ref b1) rfl d_Run_pop_11 ?_
  refine lv_aload_n hx hb d_Run_pop_14 rfl (lv_at hl 0 rfl) ?_
  refine pl_get X fw_Run_34 hK hP 0 rfl (v := .int (nI q)) rfl d_Run_pop_15 ?_
  refine pl_iald X hK hP 1 0 rfl rfl q (by omega) (by decide) (z := sa q) rfl d_Run_pop_18 ?_
  exact pl_iret X hr hlk hK rfl () rfl hP hD hS d_Run_pop_19

set_option maxHeartbeats 4000000 in
set_option maxRecDepth 100000 in
theorem c_Run_workOnTwo_2 (l : Launch) (D : va_G) (cI cZ cL : ClassId) (r b1 b2 b3 b4 : Nat) (sa ca ta tn : Nat → Int32) (how stat pl : Nat) (q stt dn : Nat) (hq : q + 2 ≤ 14) : pl_V l y_Run_workOnTwo b_Run_workOnTwo 4 ({ frames := 1, cells := 0, slots := 0, locals := 21 } : Room) pl_E0 D classes (TY cI cZ cL) [.ref r, .int (nI 2)] [(r, .inr (4, [.ref b1, .ref b2, .ref b3, .ref b4, .int (nI how), .int (nI stat), .int (nI pl), .int (nI (q + 2)), .int (nI stt), .int (nI dn)])), (b1, .inl (cI, 14, .inl sa)), (b2, .inl (cI, 8, .inl ca)), (b3, .inl (cI, 60, .inl ta)), (b4, .inl (cI, 60, .inl tn))] (fun _ : Unit => True) (fun (_ : Unit) => [(r, .inr (4, [.ref b1, .ref b2, .ref b3, .ref b4, .int (nI how), .int (nI stat), .int (nI pl), .int (nI (q + 1)), .int (nI stt), .int (nI dn)])), (b1, .inl (cI, 14, .inl (upd sa q (sa q + sa (q + 1))))), (b2, .inl (cI, 8, .inl ca)), (b3, .inl (cI, 60, .inl ta)), (b4, .inl (cI, 60, .inl tn))]) := by
  refine pl_startV (by decide) (Nat.le_of_ble_eq_true rfl) ?_
  intro p e s m args below meth c A ls X hr hlk hin hK hP hD hS hA hE hl
  have X : CallFix p m c b_Run_workOnTwo 4 s args TG R_Run := X
  have hx := X.1
  have hb := X.2.1
  have hl : lv_has ls 4 [(0, .ref r), (1, .int (nI 2))] := hl
  refine lv_aload_n hx hb d_Run_workOnTwo_0 rfl (lv_at hl 0 rfl) ?_
  refine pl_callVI X (rest := []) (As := []) (b := r) (c_Run_pop l D cI cZ cL r b1 b2 b3 b4 sa ca ta tn how stat pl (q + 1) stt dn (by omega)) ck_Run_51 pl_E0_ok trivial hK hP hD hS hA (T := F_Run) (N := N_Run) (ci := 4) rfl 0 rfl [0, 1, 2, 3, 4] [] [0, 1, 2, 3, 4] rfl (by decide) (wr := []) rfl (by decide) (by decide) (wf := fun _ => [(r, .inr (4, [.ref b1, .ref b2, .ref b3, .ref b4, .int (nI how), .int (nI stat), .int (nI pl), .int (nI (q + 1)), .int (nI stt), .int (nI dn)])), (b1, .inl (cI, 14, .inl sa)), (b2, .inl (cI, 8, .inl ca)), (b3, .inl (cI, 60, .inl ta)), (b4, .inl (cI, 60, .inl tn))]) (fun _ => rfl) (by decide) rfl hl.1 rfl (Nat.le_of_ble_eq_true rfl) (by decide) (by decide) d_Run_workOnTwo_1 (fun r u0 H locs hcq hP hD hS => ?_)
  subst hcq
  refine lv_istore_n hx hb d_Run_workOnTwo_4 rfl hl (by decide) (lv' := [(2, .int (sa (q + 1))), (0, .ref r), (1, .int (nI 2))]) rfl (fun ls hl => ?_)
  refine lv_aload_n hx hb d_Run_workOnTwo_5 rfl (lv_at hl 1 rfl) ?_
  refine pl_callVI X (rest := []) (As := []) (b := r) (c_Run_pop l D cI cZ cL r b1 b2 b3 b4 sa ca ta tn how stat pl q stt dn (by omega)) ck_Run_51 pl_E0_ok trivial hK hP hD hS hA (T := F_Run) (N := N_Run) (ci := 4) rfl 0 rfl [0, 1, 2, 3, 4] [] [0, 1, 2, 3, 4] rfl (by decide) (wr := []) rfl (by decide) (by decide) (wf := fun _ => [(r, .inr (4, [.ref b1, .ref b2, .ref b3, .ref b4, .int (nI how), .int (nI stat), .int (nI pl), .int (nI q), .int (nI stt), .int (nI dn)])), (b1, .inl (cI, 14, .inl sa)), (b2, .inl (cI, 8, .inl ca)), (b3, .inl (cI, 60, .inl ta)), (b4, .inl (cI, 60, .inl tn))]) (fun _ => rfl) (by decide) rfl hl.1 rfl (Nat.le_of_ble_eq_true rfl) (by decide) (by decide) d_Run_workOnTwo_6 (fun r u0 H locs hcq hP hD hS => ?_)
  subst hcq
  refine lv_istore_n hx hb d_Run_workOnTwo_9 rfl hl (by decide) (lv' := [(3, .int (sa q)), (2, .int (sa (q + 1))), (0, .ref r), (1, .int (nI 2))]) rfl (fun ls hl => ?_)
  refine lv_iload_n hx hb d_Run_workOnTwo_10 rfl (lv_at hl 3 rfl) ?_
  refine lv_tableIn hx hb d_Run_workOnTwo_11 (by decide) (by decide) (off := 25) (by decide) (tgt := 36) rfl ?_
  refine lv_aload_n hx hb d_Run_workOnTwo_36 rfl (lv_at hl 2 rfl) ?_
  refine lv_iload_n hx hb d_Run_workOnTwo_37 rfl (lv_at hl 0 rfl) ?_
  refine lv_iload_n hx hb d_Run_workOnTwo_38 rfl (lv_at hl 1 rfl) ?_
  refine pl_iadd X d_Run_workOnTwo_39 (z := (sa q) + (sa (q + 1))) rfl ?_
  refine pl_callVV X (rest := []) (As := [.int ((sa q) + (sa (q + 1)))]) (b := r) (c_Run_push l D cI cZ cL r b1 b2 b3 b4 sa ca ta tn how stat pl q stt dn ((sa q + sa (q + 1))) (by omega)) ck_Run_75 pl_E0_ok trivial hK hP hD hS hA (T := F_Run) (N := N_Run) (ci := 4) rfl 0 rfl [0, 1, 2, 3, 4] [] [0, 1, 2, 3, 4] rfl (by decide) (wr := []) rfl (by decide) (by decide) (wf := fun _ => [(r, .inr (4, [.ref b1, .ref b2, .ref b3, .ref b4, .int (nI how), .int (nI stat), .int (nI pl), .int (nI (q + 1)), .int (nI stt), .int (nI dn)])), (b1, .inl (cI, 14, .inl (upd sa q ((sa q + sa (q + 1)))))), (b2, .inl (cI, 8, .inl ca)), (b3, .inl (cI, 60, .inl ta)), (b4, .inl (cI, 60, .inl tn))]) (fun _ => rfl) (by decide) rfl hl.1 rfl (Nat.le_of_ble_eq_true rfl) (by decide) (by decide) d_Run_workOnTwo_40 (fun u0 H locs hcq hP hD hS => ?_)
  refine lv_goto hx hb d_Run_workOnTwo_43 rfl ?_
  exact pl_vret X hr hlk hK () trivial hP hD hS d_Run_workOnTwo_83

set_option maxHeartbeats 4000000 in
set_option maxRecDepth 100000 in
theorem c_Run_workOnTwo_3 (l : Launch) (D : va_G) (cI cZ cL : ClassId) (r b1 b2 b3 b4 : Nat) (sa ca ta tn : Nat → Int32) (how stat pl : Nat) (q stt dn : Nat) (hq : q + 2 ≤ 14) : pl_V l y_Run_workOnTwo b_Run_workOnTwo 4 ({ frames := 1, cells := 0, slots := 0, locals := 21 } : Room) pl_E0 D classes (TY cI cZ cL) [.ref r, .int (nI 3)] [(r, .inr (4, [.ref b1, .ref b2, .ref b3, .ref b4, .int (nI how), .int (nI stat), .int (nI pl), .int (nI (q + 2)), .int (nI stt), .int (nI dn)])), (b1, .inl (cI, 14, .inl sa)), (b2, .inl (cI, 8, .inl ca)), (b3, .inl (cI, 60, .inl ta)), (b4, .inl (cI, 60, .inl tn))] (fun _ : Unit => True) (fun (_ : Unit) => [(r, .inr (4, [.ref b1, .ref b2, .ref b3, .ref b4, .int (nI how), .int (nI stat), .int (nI pl), .int (nI (q + 1)), .int (nI stt), .int (nI dn)])), (b1, .inl (cI, 14, .inl (upd sa q (sa q - sa (q + 1))))), (b2, .inl (cI, 8, .inl ca)), (b3, .inl (cI, 60, .inl ta)), (b4, .inl (cI, 60, .inl tn))]) := by
  refine pl_startV (by decide) (Nat.le_of_ble_eq_true rfl) ?_
  intro p e s m args below meth c A ls X hr hlk hin hK hP hD hS hA hE hl
  have X : CallFix p m c b_Run_workOnTwo 4 s args TG R_Run := X
  have hx := X.1
  have hb := X.2.1
  have hl : lv_has ls 4 [(0, .ref r), (1, .int (nI 3))] := hl
  refine lv_aload_n hx hb d_Run_workOnTwo_0 rfl (lv_at hl 0 rfl) ?_
  refine pl_callVI X (rest := []) (As := []) (b := r) (c_Run_pop l D cI cZ cL r b1 b2 b3 b4 sa ca ta tn how stat pl (q + 1) stt dn (by omega)) ck_Run_51 pl_E0_ok trivial hK hP hD hS hA (T := F_Run) (N := N_Run) (ci := 4) rfl 0 rfl [0, 1, 2, 3, 4] [] [0, 1, 2, 3, 4] rfl (by decide) (wr := []) rfl (by decide) (by decide) (wf := fun _ => [(r, .inr (4, [.ref b1, .ref b2, .ref b3, .ref b4, .int (nI how), .int (nI stat), .int (nI pl), .int (nI (q + 1)), .int (nI stt), .int (nI dn)])), (b1, .inl (cI, 14, .inl sa)), (b2, .inl (cI, 8, .inl ca)), (b3, .inl (cI, 60, .inl ta)), (b4, .inl (cI, 60, .inl tn))]) (fun _ => rfl) (by decide) rfl hl.1 rfl (Nat.le_of_ble_eq_true rfl) (by decide) (by decide) d_Run_workOnTwo_1 (fun r u0 H locs hcq hP hD hS => ?_)
  subst hcq
  refine lv_istore_n hx hb d_Run_workOnTwo_4 rfl hl (by decide) (lv' := [(2, .int (sa (q + 1))), (0, .ref r), (1, .int (nI 3))]) rfl (fun ls hl => ?_)
  refine lv_aload_n hx hb d_Run_workOnTwo_5 rfl (lv_at hl 1 rfl) ?_
  refine pl_callVI X (rest := []) (As := []) (b := r) (c_Run_pop l D cI cZ cL r b1 b2 b3 b4 sa ca ta tn how stat pl q stt dn (by omega)) ck_Run_51 pl_E0_ok trivial hK hP hD hS hA (T := F_Run) (N := N_Run) (ci := 4) rfl 0 rfl [0, 1, 2, 3, 4] [] [0, 1, 2, 3, 4] rfl (by decide) (wr := []) rfl (by decide) (by decide) (wf := fun _ => [(r, .inr (4, [.ref b1, .ref b2, .ref b3, .ref b4, .int (nI how), .int (nI stat), .int (nI pl), .int (nI q), .int (nI stt), .int (nI dn)])), (b1, .inl (cI, 14, .inl sa)), (b2, .inl (cI, 8, .inl ca)), (b3, .inl (cI, 60, .inl ta)), (b4, .inl (cI, 60, .inl tn))]) (fun _ => rfl) (by decide) rfl hl.1 rfl (Nat.le_of_ble_eq_true rfl) (by decide) (by decide) d_Run_workOnTwo_6 (fun r u0 H locs hcq hP hD hS => ?_)
  subst hcq
  refine lv_istore_n hx hb d_Run_workOnTwo_9 rfl hl (by decide) (lv' := [(3, .int (sa q)), (2, .int (sa (q + 1))), (0, .ref r), (1, .int (nI 3))]) rfl (fun ls hl => ?_)
  refine lv_iload_n hx hb d_Run_workOnTwo_10 rfl (lv_at hl 3 rfl) ?_
  refine lv_tableIn hx hb d_Run_workOnTwo_11 (by decide) (by decide) (off := 35) (by decide) (tgt := 46) rfl ?_
  refine lv_aload_n hx hb d_Run_workOnTwo_46 rfl (lv_at hl 2 rfl) ?_
  refine lv_iload_n hx hb d_Run_workOnTwo_47 rfl (lv_at hl 0 rfl) ?_
  refine lv_iload_n hx hb d_Run_workOnTwo_48 rfl (lv_at hl 1 rfl) ?_
  refine pl_isub X d_Run_workOnTwo_49 (z := (sa q) - (sa (q + 1))) rfl ?_
  refine pl_callVV X (rest := []) (As := [.int ((sa q) - (sa (q + 1)))]) (b := r) (c_Run_push l D cI cZ cL r b1 b2 b3 b4 sa ca ta tn how stat pl q stt dn ((sa q - sa (q + 1))) (by omega)) ck_Run_75 pl_E0_ok trivial hK hP hD hS hA (T := F_Run) (N := N_Run) (ci := 4) rfl 0 rfl [0, 1, 2, 3, 4] [] [0, 1, 2, 3, 4] rfl (by decide) (wr := []) rfl (by decide) (by decide) (wf := fun _ => [(r, .inr (4, [.ref b1, .ref b2, .ref b3, .ref b4, .int (nI how), .int (nI stat), .int (nI pl), .int (nI (q + 1)), .int (nI stt), .int (nI dn)])), (b1, .inl (cI, 14, .inl (upd sa q ((sa q - sa (q + 1)))))), (b2, .inl (cI, 8, .inl ca)), (b3, .inl (cI, 60, .inl ta)), (b4, .inl (cI, 60, .inl tn))]) (fun _ => rfl) (by decide) rfl hl.1 rfl (Nat.le_of_ble_eq_true rfl) (by decide) (by decide) d_Run_workOnTwo_50 (fun u0 H locs hcq hP hD hS => ?_)
  refine lv_goto hx hb d_Run_workOnTwo_53 rfl ?_
  exact pl_vret X hr hlk hK () trivial hP hD hS d_Run_workOnTwo_83

set_option maxHeartbeats 4000000 in
set_option maxRecDepth 100000 in
theorem c_Run_workOnTwo_4 (l : Launch) (D : va_G) (cI cZ cL : ClassId) (r b1 b2 b3 b4 : Nat) (sa ca ta tn : Nat → Int32) (how stat pl : Nat) (q stt dn : Nat) (hq : q + 2 ≤ 14) : pl_V l y_Run_workOnTwo b_Run_workOnTwo 4 ({ frames := 1, cells := 0, slots := 0, locals := 21 } : Room) pl_E0 D classes (TY cI cZ cL) [.ref r, .int (nI 4)] [(r, .inr (4, [.ref b1, .ref b2, .ref b3, .ref b4, .int (nI how), .int (nI stat), .int (nI pl), .int (nI (q + 2)), .int (nI stt), .int (nI dn)])), (b1, .inl (cI, 14, .inl sa)), (b2, .inl (cI, 8, .inl ca)), (b3, .inl (cI, 60, .inl ta)), (b4, .inl (cI, 60, .inl tn))] (fun _ : Unit => True) (fun (_ : Unit) => [(r, .inr (4, [.ref b1, .ref b2, .ref b3, .ref b4, .int (nI how), .int (nI stat), .int (nI pl), .int (nI (q + 1)), .int (nI stt), .int (nI dn)])), (b1, .inl (cI, 14, .inl (upd sa q (if sa q < sa (q + 1) then 1 else 0)))), (b2, .inl (cI, 8, .inl ca)), (b3, .inl (cI, 60, .inl ta)), (b4, .inl (cI, 60, .inl tn))]) := by
  refine pl_startV (by decide) (Nat.le_of_ble_eq_true rfl) ?_
  intro p e s m args below meth c A ls X hr hlk hin hK hP hD hS hA hE hl
  have X : CallFix p m c b_Run_workOnTwo 4 s args TG R_Run := X
  have hx := X.1
  have hb := X.2.1
  have hl : lv_has ls 4 [(0, .ref r), (1, .int (nI 4))] := hl
  refine lv_aload_n hx hb d_Run_workOnTwo_0 rfl (lv_at hl 0 rfl) ?_
  refine pl_callVI X (rest := []) (As := []) (b := r) (c_Run_pop l D cI cZ cL r b1 b2 b3 b4 sa ca ta tn how stat pl (q + 1) stt dn (by omega)) ck_Run_51 pl_E0_ok trivial hK hP hD hS hA (T := F_Run) (N := N_Run) (ci := 4) rfl 0 rfl [0, 1, 2, 3, 4] [] [0, 1, 2, 3, 4] rfl (by decide) (wr := []) rfl (by decide) (by decide) (wf := fun _ => [(r, .inr (4, [.ref b1, .ref b2, .ref b3, .ref b4, .int (nI how), .int (nI stat), .int (nI pl), .int (nI (q + 1)), .int (nI stt), .int (nI dn)])), (b1, .inl (cI, 14, .inl sa)), (b2, .inl (cI, 8, .inl ca)), (b3, .inl (cI, 60, .inl ta)), (b4, .inl (cI, 60, .inl tn))]) (fun _ => rfl) (by decide) rfl hl.1 rfl (Nat.le_of_ble_eq_true rfl) (by decide) (by decide) d_Run_workOnTwo_1 (fun r u0 H locs hcq hP hD hS => ?_)
  subst hcq
  refine lv_istore_n hx hb d_Run_workOnTwo_4 rfl hl (by decide) (lv' := [(2, .int (sa (q + 1))), (0, .ref r), (1, .int (nI 4))]) rfl (fun ls hl => ?_)
  refine lv_aload_n hx hb d_Run_workOnTwo_5 rfl (lv_at hl 1 rfl) ?_
  refine pl_callVI X (rest := []) (As := []) (b := r) (c_Run_pop l D cI cZ cL r b1 b2 b3 b4 sa ca ta tn how stat pl q stt dn (by omega)) ck_Run_51 pl_E0_ok trivial hK hP hD hS hA (T := F_Run) (N := N_Run) (ci := 4) rfl 0 rfl [0, 1, 2, 3, 4] [] [0, 1, 2, 3, 4] rfl (by decide) (wr := []) rfl (by decide) (by decide) (wf := fun _ => [(r, .inr (4, [.ref b1, .ref b2, .ref b3, .ref b4, .int (nI how), .int (nI stat), .int (nI pl), .int (nI q), .int (nI stt), .int (nI dn)])), (b1, .inl (cI, 14, .inl sa)), (b2, .inl (cI, 8, .inl ca)), (b3, .inl (cI, 60, .inl ta)), (b4, .inl (cI, 60, .inl tn))]) (fun _ => rfl) (by decide) rfl hl.1 rfl (Nat.le_of_ble_eq_true rfl) (by decide) (by decide) d_Run_workOnTwo_6 (fun r u0 H locs hcq hP hD hS => ?_)
  subst hcq
  refine lv_istore_n hx hb d_Run_workOnTwo_9 rfl hl (by decide) (lv' := [(3, .int (sa q)), (2, .int (sa (q + 1))), (0, .ref r), (1, .int (nI 4))]) rfl (fun ls hl => ?_)
  refine lv_iload_n hx hb d_Run_workOnTwo_10 rfl (lv_at hl 3 rfl) ?_
  refine lv_tableIn hx hb d_Run_workOnTwo_11 (by decide) (by decide) (off := 45) (by decide) (tgt := 56) rfl ?_
  refine lv_aload_n hx hb d_Run_workOnTwo_56 rfl (lv_at hl 2 rfl) ?_
  refine lv_iload_n hx hb d_Run_workOnTwo_57 rfl (lv_at hl 0 rfl) ?_
  refine lv_iload_n hx hb d_Run_workOnTwo_58 rfl (lv_at hl 1 rfl) ?_
  refine lv_icmp_ge hx hb d_Run_workOnTwo_59 rfl (fun g59 => ?_) (fun g59 => ?_)
  · skip
    refine lv_iconst (v := nI 0) hx hb d_Run_workOnTwo_66 (by decide) ?_
    refine pl_callVV X (rest := []) (As := [.int (nI 0)]) (b := r) (c_Run_push l D cI cZ cL r b1 b2 b3 b4 sa ca ta tn how stat pl q stt dn (nI 0) (by omega)) ck_Run_75 pl_E0_ok trivial hK hP hD hS hA (T := F_Run) (N := N_Run) (ci := 4) rfl 0 rfl [0, 1, 2, 3, 4] [] [0, 1, 2, 3, 4] rfl (by decide) (wr := []) rfl (by decide) (by decide) (wf := fun _ => [(r, .inr (4, [.ref b1, .ref b2, .ref b3, .ref b4, .int (nI how), .int (nI stat), .int (nI pl), .int (nI (q + 1)), .int (nI stt), .int (nI dn)])), (b1, .inl (cI, 14, .inl (upd sa q (nI 0)))), (b2, .inl (cI, 8, .inl ca)), (b3, .inl (cI, 60, .inl ta)), (b4, .inl (cI, 60, .inl tn))]) (fun _ => rfl) (by decide) rfl hl.1 rfl (Nat.le_of_ble_eq_true rfl) (by decide) (by decide) d_Run_workOnTwo_67 (fun u0 H locs hcq hP hD hS => ?_)
    refine lv_goto hx hb d_Run_workOnTwo_70 rfl ?_
    have e4 : (if sa q < sa (q + 1) then 1 else 0) = nI 0 := (if_neg (i_nlt.mpr g59))
    have hP : va_P D classes [(r, .inr (4, [.ref b1, .ref b2, .ref b3, .ref b4, .int (nI how), .int (nI stat), .int (nI pl), .int (nI (q + 1)), .int (nI stt), .int (nI dn)])), (b1, .inl (cI, 14, .inl (upd sa q (if sa q < sa (q + 1) then 1 else 0)))), (b2, .inl (cI, 8, .inl ca)), (b3, .inl (cI, 60, .inl ta)), (b4, .inl (cI, 60, .inl tn))] H := by rw [e4]; exact hP
    have hD : va_D A [(r, .inr (4, [.ref b1, .ref b2, .ref b3, .ref b4, .int (nI how), .int (nI stat), .int (nI pl), .int (nI (q + 1)), .int (nI stt), .int (nI dn)])), (b1, .inl (cI, 14, .inl (upd sa q (if sa q < sa (q + 1) then 1 else 0)))), (b2, .inl (cI, 8, .inl ca)), (b3, .inl (cI, 60, .inl ta)), (b4, .inl (cI, 60, .inl tn))] := by rw [e4]; exact hD
    exact pl_vret X hr hlk hK () trivial hP hD hS d_Run_workOnTwo_83
  · skip
    refine lv_iconst (v := nI 1) hx hb d_Run_workOnTwo_62 (by decide) ?_
    refine lv_goto hx hb d_Run_workOnTwo_63 rfl ?_
    refine pl_callVV X (rest := []) (As := [.int (nI 1)]) (b := r) (c_Run_push l D cI cZ cL r b1 b2 b3 b4 sa ca ta tn how stat pl q stt dn (nI 1) (by omega)) ck_Run_75 pl_E0_ok trivial hK hP hD hS hA (T := F_Run) (N := N_Run) (ci := 4) rfl 0 rfl [0, 1, 2, 3, 4] [] [0, 1, 2, 3, 4] rfl (by decide) (wr := []) rfl (by decide) (by decide) (wf := fun _ => [(r, .inr (4, [.ref b1, .ref b2, .ref b3, .ref b4, .int (nI how), .int (nI stat), .int (nI pl), .int (nI (q + 1)), .int (nI stt), .int (nI dn)])), (b1, .inl (cI, 14, .inl (upd sa q (nI 1)))), (b2, .inl (cI, 8, .inl ca)), (b3, .inl (cI, 60, .inl ta)), (b4, .inl (cI, 60, .inl tn))]) (fun _ => rfl) (by decide) rfl hl.1 rfl (Nat.le_of_ble_eq_true rfl) (by decide) (by decide) d_Run_workOnTwo_67 (fun u0 H locs hcq hP hD hS => ?_)
    refine lv_goto hx hb d_Run_workOnTwo_70 rfl ?_
    have e4 : (if sa q < sa (q + 1) then 1 else 0) = nI 1 := (if_pos (i_nle.mp g59))
    have hP : va_P D classes [(r, .inr (4, [.ref b1, .ref b2, .ref b3, .ref b4, .int (nI how), .int (nI stat), .int (nI pl), .int (nI (q + 1)), .int (nI stt), .int (nI dn)])), (b1, .inl (cI, 14, .inl (upd sa q (if sa q < sa (q + 1) then 1 else 0)))), (b2, .inl (cI, 8, .inl ca)), (b3, .inl (cI, 60, .inl ta)), (b4, .inl (cI, 60, .inl tn))] H := by rw [e4]; exact hP
    have hD : va_D A [(r, .inr (4, [.ref b1, .ref b2, .ref b3, .ref b4, .int (nI how), .int (nI stat), .int (nI pl), .int (nI (q + 1)), .int (nI stt), .int (nI dn)])), (b1, .inl (cI, 14, .inl (upd sa q (if sa q < sa (q + 1) then 1 else 0)))), (b2, .inl (cI, 8, .inl ca)), (b3, .inl (cI, 60, .inl ta)), (b4, .inl (cI, 60, .inl tn))] := by rw [e4]; exact hD
    exact pl_vret X hr hlk hK () trivial hP hD hS d_Run_workOnTwo_83

set_option maxHeartbeats 4000000 in
set_option maxRecDepth 100000 in
theorem c_Run_workOnTwo_10 (l : Launch) (D : va_G) (cI cZ cL : ClassId) (r b1 b2 b3 b4 : Nat) (sa ca ta tn : Nat → Int32) (how stat pl : Nat) (q stt dn : Nat) (hq : q + 2 ≤ 14) : pl_V l y_Run_workOnTwo b_Run_workOnTwo 4 ({ frames := 1, cells := 0, slots := 0, locals := 21 } : Room) pl_E0 D classes (TY cI cZ cL) [.ref r, .int (nI 10)] [(r, .inr (4, [.ref b1, .ref b2, .ref b3, .ref b4, .int (nI how), .int (nI stat), .int (nI pl), .int (nI (q + 2)), .int (nI stt), .int (nI dn)])), (b1, .inl (cI, 14, .inl sa)), (b2, .inl (cI, 8, .inl ca)), (b3, .inl (cI, 60, .inl ta)), (b4, .inl (cI, 60, .inl tn))] (fun _ : Unit => True) (fun (_ : Unit) => [(r, .inr (4, [.ref b1, .ref b2, .ref b3, .ref b4, .int (nI how), .int (nI stat), .int (nI pl), .int (nI (q + 2)), .int (nI stt), .int (nI dn)])), (b1, .inl (cI, 14, .inl (upd (upd sa q (sa (q + 1))) (q + 1) (sa q)))), (b2, .inl (cI, 8, .inl ca)), (b3, .inl (cI, 60, .inl ta)), (b4, .inl (cI, 60, .inl tn))]) := by
  refine pl_startV (by decide) (Nat.le_of_ble_eq_true rfl) ?_
  intro p e s m args below meth c A ls X hr hlk hin hK hP hD hS hA hE hl
  have X : CallFix p m c b_Run_workOnTwo 4 s args TG R_Run := X
  have hx := X.1
  have hb := X.2.1
  have hl : lv_has ls 4 [(0, .ref r), (1, .int (nI 10))] := hl
  refine lv_aload_n hx hb d_Run_workOnTwo_0 rfl (lv_at hl 0 rfl) ?_
  refine pl_callVI X (rest := []) (As := []) (b := r) (c_Run_pop l D cI cZ cL r b1 b2 b3 b4 sa ca ta tn how stat pl (q + 1) stt dn (by omega)) ck_Run_51 pl_E0_ok trivial hK hP hD hS hA (T := F_Run) (N := N_Run) (ci := 4) rfl 0 rfl [0, 1, 2, 3, 4] [] [0, 1, 2, 3, 4] rfl (by decide) (wr := []) rfl (by decide) (by decide) (wf := fun _ => [(r, .inr (4, [.ref b1, .ref b2, .ref b3, .ref b4, .int (nI how), .int (nI stat), .int (nI pl), .int (nI (q + 1)), .int (nI stt), .int (nI dn)])), (b1, .inl (cI, 14, .inl sa)), (b2, .inl (cI, 8, .inl ca)), (b3, .inl (cI, 60, .inl ta)), (b4, .inl (cI, 60, .inl tn))]) (fun _ => rfl) (by decide) rfl hl.1 rfl (Nat.le_of_ble_eq_true rfl) (by decide) (by decide) d_Run_workOnTwo_1 (fun r u0 H locs hcq hP hD hS => ?_)
  subst hcq
  refine lv_istore_n hx hb d_Run_workOnTwo_4 rfl hl (by decide) (lv' := [(2, .int (sa (q + 1))), (0, .ref r), (1, .int (nI 10))]) rfl (fun ls hl => ?_)
  refine lv_aload_n hx hb d_Run_workOnTwo_5 rfl (lv_at hl 1 rfl) ?_
  refine pl_callVI X (rest := []) (As := []) (b := r) (c_Run_pop l D cI cZ cL r b1 b2 b3 b4 sa ca ta tn how stat pl q stt dn (by omega)) ck_Run_51 pl_E0_ok trivial hK hP hD hS hA (T := F_Run) (N := N_Run) (ci := 4) rfl 0 rfl [0, 1, 2, 3, 4] [] [0, 1, 2, 3, 4] rfl (by decide) (wr := []) rfl (by decide) (by decide) (wf := fun _ => [(r, .inr (4, [.ref b1, .ref b2, .ref b3, .ref b4, .int (nI how), .int (nI stat), .int (nI pl), .int (nI q), .int (nI stt), .int (nI dn)])), (b1, .inl (cI, 14, .inl sa)), (b2, .inl (cI, 8, .inl ca)), (b3, .inl (cI, 60, .inl ta)), (b4, .inl (cI, 60, .inl tn))]) (fun _ => rfl) (by decide) rfl hl.1 rfl (Nat.le_of_ble_eq_true rfl) (by decide) (by decide) d_Run_workOnTwo_6 (fun r u0 H locs hcq hP hD hS => ?_)
  subst hcq
  refine lv_istore_n hx hb d_Run_workOnTwo_9 rfl hl (by decide) (lv' := [(3, .int (sa q)), (2, .int (sa (q + 1))), (0, .ref r), (1, .int (nI 10))]) rfl (fun ls hl => ?_)
  refine lv_iload_n hx hb d_Run_workOnTwo_10 rfl (lv_at hl 3 rfl) ?_
  refine lv_tableOut hx hb d_Run_workOnTwo_11 (by decide) (tgt := 73) rfl ?_
  refine lv_aload_n hx hb d_Run_workOnTwo_73 rfl (lv_at hl 2 rfl) ?_
  refine lv_iload_n hx hb d_Run_workOnTwo_74 rfl (lv_at hl 1 rfl) ?_
  refine pl_callVV X (rest := []) (As := [.int (sa (q + 1))]) (b := r) (c_Run_push l D cI cZ cL r b1 b2 b3 b4 sa ca ta tn how stat pl q stt dn (sa (q + 1)) (by omega)) ck_Run_75 pl_E0_ok trivial hK hP hD hS hA (T := F_Run) (N := N_Run) (ci := 4) rfl 0 rfl [0, 1, 2, 3, 4] [] [0, 1, 2, 3, 4] rfl (by decide) (wr := []) rfl (by decide) (by decide) (wf := fun _ => [(r, .inr (4, [.ref b1, .ref b2, .ref b3, .ref b4, .int (nI how), .int (nI stat), .int (nI pl), .int (nI (q + 1)), .int (nI stt), .int (nI dn)])), (b1, .inl (cI, 14, .inl (upd sa q (sa (q + 1))))), (b2, .inl (cI, 8, .inl ca)), (b3, .inl (cI, 60, .inl ta)), (b4, .inl (cI, 60, .inl tn))]) (fun _ => rfl) (by decide) rfl hl.1 rfl (Nat.le_of_ble_eq_true rfl) (by decide) (by decide) d_Run_workOnTwo_75 (fun u0 H locs hcq hP hD hS => ?_)
  refine lv_aload_n hx hb d_Run_workOnTwo_78 rfl (lv_at hl 2 rfl) ?_
  refine lv_iload_n hx hb d_Run_workOnTwo_79 rfl (lv_at hl 0 rfl) ?_
  refine pl_callVV X (rest := []) (As := [.int (sa q)]) (b := r) (c_Run_push l D cI cZ cL r b1 b2 b3 b4 (upd sa q (sa (q + 1))) ca ta tn how stat pl (q + 1) stt dn (sa q) (by omega)) ck_Run_75 pl_E0_ok trivial hK hP hD hS hA (T := F_Run) (N := N_Run) (ci := 4) rfl 0 rfl [0, 1, 2, 3, 4] [] [0, 1, 2, 3, 4] rfl (by decide) (wr := []) rfl (by decide) (by decide) (wf := fun _ => [(r, .inr (4, [.ref b1, .ref b2, .ref b3, .ref b4, .int (nI how), .int (nI stat), .int (nI pl), .int (nI (q + 2)), .int (nI stt), .int (nI dn)])), (b1, .inl (cI, 14, .inl (upd (upd sa q (sa (q + 1))) (q + 1) (sa q)))), (b2, .inl (cI, 8, .inl ca)), (b3, .inl (cI, 60, .inl ta)), (b4, .inl (cI, 60, .inl tn))]) (fun _ => rfl) (by decide) rfl hl.1 rfl (Nat.le_of_ble_eq_true rfl) (by decide) (by decide) d_Run_workOnTwo_80 (fun u0 H locs hcq hP hD hS => ?_)
  exact pl_vret X hr hlk hK () trivial hP hD hS d_Run_workOnTwo_83

set_option maxHeartbeats 4000000 in
set_option maxRecDepth 100000 in
theorem c_Run_work_0 (l : Launch) (D : va_G) (cI cZ cL : ClassId) (r b1 b2 b3 b4 : Nat) (sa ca ta tn : Nat → Int32) (how stat pl : Nat) (q stt dn : Nat) (k : Int32) (hq : q < 14) : pl_V l y_Run_work b_Run_work 3 ({ frames := 2, cells := 0, slots := 0, locals := 44 } : Room) pl_E0 D classes (TY cI cZ cL) [.ref r, .int (nI 0), .int k] [(r, .inr (4, [.ref b1, .ref b2, .ref b3, .ref b4, .int (nI how), .int (nI stat), .int (nI pl), .int (nI q), .int (nI stt), .int (nI dn)])), (b1, .inl (cI, 14, .inl sa)), (b2, .inl (cI, 8, .inl ca)), (b3, .inl (cI, 60, .inl ta)), (b4, .inl (cI, 60, .inl tn))] (fun _ : Unit => True) (fun (_ : Unit) => [(r, .inr (4, [.ref b1, .ref b2, .ref b3, .ref b4, .int (nI how), .int (nI stat), .int (nI pl), .int (nI (q + 1)), .int (nI stt), .int (nI dn)])), (b1, .inl (cI, 14, .inl (upd sa q k))), (b2, .inl (cI, 8, .inl ca)), (b3, .inl (cI, 60, .inl ta)), (b4, .inl (cI, 60, .inl tn))]) := by
  refine pl_startV (by decide) (Nat.le_of_ble_eq_true rfl) ?_
  intro p e s m args below meth c A ls X hr hlk hin hK hP hD hS hA hE hl
  have X : CallFix p m c b_Run_work 3 s args TG R_Run := X
  have hx := X.1
  have hb := X.2.1
  have hl : lv_has ls 3 [(0, .ref r), (1, .int (nI 0)), (2, .int k)] := hl
  refine lv_iload_n hx hb d_Run_work_0 rfl (lv_at hl 1 rfl) ?_
  refine lv_tableIn hx hb d_Run_work_1 (by decide) (by decide) (off := 63) (by decide) (tgt := 64) rfl ?_
  refine lv_aload_n hx hb d_Run_work_64 rfl (lv_at hl 0 rfl) ?_
  refine lv_iload_n hx hb d_Run_work_65 rfl (lv_at hl 2 rfl) ?_
  refine pl_callVV X (rest := []) (As := [.int k]) (b := r) (c_Run_push l D cI cZ cL r b1 b2 b3 b4 sa ca ta tn how stat pl q stt dn k (by omega)) ck_Run_75 pl_E0_ok trivial hK hP hD hS hA (T := F_Run) (N := N_Run) (ci := 4) rfl 0 rfl [0, 1, 2, 3, 4] [] [0, 1, 2, 3, 4] rfl (by decide) (wr := []) rfl (by decide) (by decide) (wf := fun _ => [(r, .inr (4, [.ref b1, .ref b2, .ref b3, .ref b4, .int (nI how), .int (nI stat), .int (nI pl), .int (nI (q + 1)), .int (nI stt), .int (nI dn)])), (b1, .inl (cI, 14, .inl (upd sa q k))), (b2, .inl (cI, 8, .inl ca)), (b3, .inl (cI, 60, .inl ta)), (b4, .inl (cI, 60, .inl tn))]) (fun _ => rfl) (by decide) rfl hl.1 rfl (Nat.le_of_ble_eq_true rfl) (by decide) (by decide) d_Run_work_66 (fun u0 H locs hcq hP hD hS => ?_)
  refine lv_goto hx hb d_Run_work_69 rfl ?_
  exact pl_vret X hr hlk hK () trivial hP hD hS d_Run_work_134

set_option maxHeartbeats 4000000 in
set_option maxRecDepth 100000 in
theorem c_Run_work_1 (l : Launch) (D : va_G) (cI cZ cL : ClassId) (r b1 b2 b3 b4 : Nat) (sa ca ta tn : Nat → Int32) (how stat pl : Nat) (q stt dn : Nat) (k : Int32)  : pl_V l y_Run_work b_Run_work 3 ({ frames := 2, cells := 0, slots := 0, locals := 44 } : Room) pl_E0 D classes (TY cI cZ cL) [.ref r, .int (nI 1), .int k] [(r, .inr (4, [.ref b1, .ref b2, .ref b3, .ref b4, .int (nI how), .int (nI stat), .int (nI pl), .int (nI (q + 1)), .int (nI stt), .int (nI dn)])), (b1, .inl (cI, 14, .inl sa)), (b2, .inl (cI, 8, .inl ca)), (b3, .inl (cI, 60, .inl ta)), (b4, .inl (cI, 60, .inl tn))] (fun _ : Unit => True) (fun (_ : Unit) => [(r, .inr (4, [.ref b1, .ref b2, .ref b3, .ref b4, .int (nI how), .int (nI stat), .int (nI pl), .int (nI q), .int (nI stt), .int (nI dn)])), (b1, .inl (cI, 14, .inl sa)), (b2, .inl (cI, 8, .inl ca)), (b3, .inl (cI, 60, .inl ta)), (b4, .inl (cI, 60, .inl tn))]) := by
  refine pl_startV (by decide) (Nat.le_of_ble_eq_true rfl) ?_
  intro p e s m args below meth c A ls X hr hlk hin hK hP hD hS hA hE hl
  have X : CallFix p m c b_Run_work 3 s args TG R_Run := X
  have hx := X.1
  have hb := X.2.1
  have hl : lv_has ls 3 [(0, .ref r), (1, .int (nI 1)), (2, .int k)] := hl
  refine lv_iload_n hx hb d_Run_work_0 rfl (lv_at hl 1 rfl) ?_
  refine lv_tableIn hx hb d_Run_work_1 (by decide) (by decide) (off := 71) (by decide) (tgt := 72) rfl ?_
  refine lv_aload_n hx hb d_Run_work_72 rfl (lv_at hl 0 rfl) ?_
  refine lv_dup hx hb d_Run_work_73 rfl ?_
  refine pl_get X fw_Run_34 hK hP 0 rfl (v := .int (nI (q + 1))) rfl d_Run_work_74 ?_
  refine lv_iconst (v := nI 1) hx hb d_Run_work_77 (by decide) ?_
  refine pl_isub X d_Run_work_78 (z := nI q) (nI_dec _) ?_
  refine pl_put X fw_Run_34 fp_Run rfl hK hP hD hS 0 rfl (v := .int (nI q)) rfl rfl (Nat.le_of_ble_eq_true rfl) d_Run_work_79 (ws' := [(r, .inr (4, [.ref b1, .ref b2, .ref b3, .ref b4, .int (nI how), .int (nI stat), .int (nI pl), .int (nI q), .int (nI stt), .int (nI dn)])), (b1, .inl (cI, 14, .inl sa)), (b2, .inl (cI, 8, .inl ca)), (b3, .inl (cI, 60, .inl ta)), (b4, .inl (cI, 60, .inl tn))]) rfl (fun H locs hP hD hS => ?_)
  refine lv_goto hx hb d_Run_work_82 rfl ?_
  exact pl_vret X hr hlk hK () trivial hP hD hS d_Run_work_134

set_option maxHeartbeats 4000000 in
set_option maxRecDepth 100000 in
theorem c_Run_work_5 (l : Launch) (D : va_G) (cI cZ cL : ClassId) (r b1 b2 b3 b4 : Nat) (sa ca ta tn : Nat → Int32) (how stat pl : Nat) (q stt dn : Nat) (j : Nat) (hq : q < 14) (hj : j < 8) : pl_V l y_Run_work b_Run_work 3 ({ frames := 2, cells := 0, slots := 0, locals := 44 } : Room) pl_E0 D classes (TY cI cZ cL) [.ref r, .int (nI 5), .int (nI j)] [(r, .inr (4, [.ref b1, .ref b2, .ref b3, .ref b4, .int (nI how), .int (nI stat), .int (nI pl), .int (nI q), .int (nI stt), .int (nI dn)])), (b1, .inl (cI, 14, .inl sa)), (b2, .inl (cI, 8, .inl ca)), (b3, .inl (cI, 60, .inl ta)), (b4, .inl (cI, 60, .inl tn))] (fun _ : Unit => True) (fun (_ : Unit) => [(r, .inr (4, [.ref b1, .ref b2, .ref b3, .ref b4, .int (nI how), .int (nI stat), .int (nI pl), .int (nI (q + 1)), .int (nI stt), .int (nI dn)])), (b1, .inl (cI, 14, .inl (upd sa q (ca j)))), (b2, .inl (cI, 8, .inl ca)), (b3, .inl (cI, 60, .inl ta)), (b4, .inl (cI, 60, .inl tn))]) := by
  refine pl_startV (by decide) (Nat.le_of_ble_eq_true rfl) ?_
  intro p e s m args below meth c A ls X hr hlk hin hK hP hD hS hA hE hl
  have X : CallFix p m c b_Run_work 3 s args TG R_Run := X
  have hx := X.1
  have hb := X.2.1
  have hl : lv_has ls 3 [(0, .ref r), (1, .int (nI 5)), (2, .int (nI j))] := hl
  refine lv_iload_n hx hb d_Run_work_0 rfl (lv_at hl 1 rfl) ?_
  refine lv_tableIn hx hb d_Run_work_1 (by decide) (by decide) (off := 84) (by decide) (tgt := 85) rfl ?_
  refine lv_aload_n hx hb d_Run_work_85 rfl (lv_at hl 0 rfl) ?_
  refine lv_aload_n hx hb d_Run_work_86 rfl (lv_at hl 0 rfl) ?_
  refine pl_get X fw_Run_15 hK hP 0 rfl (v := .ref b2) rfl d_Run_work_87 ?_
  refine lv_iload_n hx hb d_Run_work_90 rfl (lv_at hl 2 rfl) ?_
  refine pl_iald X hK hP 2 0 rfl rfl j (by omega) (by decide) (z := ca j) rfl d_Run_work_91 ?_
  refine pl_callVV X (rest := []) (As := [.int (ca j)]) (b := r) (c_Run_push l D cI cZ cL r b1 b2 b3 b4 sa ca ta tn how stat pl q stt dn (ca j) (by omega)) ck_Run_75 pl_E0_ok trivial hK hP hD hS hA (T := F_Run) (N := N_Run) (ci := 4) rfl 0 rfl [0, 1, 2, 3, 4] [] [0, 1, 2, 3, 4] rfl (by decide) (wr := []) rfl (by decide) (by decide) (wf := fun _ => [(r, .inr (4, [.ref b1, .ref b2, .ref b3, .ref b4, .int (nI how), .int (nI stat), .int (nI pl), .int (nI (q + 1)), .int (nI stt), .int (nI dn)])), (b1, .inl (cI, 14, .inl (upd sa q (ca j)))), (b2, .inl (cI, 8, .inl ca)), (b3, .inl (cI, 60, .inl ta)), (b4, .inl (cI, 60, .inl tn))]) (fun _ => rfl) (by decide) rfl hl.1 rfl (Nat.le_of_ble_eq_true rfl) (by decide) (by decide) d_Run_work_92 (fun u0 H locs hcq hP hD hS => ?_)
  refine lv_goto hx hb d_Run_work_95 rfl ?_
  exact pl_vret X hr hlk hK () trivial hP hD hS d_Run_work_134

set_option maxHeartbeats 4000000 in
set_option maxRecDepth 100000 in
theorem c_Run_work_6 (l : Launch) (D : va_G) (cI cZ cL : ClassId) (r b1 b2 b3 b4 : Nat) (sa ca ta tn : Nat → Int32) (how stat pl : Nat) (q stt dn : Nat) (j : Nat) (hq : q < 14) (hj : j < 8) : pl_V l y_Run_work b_Run_work 3 ({ frames := 2, cells := 0, slots := 0, locals := 44 } : Room) pl_E0 D classes (TY cI cZ cL) [.ref r, .int (nI 6), .int (nI j)] [(r, .inr (4, [.ref b1, .ref b2, .ref b3, .ref b4, .int (nI how), .int (nI stat), .int (nI pl), .int (nI (q + 1)), .int (nI stt), .int (nI dn)])), (b1, .inl (cI, 14, .inl sa)), (b2, .inl (cI, 8, .inl ca)), (b3, .inl (cI, 60, .inl ta)), (b4, .inl (cI, 60, .inl tn))] (fun _ : Unit => True) (fun (_ : Unit) => [(r, .inr (4, [.ref b1, .ref b2, .ref b3, .ref b4, .int (nI how), .int (nI stat), .int (nI pl), .int (nI q), .int (nI stt), .int (nI dn)])), (b1, .inl (cI, 14, .inl sa)), (b2, .inl (cI, 8, .inl (upd ca j (sa q)))), (b3, .inl (cI, 60, .inl ta)), (b4, .inl (cI, 60, .inl tn))]) := by
  refine pl_startV (by decide) (Nat.le_of_ble_eq_true rfl) ?_
  intro p e s m args below meth c A ls X hr hlk hin hK hP hD hS hA hE hl
  have X : CallFix p m c b_Run_work 3 s args TG R_Run := X
  have hx := X.1
  have hb := X.2.1
  have hl : lv_has ls 3 [(0, .ref r), (1, .int (nI 6)), (2, .int (nI j))] := hl
  refine lv_iload_n hx hb d_Run_work_0 rfl (lv_at hl 1 rfl) ?_
  refine lv_tableIn hx hb d_Run_work_1 (by decide) (by decide) (off := 97) (by decide) (tgt := 98) rfl ?_
  refine lv_aload_n hx hb d_Run_work_98 rfl (lv_at hl 0 rfl) ?_
  refine pl_get X fw_Run_15 hK hP 0 rfl (v := .ref b2) rfl d_Run_work_99 ?_
  refine lv_iload_n hx hb d_Run_work_102 rfl (lv_at hl 2 rfl) ?_
  refine lv_aload_n hx hb d_Run_work_103 rfl (lv_at hl 0 rfl) ?_
  refine pl_callVI X (rest := [.int (nI j), .ref b2]) (As := []) (b := r) (c_Run_pop l D cI cZ cL r b1 b2 b3 b4 sa ca ta tn how stat pl q stt dn (by omega)) ck_Run_51 pl_E0_ok trivial hK hP hD hS hA (T := F_Run) (N := N_Run) (ci := 4) rfl 0 rfl [0, 1, 2, 3, 4] [] [0, 1, 2, 3, 4] rfl (by decide) (wr := []) rfl (by decide) (by decide) (wf := fun _ => [(r, .inr (4, [.ref b1, .ref b2, .ref b3, .ref b4, .int (nI how), .int (nI stat), .int (nI pl), .int (nI q), .int (nI stt), .int (nI dn)])), (b1, .inl (cI, 14, .inl sa)), (b2, .inl (cI, 8, .inl ca)), (b3, .inl (cI, 60, .inl ta)), (b4, .inl (cI, 60, .inl tn))]) (fun _ => rfl) (by decide) rfl hl.1 rfl (Nat.le_of_ble_eq_true rfl) (by decide) (by decide) d_Run_work_104 (fun r u0 H locs hcq hP hD hS => ?_)
  subst hcq
  refine pl_iast X hK hP hD hS 2 0 rfl rfl j (by omega) (by decide) d_Run_work_107 (ws' := [(r, .inr (4, [.ref b1, .ref b2, .ref b3, .ref b4, .int (nI how), .int (nI stat), .int (nI pl), .int (nI q), .int (nI stt), .int (nI dn)])), (b1, .inl (cI, 14, .inl sa)), (b2, .inl (cI, 8, .inl (upd ca j (sa q)))), (b3, .inl (cI, 60, .inl ta)), (b4, .inl (cI, 60, .inl tn))]) rfl (fun H locs hP hD hS => ?_)
  refine lv_goto hx hb d_Run_work_108 rfl ?_
  exact pl_vret X hr hlk hK () trivial hP hD hS d_Run_work_134

set_option maxHeartbeats 4000000 in
set_option maxRecDepth 100000 in
theorem c_Run_work_11 (l : Launch) (D : va_G) (cI cZ cL : ClassId) (r b1 b2 b3 b4 : Nat) (sa ca ta tn : Nat → Int32) (how stat pl : Nat) (q stt dn : Nat) (k : Int32) (hq : q + 1 < 14) : pl_V l y_Run_work b_Run_work 3 ({ frames := 2, cells := 0, slots := 0, locals := 44 } : Room) pl_E0 D classes (TY cI cZ cL) [.ref r, .int (nI 11), .int k] [(r, .inr (4, [.ref b1, .ref b2, .ref b3, .ref b4, .int (nI how), .int (nI stat), .int (nI pl), .int (nI (q + 1)), .int (nI stt), .int (nI dn)])), (b1, .inl (cI, 14, .inl sa)), (b2, .inl (cI, 8, .inl ca)), (b3, .inl (cI, 60, .inl ta)), (b4, .inl (cI, 60, .inl tn))] (fun _ : Unit => True) (fun (_ : Unit) => [(r, .inr (4, [.ref b1, .ref b2, .ref b3, .ref b4, .int (nI how), .int (nI stat), .int (nI pl), .int (nI (q + 2)), .int (nI stt), .int (nI dn)])), (b1, .inl (cI, 14, .inl (upd sa (q + 1) (sa q)))), (b2, .inl (cI, 8, .inl ca)), (b3, .inl (cI, 60, .inl ta)), (b4, .inl (cI, 60, .inl tn))]) := by
  refine pl_startV (by decide) (Nat.le_of_ble_eq_true rfl) ?_
  intro p e s m args below meth c A ls X hr hlk hin hK hP hD hS hA hE hl
  have X : CallFix p m c b_Run_work 3 s args TG R_Run := X
  have hx := X.1
  have hb := X.2.1
  have hl : lv_has ls 3 [(0, .ref r), (1, .int (nI 11)), (2, .int k)] := hl
  refine lv_iload_n hx hb d_Run_work_0 rfl (lv_at hl 1 rfl) ?_
  refine lv_tableIn hx hb d_Run_work_1 (by decide) (by decide) (off := 110) (by decide) (tgt := 111) rfl ?_
  refine lv_aload_n hx hb d_Run_work_111 rfl (lv_at hl 0 rfl) ?_
  refine lv_aload_n hx hb d_Run_work_112 rfl (lv_at hl 0 rfl) ?_
  refine pl_get X fw_Run_9 hK hP 0 rfl (v := .ref b1) rfl d_Run_work_113 ?_
  refine lv_aload_n hx hb d_Run_work_116 rfl (lv_at hl 0 rfl) ?_
  refine pl_get X fw_Run_34 hK hP 0 rfl (v := .int (nI (q + 1))) rfl d_Run_work_117 ?_
  refine lv_iconst (v := nI 1) hx hb d_Run_work_120 (by decide) ?_
  refine pl_isub X d_Run_work_121 (z := nI q) (nI_dec _) ?_
  refine pl_iald X hK hP 1 0 rfl rfl q (by omega) (by decide) (z := sa q) rfl d_Run_work_122 ?_
  refine pl_callVV X (rest := []) (As := [.int (sa q)]) (b := r) (c_Run_push l D cI cZ cL r b1 b2 b3 b4 sa ca ta tn how stat pl (q + 1) stt dn (sa q) (by omega)) ck_Run_75 pl_E0_ok trivial hK hP hD hS hA (T := F_Run) (N := N_Run) (ci := 4) rfl 0 rfl [0, 1, 2, 3, 4] [] [0, 1, 2, 3, 4] rfl (by decide) (wr := []) rfl (by decide) (by decide) (wf := fun _ => [(r, .inr (4, [.ref b1, .ref b2, .ref b3, .ref b4, .int (nI how), .int (nI stat), .int (nI pl), .int (nI (q + 2)), .int (nI stt), .int (nI dn)])), (b1, .inl (cI, 14, .inl (upd sa (q + 1) (sa q)))), (b2, .inl (cI, 8, .inl ca)), (b3, .inl (cI, 60, .inl ta)), (b4, .inl (cI, 60, .inl tn))]) (fun _ => rfl) (by decide) rfl hl.1 rfl (Nat.le_of_ble_eq_true rfl) (by decide) (by decide) d_Run_work_123 (fun u0 H locs hcq hP hD hS => ?_)
  refine lv_goto hx hb d_Run_work_126 rfl ?_
  exact pl_vret X hr hlk hK () trivial hP hD hS d_Run_work_134

set_option maxHeartbeats 4000000 in
set_option maxRecDepth 100000 in
theorem c_Run_work_2 (l : Launch) (D : va_G) (cI cZ cL : ClassId) (r b1 b2 b3 b4 : Nat) (sa ca ta tn : Nat → Int32) (how stat pl : Nat) (q stt dn : Nat) (k : Int32) (hq : q + 2 ≤ 14) : pl_V l y_Run_work b_Run_work 3 ({ frames := 2, cells := 0, slots := 0, locals := 44 } : Room) pl_E0 D classes (TY cI cZ cL) [.ref r, .int (nI 2), .int k] [(r, .inr (4, [.ref b1, .ref b2, .ref b3, .ref b4, .int (nI how), .int (nI stat), .int (nI pl), .int (nI (q + 2)), .int (nI stt), .int (nI dn)])), (b1, .inl (cI, 14, .inl sa)), (b2, .inl (cI, 8, .inl ca)), (b3, .inl (cI, 60, .inl ta)), (b4, .inl (cI, 60, .inl tn))] (fun _ : Unit => True) (fun (_ : Unit) => [(r, .inr (4, [.ref b1, .ref b2, .ref b3, .ref b4, .int (nI how), .int (nI stat), .int (nI pl), .int (nI (q + 1)), .int (nI stt), .int (nI dn)])), (b1, .inl (cI, 14, .inl (upd sa q (sa q + sa (q + 1))))), (b2, .inl (cI, 8, .inl ca)), (b3, .inl (cI, 60, .inl ta)), (b4, .inl (cI, 60, .inl tn))]) := by
  refine pl_startV (by decide) (Nat.le_of_ble_eq_true rfl) ?_
  intro p e s m args below meth c A ls X hr hlk hin hK hP hD hS hA hE hl
  have X : CallFix p m c b_Run_work 3 s args TG R_Run := X
  have hx := X.1
  have hb := X.2.1
  have hl : lv_has ls 3 [(0, .ref r), (1, .int (nI 2)), (2, .int k)] := hl
  refine lv_iload_n hx hb d_Run_work_0 rfl (lv_at hl 1 rfl) ?_
  refine lv_tableIn hx hb d_Run_work_1 (by decide) (by decide) (off := 128) (by decide) (tgt := 129) rfl ?_
  refine lv_aload_n hx hb d_Run_work_129 rfl (lv_at hl 0 rfl) ?_
  refine lv_iload_n hx hb d_Run_work_130 rfl (lv_at hl 1 rfl) ?_
  refine pl_callVV X (rest := []) (As := [.int (nI 2)]) (b := r) (c_Run_workOnTwo_2 l D cI cZ cL r b1 b2 b3 b4 sa ca ta tn how stat pl q stt dn hq) ck_Run_79 pl_E0_ok trivial hK hP hD hS hA (T := F_Run) (N := N_Run) (ci := 4) rfl 0 rfl [0, 1, 2, 3, 4] [] [0, 1, 2, 3, 4] rfl (by decide) (wr := []) rfl (by decide) (by decide) (wf := fun _ => [(r, .inr (4, [.ref b1, .ref b2, .ref b3, .ref b4, .int (nI how), .int (nI stat), .int (nI pl), .int (nI (q + 1)), .int (nI stt), .int (nI dn)])), (b1, .inl (cI, 14, .inl (upd sa q (sa q + sa (q + 1))))), (b2, .inl (cI, 8, .inl ca)), (b3, .inl (cI, 60, .inl ta)), (b4, .inl (cI, 60, .inl tn))]) (fun _ => rfl) (by decide) rfl hl.1 rfl (Nat.le_of_ble_eq_true rfl) (by decide) (by decide) d_Run_work_131 (fun u0 H locs hcq hP hD hS => ?_)
  exact pl_vret X hr hlk hK () trivial hP hD hS d_Run_work_134

set_option maxHeartbeats 4000000 in
set_option maxRecDepth 100000 in
theorem c_Run_work_3 (l : Launch) (D : va_G) (cI cZ cL : ClassId) (r b1 b2 b3 b4 : Nat) (sa ca ta tn : Nat → Int32) (how stat pl : Nat) (q stt dn : Nat) (k : Int32) (hq : q + 2 ≤ 14) : pl_V l y_Run_work b_Run_work 3 ({ frames := 2, cells := 0, slots := 0, locals := 44 } : Room) pl_E0 D classes (TY cI cZ cL) [.ref r, .int (nI 3), .int k] [(r, .inr (4, [.ref b1, .ref b2, .ref b3, .ref b4, .int (nI how), .int (nI stat), .int (nI pl), .int (nI (q + 2)), .int (nI stt), .int (nI dn)])), (b1, .inl (cI, 14, .inl sa)), (b2, .inl (cI, 8, .inl ca)), (b3, .inl (cI, 60, .inl ta)), (b4, .inl (cI, 60, .inl tn))] (fun _ : Unit => True) (fun (_ : Unit) => [(r, .inr (4, [.ref b1, .ref b2, .ref b3, .ref b4, .int (nI how), .int (nI stat), .int (nI pl), .int (nI (q + 1)), .int (nI stt), .int (nI dn)])), (b1, .inl (cI, 14, .inl (upd sa q (sa q - sa (q + 1))))), (b2, .inl (cI, 8, .inl ca)), (b3, .inl (cI, 60, .inl ta)), (b4, .inl (cI, 60, .inl tn))]) := by
  refine pl_startV (by decide) (Nat.le_of_ble_eq_true rfl) ?_
  intro p e s m args below meth c A ls X hr hlk hin hK hP hD hS hA hE hl
  have X : CallFix p m c b_Run_work 3 s args TG R_Run := X
  have hx := X.1
  have hb := X.2.1
  have hl : lv_has ls 3 [(0, .ref r), (1, .int (nI 3)), (2, .int k)] := hl
  refine lv_iload_n hx hb d_Run_work_0 rfl (lv_at hl 1 rfl) ?_
  refine lv_tableIn hx hb d_Run_work_1 (by decide) (by decide) (off := 128) (by decide) (tgt := 129) rfl ?_
  refine lv_aload_n hx hb d_Run_work_129 rfl (lv_at hl 0 rfl) ?_
  refine lv_iload_n hx hb d_Run_work_130 rfl (lv_at hl 1 rfl) ?_
  refine pl_callVV X (rest := []) (As := [.int (nI 3)]) (b := r) (c_Run_workOnTwo_3 l D cI cZ cL r b1 b2 b3 b4 sa ca ta tn how stat pl q stt dn hq) ck_Run_79 pl_E0_ok trivial hK hP hD hS hA (T := F_Run) (N := N_Run) (ci := 4) rfl 0 rfl [0, 1, 2, 3, 4] [] [0, 1, 2, 3, 4] rfl (by decide) (wr := []) rfl (by decide) (by decide) (wf := fun _ => [(r, .inr (4, [.ref b1, .ref b2, .ref b3, .ref b4, .int (nI how), .int (nI stat), .int (nI pl), .int (nI (q + 1)), .int (nI stt), .int (nI dn)])), (b1, .inl (cI, 14, .inl (upd sa q (sa q - sa (q + 1))))), (b2, .inl (cI, 8, .inl ca)), (b3, .inl (cI, 60, .inl ta)), (b4, .inl (cI, 60, .inl tn))]) (fun _ => rfl) (by decide) rfl hl.1 rfl (Nat.le_of_ble_eq_true rfl) (by decide) (by decide) d_Run_work_131 (fun u0 H locs hcq hP hD hS => ?_)
  exact pl_vret X hr hlk hK () trivial hP hD hS d_Run_work_134

set_option maxHeartbeats 4000000 in
set_option maxRecDepth 100000 in
theorem c_Run_work_4 (l : Launch) (D : va_G) (cI cZ cL : ClassId) (r b1 b2 b3 b4 : Nat) (sa ca ta tn : Nat → Int32) (how stat pl : Nat) (q stt dn : Nat) (k : Int32) (hq : q + 2 ≤ 14) : pl_V l y_Run_work b_Run_work 3 ({ frames := 2, cells := 0, slots := 0, locals := 44 } : Room) pl_E0 D classes (TY cI cZ cL) [.ref r, .int (nI 4), .int k] [(r, .inr (4, [.ref b1, .ref b2, .ref b3, .ref b4, .int (nI how), .int (nI stat), .int (nI pl), .int (nI (q + 2)), .int (nI stt), .int (nI dn)])), (b1, .inl (cI, 14, .inl sa)), (b2, .inl (cI, 8, .inl ca)), (b3, .inl (cI, 60, .inl ta)), (b4, .inl (cI, 60, .inl tn))] (fun _ : Unit => True) (fun (_ : Unit) => [(r, .inr (4, [.ref b1, .ref b2, .ref b3, .ref b4, .int (nI how), .int (nI stat), .int (nI pl), .int (nI (q + 1)), .int (nI stt), .int (nI dn)])), (b1, .inl (cI, 14, .inl (upd sa q (if sa q < sa (q + 1) then 1 else 0)))), (b2, .inl (cI, 8, .inl ca)), (b3, .inl (cI, 60, .inl ta)), (b4, .inl (cI, 60, .inl tn))]) := by
  refine pl_startV (by decide) (Nat.le_of_ble_eq_true rfl) ?_
  intro p e s m args below meth c A ls X hr hlk hin hK hP hD hS hA hE hl
  have X : CallFix p m c b_Run_work 3 s args TG R_Run := X
  have hx := X.1
  have hb := X.2.1
  have hl : lv_has ls 3 [(0, .ref r), (1, .int (nI 4)), (2, .int k)] := hl
  refine lv_iload_n hx hb d_Run_work_0 rfl (lv_at hl 1 rfl) ?_
  refine lv_tableIn hx hb d_Run_work_1 (by decide) (by decide) (off := 128) (by decide) (tgt := 129) rfl ?_
  refine lv_aload_n hx hb d_Run_work_129 rfl (lv_at hl 0 rfl) ?_
  refine lv_iload_n hx hb d_Run_work_130 rfl (lv_at hl 1 rfl) ?_
  refine pl_callVV X (rest := []) (As := [.int (nI 4)]) (b := r) (c_Run_workOnTwo_4 l D cI cZ cL r b1 b2 b3 b4 sa ca ta tn how stat pl q stt dn hq) ck_Run_79 pl_E0_ok trivial hK hP hD hS hA (T := F_Run) (N := N_Run) (ci := 4) rfl 0 rfl [0, 1, 2, 3, 4] [] [0, 1, 2, 3, 4] rfl (by decide) (wr := []) rfl (by decide) (by decide) (wf := fun _ => [(r, .inr (4, [.ref b1, .ref b2, .ref b3, .ref b4, .int (nI how), .int (nI stat), .int (nI pl), .int (nI (q + 1)), .int (nI stt), .int (nI dn)])), (b1, .inl (cI, 14, .inl (upd sa q (if sa q < sa (q + 1) then 1 else 0)))), (b2, .inl (cI, 8, .inl ca)), (b3, .inl (cI, 60, .inl ta)), (b4, .inl (cI, 60, .inl tn))]) (fun _ => rfl) (by decide) rfl hl.1 rfl (Nat.le_of_ble_eq_true rfl) (by decide) (by decide) d_Run_work_131 (fun u0 H locs hcq hP hD hS => ?_)
  exact pl_vret X hr hlk hK () trivial hP hD hS d_Run_work_134

set_option maxHeartbeats 4000000 in
set_option maxRecDepth 100000 in
theorem c_Run_work_10 (l : Launch) (D : va_G) (cI cZ cL : ClassId) (r b1 b2 b3 b4 : Nat) (sa ca ta tn : Nat → Int32) (how stat pl : Nat) (q stt dn : Nat) (k : Int32) (hq : q + 2 ≤ 14) : pl_V l y_Run_work b_Run_work 3 ({ frames := 2, cells := 0, slots := 0, locals := 44 } : Room) pl_E0 D classes (TY cI cZ cL) [.ref r, .int (nI 10), .int k] [(r, .inr (4, [.ref b1, .ref b2, .ref b3, .ref b4, .int (nI how), .int (nI stat), .int (nI pl), .int (nI (q + 2)), .int (nI stt), .int (nI dn)])), (b1, .inl (cI, 14, .inl sa)), (b2, .inl (cI, 8, .inl ca)), (b3, .inl (cI, 60, .inl ta)), (b4, .inl (cI, 60, .inl tn))] (fun _ : Unit => True) (fun (_ : Unit) => [(r, .inr (4, [.ref b1, .ref b2, .ref b3, .ref b4, .int (nI how), .int (nI stat), .int (nI pl), .int (nI (q + 2)), .int (nI stt), .int (nI dn)])), (b1, .inl (cI, 14, .inl (upd (upd sa q (sa (q + 1))) (q + 1) (sa q)))), (b2, .inl (cI, 8, .inl ca)), (b3, .inl (cI, 60, .inl ta)), (b4, .inl (cI, 60, .inl tn))]) := by
  refine pl_startV (by decide) (Nat.le_of_ble_eq_true rfl) ?_
  intro p e s m args below meth c A ls X hr hlk hin hK hP hD hS hA hE hl
  have X : CallFix p m c b_Run_work 3 s args TG R_Run := X
  have hx := X.1
  have hb := X.2.1
  have hl : lv_has ls 3 [(0, .ref r), (1, .int (nI 10)), (2, .int k)] := hl
  refine lv_iload_n hx hb d_Run_work_0 rfl (lv_at hl 1 rfl) ?_
  refine lv_tableIn hx hb d_Run_work_1 (by decide) (by decide) (off := 128) (by decide) (tgt := 129) rfl ?_
  refine lv_aload_n hx hb d_Run_work_129 rfl (lv_at hl 0 rfl) ?_
  refine lv_iload_n hx hb d_Run_work_130 rfl (lv_at hl 1 rfl) ?_
  refine pl_callVV X (rest := []) (As := [.int (nI 10)]) (b := r) (c_Run_workOnTwo_10 l D cI cZ cL r b1 b2 b3 b4 sa ca ta tn how stat pl q stt dn hq) ck_Run_79 pl_E0_ok trivial hK hP hD hS hA (T := F_Run) (N := N_Run) (ci := 4) rfl 0 rfl [0, 1, 2, 3, 4] [] [0, 1, 2, 3, 4] rfl (by decide) (wr := []) rfl (by decide) (by decide) (wf := fun _ => [(r, .inr (4, [.ref b1, .ref b2, .ref b3, .ref b4, .int (nI how), .int (nI stat), .int (nI pl), .int (nI (q + 2)), .int (nI stt), .int (nI dn)])), (b1, .inl (cI, 14, .inl (upd (upd sa q (sa (q + 1))) (q + 1) (sa q)))), (b2, .inl (cI, 8, .inl ca)), (b3, .inl (cI, 60, .inl ta)), (b4, .inl (cI, 60, .inl tn))]) (fun _ => rfl) (by decide) rfl hl.1 rfl (Nat.le_of_ble_eq_true rfl) (by decide) (by decide) d_Run_work_131 (fun u0 H locs hcq hP hD hS => ?_)
  exact pl_vret X hr hlk hK () trivial hP hD hS d_Run_work_134

set_option maxHeartbeats 4000000 in
set_option maxRecDepth 100000 in
theorem c_Run_tryAct (l : Launch) (D : va_G) (cI cZ cL : ClassId) (r b1 b2 b3 b4 : Nat) (sa ca ta tn : Nat → Int32) (how stat pl : Nat) (q stt dn : Nat) (h a1 a2 a3 n : Nat) (lo hi th : Nat → Int32) (j t : Nat) (hh : how ≤ 2) (hq : q < 14) (hs : stt < 4) (hj : j < 8) (hd : dn ≤ 60) (hth : ¬ th (stt * 8 + j) = -1 → th (stt * 8 + j) = nI t) : pl_V l y_Run_tryAct b_Run_tryAct 5 ({ frames := 2, cells := 0, slots := 0, locals := 43 } : Room) pl_E0 D classes (TY cI cZ cL) [.ref r, .ref h, .int (nI j)] [(r, .inr (4, [.ref b1, .ref b2, .ref b3, .ref b4, .int (nI how), .int (nI 1), .int (nI pl), .int (nI (q + 1)), .int (nI stt), .int (nI dn)])), (b1, .inl (cI, 14, .inl sa)), (b2, .inl (cI, 8, .inl ca)), (b3, .inl (cI, 60, .inl ta)), (b4, .inl (cI, 60, .inl tn)), (h, .inr (1, [.ref a1, .ref a2, .ref a3, .int (nI n)])), (a1, .inl (cI, 32, .inl lo)), (a2, .inl (cI, 32, .inl hi)), (a3, .inl (cI, 32, .inl th))] (fun u : RSa => u = actS how (decide (¬ th (stt * 8 + j) = -1) && (decide (lo (stt * 8 + j) ≤ sa q) && decide (sa q ≤ hi (stt * 8 + j)))) pl q stt dn t j (sa q) ta tn) (fun (u : RSa) => [(r, .inr (4, [.ref b1, .ref b2, .ref b3, .ref b4, .int (nI how), .int (nI u.1), .int (nI u.2.1), .int (nI u.2.2.1), .int (nI u.2.2.2.1), .int (nI u.2.2.2.2.1)])), (b1, .inl (cI, 14, .inl sa)), (b2, .inl (cI, 8, .inl ca)), (b3, .inl (cI, 60, .inl u.2.2.2.2.2.1)), (b4, .inl (cI, 60, .inl u.2.2.2.2.2.2)), (h, .inr (1, [.ref a1, .ref a2, .ref a3, .int (nI n)])), (a1, .inl (cI, 32, .inl lo)), (a2, .inl (cI, 32, .inl hi)), (a3, .inl (cI, 32, .inl th))]) := by
  refine pl_startV (by decide) (Nat.le_of_ble_eq_true rfl) ?_
  intro p e s m args below meth c A ls X hr hlk hin hK hP hD hS hA hE hl
  have X : CallFix p m c b_Run_tryAct 5 s args TG R_Run := X
  have hx := X.1
  have hb := X.2.1
  have hl : lv_has ls 5 [(0, .ref r), (1, .ref h), (2, .int (nI j))] := hl
  refine lv_aload_n hx hb d_Run_tryAct_0 rfl (lv_at hl 0 rfl) ?_
  refine pl_get X fw_Run_9 hK hP 0 rfl (v := .ref b1) rfl d_Run_tryAct_1 ?_
  refine lv_aload_n hx hb d_Run_tryAct_4 rfl (lv_at hl 0 rfl) ?_
  refine pl_get X fw_Run_34 hK hP 0 rfl (v := .int (nI (q + 1))) rfl d_Run_tryAct_5 ?_
  refine lv_iconst (v := nI 1) hx hb d_Run_tryAct_8 (by decide) ?_
  refine pl_isub X d_Run_tryAct_9 (z := nI q) (nI_dec _) ?_
  refine pl_iald X hK hP 1 0 rfl rfl q (by omega) (by decide) (z := sa q) rfl d_Run_tryAct_10 ?_
  refine lv_istore_n hx hb d_Run_tryAct_11 rfl hl (by decide) (lv' := [(3, .int (sa q)), (0, .ref r), (1, .ref h), (2, .int (nI j))]) rfl (fun ls hl => ?_)
  refine lv_aload_n hx hb d_Run_tryAct_12 rfl (lv_at hl 1 rfl) ?_
  refine pl_get X fw_Run_37 hK hP 0 rfl (v := .int (nI stt)) rfl d_Run_tryAct_13 ?_
  refine lv_iload_n hx hb d_Run_tryAct_16 rfl (lv_at hl 3 rfl) ?_
  refine pl_callSI X (rest := []) (As := [.int (nI stt), .int (nI j)]) (c_Automaton_place l D cI cZ cL stt j) ck_Run_63 pl_E0_ok trivial hK hP hD hS hA [] [0, 1, 2, 3, 4, 5, 6, 7, 8] [0, 1, 2, 3, 4, 5, 6, 7, 8] rfl (by decide) (wr := [(r, .inr (4, [.ref b1, .ref b2, .ref b3, .ref b4, .int (nI how), .int (nI 1), .int (nI pl), .int (nI (q + 1)), .int (nI stt), .int (nI dn)])), (b1, .inl (cI, 14, .inl sa)), (b2, .inl (cI, 8, .inl ca)), (b3, .inl (cI, 60, .inl ta)), (b4, .inl (cI, 60, .inl tn)), (h, .inr (1, [.ref a1, .ref a2, .ref a3, .int (nI n)])), (a1, .inl (cI, 32, .inl lo)), (a2, .inl (cI, 32, .inl hi)), (a3, .inl (cI, 32, .inl th))]) rfl (by decide) (by decide) (wf := fun _ => [(r, .inr (4, [.ref b1, .ref b2, .ref b3, .ref b4, .int (nI how), .int (nI 1), .int (nI pl), .int (nI (q + 1)), .int (nI stt), .int (nI dn)])), (b1, .inl (cI, 14, .inl sa)), (b2, .inl (cI, 8, .inl ca)), (b3, .inl (cI, 60, .inl ta)), (b4, .inl (cI, 60, .inl tn)), (h, .inr (1, [.ref a1, .ref a2, .ref a3, .int (nI n)])), (a1, .inl (cI, 32, .inl lo)), (a2, .inl (cI, 32, .inl hi)), (a3, .inl (cI, 32, .inl th))]) (fun _ => rfl) (by decide) rfl hl.1 rfl (Nat.le_of_ble_eq_true rfl) (by decide) (by decide) d_Run_tryAct_17 (fun r u0 H locs hcq hP hD hS => ?_)
  subst hcq
  refine lv_istore hx hb d_Run_tryAct_20 hl (by decide) (lv' := [(4, .int (nI (stt * 8 + j))), (3, .int (sa q)), (0, .ref r), (1, .ref h), (2, .int (nI j))]) rfl (fun ls hl => ?_)
  refine lv_aload_n hx hb d_Run_tryAct_22 rfl (lv_at hl 2 rfl) ?_
  refine pl_get X fw_Run_28 hK hP 0 rfl (v := .int (nI how)) rfl d_Run_tryAct_23 ?_
  refine lv_iconst (v := nI 2) hx hb d_Run_tryAct_26 (by decide) ?_
  refine pl_icmp_ne X (by omega) (by decide) d_Run_tryAct_27 rfl (fun g27 => ?_) (fun g27 => ?_)
  · skip
    refine lv_aload_n hx hb d_Run_tryAct_46 rfl (lv_at hl 2 rfl) ?_
    refine pl_get X fw_Run_40 hK hP 0 rfl (v := .int (nI dn)) rfl d_Run_tryAct_47 ?_
    refine lv_bipush (v := nI 60) hx hb d_Run_tryAct_50 (by decide) ?_
    refine pl_icmp_lt X (by omega) (by decide) d_Run_tryAct_52 rfl (fun g52 => ?_) (fun g52 => ?_)
    · skip
      refine lv_aload_n hx hb d_Run_tryAct_61 rfl (lv_at hl 2 rfl) ?_
      refine pl_get X fw_Run_28 hK hP 0 rfl (v := .int (nI how)) rfl d_Run_tryAct_62 ?_
      refine lv_iconst (v := nI 2) hx hb d_Run_tryAct_65 (by decide) ?_
      refine pl_icmp_ne X (by omega) (by decide) d_Run_tryAct_66 rfl (fun g66 => ?_) (fun g66 => ?_)
      · skip
        refine lv_aload_n hx hb d_Run_tryAct_80 rfl (lv_at hl 2 rfl) ?_
        refine pl_get X fw_Run_18 hK hP 0 rfl (v := .ref b3) rfl d_Run_tryAct_81 ?_
        refine lv_aload_n hx hb d_Run_tryAct_84 rfl (lv_at hl 2 rfl) ?_
        refine pl_get X fw_Run_40 hK hP 0 rfl (v := .int (nI dn)) rfl d_Run_tryAct_85 ?_
        refine lv_iload_n hx hb d_Run_tryAct_88 rfl (lv_at hl 4 rfl) ?_
        refine pl_iast X hK hP hD hS 3 0 rfl rfl dn (by omega) (by decide) d_Run_tryAct_89 (ws' := [(r, .inr (4, [.ref b1, .ref b2, .ref b3, .ref b4, .int (nI how), .int (nI 1), .int (nI pl), .int (nI (q + 1)), .int (nI stt), .int (nI dn)])), (b1, .inl (cI, 14, .inl sa)), (b2, .inl (cI, 8, .inl ca)), (b3, .inl (cI, 60, .inl (upd ta dn (nI j)))), (b4, .inl (cI, 60, .inl tn)), (h, .inr (1, [.ref a1, .ref a2, .ref a3, .int (nI n)])), (a1, .inl (cI, 32, .inl lo)), (a2, .inl (cI, 32, .inl hi)), (a3, .inl (cI, 32, .inl th))]) rfl (fun H locs hP hD hS => ?_)
        refine lv_aload_n hx hb d_Run_tryAct_90 rfl (lv_at hl 2 rfl) ?_
        refine pl_get X fw_Run_21 hK hP 0 rfl (v := .ref b4) rfl d_Run_tryAct_91 ?_
        refine lv_aload_n hx hb d_Run_tryAct_94 rfl (lv_at hl 2 rfl) ?_
        refine pl_get X fw_Run_40 hK hP 0 rfl (v := .int (nI dn)) rfl d_Run_tryAct_95 ?_
        refine lv_iload_n hx hb d_Run_tryAct_98 rfl (lv_at hl 1 rfl) ?_
        refine pl_iast X hK hP hD hS 4 0 rfl rfl dn (by omega) (by decide) d_Run_tryAct_99 (ws' := [(r, .inr (4, [.ref b1, .ref b2, .ref b3, .ref b4, .int (nI how), .int (nI 1), .int (nI pl), .int (nI (q + 1)), .int (nI stt), .int (nI dn)])), (b1, .inl (cI, 14, .inl sa)), (b2, .inl (cI, 8, .inl ca)), (b3, .inl (cI, 60, .inl (upd ta dn (nI j)))), (b4, .inl (cI, 60, .inl (upd tn dn (sa q)))), (h, .inr (1, [.ref a1, .ref a2, .ref a3, .int (nI n)])), (a1, .inl (cI, 32, .inl lo)), (a2, .inl (cI, 32, .inl hi)), (a3, .inl (cI, 32, .inl th))]) rfl (fun H locs hP hD hS => ?_)
        refine lv_aload_n hx hb d_Run_tryAct_100 rfl (lv_at hl 2 rfl) ?_
        refine lv_dup hx hb d_Run_tryAct_101 rfl ?_
        refine pl_get X fw_Run_40 hK hP 0 rfl (v := .int (nI dn)) rfl d_Run_tryAct_102 ?_
        refine lv_iconst (v := nI 1) hx hb d_Run_tryAct_105 (by decide) ?_
        refine pl_iadd X d_Run_tryAct_106 (z := nI (dn + 1)) (nI_add _ _) ?_
        refine pl_put X fw_Run_40 fp_Run rfl hK hP hD hS 0 rfl (v := .int (nI (dn + 1))) rfl rfl (Nat.le_of_ble_eq_true rfl) d_Run_tryAct_107 (ws' := [(r, .inr (4, [.ref b1, .ref b2, .ref b3, .ref b4, .int (nI how), .int (nI 1), .int (nI pl), .int (nI (q + 1)), .int (nI stt), .int (nI (dn + 1))])), (b1, .inl (cI, 14, .inl sa)), (b2, .inl (cI, 8, .inl ca)), (b3, .inl (cI, 60, .inl (upd ta dn (nI j)))), (b4, .inl (cI, 60, .inl (upd tn dn (sa q)))), (h, .inr (1, [.ref a1, .ref a2, .ref a3, .int (nI n)])), (a1, .inl (cI, 32, .inl lo)), (a2, .inl (cI, 32, .inl hi)), (a3, .inl (cI, 32, .inl th))]) rfl (fun H locs hP hD hS => ?_)
        refine lv_aload_n hx hb d_Run_tryAct_110 rfl (lv_at hl 2 rfl) ?_
        refine lv_dup hx hb d_Run_tryAct_111 rfl ?_
        refine pl_get X fw_Run_34 hK hP 0 rfl (v := .int (nI (q + 1))) rfl d_Run_tryAct_112 ?_
        refine lv_iconst (v := nI 1) hx hb d_Run_tryAct_115 (by decide) ?_
        refine pl_isub X d_Run_tryAct_116 (z := nI q) (nI_dec _) ?_
        refine pl_put X fw_Run_34 fp_Run rfl hK hP hD hS 0 rfl (v := .int (nI q)) rfl rfl (Nat.le_of_ble_eq_true rfl) d_Run_tryAct_117 (ws' := [(r, .inr (4, [.ref b1, .ref b2, .ref b3, .ref b4, .int (nI how), .int (nI 1), .int (nI pl), .int (nI q), .int (nI stt), .int (nI (dn + 1))])), (b1, .inl (cI, 14, .inl sa)), (b2, .inl (cI, 8, .inl ca)), (b3, .inl (cI, 60, .inl (upd ta dn (nI j)))), (b4, .inl (cI, 60, .inl (upd tn dn (sa q)))), (h, .inr (1, [.ref a1, .ref a2, .ref a3, .int (nI n)])), (a1, .inl (cI, 32, .inl lo)), (a2, .inl (cI, 32, .inl hi)), (a3, .inl (cI, 32, .inl th))]) rfl (fun H locs hP hD hS => ?_)
        refine lv_aload_n hx hb d_Run_tryAct_120 rfl (lv_at hl 2 rfl) ?_
        refine lv_dup hx hb d_Run_tryAct_121 rfl ?_
        refine pl_get X fw_Run_31 hK hP 0 rfl (v := .int (nI pl)) rfl d_Run_tryAct_122 ?_
        refine lv_iconst (v := nI 1) hx hb d_Run_tryAct_125 (by decide) ?_
        refine pl_iadd X d_Run_tryAct_126 (z := nI (pl + 1)) (nI_add _ _) ?_
        refine pl_put X fw_Run_31 fp_Run rfl hK hP hD hS 0 rfl (v := .int (nI (pl + 1))) rfl rfl (Nat.le_of_ble_eq_true rfl) d_Run_tryAct_127 (ws' := [(r, .inr (4, [.ref b1, .ref b2, .ref b3, .ref b4, .int (nI how), .int (nI 1), .int (nI (pl + 1)), .int (nI q), .int (nI stt), .int (nI (dn + 1))])), (b1, .inl (cI, 14, .inl sa)), (b2, .inl (cI, 8, .inl ca)), (b3, .inl (cI, 60, .inl (upd ta dn (nI j)))), (b4, .inl (cI, 60, .inl (upd tn dn (sa q)))), (h, .inr (1, [.ref a1, .ref a2, .ref a3, .int (nI n)])), (a1, .inl (cI, 32, .inl lo)), (a2, .inl (cI, 32, .inl hi)), (a3, .inl (cI, 32, .inl th))]) rfl (fun H locs hP hD hS => ?_)
        exact pl_vret X hr hlk hK (1, pl + 1, q, stt, dn + 1, upd ta dn (nI j), upd tn dn (sa q)) (actS_1n g27 g52) hP hD hS d_Run_tryAct_130
      · skip
        exact absurd g66 g27
    · skip
      refine lv_aload_n hx hb d_Run_tryAct_55 rfl (lv_at hl 2 rfl) ?_
      refine lv_iconst (v := nI 3) hx hb d_Run_tryAct_56 (by decide) ?_
      refine pl_put X fw_Run_24 fp_Run rfl hK hP hD hS 0 rfl (v := .int (nI 3)) rfl rfl (Nat.le_of_ble_eq_true rfl) d_Run_tryAct_57 (ws' := [(r, .inr (4, [.ref b1, .ref b2, .ref b3, .ref b4, .int (nI how), .int (nI 3), .int (nI pl), .int (nI (q + 1)), .int (nI stt), .int (nI dn)])), (b1, .inl (cI, 14, .inl sa)), (b2, .inl (cI, 8, .inl ca)), (b3, .inl (cI, 60, .inl ta)), (b4, .inl (cI, 60, .inl tn)), (h, .inr (1, [.ref a1, .ref a2, .ref a3, .int (nI n)])), (a1, .inl (cI, 32, .inl lo)), (a2, .inl (cI, 32, .inl hi)), (a3, .inl (cI, 32, .inl th))]) rfl (fun H locs hP hD hS => ?_)
      exact pl_vret X hr hlk hK (3, pl, q + 1, stt, dn, ta, tn) (actS_3n g27 g52) hP hD hS d_Run_tryAct_60
  · skip
    refine lv_aload_n hx hb d_Run_tryAct_30 rfl (lv_at hl 3 rfl) ?_
    refine lv_iload hx hb d_Run_tryAct_31 (lv_at hl 0 rfl) ?_
    refine lv_iload_n hx hb d_Run_tryAct_33 rfl (lv_at hl 1 rfl) ?_
    refine pl_callVI X (rest := []) (As := [.int (nI (stt * 8 + j)), .int (sa q)]) (b := h) (c_Automaton_allows l D cI cZ cL h a1 a2 a3 n lo hi th (stt * 8 + j) (sa q) (by omega)) ck_Run_68 pl_E0_ok trivial hK hP hD hS hA (T := F_Automaton) (N := N_Automaton) (ci := 1) rfl 5 rfl [5, 6, 7, 8] [0, 1, 2, 3, 4] [0, 1, 2, 3, 4, 5, 6, 7, 8] rfl (by decide) (wr := [(r, .inr (4, [.ref b1, .ref b2, .ref b3, .ref b4, .int (nI how), .int (nI 1), .int (nI pl), .int (nI (q + 1)), .int (nI stt), .int (nI dn)])), (b1, .inl (cI, 14, .inl sa)), (b2, .inl (cI, 8, .inl ca)), (b3, .inl (cI, 60, .inl ta)), (b4, .inl (cI, 60, .inl tn))]) rfl (by decide) (by decide) (wf := fun _ => [(r, .inr (4, [.ref b1, .ref b2, .ref b3, .ref b4, .int (nI how), .int (nI 1), .int (nI pl), .int (nI (q + 1)), .int (nI stt), .int (nI dn)])), (b1, .inl (cI, 14, .inl sa)), (b2, .inl (cI, 8, .inl ca)), (b3, .inl (cI, 60, .inl ta)), (b4, .inl (cI, 60, .inl tn)), (h, .inr (1, [.ref a1, .ref a2, .ref a3, .int (nI n)])), (a1, .inl (cI, 32, .inl lo)), (a2, .inl (cI, 32, .inl hi)), (a3, .inl (cI, 32, .inl th))]) (fun _ => rfl) (by decide) rfl hl.1 rfl (Nat.le_of_ble_eq_true rfl) (by decide) (by decide) d_Run_tryAct_34 (fun r u0 H locs hcq hP hD hS => ?_)
    subst hcq
    refine pl_ifB_ne X d_Run_tryAct_37 rfl (fun g37 => ?_) (fun g37 => ?_)
    · skip
      refine lv_aload_n hx hb d_Run_tryAct_46 rfl (lv_at hl 2 rfl) ?_
      refine pl_get X fw_Run_40 hK hP 0 rfl (v := .int (nI dn)) rfl d_Run_tryAct_47 ?_
      refine lv_bipush (v := nI 60) hx hb d_Run_tryAct_50 (by decide) ?_
      refine pl_icmp_lt X (by omega) (by decide) d_Run_tryAct_52 rfl (fun g52 => ?_) (fun g52 => ?_)
      · skip
        refine lv_aload_n hx hb d_Run_tryAct_61 rfl (lv_at hl 2 rfl) ?_
        refine pl_get X fw_Run_28 hK hP 0 rfl (v := .int (nI how)) rfl d_Run_tryAct_62 ?_
        refine lv_iconst (v := nI 2) hx hb d_Run_tryAct_65 (by decide) ?_
        refine pl_icmp_ne X (by omega) (by decide) d_Run_tryAct_66 rfl (fun g66 => ?_) (fun g66 => ?_)
        · skip
          exact absurd g27 g66
        · skip
          refine lv_aload_n hx hb d_Run_tryAct_69 rfl (lv_at hl 2 rfl) ?_
          refine lv_aload_n hx hb d_Run_tryAct_70 rfl (lv_at hl 3 rfl) ?_
          refine pl_get X fw_Run_72 hK hP 5 rfl (v := .ref a3) rfl d_Run_tryAct_71 ?_
          refine lv_iload hx hb d_Run_tryAct_74 (lv_at hl 0 rfl) ?_
          refine pl_iald X hK hP 8 0 rfl rfl (stt * 8 + j) (by omega) (by decide) (z := nI t) (hth (by simp only [Bool.and_eq_true, decide_eq_true_eq] at g37; exact g37.1)) d_Run_tryAct_76 ?_
          refine pl_put X fw_Run_37 fp_Run rfl hK hP hD hS 0 rfl (v := .int (nI t)) rfl rfl (Nat.le_of_ble_eq_true rfl) d_Run_tryAct_77 (ws' := [(r, .inr (4, [.ref b1, .ref b2, .ref b3, .ref b4, .int (nI how), .int (nI 1), .int (nI pl), .int (nI (q + 1)), .int (nI t), .int (nI dn)])), (b1, .inl (cI, 14, .inl sa)), (b2, .inl (cI, 8, .inl ca)), (b3, .inl (cI, 60, .inl ta)), (b4, .inl (cI, 60, .inl tn)), (h, .inr (1, [.ref a1, .ref a2, .ref a3, .int (nI n)])), (a1, .inl (cI, 32, .inl lo)), (a2, .inl (cI, 32, .inl hi)), (a3, .inl (cI, 32, .inl th))]) rfl (fun H locs hP hD hS => ?_)
          refine lv_aload_n hx hb d_Run_tryAct_80 rfl (lv_at hl 2 rfl) ?_
          refine pl_get X fw_Run_18 hK hP 0 rfl (v := .ref b3) rfl d_Run_tryAct_81 ?_
          refine lv_aload_n hx hb d_Run_tryAct_84 rfl (lv_at hl 2 rfl) ?_
          refine pl_get X fw_Run_40 hK hP 0 rfl (v := .int (nI dn)) rfl d_Run_tryAct_85 ?_
          refine lv_iload_n hx hb d_Run_tryAct_88 rfl (lv_at hl 4 rfl) ?_
          refine pl_iast X hK hP hD hS 3 0 rfl rfl dn (by omega) (by decide) d_Run_tryAct_89 (ws' := [(r, .inr (4, [.ref b1, .ref b2, .ref b3, .ref b4, .int (nI how), .int (nI 1), .int (nI pl), .int (nI (q + 1)), .int (nI t), .int (nI dn)])), (b1, .inl (cI, 14, .inl sa)), (b2, .inl (cI, 8, .inl ca)), (b3, .inl (cI, 60, .inl (upd ta dn (nI j)))), (b4, .inl (cI, 60, .inl tn)), (h, .inr (1, [.ref a1, .ref a2, .ref a3, .int (nI n)])), (a1, .inl (cI, 32, .inl lo)), (a2, .inl (cI, 32, .inl hi)), (a3, .inl (cI, 32, .inl th))]) rfl (fun H locs hP hD hS => ?_)
          refine lv_aload_n hx hb d_Run_tryAct_90 rfl (lv_at hl 2 rfl) ?_
          refine pl_get X fw_Run_21 hK hP 0 rfl (v := .ref b4) rfl d_Run_tryAct_91 ?_
          refine lv_aload_n hx hb d_Run_tryAct_94 rfl (lv_at hl 2 rfl) ?_
          refine pl_get X fw_Run_40 hK hP 0 rfl (v := .int (nI dn)) rfl d_Run_tryAct_95 ?_
          refine lv_iload_n hx hb d_Run_tryAct_98 rfl (lv_at hl 1 rfl) ?_
          refine pl_iast X hK hP hD hS 4 0 rfl rfl dn (by omega) (by decide) d_Run_tryAct_99 (ws' := [(r, .inr (4, [.ref b1, .ref b2, .ref b3, .ref b4, .int (nI how), .int (nI 1), .int (nI pl), .int (nI (q + 1)), .int (nI t), .int (nI dn)])), (b1, .inl (cI, 14, .inl sa)), (b2, .inl (cI, 8, .inl ca)), (b3, .inl (cI, 60, .inl (upd ta dn (nI j)))), (b4, .inl (cI, 60, .inl (upd tn dn (sa q)))), (h, .inr (1, [.ref a1, .ref a2, .ref a3, .int (nI n)])), (a1, .inl (cI, 32, .inl lo)), (a2, .inl (cI, 32, .inl hi)), (a3, .inl (cI, 32, .inl th))]) rfl (fun H locs hP hD hS => ?_)
          refine lv_aload_n hx hb d_Run_tryAct_100 rfl (lv_at hl 2 rfl) ?_
          refine lv_dup hx hb d_Run_tryAct_101 rfl ?_
          refine pl_get X fw_Run_40 hK hP 0 rfl (v := .int (nI dn)) rfl d_Run_tryAct_102 ?_
          refine lv_iconst (v := nI 1) hx hb d_Run_tryAct_105 (by decide) ?_
          refine pl_iadd X d_Run_tryAct_106 (z := nI (dn + 1)) (nI_add _ _) ?_
          refine pl_put X fw_Run_40 fp_Run rfl hK hP hD hS 0 rfl (v := .int (nI (dn + 1))) rfl rfl (Nat.le_of_ble_eq_true rfl) d_Run_tryAct_107 (ws' := [(r, .inr (4, [.ref b1, .ref b2, .ref b3, .ref b4, .int (nI how), .int (nI 1), .int (nI pl), .int (nI (q + 1)), .int (nI t), .int (nI (dn + 1))])), (b1, .inl (cI, 14, .inl sa)), (b2, .inl (cI, 8, .inl ca)), (b3, .inl (cI, 60, .inl (upd ta dn (nI j)))), (b4, .inl (cI, 60, .inl (upd tn dn (sa q)))), (h, .inr (1, [.ref a1, .ref a2, .ref a3, .int (nI n)])), (a1, .inl (cI, 32, .inl lo)), (a2, .inl (cI, 32, .inl hi)), (a3, .inl (cI, 32, .inl th))]) rfl (fun H locs hP hD hS => ?_)
          refine lv_aload_n hx hb d_Run_tryAct_110 rfl (lv_at hl 2 rfl) ?_
          refine lv_dup hx hb d_Run_tryAct_111 rfl ?_
          refine pl_get X fw_Run_34 hK hP 0 rfl (v := .int (nI (q + 1))) rfl d_Run_tryAct_112 ?_
          refine lv_iconst (v := nI 1) hx hb d_Run_tryAct_115 (by decide) ?_
          refine pl_isub X d_Run_tryAct_116 (z := nI q) (nI_dec _) ?_
          refine pl_put X fw_Run_34 fp_Run rfl hK hP hD hS 0 rfl (v := .int (nI q)) rfl rfl (Nat.le_of_ble_eq_true rfl) d_Run_tryAct_117 (ws' := [(r, .inr (4, [.ref b1, .ref b2, .ref b3, .ref b4, .int (nI how), .int (nI 1), .int (nI pl), .int (nI q), .int (nI t), .int (nI (dn + 1))])), (b1, .inl (cI, 14, .inl sa)), (b2, .inl (cI, 8, .inl ca)), (b3, .inl (cI, 60, .inl (upd ta dn (nI j)))), (b4, .inl (cI, 60, .inl (upd tn dn (sa q)))), (h, .inr (1, [.ref a1, .ref a2, .ref a3, .int (nI n)])), (a1, .inl (cI, 32, .inl lo)), (a2, .inl (cI, 32, .inl hi)), (a3, .inl (cI, 32, .inl th))]) rfl (fun H locs hP hD hS => ?_)
          refine lv_aload_n hx hb d_Run_tryAct_120 rfl (lv_at hl 2 rfl) ?_
          refine lv_dup hx hb d_Run_tryAct_121 rfl ?_
          refine pl_get X fw_Run_31 hK hP 0 rfl (v := .int (nI pl)) rfl d_Run_tryAct_122 ?_
          refine lv_iconst (v := nI 1) hx hb d_Run_tryAct_125 (by decide) ?_
          refine pl_iadd X d_Run_tryAct_126 (z := nI (pl + 1)) (nI_add _ _) ?_
          refine pl_put X fw_Run_31 fp_Run rfl hK hP hD hS 0 rfl (v := .int (nI (pl + 1))) rfl rfl (Nat.le_of_ble_eq_true rfl) d_Run_tryAct_127 (ws' := [(r, .inr (4, [.ref b1, .ref b2, .ref b3, .ref b4, .int (nI how), .int (nI 1), .int (nI (pl + 1)), .int (nI q), .int (nI t), .int (nI (dn + 1))])), (b1, .inl (cI, 14, .inl sa)), (b2, .inl (cI, 8, .inl ca)), (b3, .inl (cI, 60, .inl (upd ta dn (nI j)))), (b4, .inl (cI, 60, .inl (upd tn dn (sa q)))), (h, .inr (1, [.ref a1, .ref a2, .ref a3, .int (nI n)])), (a1, .inl (cI, 32, .inl lo)), (a2, .inl (cI, 32, .inl hi)), (a3, .inl (cI, 32, .inl th))]) rfl (fun H locs hP hD hS => ?_)
          exact pl_vret X hr hlk hK (1, pl + 1, q, t, dn + 1, upd ta dn (nI j), upd tn dn (sa q)) (actS_1w g27 g37 g52) hP hD hS d_Run_tryAct_130
      · skip
        refine lv_aload_n hx hb d_Run_tryAct_55 rfl (lv_at hl 2 rfl) ?_
        refine lv_iconst (v := nI 3) hx hb d_Run_tryAct_56 (by decide) ?_
        refine pl_put X fw_Run_24 fp_Run rfl hK hP hD hS 0 rfl (v := .int (nI 3)) rfl rfl (Nat.le_of_ble_eq_true rfl) d_Run_tryAct_57 (ws' := [(r, .inr (4, [.ref b1, .ref b2, .ref b3, .ref b4, .int (nI how), .int (nI 3), .int (nI pl), .int (nI (q + 1)), .int (nI stt), .int (nI dn)])), (b1, .inl (cI, 14, .inl sa)), (b2, .inl (cI, 8, .inl ca)), (b3, .inl (cI, 60, .inl ta)), (b4, .inl (cI, 60, .inl tn)), (h, .inr (1, [.ref a1, .ref a2, .ref a3, .int (nI n)])), (a1, .inl (cI, 32, .inl lo)), (a2, .inl (cI, 32, .inl hi)), (a3, .inl (cI, 32, .inl th))]) rfl (fun H locs hP hD hS => ?_)
        exact pl_vret X hr hlk hK (3, pl, q + 1, stt, dn, ta, tn) (actS_3w g37 g52) hP hD hS d_Run_tryAct_60
    · skip
      refine lv_aload_n hx hb d_Run_tryAct_40 rfl (lv_at hl 2 rfl) ?_
      refine lv_iconst (v := nI 4) hx hb d_Run_tryAct_41 (by decide) ?_
      refine pl_put X fw_Run_24 fp_Run rfl hK hP hD hS 0 rfl (v := .int (nI 4)) rfl rfl (Nat.le_of_ble_eq_true rfl) d_Run_tryAct_42 (ws' := [(r, .inr (4, [.ref b1, .ref b2, .ref b3, .ref b4, .int (nI how), .int (nI 4), .int (nI pl), .int (nI (q + 1)), .int (nI stt), .int (nI dn)])), (b1, .inl (cI, 14, .inl sa)), (b2, .inl (cI, 8, .inl ca)), (b3, .inl (cI, 60, .inl ta)), (b4, .inl (cI, 60, .inl tn)), (h, .inr (1, [.ref a1, .ref a2, .ref a3, .int (nI n)])), (a1, .inl (cI, 32, .inl lo)), (a2, .inl (cI, 32, .inl hi)), (a3, .inl (cI, 32, .inl th))]) rfl (fun H locs hP hD hS => ?_)
      exact pl_vret X hr hlk hK (4, pl, q + 1, stt, dn, ta, tn) (actS_4 g27 g37) hP hD hS d_Run_tryAct_45

set_option maxHeartbeats 4000000 in
set_option maxRecDepth 100000 in
theorem c_Run_policyState (l : Launch) (D : va_G) (cI cZ cL : ClassId) (r b1 b2 b3 b4 : Nat) (sa ca ta tn : Nat → Int32) (how stat pl : Nat) (q stt dn : Nat) (hh : how ≤ 2) : pl_I l y_Run_policyState b_Run_policyState 1 .int ({ frames := 0, cells := 0, slots := 0, locals := 0 } : Room) pl_E0 D classes (TY cI cZ cL) [.ref r] [(r, .inr (4, [.ref b1, .ref b2, .ref b3, .ref b4, .int (nI how), .int (nI stat), .int (nI pl), .int (nI q), .int (nI stt), .int (nI dn)])), (b1, .inl (cI, 14, .inl sa)), (b2, .inl (cI, 8, .inl ca)), (b3, .inl (cI, 60, .inl ta)), (b4, .inl (cI, 60, .inl tn))] (fun (r : Int32) (_ : Unit) => r = if how = 1 then ca 7 else nI stt) (fun (_ : Unit) => [(r, .inr (4, [.ref b1, .ref b2, .ref b3, .ref b4, .int (nI how), .int (nI stat), .int (nI pl), .int (nI q), .int (nI stt), .int (nI dn)])), (b1, .inl (cI, 14, .inl sa)), (b2, .inl (cI, 8, .inl ca)), (b3, .inl (cI, 60, .inl ta)), (b4, .inl (cI, 60, .inl tn))]) := by
  refine pl_startI (by decide) (Nat.le_of_ble_eq_true rfl) ?_
  intro p e s m args below meth c A ls X hr hlk hin hK hP hD hS hA hE hl
  have X : CallFix p m c b_Run_policyState 1 s args TG R_Run := X
  have hx := X.1
  have hb := X.2.1
  have hl : lv_has ls 1 [(0, .ref r)] := hl
  refine lv_aload_n hx hb d_Run_policyState_0 rfl (lv_at hl 0 rfl) ?_
  refine pl_get X fw_Run_28 hK hP 0 rfl (v := .int (nI how)) rfl d_Run_policyState_1 ?_
  refine lv_iconst (v := nI 1) hx hb d_Run_policyState_4 (by decide) ?_
  refine pl_icmp_ne X (by omega) (by decide) d_Run_policyState_5 rfl (fun g5 => ?_) (fun g5 => ?_)
  · skip
    refine lv_aload_n hx hb d_Run_policyState_18 rfl (lv_at hl 0 rfl) ?_
    refine pl_get X fw_Run_37 hK hP 0 rfl (v := .int (nI stt)) rfl d_Run_policyState_19 ?_
    exact pl_iret X hr hlk hK rfl () (if_neg g5).symm hP hD hS d_Run_policyState_22
  · skip
    refine lv_aload_n hx hb d_Run_policyState_8 rfl (lv_at hl 0 rfl) ?_
    refine pl_get X fw_Run_15 hK hP 0 rfl (v := .ref b2) rfl d_Run_policyState_9 ?_
    refine lv_bipush (v := nI 7) hx hb d_Run_policyState_12 (by decide) ?_
    refine pl_iald X hK hP 2 0 rfl rfl 7 (by omega) (by decide) (z := ca 7) rfl d_Run_policyState_14 ?_
    refine lv_goto hx hb d_Run_policyState_15 rfl ?_
    exact pl_iret X hr hlk hK rfl () (if_pos g5).symm hP hD hS d_Run_policyState_22

set_option maxHeartbeats 4000000 in
set_option maxRecDepth 100000 in
theorem c_Run_begin (l : Launch) (D : va_G) (cI cZ cL : ClassId) (r b1 b2 b3 b4 : Nat) (sa ca ta tn : Nat → Int32) (how stat pl : Nat) (q stt dn : Nat) (kd : Nat) (x : Int32)  : pl_V l y_Run_begin b_Run_begin 4 ({ frames := 0, cells := 0, slots := 0, locals := 0 } : Room) pl_E0 D classes (TY cI cZ cL) [.ref r, .int (nI kd), .int x] [(r, .inr (4, [.ref b1, .ref b2, .ref b3, .ref b4, .int (nI how), .int (nI stat), .int (nI pl), .int (nI q), .int (nI stt), .int (nI dn)])), (b1, .inl (cI, 14, .inl sa)), (b2, .inl (cI, 8, .inl ca)), (b3, .inl (cI, 60, .inl ta)), (b4, .inl (cI, 60, .inl tn))] (fun _ : Unit => True) (fun (_ : Unit) => [(r, .inr (4, [.ref b1, .ref b2, .ref b3, .ref b4, .int (nI kd), .int (nI 1), .int (nI 0), .int (nI 0), .int (nI 0), .int (nI 0)])), (b1, .inl (cI, 14, .inl sa)), (b2, .inl (cI, 8, .inl (upd (fun _ => nI 0) 0 x))), (b3, .inl (cI, 60, .inl ta)), (b4, .inl (cI, 60, .inl tn))]) := by
  refine pl_startV (by decide) (Nat.le_of_ble_eq_true rfl) ?_
  intro p e s m args below meth c A ls X hr hlk hin hK hP hD hS hA hE hl
  have X : CallFix p m c b_Run_begin 4 s args TG R_Run := X
  have hx := X.1
  have hb := X.2.1
  have hl : lv_has ls 4 [(0, .ref r), (1, .int (nI kd)), (2, .int x)] := hl
  refine lv_aload_n hx hb d_Run_begin_0 rfl (lv_at hl 0 rfl) ?_
  refine lv_iload_n hx hb d_Run_begin_1 rfl (lv_at hl 1 rfl) ?_
  refine pl_put X fw_Run_28 fp_Run rfl hK hP hD hS 0 rfl (v := .int (nI kd)) rfl rfl (Nat.le_of_ble_eq_true rfl) d_Run_begin_2 (ws' := [(r, .inr (4, [.ref b1, .ref b2, .ref b3, .ref b4, .int (nI kd), .int (nI stat), .int (nI pl), .int (nI q), .int (nI stt), .int (nI dn)])), (b1, .inl (cI, 14, .inl sa)), (b2, .inl (cI, 8, .inl ca)), (b3, .inl (cI, 60, .inl ta)), (b4, .inl (cI, 60, .inl tn))]) rfl (fun H locs hP hD hS => ?_)
  refine lv_aload_n hx hb d_Run_begin_5 rfl (lv_at hl 0 rfl) ?_
  refine lv_iconst (v := nI 1) hx hb d_Run_begin_6 (by decide) ?_
  refine pl_put X fw_Run_24 fp_Run rfl hK hP hD hS 0 rfl (v := .int (nI 1)) rfl rfl (Nat.le_of_ble_eq_true rfl) d_Run_begin_7 (ws' := [(r, .inr (4, [.ref b1, .ref b2, .ref b3, .ref b4, .int (nI kd), .int (nI 1), .int (nI pl), .int (nI q), .int (nI stt), .int (nI dn)])), (b1, .inl (cI, 14, .inl sa)), (b2, .inl (cI, 8, .inl ca)), (b3, .inl (cI, 60, .inl ta)), (b4, .inl (cI, 60, .inl tn))]) rfl (fun H locs hP hD hS => ?_)
  refine lv_aload_n hx hb d_Run_begin_10 rfl (lv_at hl 0 rfl) ?_
  refine lv_iconst (v := nI 0) hx hb d_Run_begin_11 (by decide) ?_
  refine pl_put X fw_Run_31 fp_Run rfl hK hP hD hS 0 rfl (v := .int (nI 0)) rfl rfl (Nat.le_of_ble_eq_true rfl) d_Run_begin_12 (ws' := [(r, .inr (4, [.ref b1, .ref b2, .ref b3, .ref b4, .int (nI kd), .int (nI 1), .int (nI 0), .int (nI q), .int (nI stt), .int (nI dn)])), (b1, .inl (cI, 14, .inl sa)), (b2, .inl (cI, 8, .inl ca)), (b3, .inl (cI, 60, .inl ta)), (b4, .inl (cI, 60, .inl tn))]) rfl (fun H locs hP hD hS => ?_)
  refine lv_aload_n hx hb d_Run_begin_15 rfl (lv_at hl 0 rfl) ?_
  refine lv_iconst (v := nI 0) hx hb d_Run_begin_16 (by decide) ?_
  refine pl_put X fw_Run_34 fp_Run rfl hK hP hD hS 0 rfl (v := .int (nI 0)) rfl rfl (Nat.le_of_ble_eq_true rfl) d_Run_begin_17 (ws' := [(r, .inr (4, [.ref b1, .ref b2, .ref b3, .ref b4, .int (nI kd), .int (nI 1), .int (nI 0), .int (nI 0), .int (nI stt), .int (nI dn)])), (b1, .inl (cI, 14, .inl sa)), (b2, .inl (cI, 8, .inl ca)), (b3, .inl (cI, 60, .inl ta)), (b4, .inl (cI, 60, .inl tn))]) rfl (fun H locs hP hD hS => ?_)
  refine lv_aload_n hx hb d_Run_begin_20 rfl (lv_at hl 0 rfl) ?_
  refine lv_iconst (v := nI 0) hx hb d_Run_begin_21 (by decide) ?_
  refine pl_put X fw_Run_37 fp_Run rfl hK hP hD hS 0 rfl (v := .int (nI 0)) rfl rfl (Nat.le_of_ble_eq_true rfl) d_Run_begin_22 (ws' := [(r, .inr (4, [.ref b1, .ref b2, .ref b3, .ref b4, .int (nI kd), .int (nI 1), .int (nI 0), .int (nI 0), .int (nI 0), .int (nI dn)])), (b1, .inl (cI, 14, .inl sa)), (b2, .inl (cI, 8, .inl ca)), (b3, .inl (cI, 60, .inl ta)), (b4, .inl (cI, 60, .inl tn))]) rfl (fun H locs hP hD hS => ?_)
  refine lv_aload_n hx hb d_Run_begin_25 rfl (lv_at hl 0 rfl) ?_
  refine lv_iconst (v := nI 0) hx hb d_Run_begin_26 (by decide) ?_
  refine pl_put X fw_Run_40 fp_Run rfl hK hP hD hS 0 rfl (v := .int (nI 0)) rfl rfl (Nat.le_of_ble_eq_true rfl) d_Run_begin_27 (ws' := [(r, .inr (4, [.ref b1, .ref b2, .ref b3, .ref b4, .int (nI kd), .int (nI 1), .int (nI 0), .int (nI 0), .int (nI 0), .int (nI 0)])), (b1, .inl (cI, 14, .inl sa)), (b2, .inl (cI, 8, .inl ca)), (b3, .inl (cI, 60, .inl ta)), (b4, .inl (cI, 60, .inl tn))]) rfl (fun H locs hP hD hS => ?_)
  refine lv_iconst (v := nI 0) hx hb d_Run_begin_30 (by decide) ?_
  refine lv_istore_n hx hb d_Run_begin_31 rfl hl (by decide) (lv' := [(3, .int (nI 0)), (0, .ref r), (1, .int (nI kd)), (2, .int x)]) rfl (fun ls hl => ?_)
  have loop_32 : ∀ (k : Nat) (i : Nat) (g : Nat → Int32) (H : Heap) (locs : List Loc) (ls : Array Slot), 8 - i = k → (i ≤ 8) → (∀ j, j < i → g j = nI 0) → va_P D classes [(r, .inr (4, [.ref b1, .ref b2, .ref b3, .ref b4, .int (nI kd), .int (nI 1), .int (nI 0), .int (nI 0), .int (nI 0), .int (nI 0)])), (b1, .inl (cI, 14, .inl sa)), (b2, .inl (cI, 8, .inl g)), (b3, .inl (cI, 60, .inl ta)), (b4, .inl (cI, 60, .inl tn))] H → va_D A [(r, .inr (4, [.ref b1, .ref b2, .ref b3, .ref b4, .int (nI kd), .int (nI 1), .int (nI 0), .int (nI 0), .int (nI 0), .int (nI 0)])), (b1, .inl (cI, 14, .inl sa)), (b2, .inl (cI, 8, .inl g)), (b3, .inl (cI, 60, .inl ta)), (b4, .inl (cI, 60, .inl tn))] → va_S A s.heap H locs → lv_has ls 4 [(3, .int (nI i)), (0, .ref r), (1, .int (nI kd)), (2, .int x)] → W p l e ({ frames := 0, cells := 0, slots := 0, locals := 0 } : Room) s m args below meth c H locs 0 0 (MQ below (va_Qv (fun _ : Unit => True) (fun u => pl_out D classes (TY cI cZ cL) A ((fun (_ : Unit) => [(r, .inr (4, [.ref b1, .ref b2, .ref b3, .ref b4, .int (nI kd), .int (nI 1), .int (nI 0), .int (nI 0), .int (nI 0), .int (nI 0)])), (b1, .inl (cI, 14, .inl sa)), (b2, .inl (cI, 8, .inl (upd (fun _ => nI 0) 0 x))), (b3, .inl (cI, 60, .inl ta)), (b4, .inl (cI, 60, .inl tn))]) u)) A) args s 0 0 A) (F0 m 32 ls []) := by
    intro k
    induction k using Nat.strongRecOn with
    | _ k ih =>
    intro i g H locs ls hk hi0 hg hP hD hS hl
    refine lv_iload_n hx hb d_Run_begin_32 rfl (lv_at hl 0 rfl) ?_
    refine lv_bipush (v := nI 8) hx hb d_Run_begin_33 (by decide) ?_
    refine pl_icmp_ge X (by omega) (by decide) d_Run_begin_35 rfl (fun g35 => ?_) (fun g35 => ?_)
    · skip
      refine lv_aload_n hx hb d_Run_begin_51 rfl (lv_at hl 1 rfl) ?_
      refine pl_get X fw_Run_15 hK hP 0 rfl (v := .ref b2) rfl d_Run_begin_52 ?_
      refine lv_iconst (v := nI 0) hx hb d_Run_begin_55 (by decide) ?_
      refine lv_iload_n hx hb d_Run_begin_56 rfl (lv_at hl 3 rfl) ?_
      refine pl_iast X hK hP hD hS 2 0 rfl rfl 0 (by omega) (by decide) d_Run_begin_57 (ws' := [(r, .inr (4, [.ref b1, .ref b2, .ref b3, .ref b4, .int (nI kd), .int (nI 1), .int (nI 0), .int (nI 0), .int (nI 0), .int (nI 0)])), (b1, .inl (cI, 14, .inl sa)), (b2, .inl (cI, 8, .inl (upd g 0 x))), (b3, .inl (cI, 60, .inl ta)), (b4, .inl (cI, 60, .inl tn))]) rfl (fun H locs hP hD hS => ?_)
      have hP := pl_ext hP 2 rfl (upd (fun _ => nI 0) 0 x) (fun j hj => by by_cases q : j = 0; (rw [q, upd_s, upd_s]); (rw [upd_n q, upd_n q]; exact hg j (by omega))) (ws' := [(r, .inr (4, [.ref b1, .ref b2, .ref b3, .ref b4, .int (nI kd), .int (nI 1), .int (nI 0), .int (nI 0), .int (nI 0), .int (nI 0)])), (b1, .inl (cI, 14, .inl sa)), (b2, .inl (cI, 8, .inl (upd (fun _ => nI 0) 0 x))), (b3, .inl (cI, 60, .inl ta)), (b4, .inl (cI, 60, .inl tn))]) rfl
      have hD := pl_extD hD 2 rfl (.inl (cI, 8, .inl (upd (fun _ => nI 0) 0 x))) (ws' := [(r, .inr (4, [.ref b1, .ref b2, .ref b3, .ref b4, .int (nI kd), .int (nI 1), .int (nI 0), .int (nI 0), .int (nI 0), .int (nI 0)])), (b1, .inl (cI, 14, .inl sa)), (b2, .inl (cI, 8, .inl (upd (fun _ => nI 0) 0 x))), (b3, .inl (cI, 60, .inl ta)), (b4, .inl (cI, 60, .inl tn))]) rfl
      exact pl_vret X hr hlk hK () trivial hP hD hS d_Run_begin_58
    · skip
      refine lv_aload_n hx hb d_Run_begin_38 rfl (lv_at hl 1 rfl) ?_
      refine pl_get X fw_Run_15 hK hP 0 rfl (v := .ref b2) rfl d_Run_begin_39 ?_
      refine lv_iload_n hx hb d_Run_begin_42 rfl (lv_at hl 0 rfl) ?_
      refine lv_iconst (v := nI 0) hx hb d_Run_begin_43 (by decide) ?_
      refine pl_iast X hK hP hD hS 2 0 rfl rfl i (by omega) (by decide) d_Run_begin_44 (ws' := [(r, .inr (4, [.ref b1, .ref b2, .ref b3, .ref b4, .int (nI kd), .int (nI 1), .int (nI 0), .int (nI 0), .int (nI 0), .int (nI 0)])), (b1, .inl (cI, 14, .inl sa)), (b2, .inl (cI, 8, .inl (upd g i (nI 0)))), (b3, .inl (cI, 60, .inl ta)), (b4, .inl (cI, 60, .inl tn))]) rfl (fun H locs hP hD hS => ?_)
      refine lv_iinc hx hb d_Run_begin_45 hl (k := 0) rfl (nI_inc1 _) (by decide) (lv' := [(3, .int (nI (i + 1))), (0, .ref r), (1, .int (nI kd)), (2, .int x)]) rfl (fun ls hl => ?_)
      refine lv_goto hx hb d_Run_begin_48 rfl ?_
      exact ih _ (by omega) (i + 1) (upd g i (nI 0)) _ _ _ rfl (by omega) (fun j hj => by rcases Nat.lt_succ_iff_lt_or_eq.mp hj with q | q; (rw [upd_n (Nat.ne_of_lt q)]; exact hg j q); (rw [q]; exact upd_s)) hP hD hS hl
  exact loop_32 _ 0 ca _ _ _ rfl (Nat.zero_le _) (fun j hj => absurd hj (Nat.not_lt_zero j)) hP hD hS hl
