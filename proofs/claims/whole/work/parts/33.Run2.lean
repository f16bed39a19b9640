set_option maxHeartbeats 4000000 in
set_option maxRecDepth 100000 in
theorem c_Run_advance_0 (l : Launch) (D : va_G) (cI cZ cL : ClassId) (r b1 b2 b3 b4 : Nat) (sa ca ta tn : Nat → Int32) (how stat pl : Nat) (q stt dn : Nat) (v v1 v2 M z : Nat) (P K : Nat → Int32) (h a1 a2 a3 n : Nat) (lo hi th : Nat → Int32) (hM : M < 2 ^ 31) (hp : pl < M) (ho : P pl = nI 0) (hq : q < 14) : pl_V l y_Run_advance b_Run_advance 5 ({ frames := 3, cells := 0, slots := 0, locals := 67 } : Room) pl_E0 D classes (TY cI cZ cL) [.ref r, .ref v, .ref h] [(r, .inr (4, [.ref b1, .ref b2, .ref b3, .ref b4, .int (nI how), .int (nI 1), .int (nI pl), .int (nI q), .int (nI stt), .int (nI dn)])), (b1, .inl (cI, 14, .inl sa)), (b2, .inl (cI, 8, .inl ca)), (b3, .inl (cI, 60, .inl ta)), (b4, .inl (cI, 60, .inl tn)), (v, .inr (0, [.ref v1, .ref v2, .int (nI z)])), (v1, .inl (cI, M, .inl P)), (v2, .inl (cI, M, .inl K)), (h, .inr (1, [.ref a1, .ref a2, .ref a3, .int (nI n)])), (a1, .inl (cI, 32, .inl lo)), (a2, .inl (cI, 32, .inl hi)), (a3, .inl (cI, 32, .inl th))] (fun _ : Unit => True) (fun (_ : Unit) => [(r, .inr (4, [.ref b1, .ref b2, .ref b3, .ref b4, .int (nI how), .int (nI 1), .int (nI (pl + 1)), .int (nI (q + 1)), .int (nI stt), .int (nI dn)])), (b1, .inl (cI, 14, .inl (upd sa q (K pl)))), (b2, .inl (cI, 8, .inl ca)), (b3, .inl (cI, 60, .inl ta)), (b4, .inl (cI, 60, .inl tn)), (v, .inr (0, [.ref v1, .ref v2, .int (nI z)])), (v1, .inl (cI, M, .inl P)), (v2, .inl (cI, M, .inl K)), (h, .inr (1, [.ref a1, .ref a2, .ref a3, .int (nI n)])), (a1, .inl (cI, 32, .inl lo)), (a2, .inl (cI, 32, .inl hi)), (a3, .inl (cI, 32, .inl th))]) := by
  refine pl_startV (by decide) (Nat.le_of_ble_eq_true rfl) ?_
  intro p e s m args below meth c A ls X hr hlk hin hK hP hD hS hA hE hl
  have X : CallFix p m c b_Run_advance 5 s args TG R_Run := X
  have hx := X.1
  have hb := X.2.1
  have hl : lv_has ls 5 [(0, .ref r), (1, .ref v), (2, .ref h)] := hl
  refine lv_aload_n hx hb d_Run_advance_0 rfl (lv_at hl 1 rfl) ?_
  refine pl_get X fw_Run_43 hK hP 5 rfl (v := .ref v1) rfl d_Run_advance_1 ?_
  refine lv_aload_n hx hb d_Run_advance_4 rfl (lv_at hl 0 rfl) ?_
  refine pl_get X fw_Run_31 hK hP 0 rfl (v := .int (nI pl)) rfl d_Run_advance_5 ?_
  refine pl_iald X hK hP 6 0 rfl rfl pl (by omega) (by omega) (z := nI 0) ho d_Run_advance_8 ?_
  refine lv_istore_n hx hb d_Run_advance_9 rfl hl (by decide) (lv' := [(3, .int (nI 0)), (0, .ref r), (1, .ref v), (2, .ref h)]) rfl (fun ls hl => ?_)
  refine lv_aload_n hx hb d_Run_advance_10 rfl (lv_at hl 2 rfl) ?_
  refine pl_get X fw_Run_48 hK hP 5 rfl (v := .ref v2) rfl d_Run_advance_11 ?_
  refine lv_aload_n hx hb d_Run_advance_14 rfl (lv_at hl 1 rfl) ?_
  refine pl_get X fw_Run_31 hK hP 0 rfl (v := .int (nI pl)) rfl d_Run_advance_15 ?_
  refine pl_iald X hK hP 7 0 rfl rfl pl (by omega) (by omega) (z := K pl) rfl d_Run_advance_18 ?_
  refine lv_istore hx hb d_Run_advance_19 hl (by decide) (lv' := [(4, .int (K pl)), (3, .int (nI 0)), (0, .ref r), (1, .ref v), (2, .ref h)]) rfl (fun ls hl => ?_)
  refine lv_iload_n hx hb d_Run_advance_21 rfl (lv_at hl 1 rfl) ?_
  refine lv_tableOut hx hb d_Run_advance_22 (by decide) (tgt := 112) rfl ?_
  refine lv_aload_n hx hb d_Run_advance_112 rfl (lv_at hl 2 rfl) ?_
  refine lv_iload_n hx hb d_Run_advance_113 rfl (lv_at hl 1 rfl) ?_
  refine lv_iload hx hb d_Run_advance_114 (lv_at hl 0 rfl) ?_
  refine pl_callVV X (rest := []) (As := [.int (nI 0), .int (K pl)]) (b := r) (c_Run_work_0 l D cI cZ cL r b1 b2 b3 b4 sa ca ta tn how 1 pl q stt dn (K pl) hq) ck_Run_59 pl_E0_ok trivial hK hP hD hS hA (T := F_Run) (N := N_Run) (ci := 4) rfl 0 rfl [0, 1, 2, 3, 4] [5, 6, 7, 8, 9, 10, 11] [7, 8, 9, 10, 11, 0, 1, 2, 3, 4, 5, 6] rfl (by decide) (wr := [(v, .inr (0, [.ref v1, .ref v2, .int (nI z)])), (v1, .inl (cI, M, .inl P)), (v2, .inl (cI, M, .inl K)), (h, .inr (1, [.ref a1, .ref a2, .ref a3, .int (nI n)])), (a1, .inl (cI, 32, .inl lo)), (a2, .inl (cI, 32, .inl hi)), (a3, .inl (cI, 32, .inl th))]) rfl (by decide) (by decide) (wf := fun _ => [(r, .inr (4, [.ref b1, .ref b2, .ref b3, .ref b4, .int (nI how), .int (nI 1), .int (nI pl), .int (nI (q + 1)), .int (nI stt), .int (nI dn)])), (b1, .inl (cI, 14, .inl (upd sa q (K pl)))), (b2, .inl (cI, 8, .inl ca)), (b3, .inl (cI, 60, .inl ta)), (b4, .inl (cI, 60, .inl tn)), (v, .inr (0, [.ref v1, .ref v2, .int (nI z)])), (v1, .inl (cI, M, .inl P)), (v2, .inl (cI, M, .inl K)), (h, .inr (1, [.ref a1, .ref a2, .ref a3, .int (nI n)])), (a1, .inl (cI, 32, .inl lo)), (a2, .inl (cI, 32, .inl hi)), (a3, .inl (cI, 32, .inl th))]) (fun _ => rfl) (by decide) rfl hl.1 rfl (Nat.le_of_ble_eq_true rfl) (by decide) (by decide) d_Run_advance_116 (fun u0 H locs hcq hP hD hS => ?_)
  refine lv_aload_n hx hb d_Run_advance_119 rfl (lv_at hl 2 rfl) ?_
  refine lv_dup hx hb d_Run_advance_120 rfl ?_
  refine pl_get X fw_Run_31 hK hP 0 rfl (v := .int (nI pl)) rfl d_Run_advance_121 ?_
  refine lv_iconst (v := nI 1) hx hb d_Run_advance_124 (by decide) ?_
  refine pl_iadd X d_Run_advance_125 (z := nI (pl + 1)) (nI_add _ _) ?_
  refine pl_put X fw_Run_31 fp_Run rfl hK hP hD hS 0 rfl (v := .int (nI (pl + 1))) rfl rfl (Nat.le_of_ble_eq_true rfl) d_Run_advance_126 (ws' := [(r, .inr (4, [.ref b1, .ref b2, .ref b3, .ref b4, .int (nI how), .int (nI 1), .int (nI (pl + 1)), .int (nI (q + 1)), .int (nI stt), .int (nI dn)])), (b1, .inl (cI, 14, .inl (upd sa q (K pl)))), (b2, .inl (cI, 8, .inl ca)), (b3, .inl (cI, 60, .inl ta)), (b4, .inl (cI, 60, .inl tn)), (v, .inr (0, [.ref v1, .ref v2, .int (nI z)])), (v1, .inl (cI, M, .inl P)), (v2, .inl (cI, M, .inl K)), (h, .inr (1, [.ref a1, .ref a2, .ref a3, .int (nI n)])), (a1, .inl (cI, 32, .inl lo)), (a2, .inl (cI, 32, .inl hi)), (a3, .inl (cI, 32, .inl th))]) rfl (fun H locs hP hD hS => ?_)
  exact pl_vret X hr hlk hK () trivial hP hD hS d_Run_advance_129

set_option maxHeartbeats 4000000 in
set_option maxRecDepth 100000 in
theorem c_Run_advance_1 (l : Launch) (D : va_G) (cI cZ cL : ClassId) (r b1 b2 b3 b4 : Nat) (sa ca ta tn : Nat → Int32) (how stat pl : Nat) (q stt dn : Nat) (v v1 v2 M z : Nat) (P K : Nat → Int32) (h a1 a2 a3 n : Nat) (lo hi th : Nat → Int32) (hM : M < 2 ^ 31) (hp : pl < M) (ho : P pl = nI 1)  : pl_V l y_Run_advance b_Run_advance 5 ({ frames := 3, cells := 0, slots := 0, locals := 67 } : Room) pl_E0 D classes (TY cI cZ cL) [.ref r, .ref v, .ref h] [(r, .inr (4, [.ref b1, .ref b2, .ref b3, .ref b4, .int (nI how), .int (nI 1), .int (nI pl), .int (nI (q + 1)), .int (nI stt), .int (nI dn)])), (b1, .inl (cI, 14, .inl sa)), (b2, .inl (cI, 8, .inl ca)), (b3, .inl (cI, 60, .inl ta)), (b4, .inl (cI, 60, .inl tn)), (v, .inr (0, [.ref v1, .ref v2, .int (nI z)])), (v1, .inl (cI, M, .inl P)), (v2, .inl (cI, M, .inl K)), (h, .inr (1, [.ref a1, .ref a2, .ref a3, .int (nI n)])), (a1, .inl (cI, 32, .inl lo)), (a2, .inl (cI, 32, .inl hi)), (a3, .inl (cI, 32, .inl th))] (fun _ : Unit => True) (fun (_ : Unit) => [(r, .inr (4, [.ref b1, .ref b2, .ref b3, .ref b4, .int (nI how), .int (nI 1), .int (nI (pl + 1)), .int (nI q), .int (nI stt), .int (nI dn)])), (b1, .inl (cI, 14, .inl sa)), (b2, .inl (cI, 8, .inl ca)), (b3, .inl (cI, 60, .inl ta)), (b4, .inl (cI, 60, .inl tn)), (v, .inr (0, [.ref v1, .ref v2, .int (nI z)])), (v1, .inl (cI, M, .inl P)), (v2, .inl (cI, M, .inl K)), (h, .inr (1, [.ref a1, .ref a2, .ref a3, .int (nI n)])), (a1, .inl (cI, 32, .inl lo)), (a2, .inl (cI, 32, .inl hi)), (a3, .inl (cI, 32, .inl th))]) := by
  refine pl_startV (by decide) (Nat.le_of_ble_eq_true rfl) ?_
  intro p e s m args below meth c A ls X hr hlk hin hK hP hD hS hA hE hl
  have X : CallFix p m c b_Run_advance 5 s args TG R_Run := X
  have hx := X.1
  have hb := X.2.1
  have hl : lv_has ls 5 [(0, .ref r), (1, .ref v), (2, .ref h)] := hl
  refine lv_aload_n hx hb d_Run_advance_0 rfl (lv_at hl 1 rfl) ?_
  refine pl_get X fw_Run_43 hK hP 5 rfl (v := .ref v1) rfl d_Run_advance_1 ?_
  refine lv_aload_n hx hb d_Run_advance_4 rfl (lv_at hl 0 rfl) ?_
  refine pl_get X fw_Run_31 hK hP 0 rfl (v := .int (nI pl)) rfl d_Run_advance_5 ?_
  refine pl_iald X hK hP 6 0 rfl rfl pl (by omega) (by omega) (z := nI 1) ho d_Run_advance_8 ?_
  refine lv_istore_n hx hb d_Run_advance_9 rfl hl (by decide) (lv' := [(3, .int (nI 1)), (0, .ref r), (1, .ref v), (2, .ref h)]) rfl (fun ls hl => ?_)
  refine lv_aload_n hx hb d_Run_advance_10 rfl (lv_at hl 2 rfl) ?_
  refine pl_get X fw_Run_48 hK hP 5 rfl (v := .ref v2) rfl d_Run_advance_11 ?_
  refine lv_aload_n hx hb d_Run_advance_14 rfl (lv_at hl 1 rfl) ?_
  refine pl_get X fw_Run_31 hK hP 0 rfl (v := .int (nI pl)) rfl d_Run_advance_15 ?_
  refine pl_iald X hK hP 7 0 rfl rfl pl (by omega) (by omega) (z := K pl) rfl d_Run_advance_18 ?_
  refine lv_istore hx hb d_Run_advance_19 hl (by decide) (lv' := [(4, .int (K pl)), (3, .int (nI 1)), (0, .ref r), (1, .ref v), (2, .ref h)]) rfl (fun ls hl => ?_)
  refine lv_iload_n hx hb d_Run_advance_21 rfl (lv_at hl 1 rfl) ?_
  refine lv_tableOut hx hb d_Run_advance_22 (by decide) (tgt := 112) rfl ?_
  refine lv_aload_n hx hb d_Run_advance_112 rfl (lv_at hl 2 rfl) ?_
  refine lv_iload_n hx hb d_Run_advance_113 rfl (lv_at hl 1 rfl) ?_
  refine lv_iload hx hb d_Run_advance_114 (lv_at hl 0 rfl) ?_
  refine pl_callVV X (rest := []) (As := [.int (nI 1), .int (K pl)]) (b := r) (c_Run_work_1 l D cI cZ cL r b1 b2 b3 b4 sa ca ta tn how 1 pl q stt dn (K pl) ) ck_Run_59 pl_E0_ok trivial hK hP hD hS hA (T := F_Run) (N := N_Run) (ci := 4) rfl 0 rfl [0, 1, 2, 3, 4] [5, 6, 7, 8, 9, 10, 11] [7, 8, 9, 10, 11, 0, 1, 2, 3, 4, 5, 6] rfl (by decide) (wr := [(v, .inr (0, [.ref v1, .ref v2, .int (nI z)])), (v1, .inl (cI, M, .inl P)), (v2, .inl (cI, M, .inl K)), (h, .inr (1, [.ref a1, .ref a2, .ref a3, .int (nI n)])), (a1, .inl (cI, 32, .inl lo)), (a2, .inl (cI, 32, .inl hi)), (a3, .inl (cI, 32, .inl th))]) rfl (by decide) (by decide) (wf := fun _ => [(r, .inr (4, [.ref b1, .ref b2, .ref b3, .ref b4, .int (nI how), .int (nI 1), .int (nI pl), .int (nI q), .int (nI stt), .int (nI dn)])), (b1, .inl (cI, 14, .inl sa)), (b2, .inl (cI, 8, .inl ca)), (b3, .inl (cI, 60, .inl ta)), (b4, .inl (cI, 60, .inl tn)), (v, .inr (0, [.ref v1, .ref v2, .int (nI z)])), (v1, .inl (cI, M, .inl P)), (v2, .inl (cI, M, .inl K)), (h, .inr (1, [.ref a1, .ref a2, .ref a3, .int (nI n)])), (a1, .inl (cI, 32, .inl lo)), (a2, .inl (cI, 32, .inl hi)), (a3, .inl (cI, 32, .inl th))]) (fun _ => rfl) (by decide) rfl hl.1 rfl (Nat.le_of_ble_eq_true rfl) (by decide) (by decide) d_Run_advance_116 (fun u0 H locs hcq hP hD hS => ?_)
  refine lv_aload_n hx hb d_Run_advance_119 rfl (lv_at hl 2 rfl) ?_
  refine lv_dup hx hb d_Run_advance_120 rfl ?_
  refine pl_get X fw_Run_31 hK hP 0 rfl (v := .int (nI pl)) rfl d_Run_advance_121 ?_
  refine lv_iconst (v := nI 1) hx hb d_Run_advance_124 (by decide) ?_
  refine pl_iadd X d_Run_advance_125 (z := nI (pl + 1)) (nI_add _ _) ?_
  refine pl_put X fw_Run_31 fp_Run rfl hK hP hD hS 0 rfl (v := .int (nI (pl + 1))) rfl rfl (Nat.le_of_ble_eq_true rfl) d_Run_advance_126 (ws' := [(r, .inr (4, [.ref b1, .ref b2, .ref b3, .ref b4, .int (nI how), .int (nI 1), .int (nI (pl + 1)), .int (nI q), .int (nI stt), .int (nI dn)])), (b1, .inl (cI, 14, .inl sa)), (b2, .inl (cI, 8, .inl ca)), (b3, .inl (cI, 60, .inl ta)), (b4, .inl (cI, 60, .inl tn)), (v, .inr (0, [.ref v1, .ref v2, .int (nI z)])), (v1, .inl (cI, M, .inl P)), (v2, .inl (cI, M, .inl K)), (h, .inr (1, [.ref a1, .ref a2, .ref a3, .int (nI n)])), (a1, .inl (cI, 32, .inl lo)), (a2, .inl (cI, 32, .inl hi)), (a3, .inl (cI, 32, .inl th))]) rfl (fun H locs hP hD hS => ?_)
  exact pl_vret X hr hlk hK () trivial hP hD hS d_Run_advance_129

set_option maxHeartbeats 4000000 in
set_option maxRecDepth 100000 in
theorem c_Run_advance_2 (l : Launch) (D : va_G) (cI cZ cL : ClassId) (r b1 b2 b3 b4 : Nat) (sa ca ta tn : Nat → Int32) (how stat pl : Nat) (q stt dn : Nat) (v v1 v2 M z : Nat) (P K : Nat → Int32) (h a1 a2 a3 n : Nat) (lo hi th : Nat → Int32) (hM : M < 2 ^ 31) (hp : pl < M) (ho : P pl = nI 2) (hq : q + 2 ≤ 14) : pl_V l y_Run_advance b_Run_advance 5 ({ frames := 3, cells := 0, slots := 0, locals := 67 } : Room) pl_E0 D classes (TY cI cZ cL) [.ref r, .ref v, .ref h] [(r, .inr (4, [.ref b1, .ref b2, .ref b3, .ref b4, .int (nI how), .int (nI 1), .int (nI pl), .int (nI (q + 2)), .int (nI stt), .int (nI dn)])), (b1, .inl (cI, 14, .inl sa)), (b2, .inl (cI, 8, .inl ca)), (b3, .inl (cI, 60, .inl ta)), (b4, .inl (cI, 60, .inl tn)), (v, .inr (0, [.ref v1, .ref v2, .int (nI z)])), (v1, .inl (cI, M, .inl P)), (v2, .inl (cI, M, .inl K)), (h, .inr (1, [.ref a1, .ref a2, .ref a3, .int (nI n)])), (a1, .inl (cI, 32, .inl lo)), (a2, .inl (cI, 32, .inl hi)), (a3, .inl (cI, 32, .inl th))] (fun _ : Unit => True) (fun (_ : Unit) => [(r, .inr (4, [.ref b1, .ref b2, .ref b3, .ref b4, .int (nI how), .int (nI 1), .int (nI (pl + 1)), .int (nI (q + 1)), .int (nI stt), .int (nI dn)])), (b1, .inl (cI, 14, .inl (upd sa q (sa q + sa (q + 1))))), (b2, .inl (cI, 8, .inl ca)), (b3, .inl (cI, 60, .inl ta)), (b4, .inl (cI, 60, .inl tn)), (v, .inr (0, [.ref v1, .ref v2, .int (nI z)])), (v1, .inl (cI, M, .inl P)), (v2, .inl (cI, M, .inl K)), (h, .inr (1, [.ref a1, .ref a2, .ref a3, .int (nI n)])), (a1, .inl (cI, 32, .inl lo)), (a2, .inl (cI, 32, .inl hi)), (a3, .inl (cI, 32, .inl th))]) := by
  refine pl_startV (by decide) (Nat.le_of_ble_eq_true rfl) ?_
  intro p e s m args below meth c A ls X hr hlk hin hK hP hD hS hA hE hl
  have X : CallFix p m c b_Run_advance 5 s args TG R_Run := X
  have hx := X.1
  have hb := X.2.1
  have hl : lv_has ls 5 [(0, .ref r), (1, .ref v), (2, .ref h)] := hl
  refine lv_aload_n hx hb d_Run_advance_0 rfl (lv_at hl 1 rfl) ?_
  refine pl_get X fw_Run_43 hK hP 5 rfl (v := .ref v1) rfl d_Run_advance_1 ?_
  refine lv_aload_n hx hb d_Run_advance_4 rfl (lv_at hl 0 rfl) ?_
  refine pl_get X fw_Run_31 hK hP 0 rfl (v := .int (nI pl)) rfl d_Run_advance_5 ?_
  refine pl_iald X hK hP 6 0 rfl rfl pl (by omega) (by omega) (z := nI 2) ho d_Run_advance_8 ?_
  refine lv_istore_n hx hb d_Run_advance_9 rfl hl (by decide) (lv' := [(3, .int (nI 2)), (0, .ref r), (1, .ref v), (2, .ref h)]) rfl (fun ls hl => ?_)
  refine lv_aload_n hx hb d_Run_advance_10 rfl (lv_at hl 2 rfl) ?_
  refine pl_get X fw_Run_48 hK hP 5 rfl (v := .ref v2) rfl d_Run_advance_11 ?_
  refine lv_aload_n hx hb d_Run_advance_14 rfl (lv_at hl 1 rfl) ?_
  refine pl_get X fw_Run_31 hK hP 0 rfl (v := .int (nI pl)) rfl d_Run_advance_15 ?_
  refine pl_iald X hK hP 7 0 rfl rfl pl (by omega) (by omega) (z := K pl) rfl d_Run_advance_18 ?_
  refine lv_istore hx hb d_Run_advance_19 hl (by decide) (lv' := [(4, .int (K pl)), (3, .int (nI 2)), (0, .ref r), (1, .ref v), (2, .ref h)]) rfl (fun ls hl => ?_)
  refine lv_iload_n hx hb d_Run_advance_21 rfl (lv_at hl 1 rfl) ?_
  refine lv_tableOut hx hb d_Run_advance_22 (by decide) (tgt := 112) rfl ?_
  refine lv_aload_n hx hb d_Run_advance_112 rfl (lv_at hl 2 rfl) ?_
  refine lv_iload_n hx hb d_Run_advance_113 rfl (lv_at hl 1 rfl) ?_
  refine lv_iload hx hb d_Run_advance_114 (lv_at hl 0 rfl) ?_
  refine pl_callVV X (rest := []) (As := [.int (nI 2), .int (K pl)]) (b := r) (c_Run_work_2 l D cI cZ cL r b1 b2 b3 b4 sa ca ta tn how 1 pl q stt dn (K pl) hq) ck_Run_59 pl_E0_ok trivial hK hP hD hS hA (T := F_Run) (N := N_Run) (ci := 4) rfl 0 rfl [0, 1, 2, 3, 4] [5, 6, 7, 8, 9, 10, 11] [7, 8, 9, 10, 11, 0, 1, 2, 3, 4, 5, 6] rfl (by decide) (wr := [(v, .inr (0, [.ref v1, .ref v2, .int (nI z)])), (v1, .inl (cI, M, .inl P)), (v2, .inl (cI, M, .inl K)), (h, .inr (1, [.ref a1, .ref a2, .ref a3, .int (nI n)])), (a1, .inl (cI, 32, .inl lo)), (a2, .inl (cI, 32, .inl hi)), (a3, .inl (cI, 32, .inl th))]) rfl (by decide) (by decide) (wf := fun _ => [(r, .inr (4, [.ref b1, .ref b2, .ref b3, .ref b4, .int (nI how), .int (nI 1), .int (nI pl), .int (nI (q + 1)), .int (nI stt), .int (nI dn)])), (b1, .inl (cI, 14, .inl (upd sa q (sa q + sa (q + 1))))), (b2, .inl (cI, 8, .inl ca)), (b3, .inl (cI, 60, .inl ta)), (b4, .inl (cI, 60, .inl tn)), (v, .inr (0, [.ref v1, .ref v2, .int (nI z)])), (v1, .inl (cI, M, .inl P)), (v2, .inl (cI, M, .inl K)), (h, .inr (1, [.ref a1, .ref a2, .ref a3, .int (nI n)])), (a1, .inl (cI, 32, .inl lo)), (a2, .inl (cI, 32, .inl hi)), (a3, .inl (cI, 32, .inl th))]) (fun _ => rfl) (by decide) rfl hl.1 rfl (Nat.le_of_ble_eq_true rfl) (by decide) (by decide) d_Run_advance_116 (fun u0 H locs hcq hP hD hS => ?_)
  refine lv_aload_n hx hb d_Run_advance_119 rfl (lv_at hl 2 rfl) ?_
  refine lv_dup hx hb d_Run_advance_120 rfl ?_
  refine pl_get X fw_Run_31 hK hP 0 rfl (v := .int (nI pl)) rfl d_Run_advance_121 ?_
  refine lv_iconst (v := nI 1) hx hb d_Run_advance_124 (by decide) ?_
  refine pl_iadd X d_Run_advance_125 (z := nI (pl + 1)) (nI_add _ _) ?_
  refine pl_put X fw_Run_31 fp_Run rfl hK hP hD hS 0 rfl (v := .int (nI (pl + 1))) rfl rfl (Nat.le_of_ble_eq_true rfl) d_Run_advance_126 (ws' := [(r, .inr (4, [.ref b1, .ref b2, .ref b3, .ref b4, .int (nI how), .int (nI 1), .int (nI (pl + 1)), .int (nI (q + 1)), .int (nI stt), .int (nI dn)])), (b1, .inl (cI, 14, .inl (upd sa q (sa q + sa (q + 1))))), (b2, .inl (cI, 8, .inl ca)), (b3, .inl (cI, 60, .inl ta)), (b4, .inl (cI, 60, .inl tn)), (v, .inr (0, [.ref v1, .ref v2, .int (nI z)])), (v1, .inl (cI, M, .inl P)), (v2, .inl (cI, M, .inl K)), (h, .inr (1, [.ref a1, .ref a2, .ref a3, .int (nI n)])), (a1, .inl (cI, 32, .inl lo)), (a2, .inl (cI, 32, .inl hi)), (a3, .inl (cI, 32, .inl th))]) rfl (fun H locs hP hD hS => ?_)
  exact pl_vret X hr hlk hK () trivial hP hD hS d_Run_advance_129

set_option maxHeartbeats 4000000 in
set_option maxRecDepth 100000 in
theorem c_Run_advance_3 (l : Launch) (D : va_G) (cI cZ cL : ClassId) (r b1 b2 b3 b4 : Nat) (sa ca ta tn : Nat → Int32) (how stat pl : Nat) (q stt dn : Nat) (v v1 v2 M z : Nat) (P K : Nat → Int32) (h a1 a2 a3 n : Nat) (lo hi th : Nat → Int32) (hM : M < 2 ^ 31) (hp : pl < M) (ho : P pl = nI 3) (hq : q + 2 ≤ 14) : pl_V l y_Run_advance b_Run_advance 5 ({ frames := 3, cells := 0, slots := 0, locals := 67 } : Room) pl_E0 D classes (TY cI cZ cL) [.ref r, .ref v, .ref h] [(r, .inr (4, [.ref b1, .ref b2, .ref b3, .ref b4, .int (nI how), .int (nI 1), .int (nI pl), .int (nI (q + 2)), .int (nI stt), .int (nI dn)])), (b1, .inl (cI, 14, .inl sa)), (b2, .inl (cI, 8, .inl ca)), (b3, .inl (cI, 60, .inl ta)), (b4, .inl (cI, 60, .inl tn)), (v, .inr (0, [.ref v1, .ref v2, .int (nI z)])), (v1, .inl (cI, M, .inl P)), (v2, .inl (cI, M, .inl K)), (h, .inr (1, [.ref a1, .ref a2, .ref a3, .int (nI n)])), (a1, .inl (cI, 32, .inl lo)), (a2, .inl (cI, 32, .inl hi)), (a3, .inl (cI, 32, .inl th))] (fun _ : Unit => True) (fun (_ : Unit) => [(r, .inr (4, [.ref b1, .ref b2, .ref b3, .ref b4, .int (nI how), .int (nI 1), .int (nI (pl + 1)), .int (nI (q + 1)), .int (nI stt), .int (nI dn)])), (b1, .inl (cI, 14, .inl (upd sa q (sa q - sa (q + 1))))), (b2, .inl (cI, 8, .inl ca)), (b3, .inl (cI, 60, .inl ta)), (b4, .inl (cI, 60, .inl tn)), (v, .inr (0, [.ref v1, .ref v2, .int (nI z)])), (v1, .inl (cI, M, .inl P)), (v2, .inl (cI, M, .inl K)), (h, .inr (1, [.ref a1, .ref a2, .ref a3, .int (nI n)])), (a1, .inl (cI, 32, .inl lo)), (a2, .inl (cI, 32, .inl hi)), (a3, .inl (cI, 32, .inl th))]) := by
  refine pl_startV (by decide) (Nat.le_of_ble_eq_true rfl) ?_
  intro p e s m args below meth c A ls X hr hlk hin hK hP hD hS hA hE hl
  have X : CallFix p m c b_Run_advance 5 s args TG R_Run := X
  have hx := X.1
  have hb := X.2.1
  have hl : lv_has ls 5 [(0, .ref r), (1, .ref v), (2, .ref h)] := hl
  refine lv_aload_n hx hb d_Run_advance_0 rfl (lv_at hl 1 rfl) ?_
  refine pl_get X fw_Run_43 hK hP 5 rfl (v := .ref v1) rfl d_Run_advance_1 ?_
  refine lv_aload_n hx hb d_Run_advance_4 rfl (lv_at hl 0 rfl) ?_
  refine pl_get X fw_Run_31 hK hP 0 rfl (v := .int (nI pl)) rfl d_Run_advance_5 ?_
  refine pl_iald X hK hP 6 0 rfl rfl pl (by omega) (by omega) (z := nI 3) ho d_Run_advance_8 ?_
  refine lv_istore_n hx hb d_Run_advance_9 rfl hl (by decide) (lv' := [(3, .int (nI 3)), (0, .ref r), (1, .ref v), (2, .ref h)]) rfl (fun ls hl => ?_)
  refine lv_aload_n hx hb d_Run_advance_10 rfl (lv_at hl 2 rfl) ?_
  refine pl_get X fw_Run_48 hK hP 5 rfl (v := .ref v2) rfl d_Run_advance_11 ?_
  refine lv_aload_n hx hb d_Run_advance_14 rfl (lv_at hl 1 rfl) ?_
  refine pl_get X fw_Run_31 hK hP 0 rfl (v := .int (nI pl)) rfl d_Run_advance_15 ?_
  refine pl_iald X hK hP 7 0 rfl rfl pl (by omega) (by omega) (z := K pl) rfl d_Run_advance_18 ?_
  refine lv_istore hx hb d_Run_advance_19 hl (by decide) (lv' := [(4, .int (K pl)), (3, .int (nI 3)), (0, .ref r), (1, .ref v), (2, .ref h)]) rfl (fun ls hl => ?_)
  refine lv_iload_n hx hb d_Run_advance_21 rfl (lv_at hl 1 rfl) ?_
  refine lv_tableOut hx hb d_Run_advance_22 (by decide) (tgt := 112) rfl ?_
  refine lv_aload_n hx hb d_Run_advance_112 rfl (lv_at hl 2 rfl) ?_
  refine lv_iload_n hx hb d_Run_advance_113 rfl (lv_at hl 1 rfl) ?_
  refine lv_iload hx hb d_Run_advance_114 (lv_at hl 0 rfl) ?_
  refine pl_callVV X (rest := []) (As := [.int (nI 3), .int (K pl)]) (b := r) (c_Run_work_3 l D cI cZ cL r b1 b2 b3 b4 sa ca ta tn how 1 pl q stt dn (K pl) hq) ck_Run_59 pl_E0_ok trivial hK hP hD hS hA (T := F_Run) (N := N_Run) (ci := 4) rfl 0 rfl [0, 1, 2, 3, 4] [5, 6, 7, 8, 9, 10, 11] [7, 8, 9, 10, 11, 0, 1, 2, 3, 4, 5, 6] rfl (by decide) (wr := [(v, .inr (0, [.ref v1, .ref v2, .int (nI z)])), (v1, .inl (cI, M, .inl P)), (v2, .inl (cI, M, .inl K)), (h, .inr (1, [.ref a1, .ref a2, .ref a3, .int (nI n)])), (a1, .inl (cI, 32, .inl lo)), (a2, .inl (cI, 32, .inl hi)), (a3, .inl (cI, 32, .inl th))]) rfl (by decide) (by decide) (wf := fun _ => [(r, .inr (4, [.ref b1, .ref b2, .ref b3, .ref b4, .int (nI how), .int (nI 1), .int (nI pl), .int (nI (q + 1)), .int (nI stt), .int (nI dn)])), (b1, .inl (cI, 14, .inl (upd sa q (sa q - sa (q + 1))))), (b2, .inl (cI, 8, .inl ca)), (b3, .inl (cI, 60, .inl ta)), (b4, .inl (cI, 60, .inl tn)), (v, .inr (0, [.ref v1, .ref v2, .int (nI z)])), (v1, .inl (cI, M, .inl P)), (v2, .inl (cI, M, .inl K)), (h, .inr (1, [.ref a1, .ref a2, .ref a3, .int (nI n)])), (a1, .inl (cI, 32, .inl lo)), (a2, .inl (cI, 32, .inl hi)), (a3, .inl (cI, 32, .inl th))]) (fun _ => rfl) (by decide) rfl hl.1 rfl (Nat.le_of_ble_eq_true rfl) (by decide) (by decide) d_Run_advance_116 (fun u0 H locs hcq hP hD hS => ?_)
  refine lv_aload_n hx hb d_Run_advance_119 rfl (lv_at hl 2 rfl) ?_
  refine lv_dup hx hb d_Run_advance_120 rfl ?_
  refine pl_get X fw_Run_31 hK hP 0 rfl (v := .int (nI pl)) rfl d_Run_advance_121 ?_
  refine lv_iconst (v := nI 1) hx hb d_Run_advance_124 (by decide) ?_
  refine pl_iadd X d_Run_advance_125 (z := nI (pl + 1)) (nI_add _ _) ?_
  refine pl_put X fw_Run_31 fp_Run rfl hK hP hD hS 0 rfl (v := .int (nI (pl + 1))) rfl rfl (Nat.le_of_ble_eq_true rfl) d_Run_advance_126 (ws' := [(r, .inr (4, [.ref b1, .ref b2, .ref b3, .ref b4, .int (nI how), .int (nI 1), .int (nI (pl + 1)), .int (nI (q + 1)), .int (nI stt), .int (nI dn)])), (b1, .inl (cI, 14, .inl (upd sa q (sa q - sa (q + 1))))), (b2, .inl (cI, 8, .inl ca)), (b3, .inl (cI, 60, .inl ta)), (b4, .inl (cI, 60, .inl tn)), (v, .inr (0, [.ref v1, .ref v2, .int (nI z)])), (v1, .inl (cI, M, .inl P)), (v2, .inl (cI, M, .inl K)), (h, .inr (1, [.ref a1, .ref a2, .ref a3, .int (nI n)])), (a1, .inl (cI, 32, .inl lo)), (a2, .inl (cI, 32, .inl hi)), (a3, .inl (cI, 32, .inl th))]) rfl (fun H locs hP hD hS => ?_)
  exact pl_vret X hr hlk hK () trivial hP hD hS d_Run_advance_129

set_option maxHeartbeats 4000000 in
set_option maxRecDepth 100000 in
theorem c_Run_advance_4 (l : Launch) (D : va_G) (cI cZ cL : ClassId) (r b1 b2 b3 b4 : Nat) (sa ca ta tn : Nat → Int32) (how stat pl : Nat) (q stt dn : Nat) (v v1 v2 M z : Nat) (P K : Nat → Int32) (h a1 a2 a3 n : Nat) (lo hi th : Nat → Int32) (hM : M < 2 ^ 31) (hp : pl < M) (ho : P pl = nI 4) (hq : q + 2 ≤ 14) : pl_V l y_Run_advance b_Run_advance 5 ({ frames := 3, cells := 0, slots := 0, locals := 67 } : Room) pl_E0 D classes (TY cI cZ cL) [.ref r, .ref v, .ref h] [(r, .inr (4, [.ref b1, .ref b2, .ref b3, .ref b4, .int (nI how), .int (nI 1), .int (nI pl), .int (nI (q + 2)), .int (nI stt), .int (nI dn)])), (b1, .inl (cI, 14, .inl sa)), (b2, .inl (cI, 8, .inl ca)), (b3, .inl (cI, 60, .inl ta)), (b4, .inl (cI, 60, .inl tn)), (v, .inr (0, [.ref v1, .ref v2, .int (nI z)])), (v1, .inl (cI, M, .inl P)), (v2, .inl (cI, M, .inl K)), (h, .inr (1, [.ref a1, .ref a2, .ref a3, .int (nI n)])), (a1, .inl (cI, 32, .inl lo)), (a2, .inl (cI, 32, .inl hi)), (a3, .inl (cI, 32, .inl th))] (fun _ : Unit => True) (fun (_ : Unit) => [(r, .inr (4, [.ref b1, .ref b2, .ref b3, .ref b4, .int (nI how), .int (nI 1), .int (nI (pl + 1)), .int (nI (q + 1)), .int (nI stt), .int (nI dn)])), (b1, .inl (cI, 14, .inl (upd sa q (if sa q < sa (q + 1) then 1 else 0)))), (b2, .inl (cI, 8, .inl ca)), (b3, .inl (cI, 60, .inl ta)), (b4, .inl (cI, 60, .inl tn)), (v, .inr (0, [.ref v1, .ref v2, .int (nI z)])), (v1, .inl (cI, M, .inl P)), (v2, .inl (cI, M, .inl K)), (h, .inr (1, [.ref a1, .ref a2, .ref a3, .int (nI n)])), (a1, .inl (cI, 32, .inl lo)), (a2, .inl (cI, 32, .inl hi)), (a3, .inl (cI, 32, .inl th))]) := by
  refine pl_startV (by decide) (Nat.le_of_ble_eq_true rfl) ?_
  intro p e s m args below meth c A ls X hr hlk hin hK hP hD hS hA hE hl
  have X : CallFix p m c b_Run_advance 5 s args TG R_Run := X
  have hx := X.1
  have hb := X.2.1
  have hl : lv_has ls 5 [(0, .ref r), (1, .ref v), (2, .ref h)] := hl
  refine lv_aload_n hx hb d_Run_advance_0 rfl (lv_at hl 1 rfl) ?_
  refine pl_get X fw_Run_43 hK hP 5 rfl (v := .ref v1) rfl d_Run_advance_1 ?_
  refine lv_aload_n hx hb d_Run_advance_4 rfl (lv_at hl 0 rfl) ?_
  refine pl_get X fw_Run_31 hK hP 0 rfl (v := .int (nI pl)) rfl d_Run_advance_5 ?_
  refine pl_iald X hK hP 6 0 rfl rfl pl (by omega) (by omega) (z := nI 4) ho d_Run_advance_8 ?_
  refine lv_istore_n hx hb d_Run_advance_9 rfl hl (by decide) (lv' := [(3, .int (nI 4)), (0, .ref r), (1, .ref v), (2, .ref h)]) rfl (fun ls hl => ?_)
  refine lv_aload_n hx hb d_Run_advance_10 rfl (lv_at hl 2 rfl) ?_
  refine pl_get X fw_Run_48 hK hP 5 rfl (v := .ref v2) rfl d_Run_advance_11 ?_
  refine lv_aload_n hx hb d_Run_advance_14 rfl (lv_at hl 1 rfl) ?_
  refine pl_get X fw_Run_31 hK hP 0 rfl (v := .int (nI pl)) rfl d_Run_advance_15 ?_
  refine pl_iald X hK hP 7 0 rfl rfl pl (by omega) (by omega) (z := K pl) rfl d_Run_advance_18 ?_
  refine lv_istore hx hb d_Run_advance_19 hl (by decide) (lv' := [(4, .int (K pl)), (3, .int (nI 4)), (0, .ref r), (1, .ref v), (2, .ref h)]) rfl (fun ls hl => ?_)
  refine lv_iload_n hx hb d_Run_advance_21 rfl (lv_at hl 1 rfl) ?_
  refine lv_tableOut hx hb d_Run_advance_22 (by decide) (tgt := 112) rfl ?_
  refine lv_aload_n hx hb d_Run_advance_112 rfl (lv_at hl 2 rfl) ?_
  refine lv_iload_n hx hb d_Run_advance_113 rfl (lv_at hl 1 rfl) ?_
  refine lv_iload hx hb d_Run_advance_114 (lv_at hl 0 rfl) ?_
  refine pl_callVV X (rest := []) (As := [.int (nI 4), .int (K pl)]) (b := r) (c_Run_work_4 l D cI cZ cL r b1 b2 b3 b4 sa ca ta tn how 1 pl q stt dn (K pl) hq) ck_Run_59 pl_E0_ok trivial hK hP hD hS hA (T := F_Run) (N := N_Run) (ci := 4) rfl 0 rfl [0, 1, 2, 3, 4] [5, 6, 7, 8, 9, 10, 11] [7, 8, 9, 10, 11, 0, 1, 2, 3, 4, 5, 6] rfl (by decide) (wr := [(v, .inr (0, [.ref v1, .ref v2, .int (nI z)])), (v1, .inl (cI, M, .inl P)), (v2, .inl (cI, M, .inl K)), (h, .inr (1, [.ref a1, .ref a2, .ref a3, .int (nI n)])), (a1, .inl (cI, 32, .inl lo)), (a2, .inl (cI, 32, .inl hi)), (a3, .inl (cI, 32, .inl th))]) rfl (by decide) (by decide) (wf := fun _ => [(r, .inr (4, [.ref b1, .ref b2, .ref b3, .ref b4, .int (nI how), .int (nI 1), .int (nI pl), .int (nI (q + 1)), .int (nI stt), .int (nI dn)])), (b1, .inl (cI, 14, .inl (upd sa q (if sa q < sa (q + 1) then 1 else 0)))), (b2, .inl (cI, 8, .inl ca)), (b3, .inl (cI, 60, .inl ta)), (b4, .inl (cI, 60, .inl tn)), (v, .inr (0, [.ref v1, .ref v2, .int (nI z)])), (v1, .inl (cI, M, .inl P)), (v2, .inl (cI, M, .inl K)), (h, .inr (1, [.ref a1, .ref a2, .ref a3, .int (nI n)])), (a1, .inl (cI, 32, .inl lo)), (a2, .inl (cI, 32, .inl hi)), (a3, .inl (cI, 32, .inl th))]) (fun _ => rfl) (by decide) rfl hl.1 rfl (Nat.le_of_ble_eq_true rfl) (by decide) (by decide) d_Run_advance_116 (fun u0 H locs hcq hP hD hS => ?_)
  refine lv_aload_n hx hb d_Run_advance_119 rfl (lv_at hl 2 rfl) ?_
  refine lv_dup hx hb d_Run_advance_120 rfl ?_
  refine pl_get X fw_Run_31 hK hP 0 rfl (v := .int (nI pl)) rfl d_Run_advance_121 ?_
  refine lv_iconst (v := nI 1) hx hb d_Run_advance_124 (by decide) ?_
  refine pl_iadd X d_Run_advance_125 (z := nI (pl + 1)) (nI_add _ _) ?_
  refine pl_put X fw_Run_31 fp_Run rfl hK hP hD hS 0 rfl (v := .int (nI (pl + 1))) rfl rfl (Nat.le_of_ble_eq_true rfl) d_Run_advance_126 (ws' := [(r, .inr (4, [.ref b1, .ref b2, .ref b3, .ref b4, .int (nI how), .int (nI 1), .int (nI (pl + 1)), .int (nI (q + 1)), .int (nI stt), .int (nI dn)])), (b1, .inl (cI, 14, .inl (upd sa q (if sa q < sa (q + 1) then 1 else 0)))), (b2, .inl (cI, 8, .inl ca)), (b3, .inl (cI, 60, .inl ta)), (b4, .inl (cI, 60, .inl tn)), (v, .inr (0, [.ref v1, .ref v2, .int (nI z)])), (v1, .inl (cI, M, .inl P)), (v2, .inl (cI, M, .inl K)), (h, .inr (1, [.ref a1, .ref a2, .ref a3, .int (nI n)])), (a1, .inl (cI, 32, .inl lo)), (a2, .inl (cI, 32, .inl hi)), (a3, .inl (cI, 32, .inl th))]) rfl (fun H locs hP hD hS => ?_)
  exact pl_vret X hr hlk hK () trivial hP hD hS d_Run_advance_129

set_option maxHeartbeats 4000000 in
set_option maxRecDepth 100000 in
theorem c_Run_advance_5 (l : Launch) (D : va_G) (cI cZ cL : ClassId) (r b1 b2 b3 b4 : Nat) (sa ca ta tn : Nat → Int32) (how stat pl : Nat) (q stt dn : Nat) (v v1 v2 M z : Nat) (P K : Nat → Int32) (h a1 a2 a3 n : Nat) (lo hi th : Nat → Int32) (j : Nat) (hM : M < 2 ^ 31) (hp : pl < M) (ho : P pl = nI 5) (hq : q < 14) (hj : j < 8) (hk : K pl = nI j) : pl_V l y_Run_advance b_Run_advance 5 ({ frames := 3, cells := 0, slots := 0, locals := 67 } : Room) pl_E0 D classes (TY cI cZ cL) [.ref r, .ref v, .ref h] [(r, .inr (4, [.ref b1, .ref b2, .ref b3, .ref b4, .int (nI how), .int (nI 1), .int (nI pl), .int (nI q), .int (nI stt), .int (nI dn)])), (b1, .inl (cI, 14, .inl sa)), (b2, .inl (cI, 8, .inl ca)), (b3, .inl (cI, 60, .inl ta)), (b4, .inl (cI, 60, .inl tn)), (v, .inr (0, [.ref v1, .ref v2, .int (nI z)])), (v1, .inl (cI, M, .inl P)), (v2, .inl (cI, M, .inl K)), (h, .inr (1, [.ref a1, .ref a2, .ref a3, .int (nI n)])), (a1, .inl (cI, 32, .inl lo)), (a2, .inl (cI, 32, .inl hi)), (a3, .inl (cI, 32, .inl th))] (fun _ : Unit => True) (fun (_ : Unit) => [(r, .inr (4, [.ref b1, .ref b2, .ref b3, .ref b4, .int (nI how), .int (nI 1), .int (nI (pl + 1)), .int (nI (q + 1)), .int (nI stt), .int (nI dn)])), (b1, .inl (cI, 14, .inl (upd sa q (ca j)))), (b2, .inl (cI, 8, .inl ca)), (b3, .inl (cI, 60, .inl ta)), (b4, .inl (cI, 60, .inl tn)), (v, .inr (0, [.ref v1, .ref v2, .int (nI z)])), (v1, .inl (cI, M, .inl P)), (v2, .inl (cI, M, .inl K)), (h, .inr (1, [.ref a1, .ref a2, .ref a3, .int (nI n)])), (a1, .inl (cI, 32, .inl lo)), (a2, .inl (cI, 32, .inl hi)), (a3, .inl (cI, 32, .inl th))]) := by
  refine pl_startV (by decide) (Nat.le_of_ble_eq_true rfl) ?_
  intro p e s m args below meth c A ls X hr hlk hin hK hP hD hS hA hE hl
  have X : CallFix p m c b_Run_advance 5 s args TG R_Run := X
  have hx := X.1
  have hb := X.2.1
  have hl : lv_has ls 5 [(0, .ref r), (1, .ref v), (2, .ref h)] := hl
  refine lv_aload_n hx hb d_Run_advance_0 rfl (lv_at hl 1 rfl) ?_
  refine pl_get X fw_Run_43 hK hP 5 rfl (v := .ref v1) rfl d_Run_advance_1 ?_
  refine lv_aload_n hx hb d_Run_advance_4 rfl (lv_at hl 0 rfl) ?_
  refine pl_get X fw_Run_31 hK hP 0 rfl (v := .int (nI pl)) rfl d_Run_advance_5 ?_
  refine pl_iald X hK hP 6 0 rfl rfl pl (by omega) (by omega) (z := nI 5) ho d_Run_advance_8 ?_
  refine lv_istore_n hx hb d_Run_advance_9 rfl hl (by decide) (lv' := [(3, .int (nI 5)), (0, .ref r), (1, .ref v), (2, .ref h)]) rfl (fun ls hl => ?_)
  refine lv_aload_n hx hb d_Run_advance_10 rfl (lv_at hl 2 rfl) ?_
  refine pl_get X fw_Run_48 hK hP 5 rfl (v := .ref v2) rfl d_Run_advance_11 ?_
  refine lv_aload_n hx hb d_Run_advance_14 rfl (lv_at hl 1 rfl) ?_
  refine pl_get X fw_Run_31 hK hP 0 rfl (v := .int (nI pl)) rfl d_Run_advance_15 ?_
  refine pl_iald X hK hP 7 0 rfl rfl pl (by omega) (by omega) (z := nI j) hk d_Run_advance_18 ?_
  refine lv_istore hx hb d_Run_advance_19 hl (by decide) (lv' := [(4, .int (nI j)), (3, .int (nI 5)), (0, .ref r), (1, .ref v), (2, .ref h)]) rfl (fun ls hl => ?_)
  refine lv_iload_n hx hb d_Run_advance_21 rfl (lv_at hl 1 rfl) ?_
  refine lv_tableOut hx hb d_Run_advance_22 (by decide) (tgt := 112) rfl ?_
  refine lv_aload_n hx hb d_Run_advance_112 rfl (lv_at hl 2 rfl) ?_
  refine lv_iload_n hx hb d_Run_advance_113 rfl (lv_at hl 1 rfl) ?_
  refine lv_iload hx hb d_Run_advance_114 (lv_at hl 0 rfl) ?_
  refine pl_callVV X (rest := []) (As := [.int (nI 5), .int (nI j)]) (b := r) (c_Run_work_5 l D cI cZ cL r b1 b2 b3 b4 sa ca ta tn how 1 pl q stt dn j hq hj) ck_Run_59 pl_E0_ok trivial hK hP hD hS hA (T := F_Run) (N := N_Run) (ci := 4) rfl 0 rfl [0, 1, 2, 3, 4] [5, 6, 7, 8, 9, 10, 11] [7, 8, 9, 10, 11, 0, 1, 2, 3, 4, 5, 6] rfl (by decide) (wr := [(v, .inr (0, [.ref v1, .ref v2, .int (nI z)])), (v1, .inl (cI, M, .inl P)), (v2, .inl (cI, M, .inl K)), (h, .inr (1, [.ref a1, .ref a2, .ref a3, .int (nI n)])), (a1, .inl (cI, 32, .inl lo)), (a2, .inl (cI, 32, .inl hi)), (a3, .inl (cI, 32, .inl th))]) rfl (by decide) (by decide) (wf := fun _ => [(r, .inr (4, [.ref b1, .ref b2, .ref b3, .ref b4, .int (nI how), .int (nI 1), .int (nI pl), .int (nI (q + 1)), .int (nI stt), .int (nI dn)])), (b1, .inl (cI, 14, .inl (upd sa q (ca j)))), (b2, .inl (cI, 8, .inl ca)), (b3, .inl (cI, 60, .inl ta)), (b4, .inl (cI, 60, .inl tn)), (v, .inr (0, [.ref v1, .ref v2, .int (nI z)])), (v1, .inl (cI, M, .inl P)), (v2, .inl (cI, M, .inl K)), (h, .inr (1, [.ref a1, .ref a2, .ref a3, .int (nI n)])), (a1, .inl (cI, 32, .inl lo)), (a2, .inl (cI, 32, .inl hi)), (a3, .inl (cI, 32, .inl th))]) (fun _ => rfl) (by decide) rfl hl.1 rfl (Nat.le_of_ble_eq_true rfl) (by decide) (by decide) d_Run_advance_116 (fun u0 H locs hcq hP hD hS => ?_)
  refine lv_aload_n hx hb d_Run_advance_119 rfl (lv_at hl 2 rfl) ?_
  refine lv_dup hx hb d_Run_advance_120 rfl ?_
  refine pl_get X fw_Run_31 hK hP 0 rfl (v := .int (nI pl)) rfl d_Run_advance_121 ?_
  refine lv_iconst (v := nI 1) hx hb d_Run_advance_124 (by decide) ?_
  refine pl_iadd X d_Run_advance_125 (z := nI (pl + 1)) (nI_add _ _) ?_
  refine pl_put X fw_Run_31 fp_Run rfl hK hP hD hS 0 rfl (v := .int (nI (pl + 1))) rfl rfl (Nat.le_of_ble_eq_true rfl) d_Run_advance_126 (ws' := [(r, .inr (4, [.ref b1, .ref b2, .ref b3, .ref b4, .int (nI how), .int (nI 1), .int (nI (pl + 1)), .int (nI (q + 1)), .int (nI stt), .int (nI dn)])), (b1, .inl (cI, 14, .inl (upd sa q (ca j)))), (b2, .inl (cI, 8, .inl ca)), (b3, .inl (cI, 60, .inl ta)), (b4, .inl (cI, 60, .inl tn)), (v, .inr (0, [.ref v1, .ref v2, .int (nI z)])), (v1, .inl (cI, M, .inl P)), (v2, .inl (cI, M, .inl K)), (h, .inr (1, [.ref a1, .ref a2, .ref a3, .int (nI n)])), (a1, .inl (cI, 32, .inl lo)), (a2, .inl (cI, 32, .inl hi)), (a3, .inl (cI, 32, .inl th))]) rfl (fun H locs hP hD hS => ?_)
  exact pl_vret X hr hlk hK () trivial hP hD hS d_Run_advance_129

set_option maxHeartbeats 4000000 in
set_option maxRecDepth 100000 in
theorem c_Run_advance_6 (l : Launch) (D : va_G) (cI cZ cL : ClassId) (r b1 b2 b3 b4 : Nat) (sa ca ta tn : Nat → Int32) (how stat pl : Nat) (q stt dn : Nat) (v v1 v2 M z : Nat) (P K : Nat → Int32) (h a1 a2 a3 n : Nat) (lo hi th : Nat → Int32) (j : Nat) (hM : M < 2 ^ 31) (hp : pl < M) (ho : P pl = nI 6) (hq : q < 14) (hj : j < 8) (hk : K pl = nI j) : pl_V l y_Run_advance b_Run_advance 5 ({ frames := 3, cells := 0, slots := 0, locals := 67 } : Room) pl_E0 D classes (TY cI cZ cL) [.ref r, .ref v, .ref h] [(r, .inr (4, [.ref b1, .ref b2, .ref b3, .ref b4, .int (nI how), .int (nI 1), .int (nI pl), .int (nI (q + 1)), .int (nI stt), .int (nI dn)])), (b1, .inl (cI, 14, .inl sa)), (b2, .inl (cI, 8, .inl ca)), (b3, .inl (cI, 60, .inl ta)), (b4, .inl (cI, 60, .inl tn)), (v, .inr (0, [.ref v1, .ref v2, .int (nI z)])), (v1, .inl (cI, M, .inl P)), (v2, .inl (cI, M, .inl K)), (h, .inr (1, [.ref a1, .ref a2, .ref a3, .int (nI n)])), (a1, .inl (cI, 32, .inl lo)), (a2, .inl (cI, 32, .inl hi)), (a3, .inl (cI, 32, .inl th))] (fun _ : Unit => True) (fun (_ : Unit) => [(r, .inr (4, [.ref b1, .ref b2, .ref b3, .ref b4, .int (nI how), .int (nI 1), .int (nI (pl + 1)), .int (nI q), .int (nI stt), .int (nI dn)])), (b1, .inl (cI, 14, .inl sa)), (b2, .inl (cI, 8, .inl (upd ca j (sa q)))), (b3, .inl (cI, 60, .inl ta)), (b4, .inl (cI, 60, .inl tn)), (v, .inr (0, [.ref v1, .ref v2, .int (nI z)])), (v1, .inl (cI, M, .inl P)), (v2, .inl (cI, M, .inl K)), (h, .inr (1, [.ref a1, .ref a2, .ref a3, .int (nI n)])), (a1, .inl (cI, 32, .inl lo)), (a2, .inl (cI, 32, .inl hi)), (a3, .inl (cI, 32, .inl th))]) := by
  refine pl_startV (by decide) (Nat.le_of_ble_eq_true rfl) ?_
  intro p e s m args below meth c A ls X hr hlk hin hK hP hD hS hA hE hl
  have X : CallFix p m c b_Run_advance 5 s args TG R_Run := X
  have hx := X.1
  have hb := X.2.1
  have hl : lv_has ls 5 [(0, .ref r), (1, .ref v), (2, .ref h)] := hl
  refine lv_aload_n hx hb d_Run_advance_0 rfl (lv_at hl 1 rfl) ?_
  refine pl_get X fw_Run_43 hK hP 5 rfl (v := .ref v1) rfl d_Run_advance_1 ?_
  refine lv_aload_n hx hb d_Run_advance_4 rfl (lv_at hl 0 rfl) ?_
  refine pl_get X fw_Run_31 hK hP 0 rfl (v := .int (nI pl)) rfl d_Run_advance_5 ?_
  refine pl_iald X hK hP 6 0 rfl rfl pl (by omega) (by omega) (z := nI 6) ho d_Run_advance_8 ?_
  refine lv_istore_n hx hb d_Run_advance_9 rfl hl (by decide) (lv' := [(3, .int (nI 6)), (0, .ref r), (1, .ref v), (2, .ref h)]) rfl (fun ls hl => ?_)
  refine lv_aload_n hx hb d_Run_advance_10 rfl (lv_at hl 2 rfl) ?_
  refine pl_get X fw_Run_48 hK hP 5 rfl (v := .ref v2) rfl d_Run_advance_11 ?_
  refine lv_aload_n hx hb d_Run_advance_14 rfl (lv_at hl 1 rfl) ?_
  refine pl_get X fw_Run_31 hK hP 0 rfl (v := .int (nI pl)) rfl d_Run_advance_15 ?_
  refine pl_iald X hK hP 7 0 rfl rfl pl (by omega) (by omega) (z := nI j) hk d_Run_advance_18 ?_
  refine lv_istore hx hb d_Run_advance_19 hl (by decide) (lv' := [(4, .int (nI j)), (3, .int (nI 6)), (0, .ref r), (1, .ref v), (2, .ref h)]) rfl (fun ls hl => ?_)
  refine lv_iload_n hx hb d_Run_advance_21 rfl (lv_at hl 1 rfl) ?_
  refine lv_tableOut hx hb d_Run_advance_22 (by decide) (tgt := 112) rfl ?_
  refine lv_aload_n hx hb d_Run_advance_112 rfl (lv_at hl 2 rfl) ?_
  refine lv_iload_n hx hb d_Run_advance_113 rfl (lv_at hl 1 rfl) ?_
  refine lv_iload hx hb d_Run_advance_114 (lv_at hl 0 rfl) ?_
  refine pl_callVV X (rest := []) (As := [.int (nI 6), .int (nI j)]) (b := r) (c_Run_work_6 l D cI cZ cL r b1 b2 b3 b4 sa ca ta tn how 1 pl q stt dn j hq hj) ck_Run_59 pl_E0_ok trivial hK hP hD hS hA (T := F_Run) (N := N_Run) (ci := 4) rfl 0 rfl [0, 1, 2, 3, 4] [5, 6, 7, 8, 9, 10, 11] [7, 8, 9, 10, 11, 0, 1, 2, 3, 4, 5, 6] rfl (by decide) (wr := [(v, .inr (0, [.ref v1, .ref v2, .int (nI z)])), (v1, .inl (cI, M, .inl P)), (v2, .inl (cI, M, .inl K)), (h, .inr (1, [.ref a1, .ref a2, .ref a3, .int (nI n)])), (a1, .inl (cI, 32, .inl lo)), (a2, .inl (cI, 32, .inl hi)), (a3, .inl (cI, 32, .inl th))]) rfl (by decide) (by decide) (wf := fun _ => [(r, .inr (4, [.ref b1, .ref b2, .ref b3, .ref b4, .int (nI how), .int (nI 1), .int (nI pl), .int (nI q), .int (nI stt), .int (nI dn)])), (b1, .inl (cI, 14, .inl sa)), (b2, .inl (cI, 8, .inl (upd ca j (sa q)))), (b3, .inl (cI, 60, .inl ta)), (b4, .inl (cI, 60, .inl tn)), (v, .inr (0, [.ref v1, .ref v2, .int (nI z)])), (v1, .inl (cI, M, .inl P)), (v2, .inl (cI, M, .inl K)), (h, .inr (1, [.ref a1, .ref a2, .ref a3, .int (nI n)])), (a1, .inl (cI, 32, .inl lo)), (a2, .inl (cI, 32, .inl hi)), (a3, .inl (cI, 32, .inl th))]) (fun _ => rfl) (by decide) rfl hl.1 rfl (Nat.le_of_ble_eq_true rfl) (by decide) (by decide) d_Run_advance_116 (fun u0 H locs hcq hP hD hS => ?_)
  refine lv_aload_n hx hb d_Run_advance_119 rfl (lv_at hl 2 rfl) ?_
  refine lv_dup hx hb d_Run_advance_120 rfl ?_
  refine pl_get X fw_Run_31 hK hP 0 rfl (v := .int (nI pl)) rfl d_Run_advance_121 ?_
  refine lv_iconst (v := nI 1) hx hb d_Run_advance_124 (by decide) ?_
  refine pl_iadd X d_Run_advance_125 (z := nI (pl + 1)) (nI_add _ _) ?_
  refine pl_put X fw_Run_31 fp_Run rfl hK hP hD hS 0 rfl (v := .int (nI (pl + 1))) rfl rfl (Nat.le_of_ble_eq_true rfl) d_Run_advance_126 (ws' := [(r, .inr (4, [.ref b1, .ref b2, .ref b3, .ref b4, .int (nI how), .int (nI 1), .int (nI (pl + 1)), .int (nI q), .int (nI stt), .int (nI dn)])), (b1, .inl (cI, 14, .inl sa)), (b2, .inl (cI, 8, .inl (upd ca j (sa q)))), (b3, .inl (cI, 60, .inl ta)), (b4, .inl (cI, 60, .inl tn)), (v, .inr (0, [.ref v1, .ref v2, .int (nI z)])), (v1, .inl (cI, M, .inl P)), (v2, .inl (cI, M, .inl K)), (h, .inr (1, [.ref a1, .ref a2, .ref a3, .int (nI n)])), (a1, .inl (cI, 32, .inl lo)), (a2, .inl (cI, 32, .inl hi)), (a3, .inl (cI, 32, .inl th))]) rfl (fun H locs hP hD hS => ?_)
  exact pl_vret X hr hlk hK () trivial hP hD hS d_Run_advance_129

set_option maxHeartbeats 4000000 in
set_option maxRecDepth 100000 in
theorem c_Run_advance_10 (l : Launch) (D : va_G) (cI cZ cL : ClassId) (r b1 b2 b3 b4 : Nat) (sa ca ta tn : Nat → Int32) (how stat pl : Nat) (q stt dn : Nat) (v v1 v2 M z : Nat) (P K : Nat → Int32) (h a1 a2 a3 n : Nat) (lo hi th : Nat → Int32) (hM : M < 2 ^ 31) (hp : pl < M) (ho : P pl = nI 10) (hq : q + 2 ≤ 14) : pl_V l y_Run_advance b_Run_advance 5 ({ frames := 3, cells := 0, slots := 0, locals := 67 } : Room) pl_E0 D classes (TY cI cZ cL) [.ref r, .ref v, .ref h] [(r, .inr (4, [.ref b1, .ref b2, .ref b3, .ref b4, .int (nI how), .int (nI 1), .int (nI pl), .int (nI (q + 2)), .int (nI stt), .int (nI dn)])), (b1, .inl (cI, 14, .inl sa)), (b2, .inl (cI, 8, .inl ca)), (b3, .inl (cI, 60, .inl ta)), (b4, .inl (cI, 60, .inl tn)), (v, .inr (0, [.ref v1, .ref v2, .int (nI z)])), (v1, .inl (cI, M, .inl P)), (v2, .inl (cI, M, .inl K)), (h, .inr (1, [.ref a1, .ref a2, .ref a3, .int (nI n)])), (a1, .inl (cI, 32, .inl lo)), (a2, .inl (cI, 32, .inl hi)), (a3, .inl (cI, 32, .inl th))] (fun _ : Unit => True) (fun (_ : Unit) => [(r, .inr (4, [.ref b1, .ref b2, .ref b3, .ref b4, .int (nI how), .int (nI 1), .int (nI (pl + 1)), .int (nI (q + 2)), .int (nI stt), .int (nI dn)])), (b1, .inl (cI, 14, .inl (upd (upd sa q (sa (q + 1))) (q + 1) (sa q)))), (b2, .inl (cI, 8, .inl ca)), (b3, .inl (cI, 60, .inl ta)), (b4, .inl (cI, 60, .inl tn)), (v, .inr (0, [.ref v1, .ref v2, .int (nI z)])), (v1, .inl (cI, M, .inl P)), (v2, .inl (cI, M, .inl K)), (h, .inr (1, [.ref a1, .ref a2, .ref a3, .int (nI n)])), (a1, .inl (cI, 32, .inl lo)), (a2, .inl (cI, 32, .inl hi)), (a3, .inl (cI, 32, .inl th))]) := by
  refine pl_startV (by decide) (Nat.le_of_ble_eq_true rfl) ?_
  intro p e s m args below meth c A ls X hr hlk hin hK hP hD hS hA hE hl
  have X : CallFix p m c b_Run_advance 5 s args TG R_Run := X
  have hx := X.1
  have hb := X.2.1
  have hl : lv_has ls 5 [(0, .ref r), (1, .ref v), (2, .ref h)] := hl
  refine lv_aload_n hx hb d_Run_advance_0 rfl (lv_at hl 1 rfl) ?_
  refine pl_get X fw_Run_43 hK hP 5 rfl (v := .ref v1) rfl d_Run_advance_1 ?_
  refine lv_aload_n hx hb d_Run_advance_4 rfl (lv_at hl 0 rfl) ?_
  refine pl_get X fw_Run_31 hK hP 0 rfl (v := .int (nI pl)) rfl d_Run_advance_5 ?_
  refine pl_iald X hK hP 6 0 rfl rfl pl (by omega) (by omega) (z := nI 10) ho d_Run_advance_8 ?_
  refine lv_istore_n hx hb d_Run_advance_9 rfl hl (by decide) (lv' := [(3, .int (nI 10)), (0, .ref r), (1, .ref v), (2, .ref h)]) rfl (fun ls hl => ?_)
  refine lv_aload_n hx hb d_Run_advance_10 rfl (lv_at hl 2 rfl) ?_
  refine pl_get X fw_Run_48 hK hP 5 rfl (v := .ref v2) rfl d_Run_advance_11 ?_
  refine lv_aload_n hx hb d_Run_advance_14 rfl (lv_at hl 1 rfl) ?_
  refine pl_get X fw_Run_31 hK hP 0 rfl (v := .int (nI pl)) rfl d_Run_advance_15 ?_
  refine pl_iald X hK hP 7 0 rfl rfl pl (by omega) (by omega) (z := K pl) rfl d_Run_advance_18 ?_
  refine lv_istore hx hb d_Run_advance_19 hl (by decide) (lv' := [(4, .int (K pl)), (3, .int (nI 10)), (0, .ref r), (1, .ref v), (2, .ref h)]) rfl (fun ls hl => ?_)
  refine lv_iload_n hx hb d_Run_advance_21 rfl (lv_at hl 1 rfl) ?_
  refine lv_tableIn hx hb d_Run_advance_22 (by decide) (by decide) (off := 90) (by decide) (tgt := 112) rfl ?_
  refine lv_aload_n hx hb d_Run_advance_112 rfl (lv_at hl 2 rfl) ?_
  refine lv_iload_n hx hb d_Run_advance_113 rfl (lv_at hl 1 rfl) ?_
  refine lv_iload hx hb d_Run_advance_114 (lv_at hl 0 rfl) ?_
  refine pl_callVV X (rest := []) (As := [.int (nI 10), .int (K pl)]) (b := r) (c_Run_work_10 l D cI cZ cL r b1 b2 b3 b4 sa ca ta tn how 1 pl q stt dn (K pl) hq) ck_Run_59 pl_E0_ok trivial hK hP hD hS hA (T := F_Run) (N := N_Run) (ci := 4) rfl 0 rfl [0, 1, 2, 3, 4] [5, 6, 7, 8, 9, 10, 11] [7, 8, 9, 10, 11, 0, 1, 2, 3, 4, 5, 6] rfl (by decide) (wr := [(v, .inr (0, [.ref v1, .ref v2, .int (nI z)])), (v1, .inl (cI, M, .inl P)), (v2, .inl (cI, M, .inl K)), (h, .inr (1, [.ref a1, .ref a2, .ref a3, .int (nI n)])), (a1, .inl (cI, 32, .inl lo)), (a2, .inl (cI, 32, .inl hi)), (a3, .inl (cI, 32, .inl th))]) rfl (by decide) (by decide) (wf := fun _ => [(r, .inr (4, [.ref b1, .ref b2, .ref b3, .ref b4, .int (nI how), .int (nI 1), .int (nI pl), .int (nI (q + 2)), .int (nI stt), .int (nI dn)])), (b1, .inl (cI, 14, .inl (upd (upd sa q (sa (q + 1))) (q + 1) (sa q)))), (b2, .inl (cI, 8, .inl ca)), (b3, .inl (cI, 60, .inl ta)), (b4, .inl (cI, 60, .inl tn)), (v, .inr (0, [.ref v1, .ref v2, .int (nI z)])), (v1, .inl (cI, M, .inl P)), (v2, .inl (cI, M, .inl K)), (h, .inr (1, [.ref a1, .ref a2, .ref a3, .int (nI n)])), (a1, .inl (cI, 32, .inl lo)), (a2, .inl (cI, 32, .inl hi)), (a3, .inl (cI, 32, .inl th))]) (fun _ => rfl) (by decide) rfl hl.1 rfl (Nat.le_of_ble_eq_true rfl) (by decide) (by decide) d_Run_advance_116 (fun u0 H locs hcq hP hD hS => ?_)
  refine lv_aload_n hx hb d_Run_advance_119 rfl (lv_at hl 2 rfl) ?_
  refine lv_dup hx hb d_Run_advance_120 rfl ?_
  refine pl_get X fw_Run_31 hK hP 0 rfl (v := .int (nI pl)) rfl d_Run_advance_121 ?_
  refine lv_iconst (v := nI 1) hx hb d_Run_advance_124 (by decide) ?_
  refine pl_iadd X d_Run_advance_125 (z := nI (pl + 1)) (nI_add _ _) ?_
  refine pl_put X fw_Run_31 fp_Run rfl hK hP hD hS 0 rfl (v := .int (nI (pl + 1))) rfl rfl (Nat.le_of_ble_eq_true rfl) d_Run_advance_126 (ws' := [(r, .inr (4, [.ref b1, .ref b2, .ref b3, .ref b4, .int (nI how), .int (nI 1), .int (nI (pl + 1)), .int (nI (q + 2)), .int (nI stt), .int (nI dn)])), (b1, .inl (cI, 14, .inl (upd (upd sa q (sa (q + 1))) (q + 1) (sa q)))), (b2, .inl (cI, 8, .inl ca)), (b3, .inl (cI, 60, .inl ta)), (b4, .inl (cI, 60, .inl tn)), (v, .inr (0, [.ref v1, .ref v2, .int (nI z)])), (v1, .inl (cI, M, .inl P)), (v2, .inl (cI, M, .inl K)), (h, .inr (1, [.ref a1, .ref a2, .ref a3, .int (nI n)])), (a1, .inl (cI, 32, .inl lo)), (a2, .inl (cI, 32, .inl hi)), (a3, .inl (cI, 32, .inl th))]) rfl (fun H locs hP hD hS => ?_)
  exact pl_vret X hr hlk hK () trivial hP hD hS d_Run_advance_129

set_option maxHeartbeats 4000000 in
set_option maxRecDepth 100000 in
theorem c_Run_advance_11 (l : Launch) (D : va_G) (cI cZ cL : ClassId) (r b1 b2 b3 b4 : Nat) (sa ca ta tn : Nat → Int32) (how stat pl : Nat) (q stt dn : Nat) (v v1 v2 M z : Nat) (P K : Nat → Int32) (h a1 a2 a3 n : Nat) (lo hi th : Nat → Int32) (hM : M < 2 ^ 31) (hp : pl < M) (ho : P pl = nI 11) (hq : q + 1 < 14) : pl_V l y_Run_advance b_Run_advance 5 ({ frames := 3, cells := 0, slots := 0, locals := 67 } : Room) pl_E0 D classes (TY cI cZ cL) [.ref r, .ref v, .ref h] [(r, .inr (4, [.ref b1, .ref b2, .ref b3, .ref b4, .int (nI how), .int (nI 1), .int (nI pl), .int (nI (q + 1)), .int (nI stt), .int (nI dn)])), (b1, .inl (cI, 14, .inl sa)), (b2, .inl (cI, 8, .inl ca)), (b3, .inl (cI, 60, .inl ta)), (b4, .inl (cI, 60, .inl tn)), (v, .inr (0, [.ref v1, .ref v2, .int (nI z)])), (v1, .inl (cI, M, .inl P)), (v2, .inl (cI, M, .inl K)), (h, .inr (1, [.ref a1, .ref a2, .ref a3, .int (nI n)])), (a1, .inl (cI, 32, .inl lo)), (a2, .inl (cI, 32, .inl hi)), (a3, .inl (cI, 32, .inl th))] (fun _ : Unit => True) (fun (_ : Unit) => [(r, .inr (4, [.ref b1, .ref b2, .ref b3, .ref b4, .int (nI how), .int (nI 1), .int (nI (pl + 1)), .int (nI (q + 2)), .int (nI stt), .int (nI dn)])), (b1, .inl (cI, 14, .inl (upd sa (q + 1) (sa q)))), (b2, .inl (cI, 8, .inl ca)), (b3, .inl (cI, 60, .inl ta)), (b4, .inl (cI, 60, .inl tn)), (v, .inr (0, [.ref v1, .ref v2, .int (nI z)])), (v1, .inl (cI, M, .inl P)), (v2, .inl (cI, M, .inl K)), (h, .inr (1, [.ref a1, .ref a2, .ref a3, .int (nI n)])), (a1, .inl (cI, 32, .inl lo)), (a2, .inl (cI, 32, .inl hi)), (a3, .inl (cI, 32, .inl th))]) := by
  refine pl_startV (by decide) (Nat.le_of_ble_eq_true rfl) ?_
  intro p e s m args below meth c A ls X hr hlk hin hK hP hD hS hA hE hl
  have X : CallFix p m c b_Run_advance 5 s args TG R_Run := X
  have hx := X.1
  have hb := X.2.1
  have hl : lv_has ls 5 [(0, .ref r), (1, .ref v), (2, .ref h)] := hl
  refine lv_aload_n hx hb d_Run_advance_0 rfl (lv_at hl 1 rfl) ?_
  refine pl_get X fw_Run_43 hK hP 5 rfl (v := .ref v1) rfl d_Run_advance_1 ?_
  refine lv_aload_n hx hb d_Run_advance_4 rfl (lv_at hl 0 rfl) ?_
  refine pl_get X fw_Run_31 hK hP 0 rfl (v := .int (nI pl)) rfl d_Run_advance_5 ?_
  refine pl_iald X hK hP 6 0 rfl rfl pl (by omega) (by omega) (z := nI 11) ho d_Run_advance_8 ?_
  refine lv_istore_n hx hb d_Run_advance_9 rfl hl (by decide) (lv' := [(3, .int (nI 11)), (0, .ref r), (1, .ref v), (2, .ref h)]) rfl (fun ls hl => ?_)
  refine lv_aload_n hx hb d_Run_advance_10 rfl (lv_at hl 2 rfl) ?_
  refine pl_get X fw_Run_48 hK hP 5 rfl (v := .ref v2) rfl d_Run_advance_11 ?_
  refine lv_aload_n hx hb d_Run_advance_14 rfl (lv_at hl 1 rfl) ?_
  refine pl_get X fw_Run_31 hK hP 0 rfl (v := .int (nI pl)) rfl d_Run_advance_15 ?_
  refine pl_iald X hK hP 7 0 rfl rfl pl (by omega) (by omega) (z := K pl) rfl d_Run_advance_18 ?_
  refine lv_istore hx hb d_Run_advance_19 hl (by decide) (lv' := [(4, .int (K pl)), (3, .int (nI 11)), (0, .ref r), (1, .ref v), (2, .ref h)]) rfl (fun ls hl => ?_)
  refine lv_iload_n hx hb d_Run_advance_21 rfl (lv_at hl 1 rfl) ?_
  refine lv_tableIn hx hb d_Run_advance_22 (by decide) (by decide) (off := 90) (by decide) (tgt := 112) rfl ?_
  refine lv_aload_n hx hb d_Run_advance_112 rfl (lv_at hl 2 rfl) ?_
  refine lv_iload_n hx hb d_Run_advance_113 rfl (lv_at hl 1 rfl) ?_
  refine lv_iload hx hb d_Run_advance_114 (lv_at hl 0 rfl) ?_
  refine pl_callVV X (rest := []) (As := [.int (nI 11), .int (K pl)]) (b := r) (c_Run_work_11 l D cI cZ cL r b1 b2 b3 b4 sa ca ta tn how 1 pl q stt dn (K pl) hq) ck_Run_59 pl_E0_ok trivial hK hP hD hS hA (T := F_Run) (N := N_Run) (ci := 4) rfl 0 rfl [0, 1, 2, 3, 4] [5, 6, 7, 8, 9, 10, 11] [7, 8, 9, 10, 11, 0, 1, 2, 3, 4, 5, 6] rfl (by decide) (wr := [(v, .inr (0, [.ref v1, .ref v2, .int (nI z)])), (v1, .inl (cI, M, .inl P)), (v2, .inl (cI, M, .inl K)), (h, .inr (1, [.ref a1, .ref a2, .ref a3, .int (nI n)])), (a1, .inl (cI, 32, .inl lo)), (a2, .inl (cI, 32, .inl hi)), (a3, .inl (cI, 32, .inl th))]) rfl (by decide) (by decide) (wf := fun _ => [(r, .inr (4, [.ref b1, .ref b2, .ref b3, .ref b4, .int (nI how), .int (nI 1), .int (nI pl), .int (nI (q + 2)), .int (nI stt), .int (nI dn)])), (b1, .inl (cI, 14, .inl (upd sa (q + 1) (sa q)))), (b2, .inl (cI, 8, .inl ca)), (b3, .inl (cI, 60, .inl ta)), (b4, .inl (cI, 60, .inl tn)), (v, .inr (0, [.ref v1, .ref v2, .int (nI z)])), (v1, .inl (cI, M, .inl P)), (v2, .inl (cI, M, .inl K)), (h, .inr (1, [.ref a1, .ref a2, .ref a3, .int (nI n)])), (a1, .inl (cI, 32, .inl lo)), (a2, .inl (cI, 32, .inl hi)), (a3, .inl (cI, 32, .inl th))]) (fun _ => rfl) (by decide) rfl hl.1 rfl (Nat.le_of_ble_eq_true rfl) (by decide) (by decide) d_Run_advance_116 (fun u0 H locs hcq hP hD hS => ?_)
  refine lv_aload_n hx hb d_Run_advance_119 rfl (lv_at hl 2 rfl) ?_
  refine lv_dup hx hb d_Run_advance_120 rfl ?_
  refine pl_get X fw_Run_31 hK hP 0 rfl (v := .int (nI pl)) rfl d_Run_advance_121 ?_
  refine lv_iconst (v := nI 1) hx hb d_Run_advance_124 (by decide) ?_
  refine pl_iadd X d_Run_advance_125 (z := nI (pl + 1)) (nI_add _ _) ?_
  refine pl_put X fw_Run_31 fp_Run rfl hK hP hD hS 0 rfl (v := .int (nI (pl + 1))) rfl rfl (Nat.le_of_ble_eq_true rfl) d_Run_advance_126 (ws' := [(r, .inr (4, [.ref b1, .ref b2, .ref b3, .ref b4, .int (nI how), .int (nI 1), .int (nI (pl + 1)), .int (nI (q + 2)), .int (nI stt), .int (nI dn)])), (b1, .inl (cI, 14, .inl (upd sa (q + 1) (sa q)))), (b2, .inl (cI, 8, .inl ca)), (b3, .inl (cI, 60, .inl ta)), (b4, .inl (cI, 60, .inl tn)), (v, .inr (0, [.ref v1, .ref v2, .int (nI z)])), (v1, .inl (cI, M, .inl P)), (v2, .inl (cI, M, .inl K)), (h, .inr (1, [.ref a1, .ref a2, .ref a3, .int (nI n)])), (a1, .inl (cI, 32, .inl lo)), (a2, .inl (cI, 32, .inl hi)), (a3, .inl (cI, 32, .inl th))]) rfl (fun H locs hP hD hS => ?_)
  exact pl_vret X hr hlk hK () trivial hP hD hS d_Run_advance_129

set_option maxHeartbeats 4000000 in
set_option maxRecDepth 100000 in
theorem c_Run_advance_7 (l : Launch) (D : va_G) (cI cZ cL : ClassId) (r b1 b2 b3 b4 : Nat) (sa ca ta tn : Nat → Int32) (how stat pl : Nat) (q stt dn : Nat) (v v1 v2 M z : Nat) (P K : Nat → Int32) (h a1 a2 a3 n : Nat) (lo hi th : Nat → Int32) (j : Nat) (hM : M < 2 ^ 31) (hp : pl < M) (ho : P pl = nI 7) (hk : K pl = nI j) : pl_V l y_Run_advance b_Run_advance 5 ({ frames := 3, cells := 0, slots := 0, locals := 67 } : Room) pl_E0 D classes (TY cI cZ cL) [.ref r, .ref v, .ref h] [(r, .inr (4, [.ref b1, .ref b2, .ref b3, .ref b4, .int (nI how), .int (nI 1), .int (nI pl), .int (nI q), .int (nI stt), .int (nI dn)])), (b1, .inl (cI, 14, .inl sa)), (b2, .inl (cI, 8, .inl ca)), (b3, .inl (cI, 60, .inl ta)), (b4, .inl (cI, 60, .inl tn)), (v, .inr (0, [.ref v1, .ref v2, .int (nI z)])), (v1, .inl (cI, M, .inl P)), (v2, .inl (cI, M, .inl K)), (h, .inr (1, [.ref a1, .ref a2, .ref a3, .int (nI n)])), (a1, .inl (cI, 32, .inl lo)), (a2, .inl (cI, 32, .inl hi)), (a3, .inl (cI, 32, .inl th))] (fun _ : Unit => True) (fun (_ : Unit) => [(r, .inr (4, [.ref b1, .ref b2, .ref b3, .ref b4, .int (nI how), .int (nI 1), .int (nI j), .int (nI q), .int (nI stt), .int (nI dn)])), (b1, .inl (cI, 14, .inl sa)), (b2, .inl (cI, 8, .inl ca)), (b3, .inl (cI, 60, .inl ta)), (b4, .inl (cI, 60, .inl tn)), (v, .inr (0, [.ref v1, .ref v2, .int (nI z)])), (v1, .inl (cI, M, .inl P)), (v2, .inl (cI, M, .inl K)), (h, .inr (1, [.ref a1, .ref a2, .ref a3, .int (nI n)])), (a1, .inl (cI, 32, .inl lo)), (a2, .inl (cI, 32, .inl hi)), (a3, .inl (cI, 32, .inl th))]) := by
  refine pl_startV (by decide) (Nat.le_of_ble_eq_true rfl) ?_
  intro p e s m args below meth c A ls X hr hlk hin hK hP hD hS hA hE hl
  have X : CallFix p m c b_Run_advance 5 s args TG R_Run := X
  have hx := X.1
  have hb := X.2.1
  have hl : lv_has ls 5 [(0, .ref r), (1, .ref v), (2, .ref h)] := hl
  refine lv_aload_n hx hb d_Run_advance_0 rfl (lv_at hl 1 rfl) ?_
  refine pl_get X fw_Run_43 hK hP 5 rfl (v := .ref v1) rfl d_Run_advance_1 ?_
  refine lv_aload_n hx hb d_Run_advance_4 rfl (lv_at hl 0 rfl) ?_
  refine pl_get X fw_Run_31 hK hP 0 rfl (v := .int (nI pl)) rfl d_Run_advance_5 ?_
  refine pl_iald X hK hP 6 0 rfl rfl pl (by omega) (by omega) (z := nI 7) ho d_Run_advance_8 ?_
  refine lv_istore_n hx hb d_Run_advance_9 rfl hl (by decide) (lv' := [(3, .int (nI 7)), (0, .ref r), (1, .ref v), (2, .ref h)]) rfl (fun ls hl => ?_)
  refine lv_aload_n hx hb d_Run_advance_10 rfl (lv_at hl 2 rfl) ?_
  refine pl_get X fw_Run_48 hK hP 5 rfl (v := .ref v2) rfl d_Run_advance_11 ?_
  refine lv_aload_n hx hb d_Run_advance_14 rfl (lv_at hl 1 rfl) ?_
  refine pl_get X fw_Run_31 hK hP 0 rfl (v := .int (nI pl)) rfl d_Run_advance_15 ?_
  refine pl_iald X hK hP 7 0 rfl rfl pl (by omega) (by omega) (z := nI j) hk d_Run_advance_18 ?_
  refine lv_istore hx hb d_Run_advance_19 hl (by decide) (lv' := [(4, .int (nI j)), (3, .int (nI 7)), (0, .ref r), (1, .ref v), (2, .ref h)]) rfl (fun ls hl => ?_)
  refine lv_iload_n hx hb d_Run_advance_21 rfl (lv_at hl 1 rfl) ?_
  refine lv_tableIn hx hb d_Run_advance_22 (by decide) (by decide) (off := 38) (by decide) (tgt := 60) rfl ?_
  refine lv_aload_n hx hb d_Run_advance_60 rfl (lv_at hl 2 rfl) ?_
  refine lv_iload hx hb d_Run_advance_61 (lv_at hl 0 rfl) ?_
  refine pl_put X fw_Run_31 fp_Run rfl hK hP hD hS 0 rfl (v := .int (nI j)) rfl rfl (Nat.le_of_ble_eq_true rfl) d_Run_advance_63 (ws' := [(r, .inr (4, [.ref b1, .ref b2, .ref b3, .ref b4, .int (nI how), .int (nI 1), .int (nI j), .int (nI q), .int (nI stt), .int (nI dn)])), (b1, .inl (cI, 14, .inl sa)), (b2, .inl (cI, 8, .inl ca)), (b3, .inl (cI, 60, .inl ta)), (b4, .inl (cI, 60, .inl tn)), (v, .inr (0, [.ref v1, .ref v2, .int (nI z)])), (v1, .inl (cI, M, .inl P)), (v2, .inl (cI, M, .inl K)), (h, .inr (1, [.ref a1, .ref a2, .ref a3, .int (nI n)])), (a1, .inl (cI, 32, .inl lo)), (a2, .inl (cI, 32, .inl hi)), (a3, .inl (cI, 32, .inl th))]) rfl (fun H locs hP hD hS => ?_)
  refine lv_goto hx hb d_Run_advance_66 rfl ?_
  exact pl_vret X hr hlk hK () trivial hP hD hS d_Run_advance_129

set_option maxHeartbeats 4000000 in
set_option maxRecDepth 100000 in
theorem c_Run_advance_8 (l : Launch) (D : va_G) (cI cZ cL : ClassId) (r b1 b2 b3 b4 : Nat) (sa ca ta tn : Nat → Int32) (how stat pl : Nat) (q stt dn : Nat) (v v1 v2 M z : Nat) (P K : Nat → Int32) (h a1 a2 a3 n : Nat) (lo hi th : Nat → Int32) (j : Nat) (hM : M < 2 ^ 31) (hp : pl < M) (ho : P pl = nI 8) (hq : q < 14) (hk : K pl = nI j) : pl_V l y_Run_advance b_Run_advance 5 ({ frames := 3, cells := 0, slots := 0, locals := 67 } : Room) pl_E0 D classes (TY cI cZ cL) [.ref r, .ref v, .ref h] [(r, .inr (4, [.ref b1, .ref b2, .ref b3, .ref b4, .int (nI how), .int (nI 1), .int (nI pl), .int (nI (q + 1)), .int (nI stt), .int (nI dn)])), (b1, .inl (cI, 14, .inl sa)), (b2, .inl (cI, 8, .inl ca)), (b3, .inl (cI, 60, .inl ta)), (b4, .inl (cI, 60, .inl tn)), (v, .inr (0, [.ref v1, .ref v2, .int (nI z)])), (v1, .inl (cI, M, .inl P)), (v2, .inl (cI, M, .inl K)), (h, .inr (1, [.ref a1, .ref a2, .ref a3, .int (nI n)])), (a1, .inl (cI, 32, .inl lo)), (a2, .inl (cI, 32, .inl hi)), (a3, .inl (cI, 32, .inl th))] (fun _ : Unit => True) (fun (_ : Unit) => [(r, .inr (4, [.ref b1, .ref b2, .ref b3, .ref b4, .int (nI how), .int (nI 1), .int (nI (if sa q = 0 then pl + 1 else j)), .int (nI q), .int (nI stt), .int (nI dn)])), (b1, .inl (cI, 14, .inl sa)), (b2, .inl (cI, 8, .inl ca)), (b3, .inl (cI, 60, .inl ta)), (b4, .inl (cI, 60, .inl tn)), (v, .inr (0, [.ref v1, .ref v2, .int (nI z)])), (v1, .inl (cI, M, .inl P)), (v2, .inl (cI, M, .inl K)), (h, .inr (1, [.ref a1, .ref a2, .ref a3, .int (nI n)])), (a1, .inl (cI, 32, .inl lo)), (a2, .inl (cI, 32, .inl hi)), (a3, .inl (cI, 32, .inl th))]) := by
  refine pl_startV (by decide) (Nat.le_of_ble_eq_true rfl) ?_
  intro p e s m args below meth c A ls X hr hlk hin hK hP hD hS hA hE hl
  have X : CallFix p m c b_Run_advance 5 s args TG R_Run := X
  have hx := X.1
  have hb := X.2.1
  have hl : lv_has ls 5 [(0, .ref r), (1, .ref v), (2, .ref h)] := hl
  refine lv_aload_n hx hb d_Run_advance_0 rfl (lv_at hl 1 rfl) ?_
  refine pl_get X fw_Run_43 hK hP 5 rfl (v := .ref v1) rfl d_Run_advance_1 ?_
  refine lv_aload_n hx hb d_Run_advance_4 rfl (lv_at hl 0 rfl) ?_
  refine pl_get X fw_Run_31 hK hP 0 rfl (v := .int (nI pl)) rfl d_Run_advance_5 ?_
  refine pl_iald X hK hP 6 0 rfl rfl pl (by omega) (by omega) (z := nI 8) ho d_Run_advance_8 ?_
  refine lv_istore_n hx hb d_Run_advance_9 rfl hl (by decide) (lv' := [(3, .int (nI 8)), (0, .ref r), (1, .ref v), (2, .ref h)]) rfl (fun ls hl => ?_)
  refine lv_aload_n hx hb d_Run_advance_10 rfl (lv_at hl 2 rfl) ?_
  refine pl_get X fw_Run_48 hK hP 5 rfl (v := .ref v2) rfl d_Run_advance_11 ?_
  refine lv_aload_n hx hb d_Run_advance_14 rfl (lv_at hl 1 rfl) ?_
  refine pl_get X fw_Run_31 hK hP 0 rfl (v := .int (nI pl)) rfl d_Run_advance_15 ?_
  refine pl_iald X hK hP 7 0 rfl rfl pl (by omega) (by omega) (z := nI j) hk d_Run_advance_18 ?_
  refine lv_istore hx hb d_Run_advance_19 hl (by decide) (lv' := [(4, .int (nI j)), (3, .int (nI 8)), (0, .ref r), (1, .ref v), (2, .ref h)]) rfl (fun ls hl => ?_)
  refine lv_iload_n hx hb d_Run_advance_21 rfl (lv_at hl 1 rfl) ?_
  refine lv_tableIn hx hb d_Run_advance_22 (by decide) (by decide) (off := 47) (by decide) (tgt := 69) rfl ?_
  refine lv_aload_n hx hb d_Run_advance_69 rfl (lv_at hl 2 rfl) ?_
  refine lv_aload_n hx hb d_Run_advance_70 rfl (lv_at hl 2 rfl) ?_
  refine pl_callVI X (rest := [.ref r]) (As := []) (b := r) (c_Run_pop l D cI cZ cL r b1 b2 b3 b4 sa ca ta tn how 1 pl q stt dn hq) ck_Run_51 pl_E0_ok trivial hK hP hD hS hA (T := F_Run) (N := N_Run) (ci := 4) rfl 0 rfl [0, 1, 2, 3, 4] [5, 6, 7, 8, 9, 10, 11] [7, 8, 9, 10, 11, 0, 1, 2, 3, 4, 5, 6] rfl (by decide) (wr := [(v, .inr (0, [.ref v1, .ref v2, .int (nI z)])), (v1, .inl (cI, M, .inl P)), (v2, .inl (cI, M, .inl K)), (h, .inr (1, [.ref a1, .ref a2, .ref a3, .int (nI n)])), (a1, .inl (cI, 32, .inl lo)), (a2, .inl (cI, 32, .inl hi)), (a3, .inl (cI, 32, .inl th))]) rfl (by decide) (by decide) (wf := fun _ => [(r, .inr (4, [.ref b1, .ref b2, .ref b3, .ref b4, .int (nI how), .int (nI 1), .int (nI pl), .int (nI q), .int (nI stt), .int (nI dn)])), (b1, .inl (cI, 14, .inl sa)), (b2, .inl (cI, 8, .inl ca)), (b3, .inl (cI, 60, .inl ta)), (b4, .inl (cI, 60, .inl tn)), (v, .inr (0, [.ref v1, .ref v2, .int (nI z)])), (v1, .inl (cI, M, .inl P)), (v2, .inl (cI, M, .inl K)), (h, .inr (1, [.ref a1, .ref a2, .ref a3, .int (nI n)])), (a1, .inl (cI, 32, .inl lo)), (a2, .inl (cI, 32, .inl hi)), (a3, .inl (cI, 32, .inl th))]) (fun _ => rfl) (by decide) rfl hl.1 rfl (Nat.le_of_ble_eq_true rfl) (by decide) (by decide) d_Run_advance_71 (fun r u0 H locs hcq hP hD hS => ?_)
  subst hcq
  refine lv_if_eq hx hb d_Run_advance_74 rfl (fun g74 => ?_) (fun g74 => ?_)
  · skip
    refine lv_aload_n hx hb d_Run_advance_82 rfl (lv_at hl 2 rfl) ?_
    refine pl_get X fw_Run_31 hK hP 0 rfl (v := .int (nI pl)) rfl d_Run_advance_83 ?_
    refine lv_iconst (v := nI 1) hx hb d_Run_advance_86 (by decide) ?_
    refine pl_iadd X d_Run_advance_87 (z := nI (pl + 1)) (nI_add _ _) ?_
    refine pl_put X fw_Run_31 fp_Run rfl hK hP hD hS 0 rfl (v := .int (nI (pl + 1))) rfl rfl (Nat.le_of_ble_eq_true rfl) d_Run_advance_88 (ws' := [(r, .inr (4, [.ref b1, .ref b2, .ref b3, .ref b4, .int (nI how), .int (nI 1), .int (nI (pl + 1)), .int (nI q), .int (nI stt), .int (nI dn)])), (b1, .inl (cI, 14, .inl sa)), (b2, .inl (cI, 8, .inl ca)), (b3, .inl (cI, 60, .inl ta)), (b4, .inl (cI, 60, .inl tn)), (v, .inr (0, [.ref v1, .ref v2, .int (nI z)])), (v1, .inl (cI, M, .inl P)), (v2, .inl (cI, M, .inl K)), (h, .inr (1, [.ref a1, .ref a2, .ref a3, .int (nI n)])), (a1, .inl (cI, 32, .inl lo)), (a2, .inl (cI, 32, .inl hi)), (a3, .inl (cI, 32, .inl th))]) rfl (fun H locs hP hD hS => ?_)
    refine lv_goto hx hb d_Run_advance_91 rfl ?_
    have e8 : (if sa q = 0 then pl + 1 else j) = pl + 1 := if_pos g74
    have hP : va_P D classes [(r, .inr (4, [.ref b1, .ref b2, .ref b3, .ref b4, .int (nI how), .int (nI 1), .int (nI (if sa q = 0 then pl + 1 else j)), .int (nI q), .int (nI stt), .int (nI dn)])), (b1, .inl (cI, 14, .inl sa)), (b2, .inl (cI, 8, .inl ca)), (b3, .inl (cI, 60, .inl ta)), (b4, .inl (cI, 60, .inl tn)), (v, .inr (0, [.ref v1, .ref v2, .int (nI z)])), (v1, .inl (cI, M, .inl P)), (v2, .inl (cI, M, .inl K)), (h, .inr (1, [.ref a1, .ref a2, .ref a3, .int (nI n)])), (a1, .inl (cI, 32, .inl lo)), (a2, .inl (cI, 32, .inl hi)), (a3, .inl (cI, 32, .inl th))] H := by rw [e8]; exact hP
    have hD : va_D A [(r, .inr (4, [.ref b1, .ref b2, .ref b3, .ref b4, .int (nI how), .int (nI 1), .int (nI (if sa q = 0 then pl + 1 else j)), .int (nI q), .int (nI stt), .int (nI dn)])), (b1, .inl (cI, 14, .inl sa)), (b2, .inl (cI, 8, .inl ca)), (b3, .inl (cI, 60, .inl ta)), (b4, .inl (cI, 60, .inl tn)), (v, .inr (0, [.ref v1, .ref v2, .int (nI z)])), (v1, .inl (cI, M, .inl P)), (v2, .inl (cI, M, .inl K)), (h, .inr (1, [.ref a1, .ref a2, .ref a3, .int (nI n)])), (a1, .inl (cI, 32, .inl lo)), (a2, .inl (cI, 32, .inl hi)), (a3, .inl (cI, 32, .inl th))] := by rw [e8]; exact hD
    exact pl_vret X hr hlk hK () trivial hP hD hS d_Run_advance_129
  · skip
    refine lv_iload hx hb d_Run_advance_77 (lv_at hl 0 rfl) ?_
    refine lv_goto hx hb d_Run_advance_79 rfl ?_
    refine pl_put X fw_Run_31 fp_Run rfl hK hP hD hS 0 rfl (v := .int (nI j)) rfl rfl (Nat.le_of_ble_eq_true rfl) d_Run_advance_88 (ws' := [(r, .inr (4, [.ref b1, .ref b2, .ref b3, .ref b4, .int (nI how), .int (nI 1), .int (nI j), .int (nI q), .int (nI stt), .int (nI dn)])), (b1, .inl (cI, 14, .inl sa)), (b2, .inl (cI, 8, .inl ca)), (b3, .inl (cI, 60, .inl ta)), (b4, .inl (cI, 60, .inl tn)), (v, .inr (0, [.ref v1, .ref v2, .int (nI z)])), (v1, .inl (cI, M, .inl P)), (v2, .inl (cI, M, .inl K)), (h, .inr (1, [.ref a1, .ref a2, .ref a3, .int (nI n)])), (a1, .inl (cI, 32, .inl lo)), (a2, .inl (cI, 32, .inl hi)), (a3, .inl (cI, 32, .inl th))]) rfl (fun H locs hP hD hS => ?_)
    refine lv_goto hx hb d_Run_advance_91 rfl ?_
    have e8 : (if sa q = 0 then pl + 1 else j) = j := if_neg g74
    have hP : va_P D classes [(r, .inr (4, [.ref b1, .ref b2, .ref b3, .ref b4, .int (nI how), .int (nI 1), .int (nI (if sa q = 0 then pl + 1 else j)), .int (nI q), .int (nI stt), .int (nI dn)])), (b1, .inl (cI, 14, .inl sa)), (b2, .inl (cI, 8, .inl ca)), (b3, .inl (cI, 60, .inl ta)), (b4, .inl (cI, 60, .inl tn)), (v, .inr (0, [.ref v1, .ref v2, .int (nI z)])), (v1, .inl (cI, M, .inl P)), (v2, .inl (cI, M, .inl K)), (h, .inr (1, [.ref a1, .ref a2, .ref a3, .int (nI n)])), (a1, .inl (cI, 32, .inl lo)), (a2, .inl (cI, 32, .inl hi)), (a3, .inl (cI, 32, .inl th))] H := by rw [e8]; exact hP
    have hD : va_D A [(r, .inr (4, [.ref b1, .ref b2, .ref b3, .ref b4, .int (nI how), .int (nI 1), .int (nI (if sa q = 0 then pl + 1 else j)), .int (nI q), .int (nI stt), .int (nI dn)])), (b1, .inl (cI, 14, .inl sa)), (b2, .inl (cI, 8, .inl ca)), (b3, .inl (cI, 60, .inl ta)), (b4, .inl (cI, 60, .inl tn)), (v, .inr (0, [.ref v1, .ref v2, .int (nI z)])), (v1, .inl (cI, M, .inl P)), (v2, .inl (cI, M, .inl K)), (h, .inr (1, [.ref a1, .ref a2, .ref a3, .int (nI n)])), (a1, .inl (cI, 32, .inl lo)), (a2, .inl (cI, 32, .inl hi)), (a3, .inl (cI, 32, .inl th))] := by rw [e8]; exact hD
    exact pl_vret X hr hlk hK () trivial hP hD hS d_Run_advance_129

set_option maxHeartbeats 4000000 in
set_option maxRecDepth 100000 in
theorem c_Run_advance_12 (l : Launch) (D : va_G) (cI cZ cL : ClassId) (r b1 b2 b3 b4 : Nat) (sa ca ta tn : Nat → Int32) (how stat pl : Nat) (q stt dn : Nat) (v v1 v2 M z : Nat) (P K : Nat → Int32) (h a1 a2 a3 n : Nat) (lo hi th : Nat → Int32) (hM : M < 2 ^ 31) (hp : pl < M) (ho : P pl = nI 12)  : pl_V l y_Run_advance b_Run_advance 5 ({ frames := 3, cells := 0, slots := 0, locals := 67 } : Room) pl_E0 D classes (TY cI cZ cL) [.ref r, .ref v, .ref h] [(r, .inr (4, [.ref b1, .ref b2, .ref b3, .ref b4, .int (nI how), .int (nI 1), .int (nI pl), .int (nI q), .int (nI stt), .int (nI dn)])), (b1, .inl (cI, 14, .inl sa)), (b2, .inl (cI, 8, .inl ca)), (b3, .inl (cI, 60, .inl ta)), (b4, .inl (cI, 60, .inl tn)), (v, .inr (0, [.ref v1, .ref v2, .int (nI z)])), (v1, .inl (cI, M, .inl P)), (v2, .inl (cI, M, .inl K)), (h, .inr (1, [.ref a1, .ref a2, .ref a3, .int (nI n)])), (a1, .inl (cI, 32, .inl lo)), (a2, .inl (cI, 32, .inl hi)), (a3, .inl (cI, 32, .inl th))] (fun _ : Unit => True) (fun (_ : Unit) => [(r, .inr (4, [.ref b1, .ref b2, .ref b3, .ref b4, .int (nI how), .int (nI 2), .int (nI pl), .int (nI q), .int (nI stt), .int (nI dn)])), (b1, .inl (cI, 14, .inl sa)), (b2, .inl (cI, 8, .inl ca)), (b3, .inl (cI, 60, .inl ta)), (b4, .inl (cI, 60, .inl tn)), (v, .inr (0, [.ref v1, .ref v2, .int (nI z)])), (v1, .inl (cI, M, .inl P)), (v2, .inl (cI, M, .inl K)), (h, .inr (1, [.ref a1, .ref a2, .ref a3, .int (nI n)])), (a1, .inl (cI, 32, .inl lo)), (a2, .inl (cI, 32, .inl hi)), (a3, .inl (cI, 32, .inl th))]) := by
  refine pl_startV (by decide) (Nat.le_of_ble_eq_true rfl) ?_
  intro p e s m args below meth c A ls X hr hlk hin hK hP hD hS hA hE hl
  have X : CallFix p m c b_Run_advance 5 s args TG R_Run := X
  have hx := X.1
  have hb := X.2.1
  have hl : lv_has ls 5 [(0, .ref r), (1, .ref v), (2, .ref h)] := hl
  refine lv_aload_n hx hb d_Run_advance_0 rfl (lv_at hl 1 rfl) ?_
  refine pl_get X fw_Run_43 hK hP 5 rfl (v := .ref v1) rfl d_Run_advance_1 ?_
  refine lv_aload_n hx hb d_Run_advance_4 rfl (lv_at hl 0 rfl) ?_
  refine pl_get X fw_Run_31 hK hP 0 rfl (v := .int (nI pl)) rfl d_Run_advance_5 ?_
  refine pl_iald X hK hP 6 0 rfl rfl pl (by omega) (by omega) (z := nI 12) ho d_Run_advance_8 ?_
  refine lv_istore_n hx hb d_Run_advance_9 rfl hl (by decide) (lv' := [(3, .int (nI 12)), (0, .ref r), (1, .ref v), (2, .ref h)]) rfl (fun ls hl => ?_)
  refine lv_aload_n hx hb d_Run_advance_10 rfl (lv_at hl 2 rfl) ?_
  refine pl_get X fw_Run_48 hK hP 5 rfl (v := .ref v2) rfl d_Run_advance_11 ?_
  refine lv_aload_n hx hb d_Run_advance_14 rfl (lv_at hl 1 rfl) ?_
  refine pl_get X fw_Run_31 hK hP 0 rfl (v := .int (nI pl)) rfl d_Run_advance_15 ?_
  refine pl_iald X hK hP 7 0 rfl rfl pl (by omega) (by omega) (z := K pl) rfl d_Run_advance_18 ?_
  refine lv_istore hx hb d_Run_advance_19 hl (by decide) (lv' := [(4, .int (K pl)), (3, .int (nI 12)), (0, .ref r), (1, .ref v), (2, .ref h)]) rfl (fun ls hl => ?_)
  refine lv_iload_n hx hb d_Run_advance_21 rfl (lv_at hl 1 rfl) ?_
  refine lv_tableIn hx hb d_Run_advance_22 (by decide) (by decide) (off := 82) (by decide) (tgt := 104) rfl ?_
  refine lv_aload_n hx hb d_Run_advance_104 rfl (lv_at hl 2 rfl) ?_
  refine lv_iconst (v := nI 2) hx hb d_Run_advance_105 (by decide) ?_
  refine pl_put X fw_Run_24 fp_Run rfl hK hP hD hS 0 rfl (v := .int (nI 2)) rfl rfl (Nat.le_of_ble_eq_true rfl) d_Run_advance_106 (ws' := [(r, .inr (4, [.ref b1, .ref b2, .ref b3, .ref b4, .int (nI how), .int (nI 2), .int (nI pl), .int (nI q), .int (nI stt), .int (nI dn)])), (b1, .inl (cI, 14, .inl sa)), (b2, .inl (cI, 8, .inl ca)), (b3, .inl (cI, 60, .inl ta)), (b4, .inl (cI, 60, .inl tn)), (v, .inr (0, [.ref v1, .ref v2, .int (nI z)])), (v1, .inl (cI, M, .inl P)), (v2, .inl (cI, M, .inl K)), (h, .inr (1, [.ref a1, .ref a2, .ref a3, .int (nI n)])), (a1, .inl (cI, 32, .inl lo)), (a2, .inl (cI, 32, .inl hi)), (a3, .inl (cI, 32, .inl th))]) rfl (fun H locs hP hD hS => ?_)
  refine lv_goto hx hb d_Run_advance_109 rfl ?_
  exact pl_vret X hr hlk hK () trivial hP hD hS d_Run_advance_129

set_option maxHeartbeats 4000000 in
set_option maxRecDepth 100000 in
theorem c_Run_advance_9 (l : Launch) (D : va_G) (cI cZ cL : ClassId) (r b1 b2 b3 b4 : Nat) (sa ca ta tn : Nat → Int32) (how stat pl : Nat) (q stt dn : Nat) (v v1 v2 M z : Nat) (P K : Nat → Int32) (h a1 a2 a3 n : Nat) (lo hi th : Nat → Int32) (j t : Nat) (hM : M < 2 ^ 31) (hp : pl < M) (ho : P pl = nI 9) (hh : how ≤ 2) (hq : q < 14) (hs : stt < 4) (hj : j < 8) (hd : dn ≤ 60) (hth : ¬ th (stt * 8 + j) = -1 → th (stt * 8 + j) = nI t) (hk : K pl = nI j) : pl_V l y_Run_advance b_Run_advance 5 ({ frames := 3, cells := 0, slots := 0, locals := 67 } : Room) pl_E0 D classes (TY cI cZ cL) [.ref r, .ref v, .ref h] [(r, .inr (4, [.ref b1, .ref b2, .ref b3, .ref b4, .int (nI how), .int (nI 1), .int (nI pl), .int (nI (q + 1)), .int (nI stt), .int (nI dn)])), (b1, .inl (cI, 14, .inl sa)), (b2, .inl (cI, 8, .inl ca)), (b3, .inl (cI, 60, .inl ta)), (b4, .inl (cI, 60, .inl tn)), (v, .inr (0, [.ref v1, .ref v2, .int (nI z)])), (v1, .inl (cI, M, .inl P)), (v2, .inl (cI, M, .inl K)), (h, .inr (1, [.ref a1, .ref a2, .ref a3, .int (nI n)])), (a1, .inl (cI, 32, .inl lo)), (a2, .inl (cI, 32, .inl hi)), (a3, .inl (cI, 32, .inl th))] (fun u : RSa => u = actS how (decide (¬ th (stt * 8 + j) = -1) && (decide (lo (stt * 8 + j) ≤ sa q) && decide (sa q ≤ hi (stt * 8 + j)))) pl q stt dn t j (sa q) ta tn) (fun (u : RSa) => [(r, .inr (4, [.ref b1, .ref b2, .ref b3, .ref b4, .int (nI how), .int (nI u.1), .int (nI u.2.1), .int (nI u.2.2.1), .int (nI u.2.2.2.1), .int (nI u.2.2.2.2.1)])), (b1, .inl (cI, 14, .inl sa)), (b2, .inl (cI, 8, .inl ca)), (b3, .inl (cI, 60, .inl u.2.2.2.2.2.1)), (b4, .inl (cI, 60, .inl u.2.2.2.2.2.2)), (v, .inr (0, [.ref v1, .ref v2, .int (nI z)])), (v1, .inl (cI, M, .inl P)), (v2, .inl (cI, M, .inl K)), (h, .inr (1, [.ref a1, .ref a2, .ref a3, .int (nI n)])), (a1, .inl (cI, 32, .inl lo)), (a2, .inl (cI, 32, .inl hi)), (a3, .inl (cI, 32, .inl th))]) := by
  refine pl_startV (by decide) (Nat.le_of_ble_eq_true rfl) ?_
  intro p e s m args below meth c A ls X hr hlk hin hK hP hD hS hA hE hl
  have X : CallFix p m c b_Run_advance 5 s args TG R_Run := X
  have hx := X.1
  have hb := X.2.1
  have hl : lv_has ls 5 [(0, .ref r), (1, .ref v), (2, .ref h)] := hl
  refine lv_aload_n hx hb d_Run_advance_0 rfl (lv_at hl 1 rfl) ?_
  refine pl_get X fw_Run_43 hK hP 5 rfl (v := .ref v1) rfl d_Run_advance_1 ?_
  refine lv_aload_n hx hb d_Run_advance_4 rfl (lv_at hl 0 rfl) ?_
  refine pl_get X fw_Run_31 hK hP 0 rfl (v := .int (nI pl)) rfl d_Run_advance_5 ?_
  refine pl_iald X hK hP 6 0 rfl rfl pl (by omega) (by omega) (z := nI 9) ho d_Run_advance_8 ?_
  refine lv_istore_n hx hb d_Run_advance_9 rfl hl (by decide) (lv' := [(3, .int (nI 9)), (0, .ref r), (1, .ref v), (2, .ref h)]) rfl (fun ls hl => ?_)
  refine lv_aload_n hx hb d_Run_advance_10 rfl (lv_at hl 2 rfl) ?_
  refine pl_get X fw_Run_48 hK hP 5 rfl (v := .ref v2) rfl d_Run_advance_11 ?_
  refine lv_aload_n hx hb d_Run_advance_14 rfl (lv_at hl 1 rfl) ?_
  refine pl_get X fw_Run_31 hK hP 0 rfl (v := .int (nI pl)) rfl d_Run_advance_15 ?_
  refine pl_iald X hK hP 7 0 rfl rfl pl (by omega) (by omega) (z := nI j) hk d_Run_advance_18 ?_
  refine lv_istore hx hb d_Run_advance_19 hl (by decide) (lv' := [(4, .int (nI j)), (3, .int (nI 9)), (0, .ref r), (1, .ref v), (2, .ref h)]) rfl (fun ls hl => ?_)
  refine lv_iload_n hx hb d_Run_advance_21 rfl (lv_at hl 1 rfl) ?_
  refine lv_tableIn hx hb d_Run_advance_22 (by decide) (by decide) (off := 72) (by decide) (tgt := 94) rfl ?_
  refine lv_aload_n hx hb d_Run_advance_94 rfl (lv_at hl 2 rfl) ?_
  refine lv_aload_n hx hb d_Run_advance_95 rfl (lv_at hl 4 rfl) ?_
  refine lv_iload hx hb d_Run_advance_96 (lv_at hl 0 rfl) ?_
  refine pl_callVV X (rest := []) (As := [.ref h, .int (nI j)]) (b := r) (c_Run_tryAct l D cI cZ cL r b1 b2 b3 b4 sa ca ta tn how stat pl q stt dn h a1 a2 a3 n lo hi th j t hh hq hs hj hd hth) ck_Run_55 pl_E0_ok trivial hK hP hD hS hA (T := F_Run) (N := N_Run) (ci := 4) rfl 0 rfl [0, 1, 2, 3, 4, 8, 9, 10, 11] [5, 6, 7] [3, 4, 5, 6, 7, 0, 1, 2, 8, 9, 10, 11] rfl (by decide) (wr := [(v, .inr (0, [.ref v1, .ref v2, .int (nI z)])), (v1, .inl (cI, M, .inl P)), (v2, .inl (cI, M, .inl K))]) rfl (by decide) (by decide) (wf := fun (u : RSa) => [(r, .inr (4, [.ref b1, .ref b2, .ref b3, .ref b4, .int (nI how), .int (nI u.1), .int (nI u.2.1), .int (nI u.2.2.1), .int (nI u.2.2.2.1), .int (nI u.2.2.2.2.1)])), (b1, .inl (cI, 14, .inl sa)), (b2, .inl (cI, 8, .inl ca)), (b3, .inl (cI, 60, .inl u.2.2.2.2.2.1)), (b4, .inl (cI, 60, .inl u.2.2.2.2.2.2)), (v, .inr (0, [.ref v1, .ref v2, .int (nI z)])), (v1, .inl (cI, M, .inl P)), (v2, .inl (cI, M, .inl K)), (h, .inr (1, [.ref a1, .ref a2, .ref a3, .int (nI n)])), (a1, .inl (cI, 32, .inl lo)), (a2, .inl (cI, 32, .inl hi)), (a3, .inl (cI, 32, .inl th))]) (fun _ => rfl) (by decide) rfl hl.1 rfl (Nat.le_of_ble_eq_true rfl) (by decide) (by decide) d_Run_advance_98 (fun u H locs hcq hP hD hS => ?_)
  refine lv_goto hx hb d_Run_advance_101 rfl ?_
  exact pl_vret X hr hlk hK u hcq hP hD hS d_Run_advance_129
