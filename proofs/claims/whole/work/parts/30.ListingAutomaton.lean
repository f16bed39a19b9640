set_option maxHeartbeats 4000000 in
set_option maxRecDepth 100000 in
theorem c_Listing_append (l : Launch) (D : va_G) (cI cZ cL : ClassId) (h a1 a2 N z : Nat) (f g : Nat → Int32) (o k : Int32) (hN : N < 2 ^ 31) (hz : z < N) : pl_V l y_Listing_append b_Listing_append 3 ({ frames := 0, cells := 0, slots := 0, locals := 0 } : Room) pl_E0 D classes (TY cI cZ cL) [.ref h, .int o, .int k] [(h, .inr (0, [.ref a1, .ref a2, .int (nI z)])), (a1, .inl (cI, N, .inl f)), (a2, .inl (cI, N, .inl g))] (fun _ : Unit => True) (fun (_ : Unit) => [(h, .inr (0, [.ref a1, .ref a2, .int (nI (z + 1))])), (a1, .inl (cI, N, .inl (upd f z o))), (a2, .inl (cI, N, .inl (upd g z k)))]) := by
  refine pl_startV (by decide) (Nat.le_of_ble_eq_true rfl) ?_
  intro p e s m args below meth c A ls X hr hlk hin hK hP hD hS hA hE hl
  have X : CallFix p m c b_Listing_append 3 s args TG R_Listing := X
  have hx := X.1
  have hb := X.2.1
  have hl : lv_has ls 3 [(0, .ref h), (1, .int o), (2, .int k)] := hl
  refine lv_aload_n hx hb d_Listing_append_0 rfl (lv_at hl 0 rfl) ?_
  refine pl_get X fw_Listing_16 hK hP 0 rfl (v := .int (nI z)) rfl d_Listing_append_1 ?_
  refine lv_aload_n hx hb d_Listing_append_4 rfl (lv_at hl 0 rfl) ?_
  refine pl_get X fw_Listing_7 hK hP 0 rfl (v := .ref a1) rfl d_Listing_append_5 ?_
  refine pl_alen X hK hP 1 0 rfl rfl (L := N) rfl d_Listing_append_8 ?_
  refine pl_icmp_ge X (by omega) (by omega) d_Listing_append_9 rfl (fun g9 => ?_) (fun g9 => ?_)
  · skip
    exact absurd g9 (by omega)
  · skip
    refine lv_aload_n hx hb d_Listing_append_12 rfl (lv_at hl 0 rfl) ?_
    refine pl_get X fw_Listing_7 hK hP 0 rfl (v := .ref a1) rfl d_Listing_append_13 ?_
    refine lv_aload_n hx hb d_Listing_append_16 rfl (lv_at hl 0 rfl) ?_
    refine pl_get X fw_Listing_16 hK hP 0 rfl (v := .int (nI z)) rfl d_Listing_append_17 ?_
    refine lv_iload_n hx hb d_Listing_append_20 rfl (lv_at hl 1 rfl) ?_
    refine pl_iast X hK hP hD hS 1 0 rfl rfl z (by omega) (by omega) d_Listing_append_21 (ws' := [(h, .inr (0, [.ref a1, .ref a2, .int (nI z)])), (a1, .inl (cI, N, .inl (upd f z o))), (a2, .inl (cI, N, .inl g))]) rfl (fun H locs hP hD hS => ?_)
    refine lv_aload_n hx hb d_Listing_append_22 rfl (lv_at hl 0 rfl) ?_
    refine pl_get X fw_Listing_13 hK hP 0 rfl (v := .ref a2) rfl d_Listing_append_23 ?_
    refine lv_aload_n hx hb d_Listing_append_26 rfl (lv_at hl 0 rfl) ?_
    refine pl_get X fw_Listing_16 hK hP 0 rfl (v := .int (nI z)) rfl d_Listing_append_27 ?_
    refine lv_iload_n hx hb d_Listing_append_30 rfl (lv_at hl 2 rfl) ?_
    refine pl_iast X hK hP hD hS 2 0 rfl rfl z (by omega) (by omega) d_Listing_append_31 (ws' := [(h, .inr (0, [.ref a1, .ref a2, .int (nI z)])), (a1, .inl (cI, N, .inl (upd f z o))), (a2, .inl (cI, N, .inl (upd g z k)))]) rfl (fun H locs hP hD hS => ?_)
    refine lv_aload_n hx hb d_Listing_append_32 rfl (lv_at hl 0 rfl) ?_
    refine lv_dup hx hb d_Listing_append_33 rfl ?_
    refine pl_get X fw_Listing_16 hK hP 0 rfl (v := .int (nI z)) rfl d_Listing_append_34 ?_
    refine lv_iconst (v := nI 1) hx hb d_Listing_append_37 (by decide) ?_
    refine pl_iadd X d_Listing_append_38 (z := nI (z + 1)) (nI_add _ _) ?_
    refine pl_put X fw_Listing_16 fp_Listing rfl hK hP hD hS 0 rfl (v := .int (nI (z + 1))) rfl rfl (Nat.le_of_ble_eq_true rfl) d_Listing_append_39 (ws' := [(h, .inr (0, [.ref a1, .ref a2, .int (nI (z + 1))])), (a1, .inl (cI, N, .inl (upd f z o))), (a2, .inl (cI, N, .inl (upd g z k)))]) rfl (fun H locs hP hD hS => ?_)
    exact pl_vret X hr hlk hK () trivial hP hD hS d_Listing_append_42

set_option maxHeartbeats 4000000 in
set_option maxRecDepth 100000 in
theorem c_Automaton_place (l : Launch) (D : va_G) (cI cZ cL : ClassId) (q t : Nat)  : pl_I l y_Automaton_place b_Automaton_place 2 .int ({ frames := 0, cells := 0, slots := 0, locals := 0 } : Room) pl_E0 D classes (TY cI cZ cL) [.int (nI q), .int (nI t)] [] (fun (r : Int32) (_ : Unit) => r = nI (q * 8 + t)) (fun (_ : Unit) => []) := by
  refine pl_startI (by decide) (Nat.le_of_ble_eq_true rfl) ?_
  intro p e s m args below meth c A ls X hr hlk hin hK hP hD hS hA hE hl
  have X : CallFix p m c b_Automaton_place 2 s args TG R_Automaton := X
  have hx := X.1
  have hb := X.2.1
  have hl : lv_has ls 2 [(0, .int (nI q)), (1, .int (nI t))] := hl
  refine lv_iload_n hx hb d_Automaton_place_0 rfl (lv_at hl 0 rfl) ?_
  refine lv_bipush (v := nI 8) hx hb d_Automaton_place_1 (by decide) ?_
  refine pl_imul X d_Automaton_place_3 (z := nI (q * 8)) (pk_mul _ _) ?_
  refine lv_iload_n hx hb d_Automaton_place_4 rfl (lv_at hl 1 rfl) ?_
  refine pl_iadd X d_Automaton_place_5 (z := nI (q * 8 + t)) (nI_add _ _) ?_
  exact pl_iret X hr hlk hK rfl () rfl hP hD hS d_Automaton_place_6

set_option maxHeartbeats 4000000 in
set_option maxRecDepth 100000 in
theorem c_Automaton_reset (l : Launch) (D : va_G) (cI cZ cL : ClassId) (h a1 a2 a3 n : Nat) (lo hi th : Nat → Int32) (z : Nat)  : pl_V l y_Automaton_reset b_Automaton_reset 3 ({ frames := 0, cells := 0, slots := 0, locals := 0 } : Room) pl_E0 D classes (TY cI cZ cL) [.ref h, .int (nI z)] [(h, .inr (1, [.ref a1, .ref a2, .ref a3, .int (nI n)])), (a1, .inl (cI, 32, .inl lo)), (a2, .inl (cI, 32, .inl hi)), (a3, .inl (cI, 32, .inl th))] (fun _ : Unit => True) (fun (_ : Unit) => [(h, .inr (1, [.ref a1, .ref a2, .ref a3, .int (nI z)])), (a1, .inl (cI, 32, .inl lo)), (a2, .inl (cI, 32, .inl hi)), (a3, .inl (cI, 32, .inl (fun _ => -1)))]) := by
  refine pl_startV (by decide) (Nat.le_of_ble_eq_true rfl) ?_
  intro p e s m args below meth c A ls X hr hlk hin hK hP hD hS hA hE hl
  have X : CallFix p m c b_Automaton_reset 3 s args TG R_Automaton := X
  have hx := X.1
  have hb := X.2.1
  have hl : lv_has ls 3 [(0, .ref h), (1, .int (nI z))] := hl
  refine lv_aload_n hx hb d_Automaton_reset_0 rfl (lv_at hl 0 rfl) ?_
  refine lv_iload_n hx hb d_Automaton_reset_1 rfl (lv_at hl 1 rfl) ?_
  refine pl_put X fw_Automaton_25 fp_Automaton rfl hK hP hD hS 0 rfl (v := .int (nI z)) rfl rfl (Nat.le_of_ble_eq_true rfl) d_Automaton_reset_2 (ws' := [(h, .inr (1, [.ref a1, .ref a2, .ref a3, .int (nI z)])), (a1, .inl (cI, 32, .inl lo)), (a2, .inl (cI, 32, .inl hi)), (a3, .inl (cI, 32, .inl th))]) rfl (fun H locs hP hD hS => ?_)
  refine lv_iconst (v := nI 0) hx hb d_Automaton_reset_5 (by decide) ?_
  refine lv_istore_n hx hb d_Automaton_reset_6 rfl hl (by decide) (lv' := [(2, .int (nI 0)), (0, .ref h), (1, .int (nI z))]) rfl (fun ls hl => ?_)
  have loop_7 : ∀ (k : Nat) (i : Nat) (g : Nat → Int32) (H : Heap) (locs : List Loc) (ls : Array Slot), 32 - i = k → (i ≤ 32) → (∀ j, j < i → g j = -1) → va_P D classes [(h, .inr (1, [.ref a1, .ref a2, .ref a3, .int (nI z)])), (a1, .inl (cI, 32, .inl lo)), (a2, .inl (cI, 32, .inl hi)), (a3, .inl (cI, 32, .inl g))] H → va_D A [(h, .inr (1, [.ref a1, .ref a2, .ref a3, .int (nI z)])), (a1, .inl (cI, 32, .inl lo)), (a2, .inl (cI, 32, .inl hi)), (a3, .inl (cI, 32, .inl g))] → va_S A s.heap H locs → lv_has ls 3 [(2, .int (nI i)), (0, .ref h), (1, .int (nI z))] → W p l e ({ frames := 0, cells := 0, slots := 0, locals := 0 } : Room) s m args below meth c H locs 0 0 (MQ below (va_Qv (fun _ : Unit => True) (fun u => pl_out D classes (TY cI cZ cL) A ((fun (_ : Unit) => [(h, .inr (1, [.ref a1, .ref a2, .ref a3, .int (nI z)])), (a1, .inl (cI, 32, .inl lo)), (a2, .inl (cI, 32, .inl hi)), (a3, .inl (cI, 32, .inl (fun _ => -1)))]) u)) A) args s 0 0 A) (F0 m 7 ls []) := by
    intro k
    induction k using Nat.strongRecOn with
    | _ k ih =>
    intro i g H locs ls hk hi0 hg hP hD hS hl
    refine lv_iload_n hx hb d_Automaton_reset_7 rfl (lv_at hl 0 rfl) ?_
    refine lv_aload_n hx hb d_Automaton_reset_8 rfl (lv_at hl 1 rfl) ?_
    refine pl_get X fw_Automaton_18 hK hP 0 rfl (v := .ref a3) rfl d_Automaton_reset_9 ?_
    refine pl_alen X hK hP 3 0 rfl rfl (L := 32) rfl d_Automaton_reset_12 ?_
    refine pl_icmp_ge X (by omega) (by decide) d_Automaton_reset_13 rfl (fun g13 => ?_) (fun g13 => ?_)
    · skip
      have hP := pl_ext hP 3 rfl (fun _ => -1) (fun j hj => hg j (by omega)) (ws' := [(h, .inr (1, [.ref a1, .ref a2, .ref a3, .int (nI z)])), (a1, .inl (cI, 32, .inl lo)), (a2, .inl (cI, 32, .inl hi)), (a3, .inl (cI, 32, .inl (fun _ => -1)))]) rfl
      have hD := pl_extD hD 3 rfl (.inl (cI, 32, .inl (fun _ => -1))) (ws' := [(h, .inr (1, [.ref a1, .ref a2, .ref a3, .int (nI z)])), (a1, .inl (cI, 32, .inl lo)), (a2, .inl (cI, 32, .inl hi)), (a3, .inl (cI, 32, .inl (fun _ => -1)))]) rfl
      exact pl_vret X hr hlk hK () trivial hP hD hS d_Automaton_reset_29
    · skip
      refine lv_aload_n hx hb d_Automaton_reset_16 rfl (lv_at hl 1 rfl) ?_
      refine pl_get X fw_Automaton_18 hK hP 0 rfl (v := .ref a3) rfl d_Automaton_reset_17 ?_
      refine lv_iload_n hx hb d_Automaton_reset_20 rfl (lv_at hl 0 rfl) ?_
      refine lv_iconst (v := -1) hx hb d_Automaton_reset_21 (by decide) ?_
      refine pl_iast X hK hP hD hS 3 0 rfl rfl i (by omega) (by decide) d_Automaton_reset_22 (ws' := [(h, .inr (1, [.ref a1, .ref a2, .ref a3, .int (nI z)])), (a1, .inl (cI, 32, .inl lo)), (a2, .inl (cI, 32, .inl hi)), (a3, .inl (cI, 32, .inl (upd g i (-1))))]) rfl (fun H locs hP hD hS => ?_)
      refine lv_iinc hx hb d_Automaton_reset_23 hl (k := 0) rfl (nI_inc1 _) (by decide) (lv' := [(2, .int (nI (i + 1))), (0, .ref h), (1, .int (nI z))]) rfl (fun ls hl => ?_)
      refine lv_goto hx hb d_Automaton_reset_26 rfl ?_
      exact ih _ (by omega) (i + 1) (upd g i (-1)) _ _ _ rfl (by omega) (fun j hj => by rcases Nat.lt_succ_iff_lt_or_eq.mp hj with q | q; (rw [upd_n (Nat.ne_of_lt q)]; exact hg j q); (rw [q]; exact upd_s)) hP hD hS hl
  exact loop_7 _ 0 th _ _ _ rfl (Nat.zero_le _) (fun j hj => absurd hj (Nat.not_lt_zero j)) hP hD hS hl

set_option maxHeartbeats 4000000 in
set_option maxRecDepth 100000 in
theorem c_Automaton_hasState (l : Launch) (D : va_G) (cI cZ cL : ClassId) (h a1 a2 a3 n : Nat) (lo hi th : Nat → Int32) (x : Int32) (hn : n < 2 ^ 31) : pl_I l y_Automaton_hasState b_Automaton_hasState 2 .boolean ({ frames := 0, cells := 0, slots := 0, locals := 0 } : Room) pl_E0 D classes (TY cI cZ cL) [.ref h, .int x] [(h, .inr (1, [.ref a1, .ref a2, .ref a3, .int (nI n)])), (a1, .inl (cI, 32, .inl lo)), (a2, .inl (cI, 32, .inl hi)), (a3, .inl (cI, 32, .inl th))] (fun (r : Int32) (_ : Unit) => r = bI (inB x n)) (fun (_ : Unit) => [(h, .inr (1, [.ref a1, .ref a2, .ref a3, .int (nI n)])), (a1, .inl (cI, 32, .inl lo)), (a2, .inl (cI, 32, .inl hi)), (a3, .inl (cI, 32, .inl th))]) := by
  refine pl_startI (by decide) (Nat.le_of_ble_eq_true rfl) ?_
  intro p e s m args below meth c A ls X hr hlk hin hK hP hD hS hA hE hl
  have X : CallFix p m c b_Automaton_hasState 2 s args TG R_Automaton := X
  have hx := X.1
  have hb := X.2.1
  have hl : lv_has ls 2 [(0, .ref h), (1, .int x)] := hl
  refine lv_iload_n hx hb d_Automaton_hasState_0 rfl (lv_at hl 1 rfl) ?_
  refine lv_if_lt hx hb d_Automaton_hasState_1 rfl (fun g1 => ?_) (fun g1 => ?_)
  · skip
    refine lv_iconst (v := nI 0) hx hb d_Automaton_hasState_16 (by decide) ?_
    exact pl_iret X hr hlk hK rfl () (bI_f (inB_lo g1)) hP hD hS d_Automaton_hasState_17
  · skip
    refine lv_iload_n hx hb d_Automaton_hasState_4 rfl (lv_at hl 1 rfl) ?_
    refine lv_aload_n hx hb d_Automaton_hasState_5 rfl (lv_at hl 0 rfl) ?_
    refine pl_get X fw_Automaton_25 hK hP 0 rfl (v := .int (nI n)) rfl d_Automaton_hasState_6 ?_
    refine lv_icmp_ge hx hb d_Automaton_hasState_9 rfl (fun g9 => ?_) (fun g9 => ?_)
    · skip
      refine lv_iconst (v := nI 0) hx hb d_Automaton_hasState_16 (by decide) ?_
      exact pl_iret X hr hlk hK rfl () (bI_f (inB_hi hn g9)) hP hD hS d_Automaton_hasState_17
    · skip
      refine lv_iconst (v := nI 1) hx hb d_Automaton_hasState_12 (by decide) ?_
      refine lv_goto hx hb d_Automaton_hasState_13 rfl ?_
      exact pl_iret X hr hlk hK rfl () (bI_t (inB_in hn g1 g9)) hP hD hS d_Automaton_hasState_17

set_option maxHeartbeats 4000000 in
set_option maxRecDepth 100000 in
theorem c_Automaton_setRule (l : Launch) (D : va_G) (cI cZ cL : ClassId) (h a1 a2 a3 n : Nat) (lo hi th : Nat → Int32) (j : Nat) (u v w : Int32) (hj : j < 32) : pl_V l y_Automaton_setRule b_Automaton_setRule 5 ({ frames := 0, cells := 0, slots := 0, locals := 0 } : Room) pl_E0 D classes (TY cI cZ cL) [.ref h, .int (nI j), .int u, .int v, .int w] [(h, .inr (1, [.ref a1, .ref a2, .ref a3, .int (nI n)])), (a1, .inl (cI, 32, .inl lo)), (a2, .inl (cI, 32, .inl hi)), (a3, .inl (cI, 32, .inl th))] (fun _ : Unit => True) (fun (_ : Unit) => [(h, .inr (1, [.ref a1, .ref a2, .ref a3, .int (nI n)])), (a1, .inl (cI, 32, .inl (upd lo j u))), (a2, .inl (cI, 32, .inl (upd hi j v))), (a3, .inl (cI, 32, .inl (upd th j w)))]) := by
  refine pl_startV (by decide) (Nat.le_of_ble_eq_true rfl) ?_
  intro p e s m args below meth c A ls X hr hlk hin hK hP hD hS hA hE hl
  have X : CallFix p m c b_Automaton_setRule 5 s args TG R_Automaton := X
  have hx := X.1
  have hb := X.2.1
  have hl : lv_has ls 5 [(0, .ref h), (1, .int (nI j)), (2, .int u), (3, .int v), (4, .int w)] := hl
  refine lv_aload_n hx hb d_Automaton_setRule_0 rfl (lv_at hl 0 rfl) ?_
  refine pl_get X fw_Automaton_9 hK hP 0 rfl (v := .ref a1) rfl d_Automaton_setRule_1 ?_
  refine lv_iload_n hx hb d_Automaton_setRule_4 rfl (lv_at hl 1 rfl) ?_
  refine lv_iload_n hx hb d_Automaton_setRule_5 rfl (lv_at hl 2 rfl) ?_
  refine pl_iast X hK hP hD hS 1 0 rfl rfl j (by omega) (by decide) d_Automaton_setRule_6 (ws' := [(h, .inr (1, [.ref a1, .ref a2, .ref a3, .int (nI n)])), (a1, .inl (cI, 32, .inl (upd lo j u))), (a2, .inl (cI, 32, .inl hi)), (a3, .inl (cI, 32, .inl th))]) rfl (fun H locs hP hD hS => ?_)
  refine lv_aload_n hx hb d_Automaton_setRule_7 rfl (lv_at hl 0 rfl) ?_
  refine pl_get X fw_Automaton_15 hK hP 0 rfl (v := .ref a2) rfl d_Automaton_setRule_8 ?_
  refine lv_iload_n hx hb d_Automaton_setRule_11 rfl (lv_at hl 1 rfl) ?_
  refine lv_iload_n hx hb d_Automaton_setRule_12 rfl (lv_at hl 3 rfl) ?_
  refine pl_iast X hK hP hD hS 2 0 rfl rfl j (by omega) (by decide) d_Automaton_setRule_13 (ws' := [(h, .inr (1, [.ref a1, .ref a2, .ref a3, .int (nI n)])), (a1, .inl (cI, 32, .inl (upd lo j u))), (a2, .inl (cI, 32, .inl (upd hi j v))), (a3, .inl (cI, 32, .inl th))]) rfl (fun H locs hP hD hS => ?_)
  refine lv_aload_n hx hb d_Automaton_setRule_14 rfl (lv_at hl 0 rfl) ?_
  refine pl_get X fw_Automaton_18 hK hP 0 rfl (v := .ref a3) rfl d_Automaton_setRule_15 ?_
  refine lv_iload_n hx hb d_Automaton_setRule_18 rfl (lv_at hl 1 rfl) ?_
  refine lv_iload hx hb d_Automaton_setRule_19 (lv_at hl 4 rfl) ?_
  refine pl_iast X hK hP hD hS 3 0 rfl rfl j (by omega) (by decide) d_Automaton_setRule_21 (ws' := [(h, .inr (1, [.ref a1, .ref a2, .ref a3, .int (nI n)])), (a1, .inl (cI, 32, .inl (upd lo j u))), (a2, .inl (cI, 32, .inl (upd hi j v))), (a3, .inl (cI, 32, .inl (upd th j w)))]) rfl (fun H locs hP hD hS => ?_)
  exact pl_vret X hr hlk hK () trivial hP hD hS d_Automaton_setRule_22

set_option maxHeartbeats 4000000 in
set_option maxRecDepth 100000 in
theorem c_Automaton_hasRule (l : Launch) (D : va_G) (cI cZ cL : ClassId) (h a1 a2 a3 n : Nat) (lo hi th : Nat → Int32) (j : Nat) (hj : j < 32) : pl_I l y_Automaton_hasRule b_Automaton_hasRule 2 .boolean ({ frames := 0, cells := 0, slots := 0, locals := 0 } : Room) pl_E0 D classes (TY cI cZ cL) [.ref h, .int (nI j)] [(h, .inr (1, [.ref a1, .ref a2, .ref a3, .int (nI n)])), (a1, .inl (cI, 32, .inl lo)), (a2, .inl (cI, 32, .inl hi)), (a3, .inl (cI, 32, .inl th))] (fun (r : Int32) (_ : Unit) => r = bI (decide (¬ th j = -1))) (fun (_ : Unit) => [(h, .inr (1, [.ref a1, .ref a2, .ref a3, .int (nI n)])), (a1, .inl (cI, 32, .inl lo)), (a2, .inl (cI, 32, .inl hi)), (a3, .inl (cI, 32, .inl th))]) := by
  refine pl_startI (by decide) (Nat.le_of_ble_eq_true rfl) ?_
  intro p e s m args below meth c A ls X hr hlk hin hK hP hD hS hA hE hl
  have X : CallFix p m c b_Automaton_hasRule 2 s args TG R_Automaton := X
  have hx := X.1
  have hb := X.2.1
  have hl : lv_has ls 2 [(0, .ref h), (1, .int (nI j))] := hl
  refine lv_aload_n hx hb d_Automaton_hasRule_0 rfl (lv_at hl 0 rfl) ?_
  refine pl_get X fw_Automaton_18 hK hP 0 rfl (v := .ref a3) rfl d_Automaton_hasRule_1 ?_
  refine lv_iload_n hx hb d_Automaton_hasRule_4 rfl (lv_at hl 1 rfl) ?_
  refine pl_iald X hK hP 3 0 rfl rfl j (by omega) (by decide) (z := th j) rfl d_Automaton_hasRule_5 ?_
  refine lv_iconst (v := -1) hx hb d_Automaton_hasRule_6 (by decide) ?_
  refine lv_icmp_eq hx hb d_Automaton_hasRule_7 rfl (fun g7 => ?_) (fun g7 => ?_)
  · skip
    refine lv_iconst (v := nI 0) hx hb d_Automaton_hasRule_14 (by decide) ?_
    exact pl_iret X hr hlk hK rfl () (bI_f (decide_eq_false (not_not_intro g7))) hP hD hS d_Automaton_hasRule_15
  · skip
    refine lv_iconst (v := nI 1) hx hb d_Automaton_hasRule_10 (by decide) ?_
    refine lv_goto hx hb d_Automaton_hasRule_11 rfl ?_
    exact pl_iret X hr hlk hK rfl () (bI_t (decide_eq_true g7)) hP hD hS d_Automaton_hasRule_15

set_option maxHeartbeats 4000000 in
set_option maxRecDepth 100000 in
theorem c_Automaton_allows (l : Launch) (D : va_G) (cI cZ cL : ClassId) (h a1 a2 a3 n : Nat) (lo hi th : Nat → Int32) (j : Nat) (v : Int32) (hj : j < 32) : pl_I l y_Automaton_allows b_Automaton_allows 3 .boolean ({ frames := 1, cells := 0, slots := 0, locals := 21 } : Room) pl_E0 D classes (TY cI cZ cL) [.ref h, .int (nI j), .int v] [(h, .inr (1, [.ref a1, .ref a2, .ref a3, .int (nI n)])), (a1, .inl (cI, 32, .inl lo)), (a2, .inl (cI, 32, .inl hi)), (a3, .inl (cI, 32, .inl th))] (fun (r : Int32) (_ : Unit) => r = bI (decide (¬ th j = -1) && (decide (lo j ≤ v) && decide (v ≤ hi j)))) (fun (_ : Unit) => [(h, .inr (1, [.ref a1, .ref a2, .ref a3, .int (nI n)])), (a1, .inl (cI, 32, .inl lo)), (a2, .inl (cI, 32, .inl hi)), (a3, .inl (cI, 32, .inl th))]) := by
  refine pl_startI (by decide) (Nat.le_of_ble_eq_true rfl) ?_
  intro p e s m args below meth c A ls X hr hlk hin hK hP hD hS hA hE hl
  have X : CallFix p m c b_Automaton_allows 3 s args TG R_Automaton := X
  have hx := X.1
  have hb := X.2.1
  have hl : lv_has ls 3 [(0, .ref h), (1, .int (nI j)), (2, .int v)] := hl
  refine lv_aload_n hx hb d_Automaton_allows_0 rfl (lv_at hl 0 rfl) ?_
  refine lv_iload_n hx hb d_Automaton_allows_1 rfl (lv_at hl 1 rfl) ?_
  refine pl_callVI X (rest := []) (As := [.int (nI j)]) (b := h) (c_Automaton_hasRule l D cI cZ cL h a1 a2 a3 n lo hi th j hj) ck_Automaton_29 pl_E0_ok trivial hK hP hD hS hA (T := F_Automaton) (N := N_Automaton) (ci := 1) rfl 0 rfl [0, 1, 2, 3] [] [0, 1, 2, 3] rfl (by decide) (wr := []) rfl (by decide) (by decide) (wf := fun _ => [(h, .inr (1, [.ref a1, .ref a2, .ref a3, .int (nI n)])), (a1, .inl (cI, 32, .inl lo)), (a2, .inl (cI, 32, .inl hi)), (a3, .inl (cI, 32, .inl th))]) (fun _ => rfl) (by decide) rfl hl.1 rfl (Nat.le_of_ble_eq_true rfl) (by decide) (by decide) d_Automaton_allows_2 (fun r u0 H locs hcq hP hD hS => ?_)
  subst hcq
  refine pl_ifB_eq X d_Automaton_allows_5 rfl (fun g5 => ?_) (fun g5 => ?_)
  · skip
    refine lv_iconst (v := nI 0) hx hb d_Automaton_allows_32 (by decide) ?_
    exact pl_iret X hr hlk hK rfl () (bI_f (by rw [g5]; rfl)) hP hD hS d_Automaton_allows_33
  · skip
    refine lv_aload_n hx hb d_Automaton_allows_8 rfl (lv_at hl 0 rfl) ?_
    refine pl_get X fw_Automaton_9 hK hP 0 rfl (v := .ref a1) rfl d_Automaton_allows_9 ?_
    refine lv_iload_n hx hb d_Automaton_allows_12 rfl (lv_at hl 1 rfl) ?_
    refine pl_iald X hK hP 1 0 rfl rfl j (by omega) (by decide) (z := lo j) rfl d_Automaton_allows_13 ?_
    refine lv_iload_n hx hb d_Automaton_allows_14 rfl (lv_at hl 2 rfl) ?_
    refine lv_icmp_gt hx hb d_Automaton_allows_15 rfl (fun g15 => ?_) (fun g15 => ?_)
    · skip
      refine lv_iconst (v := nI 0) hx hb d_Automaton_allows_32 (by decide) ?_
      exact pl_iret X hr hlk hK rfl () (bI_f (by rw [decide_eq_false (i_nle.mpr g15)]; simp)) hP hD hS d_Automaton_allows_33
    · skip
      refine lv_iload_n hx hb d_Automaton_allows_18 rfl (lv_at hl 2 rfl) ?_
      refine lv_aload_n hx hb d_Automaton_allows_19 rfl (lv_at hl 0 rfl) ?_
      refine pl_get X fw_Automaton_15 hK hP 0 rfl (v := .ref a2) rfl d_Automaton_allows_20 ?_
      refine lv_iload_n hx hb d_Automaton_allows_23 rfl (lv_at hl 1 rfl) ?_
      refine pl_iald X hK hP 2 0 rfl rfl j (by omega) (by decide) (z := hi j) rfl d_Automaton_allows_24 ?_
      refine lv_icmp_gt hx hb d_Automaton_allows_25 rfl (fun g25 => ?_) (fun g25 => ?_)
      · skip
        refine lv_iconst (v := nI 0) hx hb d_Automaton_allows_32 (by decide) ?_
        exact pl_iret X hr hlk hK rfl () (bI_f (by rw [decide_eq_false (i_nle.mpr g25)]; simp)) hP hD hS d_Automaton_allows_33
      · skip
        refine lv_iconst (v := nI 1) hx hb d_Automaton_allows_28 (by decide) ?_
        refine lv_goto hx hb d_Automaton_allows_29 rfl ?_
        exact pl_iret X hr hlk hK rfl () (bI_t (by rw [g5, decide_eq_true (i_nlt.mp g15), decide_eq_true (i_nlt.mp g25)]; rfl)) hP hD hS d_Automaton_allows_33

set_option maxHeartbeats 4000000 in
set_option maxRecDepth 100000 in
theorem c_Automaton_countRules (l : Launch) (D : va_G) (cI cZ cL : ClassId) (h a1 a2 a3 n : Nat) (lo hi th : Nat → Int32) (t : Nat) (hn : n ≤ 4) (ht : t < 8) : pl_I l y_Automaton_countRules b_Automaton_countRules 4 .int ({ frames := 1, cells := 0, slots := 0, locals := 21 } : Room) pl_E0 D classes (TY cI cZ cL) [.ref h, .int (nI t)] [(h, .inr (1, [.ref a1, .ref a2, .ref a3, .int (nI n)])), (a1, .inl (cI, 32, .inl lo)), (a2, .inl (cI, 32, .inl hi)), (a3, .inl (cI, 32, .inl th))] (fun (r : Int32) (_ : Unit) => r = nI (cntR th t n)) (fun (_ : Unit) => [(h, .inr (1, [.ref a1, .ref a2, .ref a3, .int (nI n)])), (a1, .inl (cI, 32, .inl lo)), (a2, .inl (cI, 32, .inl hi)), (a3, .inl (cI, 32, .inl th))]) := by
  refine pl_startI (by decide) (Nat.le_of_ble_eq_true rfl) ?_
  intro p e s m args below meth c A ls X hr hlk hin hK hP hD hS hA hE hl
  have X : CallFix p m c b_Automaton_countRules 4 s args TG R_Automaton := X
  have hx := X.1
  have hb := X.2.1
  have hl : lv_has ls 4 [(0, .ref h), (1, .int (nI t))] := hl
  refine lv_iconst (v := nI 0) hx hb d_Automaton_countRules_0 (by decide) ?_
  refine lv_istore_n hx hb d_Automaton_countRules_1 rfl hl (by decide) (lv' := [(2, .int (nI 0)), (0, .ref h), (1, .int (nI t))]) rfl (fun ls hl => ?_)
  refine lv_iconst (v := nI 0) hx hb d_Automaton_countRules_2 (by decide) ?_
  refine lv_istore_n hx hb d_Automaton_countRules_3 rfl hl (by decide) (lv' := [(3, .int (nI 0)), (2, .int (nI 0)), (0, .ref h), (1, .int (nI t))]) rfl (fun ls hl => ?_)
  have loop_4 : ∀ (k : Nat) (i c0 : Nat) (H : Heap) (locs : List Loc) (ls : Array Slot), n - i = k → (i ≤ n) → (c0 = cntR th t i) → va_P D classes [(h, .inr (1, [.ref a1, .ref a2, .ref a3, .int (nI n)])), (a1, .inl (cI, 32, .inl lo)), (a2, .inl (cI, 32, .inl hi)), (a3, .inl (cI, 32, .inl th))] H → va_D A [(h, .inr (1, [.ref a1, .ref a2, .ref a3, .int (nI n)])), (a1, .inl (cI, 32, .inl lo)), (a2, .inl (cI, 32, .inl hi)), (a3, .inl (cI, 32, .inl th))] → va_S A s.heap H locs → lv_has ls 4 [(3, .int (nI i)), (2, .int (nI c0)), (0, .ref h), (1, .int (nI t))] → W p l e ({ frames := 1, cells := 0, slots := 0, locals := 21 } : Room) s m args below meth c H locs 0 0 (MQ below (va_Qi (fun (r : Int32) (_ : Unit) => r = nI (cntR th t n)) (fun u => pl_out D classes (TY cI cZ cL) A ((fun (_ : Unit) => [(h, .inr (1, [.ref a1, .ref a2, .ref a3, .int (nI n)])), (a1, .inl (cI, 32, .inl lo)), (a2, .inl (cI, 32, .inl hi)), (a3, .inl (cI, 32, .inl th))]) u)) A) args s 0 0 A) (F0 m 4 ls []) := by
    intro k
    induction k using Nat.strongRecOn with
    | _ k ih =>
    intro i c0 H locs ls hk hi0 hc hP hD hS hl
    refine lv_iload_n hx hb d_Automaton_countRules_4 rfl (lv_at hl 0 rfl) ?_
    refine lv_aload_n hx hb d_Automaton_countRules_5 rfl (lv_at hl 2 rfl) ?_
    refine pl_get X fw_Automaton_25 hK hP 0 rfl (v := .int (nI n)) rfl d_Automaton_countRules_6 ?_
    refine pl_icmp_ge X (by omega) (by omega) d_Automaton_countRules_9 rfl (fun g9 => ?_) (fun g9 => ?_)
    · skip
      refine lv_iload_n hx hb d_Automaton_countRules_33 rfl (lv_at hl 1 rfl) ?_
      exact pl_iret X hr hlk hK rfl () (by rw [hc, show i = n by omega]) hP hD hS d_Automaton_countRules_34
    · skip
      refine lv_aload_n hx hb d_Automaton_countRules_12 rfl (lv_at hl 2 rfl) ?_
      refine lv_iload_n hx hb d_Automaton_countRules_13 rfl (lv_at hl 0 rfl) ?_
      refine lv_iload_n hx hb d_Automaton_countRules_14 rfl (lv_at hl 3 rfl) ?_
      refine pl_callSI X (rest := [.ref h]) (As := [.int (nI i), .int (nI t)]) (c_Automaton_place l D cI cZ cL i t) ck_Automaton_33 pl_E0_ok trivial hK hP hD hS hA [] [0, 1, 2, 3] [0, 1, 2, 3] rfl (by decide) (wr := [(h, .inr (1, [.ref a1, .ref a2, .ref a3, .int (nI n)])), (a1, .inl (cI, 32, .inl lo)), (a2, .inl (cI, 32, .inl hi)), (a3, .inl (cI, 32, .inl th))]) rfl (by decide) (by decide) (wf := fun _ => [(h, .inr (1, [.ref a1, .ref a2, .ref a3, .int (nI n)])), (a1, .inl (cI, 32, .inl lo)), (a2, .inl (cI, 32, .inl hi)), (a3, .inl (cI, 32, .inl th))]) (fun _ => rfl) (by decide) rfl hl.1 rfl (Nat.le_of_ble_eq_true rfl) (by decide) (by decide) d_Automaton_countRules_15 (fun r u0 H locs hcq hP hD hS => ?_)
      subst hcq
      refine pl_callVI X (rest := []) (As := [.int (nI (i * 8 + t))]) (b := h) (c_Automaton_hasRule l D cI cZ cL h a1 a2 a3 n lo hi th (i * 8 + t) (by omega)) ck_Automaton_29 pl_E0_ok trivial hK hP hD hS hA (T := F_Automaton) (N := N_Automaton) (ci := 1) rfl 0 rfl [0, 1, 2, 3] [] [0, 1, 2, 3] rfl (by decide) (wr := []) rfl (by decide) (by decide) (wf := fun _ => [(h, .inr (1, [.ref a1, .ref a2, .ref a3, .int (nI n)])), (a1, .inl (cI, 32, .inl lo)), (a2, .inl (cI, 32, .inl hi)), (a3, .inl (cI, 32, .inl th))]) (fun _ => rfl) (by decide) rfl hl.1 rfl (Nat.le_of_ble_eq_true rfl) (by decide) (by decide) d_Automaton_countRules_18 (fun r u0 H locs hcq hP hD hS => ?_)
      subst hcq
      refine pl_ifB_eq X d_Automaton_countRules_21 rfl (fun g21 => ?_) (fun g21 => ?_)
      · skip
        refine lv_iinc hx hb d_Automaton_countRules_27 hl (k := 0) rfl (nI_inc1 _) (by decide) (lv' := [(3, .int (nI (i + 1))), (2, .int (nI c0)), (0, .ref h), (1, .int (nI t))]) rfl (fun ls hl => ?_)
        refine lv_goto hx hb d_Automaton_countRules_30 rfl ?_
        exact ih _ (by omega) (i + 1) c0 _ _ _ rfl (by omega) (by subst hc; simp only [decide_eq_true_eq, decide_eq_false_iff_not, Decidable.not_not] at g21; simp [cntR, g21]) hP hD hS hl
      · skip
        refine lv_iinc hx hb d_Automaton_countRules_24 hl (k := 1) rfl (nI_inc1 _) (by decide) (lv' := [(2, .int (nI (c0 + 1))), (3, .int (nI i)), (0, .ref h), (1, .int (nI t))]) rfl (fun ls hl => ?_)
        refine lv_iinc hx hb d_Automaton_countRules_27 hl (k := 1) rfl (nI_inc1 _) (by decide) (lv' := [(3, .int (nI (i + 1))), (2, .int (nI (c0 + 1))), (0, .ref h), (1, .int (nI t))]) rfl (fun ls hl => ?_)
        refine lv_goto hx hb d_Automaton_countRules_30 rfl ?_
        exact ih _ (by omega) (i + 1) (c0 + 1) _ _ _ rfl (by omega) (by subst hc; simp only [decide_eq_true_eq, decide_eq_false_iff_not, Decidable.not_not] at g21; simp [cntR, g21]) hP hD hS hl
  exact loop_4 _ 0 0 _ _ _ rfl (Nat.zero_le _) rfl hP hD hS hl

set_option maxHeartbeats 4000000 in
set_option maxRecDepth 100000 in
theorem c_Loom_goesElsewhere (l : Launch) (D : va_G) (cI cZ cL : ClassId) (o : Nat) (ho : o ≤ 12) : pl_I l y_Loom_goesElsewhere b_Loom_goesElsewhere 1 .boolean ({ frames := 0, cells := 0, slots := 0, locals := 0 } : Room) pl_E0 D classes (TY cI cZ cL) [.int (nI o)] [] (fun (r : Int32) (_ : Unit) => r = bI (decide (o = 7 ∨ o = 8))) (fun (_ : Unit) => []) := by
  refine pl_startI (by decide) (Nat.le_of_ble_eq_true rfl) ?_
  intro p e s m args below meth c A ls X hr hlk hin hK hP hD hS hA hE hl
  have X : CallFix p m c b_Loom_goesElsewhere 1 s args TG R_Loom := X
  have hx := X.1
  have hb := X.2.1
  have hl : lv_has ls 1 [(0, .int (nI o))] := hl
  refine lv_iload_n hx hb d_Loom_goesElsewhere_0 rfl (lv_at hl 0 rfl) ?_
  refine lv_bipush (v := nI 7) hx hb d_Loom_goesElsewhere_1 (by decide) ?_
  refine pl_icmp_eq X (by omega) (by decide) d_Loom_goesElsewhere_3 rfl (fun g3 => ?_) (fun g3 => ?_)
  · skip
    refine lv_iconst (v := nI 1) hx hb d_Loom_goesElsewhere_12 (by decide) ?_
    refine lv_goto hx hb d_Loom_goesElsewhere_13 rfl ?_
    exact pl_iret X hr hlk hK rfl () (bI_t (decide_eq_true (Or.inl g3))) hP hD hS d_Loom_goesElsewhere_17
  · skip
    refine lv_iload_n hx hb d_Loom_goesElsewhere_6 rfl (lv_at hl 0 rfl) ?_
    refine lv_bipush (v := nI 8) hx hb d_Loom_goesElsewhere_7 (by decide) ?_
    refine pl_icmp_ne X (by omega) (by decide) d_Loom_goesElsewhere_9 rfl (fun g9 => ?_) (fun g9 => ?_)
    · skip
      refine lv_iconst (v := nI 0) hx hb d_Loom_goesElsewhere_16 (by decide) ?_
      exact pl_iret X hr hlk hK rfl () (bI_f (decide_eq_false (fun q => q.elim g3 g9))) hP hD hS d_Loom_goesElsewhere_17
    · skip
      refine lv_iconst (v := nI 1) hx hb d_Loom_goesElsewhere_12 (by decide) ?_
      refine lv_goto hx hb d_Loom_goesElsewhere_13 rfl ?_
      exact pl_iret X hr hlk hK rfl () (bI_t (decide_eq_true (Or.inr g9))) hP hD hS d_Loom_goesElsewhere_17
