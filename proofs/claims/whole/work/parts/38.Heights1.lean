set_option maxHeartbeats 4000000 in
set_option maxRecDepth 100000 in
theorem c_Heights_numberFits_0 (l : Launch) (D : va_G) (cI cZ cL : ClassId) (k : Int32) (n : Nat) (hn : n < 2 ^ 31) : pl_I l y_Heights_numberFits b_Heights_numberFits 3 .boolean ({ frames := 0, cells := 0, slots := 0, locals := 0 } : Room) pl_E0 D classes (TY cI cZ cL) [.int (nI 0), .int k, .int (nI n)] [] (fun (r : Int32) (_ : Unit) => r = bI (numFit 0 k n)) (fun (_ : Unit) => []) := by
  refine pl_startI (by decide) (Nat.le_of_ble_eq_true rfl) ?_
  intro p e s m args below meth c A ls X hr hlk hin hK hP hD hS hA hE hl
  have X : CallFix p m c b_Heights_numberFits 3 s args TG R_Heights := X
  have hx := X.1
  have hb := X.2.1
  have hl : lv_has ls 3 [(0, .int (nI 0)), (1, .int k), (2, .int (nI n))] := hl
  refine lv_iload_n hx hb d_Heights_numberFits_0 rfl (lv_at hl 0 rfl) ?_
  refine lv_tableOut hx hb d_Heights_numberFits_1 (by decide) (tgt := 83) rfl ?_
  refine lv_iconst (v := nI 1) hx hb d_Heights_numberFits_83 (by decide) ?_
  exact pl_iret X hr hlk hK rfl () rfl hP hD hS d_Heights_numberFits_84

set_option maxHeartbeats 4000000 in
set_option maxRecDepth 100000 in
theorem c_Heights_numberFits_1 (l : Launch) (D : va_G) (cI cZ cL : ClassId) (k : Int32) (n : Nat) (hn : n < 2 ^ 31) : pl_I l y_Heights_numberFits b_Heights_numberFits 3 .boolean ({ frames := 0, cells := 0, slots := 0, locals := 0 } : Room) pl_E0 D classes (TY cI cZ cL) [.int (nI 1), .int k, .int (nI n)] [] (fun (r : Int32) (_ : Unit) => r = bI (numFit 1 k n)) (fun (_ : Unit) => []) := by
  refine pl_startI (by decide) (Nat.le_of_ble_eq_true rfl) ?_
  intro p e s m args below meth c A ls X hr hlk hin hK hP hD hS hA hE hl
  have X : CallFix p m c b_Heights_numberFits 3 s args TG R_Heights := X
  have hx := X.1
  have hb := X.2.1
  have hl : lv_has ls 3 [(0, .int (nI 1)), (1, .int k), (2, .int (nI n))] := hl
  refine lv_iload_n hx hb d_Heights_numberFits_0 rfl (lv_at hl 0 rfl) ?_
  refine lv_tableOut hx hb d_Heights_numberFits_1 (by decide) (tgt := 83) rfl ?_
  refine lv_iconst (v := nI 1) hx hb d_Heights_numberFits_83 (by decide) ?_
  exact pl_iret X hr hlk hK rfl () rfl hP hD hS d_Heights_numberFits_84

set_option maxHeartbeats 4000000 in
set_option maxRecDepth 100000 in
theorem c_Heights_numberFits_2 (l : Launch) (D : va_G) (cI cZ cL : ClassId) (k : Int32) (n : Nat) (hn : n < 2 ^ 31) : pl_I l y_Heights_numberFits b_Heights_numberFits 3 .boolean ({ frames := 0, cells := 0, slots := 0, locals := 0 } : Room) pl_E0 D classes (TY cI cZ cL) [.int (nI 2), .int k, .int (nI n)] [] (fun (r : Int32) (_ : Unit) => r = bI (numFit 2 k n)) (fun (_ : Unit) => []) := by
  refine pl_startI (by decide) (Nat.le_of_ble_eq_true rfl) ?_
  intro p e s m args below meth c A ls X hr hlk hin hK hP hD hS hA hE hl
  have X : CallFix p m c b_Heights_numberFits 3 s args TG R_Heights := X
  have hx := X.1
  have hb := X.2.1
  have hl : lv_has ls 3 [(0, .int (nI 2)), (1, .int k), (2, .int (nI n))] := hl
  refine lv_iload_n hx hb d_Heights_numberFits_0 rfl (lv_at hl 0 rfl) ?_
  refine lv_tableOut hx hb d_Heights_numberFits_1 (by decide) (tgt := 83) rfl ?_
  refine lv_iconst (v := nI 1) hx hb d_Heights_numberFits_83 (by decide) ?_
  exact pl_iret X hr hlk hK rfl () rfl hP hD hS d_Heights_numberFits_84

set_option maxHeartbeats 4000000 in
set_option maxRecDepth 100000 in
theorem c_Heights_numberFits_3 (l : Launch) (D : va_G) (cI cZ cL : ClassId) (k : Int32) (n : Nat) (hn : n < 2 ^ 31) : pl_I l y_Heights_numberFits b_Heights_numberFits 3 .boolean ({ frames := 0, cells := 0, slots := 0, locals := 0 } : Room) pl_E0 D classes (TY cI cZ cL) [.int (nI 3), .int k, .int (nI n)] [] (fun (r : Int32) (_ : Unit) => r = bI (numFit 3 k n)) (fun (_ : Unit) => []) := by
  refine pl_startI (by decide) (Nat.le_of_ble_eq_true rfl) ?_
  intro p e s m args below meth c A ls X hr hlk hin hK hP hD hS hA hE hl
  have X : CallFix p m c b_Heights_numberFits 3 s args TG R_Heights := X
  have hx := X.1
  have hb := X.2.1
  have hl : lv_has ls 3 [(0, .int (nI 3)), (1, .int k), (2, .int (nI n))] := hl
  refine lv_iload_n hx hb d_Heights_numberFits_0 rfl (lv_at hl 0 rfl) ?_
  refine lv_tableOut hx hb d_Heights_numberFits_1 (by decide) (tgt := 83) rfl ?_
  refine lv_iconst (v := nI 1) hx hb d_Heights_numberFits_83 (by decide) ?_
  exact pl_iret X hr hlk hK rfl () rfl hP hD hS d_Heights_numberFits_84

set_option maxHeartbeats 4000000 in
set_option maxRecDepth 100000 in
theorem c_Heights_numberFits_4 (l : Launch) (D : va_G) (cI cZ cL : ClassId) (k : Int32) (n : Nat) (hn : n < 2 ^ 31) : pl_I l y_Heights_numberFits b_Heights_numberFits 3 .boolean ({ frames := 0, cells := 0, slots := 0, locals := 0 } : Room) pl_E0 D classes (TY cI cZ cL) [.int (nI 4), .int k, .int (nI n)] [] (fun (r : Int32) (_ : Unit) => r = bI (numFit 4 k n)) (fun (_ : Unit) => []) := by
  refine pl_startI (by decide) (Nat.le_of_ble_eq_true rfl) ?_
  intro p e s m args below meth c A ls X hr hlk hin hK hP hD hS hA hE hl
  have X : CallFix p m c b_Heights_numberFits 3 s args TG R_Heights := X
  have hx := X.1
  have hb := X.2.1
  have hl : lv_has ls 3 [(0, .int (nI 4)), (1, .int k), (2, .int (nI n))] := hl
  refine lv_iload_n hx hb d_Heights_numberFits_0 rfl (lv_at hl 0 rfl) ?_
  refine lv_tableOut hx hb d_Heights_numberFits_1 (by decide) (tgt := 83) rfl ?_
  refine lv_iconst (v := nI 1) hx hb d_Heights_numberFits_83 (by decide) ?_
  exact pl_iret X hr hlk hK rfl () rfl hP hD hS d_Heights_numberFits_84

set_option maxHeartbeats 4000000 in
set_option maxRecDepth 100000 in
theorem c_Heights_numberFits_5 (l : Launch) (D : va_G) (cI cZ cL : ClassId) (k : Int32) (n : Nat) (hn : n < 2 ^ 31) : pl_I l y_Heights_numberFits b_Heights_numberFits 3 .boolean ({ frames := 0, cells := 0, slots := 0, locals := 0 } : Room) pl_E0 D classes (TY cI cZ cL) [.int (nI 5), .int k, .int (nI n)] [] (fun (r : Int32) (_ : Unit) => r = bI (numFit 5 k n)) (fun (_ : Unit) => []) := by
  refine pl_startI (by decide) (Nat.le_of_ble_eq_true rfl) ?_
  intro p e s m args below meth c A ls X hr hlk hin hK hP hD hS hA hE hl
  have X : CallFix p m c b_Heights_numberFits 3 s args TG R_Heights := X
  have hx := X.1
  have hb := X.2.1
  have hl : lv_has ls 3 [(0, .int (nI 5)), (1, .int k), (2, .int (nI n))] := hl
  refine lv_iload_n hx hb d_Heights_numberFits_0 rfl (lv_at hl 0 rfl) ?_
  refine lv_tableIn hx hb d_Heights_numberFits_1 (by decide) (by decide) (off := 35) (by decide) (tgt := 36) rfl ?_
  refine lv_iload_n hx hb d_Heights_numberFits_36 rfl (lv_at hl 1 rfl) ?_
  refine lv_if_lt hx hb d_Heights_numberFits_37 rfl (fun g37 => ?_) (fun g37 => ?_)
  · skip
    refine lv_iconst (v := nI 0) hx hb d_Heights_numberFits_50 (by decide) ?_
    exact pl_iret X hr hlk hK rfl () (bI_f (nf5.trans (inB_lo g37))) hP hD hS d_Heights_numberFits_51
  · skip
    refine lv_iload_n hx hb d_Heights_numberFits_40 rfl (lv_at hl 1 rfl) ?_
    refine lv_bipush (v := nI 7) hx hb d_Heights_numberFits_41 (by decide) ?_
    refine lv_icmp_ge hx hb d_Heights_numberFits_43 rfl (fun g43 => ?_) (fun g43 => ?_)
    · skip
      refine lv_iconst (v := nI 0) hx hb d_Heights_numberFits_50 (by decide) ?_
      exact pl_iret X hr hlk hK rfl () (bI_f (nf5.trans (inB_hi (by decide) g43))) hP hD hS d_Heights_numberFits_51
    · skip
      refine lv_iconst (v := nI 1) hx hb d_Heights_numberFits_46 (by decide) ?_
      refine lv_goto hx hb d_Heights_numberFits_47 rfl ?_
      exact pl_iret X hr hlk hK rfl () (bI_t (nf5.trans (inB_in (by decide) g37 g43))) hP hD hS d_Heights_numberFits_51

set_option maxHeartbeats 4000000 in
set_option maxRecDepth 100000 in
theorem c_Heights_numberFits_6 (l : Launch) (D : va_G) (cI cZ cL : ClassId) (k : Int32) (n : Nat) (hn : n < 2 ^ 31) : pl_I l y_Heights_numberFits b_Heights_numberFits 3 .boolean ({ frames := 0, cells := 0, slots := 0, locals := 0 } : Room) pl_E0 D classes (TY cI cZ cL) [.int (nI 6), .int k, .int (nI n)] [] (fun (r : Int32) (_ : Unit) => r = bI (numFit 6 k n)) (fun (_ : Unit) => []) := by
  refine pl_startI (by decide) (Nat.le_of_ble_eq_true rfl) ?_
  intro p e s m args below meth c A ls X hr hlk hin hK hP hD hS hA hE hl
  have X : CallFix p m c b_Heights_numberFits 3 s args TG R_Heights := X
  have hx := X.1
  have hb := X.2.1
  have hl : lv_has ls 3 [(0, .int (nI 6)), (1, .int k), (2, .int (nI n))] := hl
  refine lv_iload_n hx hb d_Heights_numberFits_0 rfl (lv_at hl 0 rfl) ?_
  refine lv_tableIn hx hb d_Heights_numberFits_1 (by decide) (by decide) (off := 35) (by decide) (tgt := 36) rfl ?_
  refine lv_iload_n hx hb d_Heights_numberFits_36 rfl (lv_at hl 1 rfl) ?_
  refine lv_if_lt hx hb d_Heights_numberFits_37 rfl (fun g37 => ?_) (fun g37 => ?_)
  · skip
    refine lv_iconst (v := nI 0) hx hb d_Heights_numberFits_50 (by decide) ?_
    exact pl_iret X hr hlk hK rfl () (bI_f (nf6.trans (inB_lo g37))) hP hD hS d_Heights_numberFits_51
  · skip
    refine lv_iload_n hx hb d_Heights_numberFits_40 rfl (lv_at hl 1 rfl) ?_
    refine lv_bipush (v := nI 7) hx hb d_Heights_numberFits_41 (by decide) ?_
    refine lv_icmp_ge hx hb d_Heights_numberFits_43 rfl (fun g43 => ?_) (fun g43 => ?_)
    · skip
      refine lv_iconst (v := nI 0) hx hb d_Heights_numberFits_50 (by decide) ?_
      exact pl_iret X hr hlk hK rfl () (bI_f (nf6.trans (inB_hi (by decide) g43))) hP hD hS d_Heights_numberFits_51
    · skip
      refine lv_iconst (v := nI 1) hx hb d_Heights_numberFits_46 (by decide) ?_
      refine lv_goto hx hb d_Heights_numberFits_47 rfl ?_
      exact pl_iret X hr hlk hK rfl () (bI_t (nf6.trans (inB_in (by decide) g37 g43))) hP hD hS d_Heights_numberFits_51

set_option maxHeartbeats 4000000 in
set_option maxRecDepth 100000 in
theorem c_Heights_numberFits_7 (l : Launch) (D : va_G) (cI cZ cL : ClassId) (k : Int32) (n : Nat) (hn : n < 2 ^ 31) : pl_I l y_Heights_numberFits b_Heights_numberFits 3 .boolean ({ frames := 0, cells := 0, slots := 0, locals := 0 } : Room) pl_E0 D classes (TY cI cZ cL) [.int (nI 7), .int k, .int (nI n)] [] (fun (r : Int32) (_ : Unit) => r = bI (numFit 7 k n)) (fun (_ : Unit) => []) := by
  refine pl_startI (by decide) (Nat.le_of_ble_eq_true rfl) ?_
  intro p e s m args below meth c A ls X hr hlk hin hK hP hD hS hA hE hl
  have X : CallFix p m c b_Heights_numberFits 3 s args TG R_Heights := X
  have hx := X.1
  have hb := X.2.1
  have hl : lv_has ls 3 [(0, .int (nI 7)), (1, .int k), (2, .int (nI n))] := hl
  refine lv_iload_n hx hb d_Heights_numberFits_0 rfl (lv_at hl 0 rfl) ?_
  refine lv_tableIn hx hb d_Heights_numberFits_1 (by decide) (by decide) (off := 51) (by decide) (tgt := 52) rfl ?_
  refine lv_iload_n hx hb d_Heights_numberFits_52 rfl (lv_at hl 1 rfl) ?_
  refine lv_if_lt hx hb d_Heights_numberFits_53 rfl (fun g53 => ?_) (fun g53 => ?_)
  · skip
    refine lv_iconst (v := nI 0) hx hb d_Heights_numberFits_65 (by decide) ?_
    exact pl_iret X hr hlk hK rfl () (bI_f (nf7.trans (inB_lo g53))) hP hD hS d_Heights_numberFits_66
  · skip
    refine lv_iload_n hx hb d_Heights_numberFits_56 rfl (lv_at hl 1 rfl) ?_
    refine lv_iload_n hx hb d_Heights_numberFits_57 rfl (lv_at hl 2 rfl) ?_
    refine lv_icmp_ge hx hb d_Heights_numberFits_58 rfl (fun g58 => ?_) (fun g58 => ?_)
    · skip
      refine lv_iconst (v := nI 0) hx hb d_Heights_numberFits_65 (by decide) ?_
      exact pl_iret X hr hlk hK rfl () (bI_f (nf7.trans (inB_hi (by omega) g58))) hP hD hS d_Heights_numberFits_66
    · skip
      refine lv_iconst (v := nI 1) hx hb d_Heights_numberFits_61 (by decide) ?_
      refine lv_goto hx hb d_Heights_numberFits_62 rfl ?_
      exact pl_iret X hr hlk hK rfl () (bI_t (nf7.trans (inB_in (by omega) g53 g58))) hP hD hS d_Heights_numberFits_66

set_option maxHeartbeats 4000000 in
set_option maxRecDepth 100000 in
theorem c_Heights_numberFits_8 (l : Launch) (D : va_G) (cI cZ cL : ClassId) (k : Int32) (n : Nat) (hn : n < 2 ^ 31) : pl_I l y_Heights_numberFits b_Heights_numberFits 3 .boolean ({ frames := 0, cells := 0, slots := 0, locals := 0 } : Room) pl_E0 D classes (TY cI cZ cL) [.int (nI 8), .int k, .int (nI n)] [] (fun (r : Int32) (_ : Unit) => r = bI (numFit 8 k n)) (fun (_ : Unit) => []) := by
  refine pl_startI (by decide) (Nat.le_of_ble_eq_true rfl) ?_
  intro p e s m args below meth c A ls X hr hlk hin hK hP hD hS hA hE hl
  have X : CallFix p m c b_Heights_numberFits 3 s args TG R_Heights := X
  have hx := X.1
  have hb := X.2.1
  have hl : lv_has ls 3 [(0, .int (nI 8)), (1, .int k), (2, .int (nI n))] := hl
  refine lv_iload_n hx hb d_Heights_numberFits_0 rfl (lv_at hl 0 rfl) ?_
  refine lv_tableIn hx hb d_Heights_numberFits_1 (by decide) (by decide) (off := 51) (by decide) (tgt := 52) rfl ?_
  refine lv_iload_n hx hb d_Heights_numberFits_52 rfl (lv_at hl 1 rfl) ?_
  refine lv_if_lt hx hb d_Heights_numberFits_53 rfl (fun g53 => ?_) (fun g53 => ?_)
  · skip
    refine lv_iconst (v := nI 0) hx hb d_Heights_numberFits_65 (by decide) ?_
    exact pl_iret X hr hlk hK rfl () (bI_f (nf8.trans (inB_lo g53))) hP hD hS d_Heights_numberFits_66
  · skip
    refine lv_iload_n hx hb d_Heights_numberFits_56 rfl (lv_at hl 1 rfl) ?_
    refine lv_iload_n hx hb d_Heights_numberFits_57 rfl (lv_at hl 2 rfl) ?_
    refine lv_icmp_ge hx hb d_Heights_numberFits_58 rfl (fun g58 => ?_) (fun g58 => ?_)
    · skip
      refine lv_iconst (v := nI 0) hx hb d_Heights_numberFits_65 (by decide) ?_
      exact pl_iret X hr hlk hK rfl () (bI_f (nf8.trans (inB_hi (by omega) g58))) hP hD hS d_Heights_numberFits_66
    · skip
      refine lv_iconst (v := nI 1) hx hb d_Heights_numberFits_61 (by decide) ?_
      refine lv_goto hx hb d_Heights_numberFits_62 rfl ?_
      exact pl_iret X hr hlk hK rfl () (bI_t (nf8.trans (inB_in (by omega) g53 g58))) hP hD hS d_Heights_numberFits_66

set_option maxHeartbeats 4000000 in
set_option maxRecDepth 100000 in
theorem c_Heights_numberFits_9 (l : Launch) (D : va_G) (cI cZ cL : ClassId) (k : Int32) (n : Nat) (hn : n < 2 ^ 31) : pl_I l y_Heights_numberFits b_Heights_numberFits 3 .boolean ({ frames := 0, cells := 0, slots := 0, locals := 0 } : Room) pl_E0 D classes (TY cI cZ cL) [.int (nI 9), .int k, .int (nI n)] [] (fun (r : Int32) (_ : Unit) => r = bI (numFit 9 k n)) (fun (_ : Unit) => []) := by
  refine pl_startI (by decide) (Nat.le_of_ble_eq_true rfl) ?_
  intro p e s m args below meth c A ls X hr hlk hin hK hP hD hS hA hE hl
  have X : CallFix p m c b_Heights_numberFits 3 s args TG R_Heights := X
  have hx := X.1
  have hb := X.2.1
  have hl : lv_has ls 3 [(0, .int (nI 9)), (1, .int k), (2, .int (nI n))] := hl
  refine lv_iload_n hx hb d_Heights_numberFits_0 rfl (lv_at hl 0 rfl) ?_
  refine lv_tableIn hx hb d_Heights_numberFits_1 (by decide) (by decide) (off := 66) (by decide) (tgt := 67) rfl ?_
  refine lv_iload_n hx hb d_Heights_numberFits_67 rfl (lv_at hl 1 rfl) ?_
  refine lv_if_lt hx hb d_Heights_numberFits_68 rfl (fun g68 => ?_) (fun g68 => ?_)
  · skip
    refine lv_iconst (v := nI 0) hx hb d_Heights_numberFits_81 (by decide) ?_
    exact pl_iret X hr hlk hK rfl () (bI_f (nf9.trans (inB_lo g68))) hP hD hS d_Heights_numberFits_82
  · skip
    refine lv_iload_n hx hb d_Heights_numberFits_71 rfl (lv_at hl 1 rfl) ?_
    refine lv_bipush (v := nI 8) hx hb d_Heights_numberFits_72 (by decide) ?_
    refine lv_icmp_ge hx hb d_Heights_numberFits_74 rfl (fun g74 => ?_) (fun g74 => ?_)
    · skip
      refine lv_iconst (v := nI 0) hx hb d_Heights_numberFits_81 (by decide) ?_
      exact pl_iret X hr hlk hK rfl () (bI_f (nf9.trans (inB_hi (by decide) g74))) hP hD hS d_Heights_numberFits_82
    · skip
      refine lv_iconst (v := nI 1) hx hb d_Heights_numberFits_77 (by decide) ?_
      refine lv_goto hx hb d_Heights_numberFits_78 rfl ?_
      exact pl_iret X hr hlk hK rfl () (bI_t (nf9.trans (inB_in (by decide) g68 g74))) hP hD hS d_Heights_numberFits_82

set_option maxHeartbeats 4000000 in
set_option maxRecDepth 100000 in
theorem c_Heights_numberFits_10 (l : Launch) (D : va_G) (cI cZ cL : ClassId) (k : Int32) (n : Nat) (hn : n < 2 ^ 31) : pl_I l y_Heights_numberFits b_Heights_numberFits 3 .boolean ({ frames := 0, cells := 0, slots := 0, locals := 0 } : Room) pl_E0 D classes (TY cI cZ cL) [.int (nI 10), .int k, .int (nI n)] [] (fun (r : Int32) (_ : Unit) => r = bI (numFit 10 k n)) (fun (_ : Unit) => []) := by
  refine pl_startI (by decide) (Nat.le_of_ble_eq_true rfl) ?_
  intro p e s m args below meth c A ls X hr hlk hin hK hP hD hS hA hE hl
  have X : CallFix p m c b_Heights_numberFits 3 s args TG R_Heights := X
  have hx := X.1
  have hb := X.2.1
  have hl : lv_has ls 3 [(0, .int (nI 10)), (1, .int k), (2, .int (nI n))] := hl
  refine lv_iload_n hx hb d_Heights_numberFits_0 rfl (lv_at hl 0 rfl) ?_
  refine lv_tableOut hx hb d_Heights_numberFits_1 (by decide) (tgt := 83) rfl ?_
  refine lv_iconst (v := nI 1) hx hb d_Heights_numberFits_83 (by decide) ?_
  exact pl_iret X hr hlk hK rfl () rfl hP hD hS d_Heights_numberFits_84

set_option maxHeartbeats 4000000 in
set_option maxRecDepth 100000 in
theorem c_Heights_numberFits_11 (l : Launch) (D : va_G) (cI cZ cL : ClassId) (k : Int32) (n : Nat) (hn : n < 2 ^ 31) : pl_I l y_Heights_numberFits b_Heights_numberFits 3 .boolean ({ frames := 0, cells := 0, slots := 0, locals := 0 } : Room) pl_E0 D classes (TY cI cZ cL) [.int (nI 11), .int k, .int (nI n)] [] (fun (r : Int32) (_ : Unit) => r = bI (numFit 11 k n)) (fun (_ : Unit) => []) := by
  refine pl_startI (by decide) (Nat.le_of_ble_eq_true rfl) ?_
  intro p e s m args below meth c A ls X hr hlk hin hK hP hD hS hA hE hl
  have X : CallFix p m c b_Heights_numberFits 3 s args TG R_Heights := X
  have hx := X.1
  have hb := X.2.1
  have hl : lv_has ls 3 [(0, .int (nI 11)), (1, .int k), (2, .int (nI n))] := hl
  refine lv_iload_n hx hb d_Heights_numberFits_0 rfl (lv_at hl 0 rfl) ?_
  refine lv_tableOut hx hb d_Heights_numberFits_1 (by decide) (tgt := 83) rfl ?_
  refine lv_iconst (v := nI 1) hx hb d_Heights_numberFits_83 (by decide) ?_
  exact pl_iret X hr hlk hK rfl () rfl hP hD hS d_Heights_numberFits_84

set_option maxHeartbeats 4000000 in
set_option maxRecDepth 100000 in
theorem c_Heights_numberFits_12 (l : Launch) (D : va_G) (cI cZ cL : ClassId) (k : Int32) (n : Nat) (hn : n < 2 ^ 31) : pl_I l y_Heights_numberFits b_Heights_numberFits 3 .boolean ({ frames := 0, cells := 0, slots := 0, locals := 0 } : Room) pl_E0 D classes (TY cI cZ cL) [.int (nI 12), .int k, .int (nI n)] [] (fun (r : Int32) (_ : Unit) => r = bI (numFit 12 k n)) (fun (_ : Unit) => []) := by
  refine pl_startI (by decide) (Nat.le_of_ble_eq_true rfl) ?_
  intro p e s m args below meth c A ls X hr hlk hin hK hP hD hS hA hE hl
  have X : CallFix p m c b_Heights_numberFits 3 s args TG R_Heights := X
  have hx := X.1
  have hb := X.2.1
  have hl : lv_has ls 3 [(0, .int (nI 12)), (1, .int k), (2, .int (nI n))] := hl
  refine lv_iload_n hx hb d_Heights_numberFits_0 rfl (lv_at hl 0 rfl) ?_
  refine lv_tableOut hx hb d_Heights_numberFits_1 (by decide) (tgt := 83) rfl ?_
  refine lv_iconst (v := nI 1) hx hb d_Heights_numberFits_83 (by decide) ?_
  exact pl_iret X hr hlk hK rfl () rfl hP hD hS d_Heights_numberFits_84

theorem c_Heights_numberFits (l : Launch) (D : va_G) (cI cZ cL : ClassId) (o : Nat) (k : Int32) (n : Nat) (hn : n < 2 ^ 31) (ho : o ≤ 12) : pl_I l y_Heights_numberFits b_Heights_numberFits 3 .boolean ({ frames := 0, cells := 0, slots := 0, locals := 0 } : Room) pl_E0 D classes (TY cI cZ cL) [.int (nI o), .int k, .int (nI n)] [] (fun (r : Int32) (_ : Unit) => r = bI (numFit o k n)) (fun (_ : Unit) => []) := by
  rcases (show o = 0 ∨ o = 1 ∨ o = 2 ∨ o = 3 ∨ o = 4 ∨ o = 5 ∨ o = 6 ∨ o = 7 ∨ o = 8 ∨ o = 9 ∨ o = 10 ∨ o = 11 ∨ o = 12 by omega) with rfl | rfl | rfl | rfl | rfl | rfl | rfl | rfl | rfl | rfl | rfl | rfl | rfl
  · exact c_Heights_numberFits_0 l D cI cZ cL k n hn
  · exact c_Heights_numberFits_1 l D cI cZ cL k n hn
  · exact c_Heights_numberFits_2 l D cI cZ cL k n hn
  · exact c_Heights_numberFits_3 l D cI cZ cL k n hn
  · exact c_Heights_numberFits_4 l D cI cZ cL k n hn
  · exact c_Heights_numberFits_5 l D cI cZ cL k n hn
  · exact c_Heights_numberFits_6 l D cI cZ cL k n hn
  · exact c_Heights_numberFits_7 l D cI cZ cL k n hn
  · exact c_Heights_numberFits_8 l D cI cZ cL k n hn
  · exact c_Heights_numberFits_9 l D cI cZ cL k n hn
  · exact c_Heights_numberFits_10 l D cI cZ cL k n hn
  · exact c_Heights_numberFits_11 l D cI cZ cL k n hn
  · exact c_Heights_numberFits_12 l D cI cZ cL k n hn

set_option maxHeartbeats 4000000 in
set_option maxRecDepth 100000 in
theorem c_Heights_numbersFit (l : Launch) (D : va_G) (cI cZ cL : ClassId) (p0 p1 p2 np : Nat) (P K : Nat → Int32) (hnp : np ≤ 24) (hop : okP P np) : pl_I l y_Heights_numbersFit b_Heights_numbersFit 2 .boolean ({ frames := 1, cells := 0, slots := 0, locals := 22 } : Room) pl_E0 D classes (TY cI cZ cL) [.ref p0] [(p0, .inr (0, [.ref p1, .ref p2, .int (nI np)])), (p1, .inl (cI, 24, .inl P)), (p2, .inl (cI, 24, .inl K))] (fun (r : Int32) (b : Bool) => r = bI b ∧ (b = true ↔ okK P K np)) (fun (_ : Bool) => [(p0, .inr (0, [.ref p1, .ref p2, .int (nI np)])), (p1, .inl (cI, 24, .inl P)), (p2, .inl (cI, 24, .inl K))]) := by
  refine pl_startI (by decide) (Nat.le_of_ble_eq_true rfl) ?_
  intro p e s m args below meth c A ls X hr hlk hin hK hP hD hS hA hE hl
  have X : CallFix p m c b_Heights_numbersFit 2 s args TG R_Heights := X
  have hx := X.1
  have hb := X.2.1
  have hl : lv_has ls 2 [(0, .ref p0)] := hl
  refine lv_iconst (v := nI 0) hx hb d_Heights_numbersFit_0 (by decide) ?_
  refine lv_istore_n hx hb d_Heights_numbersFit_1 rfl hl (by decide) (lv' := [(1, .int (nI 0)), (0, .ref p0)]) rfl (fun ls hl => ?_)
  have loop_2 : ∀ (k : Nat) (i : Nat) (H : Heap) (locs : List Loc) (ls : Array Slot), np - i = k → (i ≤ np) → (∀ j, j < i → numFit (opn P j) (K j) np = true) → va_P D classes [(p0, .inr (0, [.ref p1, .ref p2, .int (nI np)])), (p1, .inl (cI, 24, .inl P)), (p2, .inl (cI, 24, .inl K))] H → va_D A [(p0, .inr (0, [.ref p1, .ref p2, .int (nI np)])), (p1, .inl (cI, 24, .inl P)), (p2, .inl (cI, 24, .inl K))] → va_S A s.heap H locs → lv_has ls 2 [(1, .int (nI i)), (0, .ref p0)] → W p l e ({ frames := 1, cells := 0, slots := 0, locals := 22 } : Room) s m args below meth c H locs 0 0 (MQ below (va_Qi (fun (r : Int32) (b : Bool) => r = bI b ∧ (b = true ↔ okK P K np)) (fun u => pl_out D classes (TY cI cZ cL) A ((fun (_ : Bool) => [(p0, .inr (0, [.ref p1, .ref p2, .int (nI np)])), (p1, .inl (cI, 24, .inl P)), (p2, .inl (cI, 24, .inl K))]) u)) A) args s 0 0 A) (F0 m 2 ls []) := by
    intro k
    induction k using Nat.strongRecOn with
    | _ k ih =>
    intro i H locs ls hk hi0 hg hP hD hS hl
    refine lv_iload_n hx hb d_Heights_numbersFit_2 rfl (lv_at hl 0 rfl) ?_
    refine lv_aload_n hx hb d_Heights_numbersFit_3 rfl (lv_at hl 1 rfl) ?_
    refine pl_get X fw_Heights_26 hK hP 0 rfl (v := .int (nI np)) rfl d_Heights_numbersFit_4 ?_
    refine pl_icmp_ge X (by omega) (by omega) d_Heights_numbersFit_7 rfl (fun g7 => ?_) (fun g7 => ?_)
    · skip
      refine lv_iconst (v := nI 1) hx hb d_Heights_numbersFit_40 (by decide) ?_
      exact pl_iret X hr hlk hK rfl true ⟨bI_t rfl, ⟨fun _ j hj => hg j (by omega), fun _ => rfl⟩⟩ hP hD hS d_Heights_numbersFit_41
    · skip
      obtain ⟨ho1, ho2⟩ := hop i g7
      refine lv_aload_n hx hb d_Heights_numbersFit_10 rfl (lv_at hl 1 rfl) ?_
      refine pl_get X fw_Heights_38 hK hP 0 rfl (v := .ref p1) rfl d_Heights_numbersFit_11 ?_
      refine lv_iload_n hx hb d_Heights_numbersFit_14 rfl (lv_at hl 0 rfl) ?_
      refine pl_iald X hK hP 1 0 rfl rfl i (by omega) (by decide) (z := nI (opn P i)) ho1 d_Heights_numbersFit_15 ?_
      refine lv_aload_n hx hb d_Heights_numbersFit_16 rfl (lv_at hl 1 rfl) ?_
      refine pl_get X fw_Heights_41 hK hP 0 rfl (v := .ref p2) rfl d_Heights_numbersFit_17 ?_
      refine lv_iload_n hx hb d_Heights_numbersFit_20 rfl (lv_at hl 0 rfl) ?_
      refine pl_iald X hK hP 2 0 rfl rfl i (by omega) (by decide) (z := K i) rfl d_Heights_numbersFit_21 ?_
      refine lv_aload_n hx hb d_Heights_numbersFit_22 rfl (lv_at hl 1 rfl) ?_
      refine pl_get X fw_Heights_26 hK hP 0 rfl (v := .int (nI np)) rfl d_Heights_numbersFit_23 ?_
      refine pl_callSI X (rest := []) (As := [.int (nI (opn P i)), .int (K i), .int (nI np)]) (c_Heights_numberFits l D cI cZ cL (opn P i) (K i) np (by omega) ho2) ck_Heights_44 pl_E0_ok trivial hK hP hD hS hA [] [0, 1, 2] [0, 1, 2] rfl (by decide) (wr := [(p0, .inr (0, [.ref p1, .ref p2, .int (nI np)])), (p1, .inl (cI, 24, .inl P)), (p2, .inl (cI, 24, .inl K))]) rfl (by decide) (by decide) (wf := fun _ => [(p0, .inr (0, [.ref p1, .ref p2, .int (nI np)])), (p1, .inl (cI, 24, .inl P)), (p2, .inl (cI, 24, .inl K))]) (fun _ => rfl) (by decide) rfl hl.1 rfl (Nat.le_of_ble_eq_true rfl) (by decide) (by decide) d_Heights_numbersFit_26 (fun r u0 H locs hcq hP hD hS => ?_)
      subst hcq
      refine pl_ifB_ne X d_Heights_numbersFit_29 rfl (fun g29 => ?_) (fun g29 => ?_)
      · skip
        refine lv_iinc hx hb d_Heights_numbersFit_34 hl (k := 0) rfl (nI_inc1 _) (by decide) (lv' := [(1, .int (nI (i + 1))), (0, .ref p0)]) rfl (fun ls hl => ?_)
        refine lv_goto hx hb d_Heights_numbersFit_37 rfl ?_
        exact ih _ (by omega) (i + 1) _ _ _ rfl (by omega) (fun j hj => by rcases Nat.lt_succ_iff_lt_or_eq.mp hj with q | q; (exact hg j q); (rw [q]; exact g29)) hP hD hS hl
      · skip
        refine lv_iconst (v := nI 0) hx hb d_Heights_numbersFit_32 (by decide) ?_
        exact pl_iret X hr hlk hK rfl false ⟨bI_f rfl, ⟨fun q => absurd q (by decide), fun q => by rw [q i g7] at g29; exact absurd g29 (by decide)⟩⟩ hP hD hS d_Heights_numbersFit_33
  exact loop_2 _ 0 _ _ _ rfl (Nat.zero_le _) (fun j hj => absurd hj (Nat.not_lt_zero j)) hP hD hS hl

set_option maxHeartbeats 4000000 in
set_option maxRecDepth 100000 in
theorem c_Heights_reach_new (l : Launch) (D : va_G) (cI cZ cL : ClassId) (e0 e1 e2 : Nat) (F Qu : Nat → Int32) (qd : Nat) (wf : Value) (p0 p1 p2 np : Nat) (P K : Nat → Int32) (i h : Nat) (hnp : np ≤ 24) (hi : i < np) (hF : F i = -1) (hqd : qd < 24) (hh : h < 2 ^ 31) : pl_I l y_Heights_reach b_Heights_reach 4 .boolean ({ frames := 0, cells := 0, slots := 0, locals := 0 } : Room) pl_E0 D classes (TY cI cZ cL) [.ref e0, .ref p0, .int (nI i), .int (nI h)] [(e0, .inr (2, [.ref e1, .ref e2, .int (nI qd), wf])), (e1, .inl (cI, 24, .inl F)), (e2, .inl (cI, 24, .inl Qu)), (p0, .inr (0, [.ref p1, .ref p2, .int (nI np)])), (p1, .inl (cI, 24, .inl P)), (p2, .inl (cI, 24, .inl K))] (fun (r : Int32) (_ : Unit) => r = nI 1) (fun (_ : Unit) => [(e0, .inr (2, [.ref e1, .ref e2, .int (nI (qd + 1)), wf])), (e1, .inl (cI, 24, .inl (upd F i (nI h)))), (e2, .inl (cI, 24, .inl (upd Qu qd (nI i)))), (p0, .inr (0, [.ref p1, .ref p2, .int (nI np)])), (p1, .inl (cI, 24, .inl P)), (p2, .inl (cI, 24, .inl K))]) := by
  refine pl_startI (by decide) (Nat.le_of_ble_eq_true rfl) ?_
  intro p e s m args below meth c A ls X hr hlk hin hK hP hD hS hA hE hl
  have X : CallFix p m c b_Heights_reach 4 s args TG R_Heights := X
  have hx := X.1
  have hb := X.2.1
  have hl : lv_has ls 4 [(0, .ref e0), (1, .ref p0), (2, .int (nI i)), (3, .int (nI h))] := hl
  refine lv_iload_n hx hb d_Heights_reach_0 rfl (lv_at hl 2 rfl) ?_
  refine pl_if_lt X (by omega) d_Heights_reach_1 rfl ?_
  refine lv_iload_n hx hb d_Heights_reach_4 rfl (lv_at hl 2 rfl) ?_
  refine lv_aload_n hx hb d_Heights_reach_5 rfl (lv_at hl 1 rfl) ?_
  refine pl_get X fw_Heights_26 hK hP 3 rfl (v := .int (nI np)) rfl d_Heights_reach_6 ?_
  refine pl_icmp_lt X (by omega) (by omega) d_Heights_reach_9 rfl (fun g9 => ?_) (fun g9 => ?_)
  · skip
    refine lv_aload_n hx hb d_Heights_reach_14 rfl (lv_at hl 0 rfl) ?_
    refine pl_get X fw_Heights_9 hK hP 0 rfl (v := .ref e1) rfl d_Heights_reach_15 ?_
    refine lv_iload_n hx hb d_Heights_reach_18 rfl (lv_at hl 2 rfl) ?_
    refine pl_iald X hK hP 1 0 rfl rfl i (by omega) (by decide) (z := -1) hF d_Heights_reach_19 ?_
    refine lv_iconst (v := -1) hx hb d_Heights_reach_20 (by decide) ?_
    refine lv_icmp_ne hx hb d_Heights_reach_21 rfl (fun g21 => ?_) (fun g21 => ?_)
    · skip
      exact absurd rfl g21
    · skip
      refine lv_aload_n hx hb d_Heights_reach_24 rfl (lv_at hl 0 rfl) ?_
      refine pl_get X fw_Heights_9 hK hP 0 rfl (v := .ref e1) rfl d_Heights_reach_25 ?_
      refine lv_iload_n hx hb d_Heights_reach_28 rfl (lv_at hl 2 rfl) ?_
      refine lv_iload_n hx hb d_Heights_reach_29 rfl (lv_at hl 3 rfl) ?_
      refine pl_iast X hK hP hD hS 1 0 rfl rfl i (by omega) (by decide) d_Heights_reach_30 (ws' := [(e0, .inr (2, [.ref e1, .ref e2, .int (nI qd), wf])), (e1, .inl (cI, 24, .inl (upd F i (nI h)))), (e2, .inl (cI, 24, .inl Qu)), (p0, .inr (0, [.ref p1, .ref p2, .int (nI np)])), (p1, .inl (cI, 24, .inl P)), (p2, .inl (cI, 24, .inl K))]) rfl (fun H locs hP hD hS => ?_)
      refine lv_aload_n hx hb d_Heights_reach_31 rfl (lv_at hl 0 rfl) ?_
      refine pl_get X fw_Heights_15 hK hP 0 rfl (v := .ref e2) rfl d_Heights_reach_32 ?_
      refine lv_aload_n hx hb d_Heights_reach_35 rfl (lv_at hl 0 rfl) ?_
      refine pl_get X fw_Heights_18 hK hP 0 rfl (v := .int (nI qd)) rfl d_Heights_reach_36 ?_
      refine lv_iload_n hx hb d_Heights_reach_39 rfl (lv_at hl 2 rfl) ?_
      refine pl_iast X hK hP hD hS 2 0 rfl rfl qd (by omega) (by decide) d_Heights_reach_40 (ws' := [(e0, .inr (2, [.ref e1, .ref e2, .int (nI qd), wf])), (e1, .inl (cI, 24, .inl (upd F i (nI h)))), (e2, .inl (cI, 24, .inl (upd Qu qd (nI i)))), (p0, .inr (0, [.ref p1, .ref p2, .int (nI np)])), (p1, .inl (cI, 24, .inl P)), (p2, .inl (cI, 24, .inl K))]) rfl (fun H locs hP hD hS => ?_)
      refine lv_aload_n hx hb d_Heights_reach_41 rfl (lv_at hl 0 rfl) ?_
      refine lv_dup hx hb d_Heights_reach_42 rfl ?_
      refine pl_get X fw_Heights_18 hK hP 0 rfl (v := .int (nI qd)) rfl d_Heights_reach_43 ?_
      refine lv_iconst (v := nI 1) hx hb d_Heights_reach_46 (by decide) ?_
      refine pl_iadd X d_Heights_reach_47 (z := nI (qd + 1)) (nI_add _ _) ?_
      refine pl_put X fw_Heights_18 fp_Heights rfl hK hP hD hS 0 rfl (v := .int (nI (qd + 1))) rfl rfl (Nat.le_of_ble_eq_true rfl) d_Heights_reach_48 (ws' := [(e0, .inr (2, [.ref e1, .ref e2, .int (nI (qd + 1)), wf])), (e1, .inl (cI, 24, .inl (upd F i (nI h)))), (e2, .inl (cI, 24, .inl (upd Qu qd (nI i)))), (p0, .inr (0, [.ref p1, .ref p2, .int (nI np)])), (p1, .inl (cI, 24, .inl P)), (p2, .inl (cI, 24, .inl K))]) rfl (fun H locs hP hD hS => ?_)
      refine lv_aload_n hx hb d_Heights_reach_51 rfl (lv_at hl 0 rfl) ?_
      refine pl_get X fw_Heights_9 hK hP 0 rfl (v := .ref e1) rfl d_Heights_reach_52 ?_
      refine lv_iload_n hx hb d_Heights_reach_55 rfl (lv_at hl 2 rfl) ?_
      refine pl_iald X hK hP 1 0 rfl rfl i (by omega) (by decide) (z := nI h) upd_s d_Heights_reach_56 ?_
      refine lv_iload_n hx hb d_Heights_reach_57 rfl (lv_at hl 3 rfl) ?_
      refine pl_icmp_ne X (by omega) (by omega) d_Heights_reach_58 rfl (fun g58 => ?_) (fun g58 => ?_)
      · skip
        exact absurd rfl g58
      · skip
        refine lv_iconst (v := nI 1) hx hb d_Heights_reach_61 (by decide) ?_
        refine lv_goto hx hb d_Heights_reach_62 rfl ?_
        exact pl_iret X hr hlk hK rfl () rfl hP hD hS d_Heights_reach_66
  · skip
    exact absurd hi (by omega)

set_option maxHeartbeats 4000000 in
set_option maxRecDepth 100000 in
theorem c_Heights_reach_old (l : Launch) (D : va_G) (cI cZ cL : ClassId) (e0 e1 e2 : Nat) (F Qu : Nat → Int32) (qd : Nat) (wf : Value) (p0 p1 p2 np : Nat) (P K : Nat → Int32) (i h : Nat) (hnp : np ≤ 24) (hi : i < np) (hF : ¬ F i = -1) : pl_I l y_Heights_reach b_Heights_reach 4 .boolean ({ frames := 0, cells := 0, slots := 0, locals := 0 } : Room) pl_E0 D classes (TY cI cZ cL) [.ref e0, .ref p0, .int (nI i), .int (nI h)] [(e0, .inr (2, [.ref e1, .ref e2, .int (nI qd), wf])), (e1, .inl (cI, 24, .inl F)), (e2, .inl (cI, 24, .inl Qu)), (p0, .inr (0, [.ref p1, .ref p2, .int (nI np)])), (p1, .inl (cI, 24, .inl P)), (p2, .inl (cI, 24, .inl K))] (fun (r : Int32) (_ : Unit) => r = bI (decide (F i = nI h))) (fun (_ : Unit) => [(e0, .inr (2, [.ref e1, .ref e2, .int (nI qd), wf])), (e1, .inl (cI, 24, .inl F)), (e2, .inl (cI, 24, .inl Qu)), (p0, .inr (0, [.ref p1, .ref p2, .int (nI np)])), (p1, .inl (cI, 24, .inl P)), (p2, .inl (cI, 24, .inl K))]) := by
  refine pl_startI (by decide) (Nat.le_of_ble_eq_true rfl) ?_
  intro p e s m args below meth c A ls X hr hlk hin hK hP hD hS hA hE hl
  have X : CallFix p m c b_Heights_reach 4 s args TG R_Heights := X
  have hx := X.1
  have hb := X.2.1
  have hl : lv_has ls 4 [(0, .ref e0), (1, .ref p0), (2, .int (nI i)), (3, .int (nI h))] := hl
  refine lv_iload_n hx hb d_Heights_reach_0 rfl (lv_at hl 2 rfl) ?_
  refine pl_if_lt X (by omega) d_Heights_reach_1 rfl ?_
  refine lv_iload_n hx hb d_Heights_reach_4 rfl (lv_at hl 2 rfl) ?_
  refine lv_aload_n hx hb d_Heights_reach_5 rfl (lv_at hl 1 rfl) ?_
  refine pl_get X fw_Heights_26 hK hP 3 rfl (v := .int (nI np)) rfl d_Heights_reach_6 ?_
  refine pl_icmp_lt X (by omega) (by omega) d_Heights_reach_9 rfl (fun g9 => ?_) (fun g9 => ?_)
  · skip
    refine lv_aload_n hx hb d_Heights_reach_14 rfl (lv_at hl 0 rfl) ?_
    refine pl_get X fw_Heights_9 hK hP 0 rfl (v := .ref e1) rfl d_Heights_reach_15 ?_
    refine lv_iload_n hx hb d_Heights_reach_18 rfl (lv_at hl 2 rfl) ?_
    refine pl_iald X hK hP 1 0 rfl rfl i (by omega) (by decide) (z := F i) rfl d_Heights_reach_19 ?_
    refine lv_iconst (v := -1) hx hb d_Heights_reach_20 (by decide) ?_
    refine lv_icmp_ne hx hb d_Heights_reach_21 rfl (fun g21 => ?_) (fun g21 => ?_)
    · skip
      refine lv_aload_n hx hb d_Heights_reach_51 rfl (lv_at hl 0 rfl) ?_
      refine pl_get X fw_Heights_9 hK hP 0 rfl (v := .ref e1) rfl d_Heights_reach_52 ?_
      refine lv_iload_n hx hb d_Heights_reach_55 rfl (lv_at hl 2 rfl) ?_
      refine pl_iald X hK hP 1 0 rfl rfl i (by omega) (by decide) (z := F i) rfl d_Heights_reach_56 ?_
      refine lv_iload_n hx hb d_Heights_reach_57 rfl (lv_at hl 3 rfl) ?_
      refine lv_icmp_ne hx hb d_Heights_reach_58 rfl (fun g58 => ?_) (fun g58 => ?_)
      · skip
        refine lv_iconst (v := nI 0) hx hb d_Heights_reach_65 (by decide) ?_
        exact pl_iret X hr hlk hK rfl () (bI_f (decide_eq_false g58)) hP hD hS d_Heights_reach_66
      · skip
        refine lv_iconst (v := nI 1) hx hb d_Heights_reach_61 (by decide) ?_
        refine lv_goto hx hb d_Heights_reach_62 rfl ?_
        exact pl_iret X hr hlk hK rfl () (bI_t (decide_eq_true g58)) hP hD hS d_Heights_reach_66
    · skip
      exact absurd g21 hF
  · skip
    exact absurd hi (by omega)

set_option maxHeartbeats 4000000 in
set_option maxRecDepth 100000 in
theorem c_Heights_reach_out (l : Launch) (D : va_G) (cI cZ cL : ClassId) (e0 e1 e2 : Nat) (F Qu : Nat → Int32) (qd : Nat) (wf : Value) (p0 p1 p2 np : Nat) (P K : Nat → Int32) (i h : Nat) (hnp : np ≤ 24) (hi : np ≤ i) (hi2 : i < 2 ^ 31) : pl_I l y_Heights_reach b_Heights_reach 4 .boolean ({ frames := 0, cells := 0, slots := 0, locals := 0 } : Room) pl_E0 D classes (TY cI cZ cL) [.ref e0, .ref p0, .int (nI i), .int (nI h)] [(e0, .inr (2, [.ref e1, .ref e2, .int (nI qd), wf])), (e1, .inl (cI, 24, .inl F)), (e2, .inl (cI, 24, .inl Qu)), (p0, .inr (0, [.ref p1, .ref p2, .int (nI np)])), (p1, .inl (cI, 24, .inl P)), (p2, .inl (cI, 24, .inl K))] (fun (r : Int32) (_ : Unit) => r = nI 0) (fun (_ : Unit) => [(e0, .inr (2, [.ref e1, .ref e2, .int (nI qd), wf])), (e1, .inl (cI, 24, .inl F)), (e2, .inl (cI, 24, .inl Qu)), (p0, .inr (0, [.ref p1, .ref p2, .int (nI np)])), (p1, .inl (cI, 24, .inl P)), (p2, .inl (cI, 24, .inl K))]) := by
  refine pl_startI (by decide) (Nat.le_of_ble_eq_true rfl) ?_
  intro p e s m args below meth c A ls X hr hlk hin hK hP hD hS hA hE hl
  have X : CallFix p m c b_Heights_reach 4 s args TG R_Heights := X
  have hx := X.1
  have hb := X.2.1
  have hl : lv_has ls 4 [(0, .ref e0), (1, .ref p0), (2, .int (nI i)), (3, .int (nI h))] := hl
  refine lv_iload_n hx hb d_Heights_reach_0 rfl (lv_at hl 2 rfl) ?_
  refine pl_if_lt X (by omega) d_Heights_reach_1 rfl ?_
  refine lv_iload_n hx hb d_Heights_reach_4 rfl (lv_at hl 2 rfl) ?_
  refine lv_aload_n hx hb d_Heights_reach_5 rfl (lv_at hl 1 rfl) ?_
  refine pl_get X fw_Heights_26 hK hP 3 rfl (v := .int (nI np)) rfl d_Heights_reach_6 ?_
  refine pl_icmp_lt X (by omega) (by omega) d_Heights_reach_9 rfl (fun g9 => ?_) (fun g9 => ?_)
  · skip
    exact absurd hi (by omega)
  · skip
    refine lv_iconst (v := nI 0) hx hb d_Heights_reach_12 (by decide) ?_
    exact pl_iret X hr hlk hK rfl () rfl hP hD hS d_Heights_reach_13

set_option maxHeartbeats 4000000 in
set_option maxRecDepth 100000 in
theorem c_Heights_waysOnFit (l : Launch) (D : va_G) (cI cZ cL : ClassId) (t1 t2 : Nat) (e0 e1 e2 : Nat) (F Qu : Nat → Int32) (qd : Nat) (wf : Value) (p0 p1 p2 np : Nat) (P K : Nat → Int32) (i h0 : Nat) (hnp : np ≤ 24) (hop : okP P np) (hok : okK P K np) (hv : hInv P K np F Qu qd) (hi : i < np) (hh : h0 ≤ 12) (hF : F i = nI h0) : pl_I l y_Heights_waysOnFit b_Heights_waysOnFit 6 .boolean ({ frames := 1, cells := 0, slots := 0, locals := 23 } : Room) (EV t1 t2) D classes (TY cI cZ cL) [.ref e0, .ref p0, .int (nI i)] [(e0, .inr (2, [.ref e1, .ref e2, .int (nI qd), wf])), (e1, .inl (cI, 24, .inl F)), (e2, .inl (cI, 24, .inl Qu)), (p0, .inr (0, [.ref p1, .ref p2, .int (nI np)])), (p1, .inl (cI, 24, .inl P)), (p2, .inl (cI, 24, .inl K))] (wayP P K np i h0 F Qu qd) (fun (u : HS) => [(e0, .inr (2, [.ref e1, .ref e2, .int (nI u.2.2.1), wf])), (e1, .inl (cI, 24, .inl u.1)), (e2, .inl (cI, 24, .inl u.2.1)), (p0, .inr (0, [.ref p1, .ref p2, .int (nI np)])), (p1, .inl (cI, 24, .inl P)), (p2, .inl (cI, 24, .inl K))]) := by
  refine pl_startI (by decide) (Nat.le_of_ble_eq_true rfl) ?_
  intro p e s m args below meth c A ls X hr hlk hin hK hP hD hS hA hE hl
  have X : CallFix p m c b_Heights_waysOnFit 6 s args TG R_Heights := X
  have hx := X.1
  have hb := X.2.1
  have hl : lv_has ls 6 [(0, .ref e0), (1, .ref p0), (2, .int (nI i))] := hl
  obtain ⟨ho1, ho2⟩ := hop i hi
  have htk := tkN_le (opn P i)
  have hlv := lvN_le (opn P i)
  refine lv_aload_n hx hb d_Heights_waysOnFit_0 rfl (lv_at hl 1 rfl) ?_
  refine pl_get X fw_Heights_38 hK hP 3 rfl (v := .ref p1) rfl d_Heights_waysOnFit_1 ?_
  refine lv_iload_n hx hb d_Heights_waysOnFit_4 rfl (lv_at hl 2 rfl) ?_
  refine pl_iald X hK hP 4 0 rfl rfl i (by omega) (by decide) (z := nI (opn P i)) ho1 d_Heights_waysOnFit_5 ?_
  refine lv_istore_n hx hb d_Heights_waysOnFit_6 rfl hl (by decide) (lv' := [(3, .int (nI (opn P i))), (0, .ref e0), (1, .ref p0), (2, .int (nI i))]) rfl (fun ls hl => ?_)
  refine lv_aload_n hx hb d_Heights_waysOnFit_7 rfl (lv_at hl 1 rfl) ?_
  refine pl_get X fw_Heights_9 hK hP 0 rfl (v := .ref e1) rfl d_Heights_waysOnFit_8 ?_
  refine lv_iload_n hx hb d_Heights_waysOnFit_11 rfl (lv_at hl 3 rfl) ?_
  refine pl_iald X hK hP 1 0 rfl rfl i (by omega) (by decide) (z := nI h0) hF d_Heights_waysOnFit_12 ?_
  refine va_gets hx hb hE.2.2.1 hS X.2.2.2.1 (X.2.2.2.2 _ fs_Heights_56) (fun _ h => h) d_Heights_waysOnFit_13 ?_
  refine lv_iload_n hx hb d_Heights_waysOnFit_16 rfl (lv_at hl 0 rfl) ?_
  refine pl_ti X hE.2.2.2.1 hS (opn P i) (by omega) (by decide) (v := .int (nI (tkN (opn P i)))) rfl d_Heights_waysOnFit_17 ?_
  by_cases gb : tkN (opn P i) ≤ h0
  · skip
    refine pl_isub X d_Heights_waysOnFit_18 (z := nI (h0 - tkN (opn P i))) (pk_sub gb) ?_
    refine lv_istore hx hb d_Heights_waysOnFit_19 hl (by decide) (lv' := [(4, .int (nI (h0 - tkN (opn P i)))), (3, .int (nI (opn P i))), (0, .ref e0), (1, .ref p0), (2, .int (nI i))]) rfl (fun ls hl => ?_)
    refine lv_iload hx hb d_Heights_waysOnFit_21 (lv_at hl 0 rfl) ?_
    refine va_gets hx hb hE.2.2.2.2.1 hS X.2.2.2.1 (X.2.2.2.2 _ fs_Heights_59) (fun _ h => h) d_Heights_waysOnFit_23 ?_
    refine lv_iload_n hx hb d_Heights_waysOnFit_26 rfl (lv_at hl 1 rfl) ?_
    refine pl_ti X hE.2.2.2.2.2 hS (opn P i) (by omega) (by decide) (v := .int (nI (lvN (opn P i)))) rfl d_Heights_waysOnFit_27 ?_
    refine pl_iadd X d_Heights_waysOnFit_28 (z := nI (h0 - tkN (opn P i) + lvN (opn P i))) (nI_add _ _) ?_
    refine lv_istore hx hb d_Heights_waysOnFit_29 hl (by decide) (lv' := [(5, .int (nI (h0 - tkN (opn P i) + lvN (opn P i)))), (4, .int (nI (h0 - tkN (opn P i)))), (3, .int (nI (opn P i))), (0, .ref e0), (1, .ref p0), (2, .int (nI i))]) rfl (fun ls hl => ?_)
    refine lv_iload hx hb d_Heights_waysOnFit_31 (lv_at hl 1 rfl) ?_
    refine pl_if_lt X (by omega) d_Heights_waysOnFit_33 rfl ?_
    refine lv_iload hx hb d_Heights_waysOnFit_36 (lv_at hl 0 rfl) ?_
    refine lv_bipush (v := nI 12) hx hb d_Heights_waysOnFit_38 (by decide) ?_
    refine pl_icmp_le X (by omega) (by decide) d_Heights_waysOnFit_40 rfl (fun g40 => ?_) (fun g40 => ?_)
    · skip
      have join_70 : ∀ (F1 Qu1 : Nat → Int32) (qd1 : Nat) (H : Heap) (locs : List Loc) (ls : Array Slot), (hInv P K np F1 Qu1 qd1) → (hExt np F F1) → (qd ≤ qd1 ∧ ∀ a, a < qd → Qu1 a = Qu a) → ((opn P i = 7 ∨ opn P i = 8) → kn K i < np ∧ F1 (kn K i) = nI (h0 - tkN (opn P i) + lvN (opn P i))) → va_P D classes [(e0, .inr (2, [.ref e1, .ref e2, .int (nI qd1), wf])), (e1, .inl (cI, 24, .inl F1)), (e2, .inl (cI, 24, .inl Qu1)), (p0, .inr (0, [.ref p1, .ref p2, .int (nI np)])), (p1, .inl (cI, 24, .inl P)), (p2, .inl (cI, 24, .inl K))] H → va_D A [(e0, .inr (2, [.ref e1, .ref e2, .int (nI qd1), wf])), (e1, .inl (cI, 24, .inl F1)), (e2, .inl (cI, 24, .inl Qu1)), (p0, .inr (0, [.ref p1, .ref p2, .int (nI np)])), (p1, .inl (cI, 24, .inl P)), (p2, .inl (cI, 24, .inl K))] → va_S A s.heap H locs → lv_has ls 6 [(5, .int (nI (h0 - tkN (opn P i) + lvN (opn P i)))), (4, .int (nI (h0 - tkN (opn P i)))), (3, .int (nI (opn P i))), (0, .ref e0), (1, .ref p0), (2, .int (nI i))] → W p l e ({ frames := 1, cells := 0, slots := 0, locals := 23 } : Room) s m args below meth c H locs 0 0 (MQ below (va_Qi (wayP P K np i h0 F Qu qd) (fun u => pl_out D classes (TY cI cZ cL) A ((fun (u : HS) => [(e0, .inr (2, [.ref e1, .ref e2, .int (nI u.2.2.1), wf])), (e1, .inl (cI, 24, .inl u.1)), (e2, .inl (cI, 24, .inl u.2.1)), (p0, .inr (0, [.ref p1, .ref p2, .int (nI np)])), (p1, .inl (cI, 24, .inl P)), (p2, .inl (cI, 24, .inl K))]) u)) A) args s 0 0 A) (F0 m 70 ls []) := by
        intro F1 Qu1 qd1 H locs ls hv1 hx1 hq1 hg1 hP hD hS hl
        refine lv_iload_n hx hb d_Heights_waysOnFit_70 rfl (lv_at hl 2 rfl) ?_
        refine lv_bipush (v := nI 7) hx hb d_Heights_waysOnFit_71 (by decide) ?_
        refine pl_icmp_eq X (by omega) (by decide) d_Heights_waysOnFit_73 rfl (fun g73 => ?_) (fun g73 => ?_)
        · skip
          refine lv_iconst (v := nI 1) hx hb d_Heights_waysOnFit_95 (by decide) ?_
          refine lv_goto hx hb d_Heights_waysOnFit_96 rfl ?_
          exact pl_iret X hr hlk hK rfl (F1, Qu1, qd1, true) (wayP_t hv1 hx1 hq1 ⟨gb, g40, hg1, fun q _ => absurd g73 q⟩) hP hD hS d_Heights_waysOnFit_100
        · skip
          refine lv_iload_n hx hb d_Heights_waysOnFit_76 rfl (lv_at hl 2 rfl) ?_
          refine lv_bipush (v := nI 12) hx hb d_Heights_waysOnFit_77 (by decide) ?_
          refine pl_icmp_eq X (by omega) (by decide) d_Heights_waysOnFit_79 rfl (fun g79 => ?_) (fun g79 => ?_)
          · skip
            refine lv_iconst (v := nI 1) hx hb d_Heights_waysOnFit_95 (by decide) ?_
            refine lv_goto hx hb d_Heights_waysOnFit_96 rfl ?_
            exact pl_iret X hr hlk hK rfl (F1, Qu1, qd1, true) (wayP_t hv1 hx1 hq1 ⟨gb, g40, hg1, fun _ q => absurd g79 q⟩) hP hD hS d_Heights_waysOnFit_100
          · skip
            refine lv_aload_n hx hb d_Heights_waysOnFit_82 rfl (lv_at hl 3 rfl) ?_
            refine lv_aload_n hx hb d_Heights_waysOnFit_83 rfl (lv_at hl 4 rfl) ?_
            refine lv_iload_n hx hb d_Heights_waysOnFit_84 rfl (lv_at hl 5 rfl) ?_
            refine lv_iconst (v := nI 1) hx hb d_Heights_waysOnFit_85 (by decide) ?_
            refine pl_iadd X d_Heights_waysOnFit_86 (z := nI (i + 1)) (nI_add _ _) ?_
            refine lv_iload hx hb d_Heights_waysOnFit_87 (lv_at hl 0 rfl) ?_
            by_cases gi : i + 1 < np
            · skip
              by_cases gf : F1 (i + 1) = -1
              · skip
                refine pl_callVI X (rest := []) (As := [.ref p0, .int (nI (i + 1)), .int (nI (h0 - tkN (opn P i) + lvN (opn P i)))]) (b := e0) (c_Heights_reach_new l D cI cZ cL e0 e1 e2 F1 Qu1 qd1 wf p0 p1 p2 np P K (i + 1) (h0 - tkN (opn P i) + lvN (opn P i)) hnp gi gf (by have := hv1.ql gi gf; omega) (by omega)) ck_Heights_48 pl_E0_ok trivial hK hP hD hS hA (T := F_Heights) (N := N_Heights) (ci := 2) rfl 0 rfl [0, 1, 2, 3, 4, 5] [] [0, 1, 2, 3, 4, 5] rfl (by decide) (wr := []) rfl (by decide) (by decide) (wf := fun _ => [(e0, .inr (2, [.ref e1, .ref e2, .int (nI (qd1 + 1)), wf])), (e1, .inl (cI, 24, .inl (upd F1 (i + 1) (nI (h0 - tkN (opn P i) + lvN (opn P i)))))), (e2, .inl (cI, 24, .inl (upd Qu1 qd1 (nI (i + 1))))), (p0, .inr (0, [.ref p1, .ref p2, .int (nI np)])), (p1, .inl (cI, 24, .inl P)), (p2, .inl (cI, 24, .inl K))]) (fun _ => rfl) (by decide) rfl hl.1 rfl (Nat.le_of_ble_eq_true rfl) (by decide) (by decide) d_Heights_waysOnFit_89 (fun r u0 H locs hcq hP hD hS => ?_)
                subst hcq
                refine pl_if_eq X (by decide) d_Heights_waysOnFit_92 rfl (fun gL => ?_) (fun gL => ?_)
                · skip
                  exact absurd gL (by decide)
                · skip
                  refine lv_iconst (v := nI 1) hx hb d_Heights_waysOnFit_95 (by decide) ?_
                  refine lv_goto hx hb d_Heights_waysOnFit_96 rfl ?_
                  have hF1i : F1 i = nI h0 := (show F1 i = nI h0 by rw [hx1 i hi (by rw [hF]; exact nI_nm1 (by omega))]; exact hF)
                  have hx2 : hExt np F1 (upd F1 (i + 1) (nI (h0 - tkN (opn P i) + lvN (opn P i)))) := hExt.new gf
                  exact pl_iret X hr hlk hK rfl (upd F1 (i + 1) (nI (h0 - tkN (opn P i) + lvN (opn P i))), upd Qu1 qd1 (nI (i + 1)), qd1 + 1, true) (wayP_t (hv1.new gi (show h0 - tkN (opn P i) + lvN (opn P i) ≤ 12 from g40) gf (nx_G hv1 hi hh hF1i g73 g79)) (hx1.trans hx2) ⟨by omega, fun a ha => by rw [upd_n (by omega)]; exact hq1.2 a ha⟩ ⟨gb, g40, fun o => ⟨(hg1 o).1, by rw [hx2 _ (hg1 o).1 (by rw [(hg1 o).2]; exact nI_nm1 (by omega))]; exact (hg1 o).2⟩, fun _ _ => ⟨gi, upd_s⟩⟩) hP hD hS d_Heights_waysOnFit_100
              · skip
                refine pl_callVI X (rest := []) (As := [.ref p0, .int (nI (i + 1)), .int (nI (h0 - tkN (opn P i) + lvN (opn P i)))]) (b := e0) (c_Heights_reach_old l D cI cZ cL e0 e1 e2 F1 Qu1 qd1 wf p0 p1 p2 np P K (i + 1) (h0 - tkN (opn P i) + lvN (opn P i)) hnp gi gf) ck_Heights_48 pl_E0_ok trivial hK hP hD hS hA (T := F_Heights) (N := N_Heights) (ci := 2) rfl 0 rfl [0, 1, 2, 3, 4, 5] [] [0, 1, 2, 3, 4, 5] rfl (by decide) (wr := []) rfl (by decide) (by decide) (wf := fun _ => [(e0, .inr (2, [.ref e1, .ref e2, .int (nI qd1), wf])), (e1, .inl (cI, 24, .inl F1)), (e2, .inl (cI, 24, .inl Qu1)), (p0, .inr (0, [.ref p1, .ref p2, .int (nI np)])), (p1, .inl (cI, 24, .inl P)), (p2, .inl (cI, 24, .inl K))]) (fun _ => rfl) (by decide) rfl hl.1 rfl (Nat.le_of_ble_eq_true rfl) (by decide) (by decide) d_Heights_waysOnFit_89 (fun r u0 H locs hcq hP hD hS => ?_)
                subst hcq
                refine pl_ifB_eq X d_Heights_waysOnFit_92 rfl (fun g92 => ?_) (fun g92 => ?_)
                · skip
                  refine lv_iconst (v := nI 0) hx hb d_Heights_waysOnFit_99 (by decide) ?_
                  have hF1i : F1 i = nI h0 := (show F1 i = nI h0 by rw [hx1 i hi (by rw [hF]; exact nI_nm1 (by omega))]; exact hF)
                  exact pl_iret X hr hlk hK rfl (F1, Qu1, qd1, false) (wayP_f hv1 hx1 hq1 (no_old hv1 gi gf (nx_G hv1 hi hh hF1i g73 g79) (of_decide_eq_false g92))) hP hD hS d_Heights_waysOnFit_100
                · skip
                  refine lv_iconst (v := nI 1) hx hb d_Heights_waysOnFit_95 (by decide) ?_
                  refine lv_goto hx hb d_Heights_waysOnFit_96 rfl ?_
                  exact pl_iret X hr hlk hK rfl (F1, Qu1, qd1, true) (wayP_t hv1 hx1 hq1 ⟨gb, g40, hg1, fun _ _ => ⟨gi, of_decide_eq_true g92⟩⟩) hP hD hS d_Heights_waysOnFit_100
            · skip
              refine pl_callVI X (rest := []) (As := [.ref p0, .int (nI (i + 1)), .int (nI (h0 - tkN (opn P i) + lvN (opn P i)))]) (b := e0) (c_Heights_reach_out l D cI cZ cL e0 e1 e2 F1 Qu1 qd1 wf p0 p1 p2 np P K (i + 1) (h0 - tkN (opn P i) + lvN (opn P i)) hnp (by omega) (by omega)) ck_Heights_48 pl_E0_ok trivial hK hP hD hS hA (T := F_Heights) (N := N_Heights) (ci := 2) rfl 0 rfl [0, 1, 2, 3, 4, 5] [] [0, 1, 2, 3, 4, 5] rfl (by decide) (wr := []) rfl (by decide) (by decide) (wf := fun _ => [(e0, .inr (2, [.ref e1, .ref e2, .int (nI qd1), wf])), (e1, .inl (cI, 24, .inl F1)), (e2, .inl (cI, 24, .inl Qu1)), (p0, .inr (0, [.ref p1, .ref p2, .int (nI np)])), (p1, .inl (cI, 24, .inl P)), (p2, .inl (cI, 24, .inl K))]) (fun _ => rfl) (by decide) rfl hl.1 rfl (Nat.le_of_ble_eq_true rfl) (by decide) (by decide) d_Heights_waysOnFit_89 (fun r u0 H locs hcq hP hD hS => ?_)
              subst hcq
              refine pl_if_eq X (by decide) d_Heights_waysOnFit_92 rfl (fun gL => ?_) (fun gL => ?_)
              · skip
                refine lv_iconst (v := nI 0) hx hb d_Heights_waysOnFit_99 (by decide) ?_
                have hF1i : F1 i = nI h0 := (show F1 i = nI h0 by rw [hx1 i hi (by rw [hF]; exact nI_nm1 (by omega))]; exact hF)
                exact pl_iret X hr hlk hK rfl (F1, Qu1, qd1, false) (wayP_f hv1 hx1 hq1 (no_out hv1 hi hh hF1i g73 g79 gi)) hP hD hS d_Heights_waysOnFit_100
              · skip
                exact absurd gL (by decide)
      refine lv_iload_n hx hb d_Heights_waysOnFit_45 rfl (lv_at hl 2 rfl) ?_
      refine pl_callNI X (rest := []) (As := [.int (nI (opn P i))]) (c_Loom_goesElsewhere l D cI cZ cL (opn P i) ho2) ckN_goes hE.1 pl_E0_ok trivial hK hP hD hS hA [] [0, 1, 2, 3, 4, 5] [0, 1, 2, 3, 4, 5] rfl (by decide) (wr := [(e0, .inr (2, [.ref e1, .ref e2, .int (nI qd), wf])), (e1, .inl (cI, 24, .inl F)), (e2, .inl (cI, 24, .inl Qu)), (p0, .inr (0, [.ref p1, .ref p2, .int (nI np)])), (p1, .inl (cI, 24, .inl P)), (p2, .inl (cI, 24, .inl K))]) rfl (by decide) (by decide) (wf := fun _ => [(e0, .inr (2, [.ref e1, .ref e2, .int (nI qd), wf])), (e1, .inl (cI, 24, .inl F)), (e2, .inl (cI, 24, .inl Qu)), (p0, .inr (0, [.ref p1, .ref p2, .int (nI np)])), (p1, .inl (cI, 24, .inl P)), (p2, .inl (cI, 24, .inl K))]) (fun _ => rfl) (by decide) rfl hl.1 rfl (Nat.le_of_ble_eq_true rfl) (by decide) (by decide) d_Heights_waysOnFit_46 (fun r u0 H locs hcq hP hD hS => ?_)
      subst hcq
      refine pl_ifB_eq X d_Heights_waysOnFit_49 rfl (fun g49 => ?_) (fun g49 => ?_)
      · skip
        have hgo := of_decide_eq_false g49
        exact join_70 F Qu qd _ _ _ hv hExt.refl (⟨Nat.le_refl _, fun _ _ => rfl⟩) (fun q => absurd q hgo) hP hD hS hl
      · skip
        have hgo := of_decide_eq_true g49
        obtain ⟨hk1, hk2⟩ := okK_7 (by omega) hok hi hgo
        refine lv_aload_n hx hb d_Heights_waysOnFit_52 rfl (lv_at hl 3 rfl) ?_
        refine lv_aload_n hx hb d_Heights_waysOnFit_53 rfl (lv_at hl 4 rfl) ?_
        refine lv_aload_n hx hb d_Heights_waysOnFit_54 rfl (lv_at hl 4 rfl) ?_
        refine pl_get X fw_Heights_41 hK hP 3 rfl (v := .ref p2) rfl d_Heights_waysOnFit_55 ?_
        refine lv_iload_n hx hb d_Heights_waysOnFit_58 rfl (lv_at hl 5 rfl) ?_
        refine pl_iald X hK hP 5 0 rfl rfl i (by omega) (by decide) (z := nI (kn K i)) hk1 d_Heights_waysOnFit_59 ?_
        refine lv_iload hx hb d_Heights_waysOnFit_60 (lv_at hl 0 rfl) ?_
        by_cases gf : F (kn K i) = -1
        · skip
          refine pl_callVI X (rest := []) (As := [.ref p0, .int (nI (kn K i)), .int (nI (h0 - tkN (opn P i) + lvN (opn P i)))]) (b := e0) (c_Heights_reach_new l D cI cZ cL e0 e1 e2 F Qu qd wf p0 p1 p2 np P K (kn K i) (h0 - tkN (opn P i) + lvN (opn P i)) hnp hk2 gf (by have := hv.ql hk2 gf; omega) (by omega)) ck_Heights_48 pl_E0_ok trivial hK hP hD hS hA (T := F_Heights) (N := N_Heights) (ci := 2) rfl 0 rfl [0, 1, 2, 3, 4, 5] [] [0, 1, 2, 3, 4, 5] rfl (by decide) (wr := []) rfl (by decide) (by decide) (wf := fun _ => [(e0, .inr (2, [.ref e1, .ref e2, .int (nI (qd + 1)), wf])), (e1, .inl (cI, 24, .inl (upd F (kn K i) (nI (h0 - tkN (opn P i) + lvN (opn P i)))))), (e2, .inl (cI, 24, .inl (upd Qu qd (nI (kn K i))))), (p0, .inr (0, [.ref p1, .ref p2, .int (nI np)])), (p1, .inl (cI, 24, .inl P)), (p2, .inl (cI, 24, .inl K))]) (fun _ => rfl) (by decide) rfl hl.1 rfl (Nat.le_of_ble_eq_true rfl) (by decide) (by decide) d_Heights_waysOnFit_62 (fun r u0 H locs hcq hP hD hS => ?_)
          subst hcq
          refine pl_if_ne X (by decide) d_Heights_waysOnFit_65 rfl (fun gL => ?_) (fun gL => ?_)
          · skip
            exact join_70 (upd F (kn K i) (nI (h0 - tkN (opn P i) + lvN (opn P i)))) (upd Qu qd (nI (kn K i))) (qd + 1) _ _ _ (hv.new hk2 (show h0 - tkN (opn P i) + lvN (opn P i) ≤ 12 from g40) gf (go_G hv hi hh hF hgo)) (hExt.new gf) (⟨by omega, fun a ha => upd_n (by omega)⟩) (fun _ => ⟨hk2, upd_s⟩) hP hD hS hl
          · skip
            exact absurd gL (by decide)
        · skip
          refine pl_callVI X (rest := []) (As := [.ref p0, .int (nI (kn K i)), .int (nI (h0 - tkN (opn P i) + lvN (opn P i)))]) (b := e0) (c_Heights_reach_old l D cI cZ cL e0 e1 e2 F Qu qd wf p0 p1 p2 np P K (kn K i) (h0 - tkN (opn P i) + lvN (opn P i)) hnp hk2 gf) ck_Heights_48 pl_E0_ok trivial hK hP hD hS hA (T := F_Heights) (N := N_Heights) (ci := 2) rfl 0 rfl [0, 1, 2, 3, 4, 5] [] [0, 1, 2, 3, 4, 5] rfl (by decide) (wr := []) rfl (by decide) (by decide) (wf := fun _ => [(e0, .inr (2, [.ref e1, .ref e2, .int (nI qd), wf])), (e1, .inl (cI, 24, .inl F)), (e2, .inl (cI, 24, .inl Qu)), (p0, .inr (0, [.ref p1, .ref p2, .int (nI np)])), (p1, .inl (cI, 24, .inl P)), (p2, .inl (cI, 24, .inl K))]) (fun _ => rfl) (by decide) rfl hl.1 rfl (Nat.le_of_ble_eq_true rfl) (by decide) (by decide) d_Heights_waysOnFit_62 (fun r u0 H locs hcq hP hD hS => ?_)
          subst hcq
          refine pl_ifB_ne X d_Heights_waysOnFit_65 rfl (fun g65 => ?_) (fun g65 => ?_)
          · skip
            exact join_70 F Qu qd _ _ _ hv hExt.refl (⟨Nat.le_refl _, fun _ _ => rfl⟩) (fun _ => ⟨hk2, of_decide_eq_true g65⟩) hP hD hS hl
          · skip
            refine lv_iconst (v := nI 0) hx hb d_Heights_waysOnFit_68 (by decide) ?_
            exact pl_iret X hr hlk hK rfl (F, Qu, qd, false) (wayP_f hv hExt.refl ⟨Nat.le_refl _, fun _ _ => rfl⟩ (no_old hv hk2 gf (go_G hv hi hh hF hgo) (of_decide_eq_false g65))) hP hD hS d_Heights_waysOnFit_69
    · skip
      refine lv_iconst (v := nI 0) hx hb d_Heights_waysOnFit_43 (by decide) ?_
      exact pl_iret X hr hlk hK rfl (F, Qu, qd, false) (wayP_f hv hExt.refl ⟨Nat.le_refl _, fun _ _ => rfl⟩ (no_hi hv hi hh hF (Nat.not_le.mpr g40))) hP hD hS d_Heights_waysOnFit_44
  · skip
    refine pl_isub X d_Heights_waysOnFit_18 (z := nI h0 - nI (tkN (opn P i))) rfl ?_
    refine lv_istore hx hb d_Heights_waysOnFit_19 hl (by decide) (lv' := [(4, .int (nI h0 - nI (tkN (opn P i)))), (3, .int (nI (opn P i))), (0, .ref e0), (1, .ref p0), (2, .int (nI i))]) rfl (fun ls hl => ?_)
    refine lv_iload hx hb d_Heights_waysOnFit_21 (lv_at hl 0 rfl) ?_
    refine va_gets hx hb hE.2.2.2.2.1 hS X.2.2.2.1 (X.2.2.2.2 _ fs_Heights_59) (fun _ h => h) d_Heights_waysOnFit_23 ?_
    refine lv_iload_n hx hb d_Heights_waysOnFit_26 rfl (lv_at hl 1 rfl) ?_
    refine pl_ti X hE.2.2.2.2.2 hS (opn P i) (by omega) (by decide) (v := .int (nI (lvN (opn P i)))) rfl d_Heights_waysOnFit_27 ?_
    refine pl_iadd X d_Heights_waysOnFit_28 (z := nI h0 - nI (tkN (opn P i)) + nI (lvN (opn P i))) rfl ?_
    refine lv_istore hx hb d_Heights_waysOnFit_29 hl (by decide) (lv' := [(5, .int (nI h0 - nI (tkN (opn P i)) + nI (lvN (opn P i)))), (4, .int (nI h0 - nI (tkN (opn P i)))), (3, .int (nI (opn P i))), (0, .ref e0), (1, .ref p0), (2, .int (nI i))]) rfl (fun ls hl => ?_)
    refine lv_iload hx hb d_Heights_waysOnFit_31 (lv_at hl 1 rfl) ?_
    refine lv_if_lt hx hb d_Heights_waysOnFit_33 rfl (fun g33 => ?_) (fun g33 => ?_)
    · skip
      refine lv_iconst (v := nI 0) hx hb d_Heights_waysOnFit_43 (by decide) ?_
      exact pl_iret X hr hlk hK rfl (F, Qu, qd, false) (wayP_f hv hExt.refl ⟨Nat.le_refl _, fun _ _ => rfl⟩ (no_lo hv hi hh hF gb)) hP hD hS d_Heights_waysOnFit_44
    · skip
      exact absurd (pk_sneg (by omega) (by omega)) g33

set_option maxHeartbeats 4000000 in
set_option maxRecDepth 100000 in
theorem c_Heights_heightsFit (l : Launch) (D : va_G) (cI cZ cL : ClassId) (t1 t2 : Nat) (e0 e1 e2 : Nat) (F Qu : Nat → Int32) (qd : Nat) (wf : Value) (p0 p1 p2 np : Nat) (P K : Nat → Int32) (hnp : np ≤ 24) (hp0 : 0 < np) (hop : okP P np) (hok : okK P K np) : pl_I l y_Heights_heightsFit b_Heights_heightsFit 3 .boolean ({ frames := 2, cells := 0, slots := 0, locals := 48 } : Room) (EV t1 t2) D classes (TY cI cZ cL) [.ref e0, .ref p0] [(e0, .inr (2, [.ref e1, .ref e2, .int (nI qd), wf])), (e1, .inl (cI, 24, .inl F)), (e2, .inl (cI, 24, .inl Qu)), (p0, .inr (0, [.ref p1, .ref p2, .int (nI np)])), (p1, .inl (cI, 24, .inl P)), (p2, .inl (cI, 24, .inl K))] (fitP P K np) (fun (u : HS) => [(e0, .inr (2, [.ref e1, .ref e2, .int (nI u.2.2.1), wf])), (e1, .inl (cI, 24, .inl u.1)), (e2, .inl (cI, 24, .inl u.2.1)), (p0, .inr (0, [.ref p1, .ref p2, .int (nI np)])), (p1, .inl (cI, 24, .inl P)), (p2, .inl (cI, 24, .inl K))]) := by
  refine pl_startI (by decide) (Nat.le_of_ble_eq_true rfl) ?_
  intro p e s m args below meth c A ls X hr hlk hin hK hP hD hS hA hE hl
  have X : CallFix p m c b_Heights_heightsFit 3 s args TG R_Heights := X
  have hx := X.1
  have hb := X.2.1
  have hl : lv_has ls 3 [(0, .ref e0), (1, .ref p0)] := hl
  refine lv_iconst (v := nI 0) hx hb d_Heights_heightsFit_0 (by decide) ?_
  refine lv_istore_n hx hb d_Heights_heightsFit_1 rfl hl (by decide) (lv' := [(2, .int (nI 0)), (0, .ref e0), (1, .ref p0)]) rfl (fun ls hl => ?_)
  have loop_2 : ∀ (k : Nat) (i : Nat) (g : Nat → Int32) (H : Heap) (locs : List Loc) (ls : Array Slot), np - i = k → (i ≤ np) → (∀ j, j < i → g j = -1) → va_P D classes [(e0, .inr (2, [.ref e1, .ref e2, .int (nI qd), wf])), (e1, .inl (cI, 24, .inl g)), (e2, .inl (cI, 24, .inl Qu)), (p0, .inr (0, [.ref p1, .ref p2, .int (nI np)])), (p1, .inl (cI, 24, .inl P)), (p2, .inl (cI, 24, .inl K))] H → va_D A [(e0, .inr (2, [.ref e1, .ref e2, .int (nI qd), wf])), (e1, .inl (cI, 24, .inl g)), (e2, .inl (cI, 24, .inl Qu)), (p0, .inr (0, [.ref p1, .ref p2, .int (nI np)])), (p1, .inl (cI, 24, .inl P)), (p2, .inl (cI, 24, .inl K))] → va_S A s.heap H locs → lv_has ls 3 [(2, .int (nI i)), (0, .ref e0), (1, .ref p0)] → W p l e ({ frames := 2, cells := 0, slots := 0, locals := 48 } : Room) s m args below meth c H locs 0 0 (MQ below (va_Qi (fitP P K np) (fun u => pl_out D classes (TY cI cZ cL) A ((fun (u : HS) => [(e0, .inr (2, [.ref e1, .ref e2, .int (nI u.2.2.1), wf])), (e1, .inl (cI, 24, .inl u.1)), (e2, .inl (cI, 24, .inl u.2.1)), (p0, .inr (0, [.ref p1, .ref p2, .int (nI np)])), (p1, .inl (cI, 24, .inl P)), (p2, .inl (cI, 24, .inl K))]) u)) A) args s 0 0 A) (F0 m 2 ls []) := by
    intro k
    induction k using Nat.strongRecOn with
    | _ k ih =>
    intro i g H locs ls hk hi0 hg hP hD hS hl
    refine lv_iload_n hx hb d_Heights_heightsFit_2 rfl (lv_at hl 0 rfl) ?_
    refine lv_aload_n hx hb d_Heights_heightsFit_3 rfl (lv_at hl 2 rfl) ?_
    refine pl_get X fw_Heights_26 hK hP 3 rfl (v := .int (nI np)) rfl d_Heights_heightsFit_4 ?_
    refine pl_icmp_ge X (by omega) (by omega) d_Heights_heightsFit_7 rfl (fun g7 => ?_) (fun g7 => ?_)
    · skip
      refine lv_aload_n hx hb d_Heights_heightsFit_23 rfl (lv_at hl 1 rfl) ?_
      refine lv_iconst (v := nI 0) hx hb d_Heights_heightsFit_24 (by decide) ?_
      refine pl_put X fw_Heights_18 fp_Heights rfl hK hP hD hS 0 rfl (v := .int (nI 0)) rfl rfl (Nat.le_of_ble_eq_true rfl) d_Heights_heightsFit_25 (ws' := [(e0, .inr (2, [.ref e1, .ref e2, .int (nI 0), wf])), (e1, .inl (cI, 24, .inl g)), (e2, .inl (cI, 24, .inl Qu)), (p0, .inr (0, [.ref p1, .ref p2, .int (nI np)])), (p1, .inl (cI, 24, .inl P)), (p2, .inl (cI, 24, .inl K))]) rfl (fun H locs hP hD hS => ?_)
      refine lv_aload_n hx hb d_Heights_heightsFit_28 rfl (lv_at hl 1 rfl) ?_
      refine lv_aload_n hx hb d_Heights_heightsFit_29 rfl (lv_at hl 2 rfl) ?_
      refine lv_iconst (v := nI 0) hx hb d_Heights_heightsFit_30 (by decide) ?_
      refine lv_iconst (v := nI 0) hx hb d_Heights_heightsFit_31 (by decide) ?_
      refine pl_callVI X (rest := []) (As := [.ref p0, .int (nI 0), .int (nI 0)]) (b := e0) (c_Heights_reach_new l D cI cZ cL e0 e1 e2 g Qu 0 wf p0 p1 p2 np P K 0 0 hnp hp0 (hg 0 (by omega)) (by omega) (by omega)) ck_Heights_48 pl_E0_ok trivial hK hP hD hS hA (T := F_Heights) (N := N_Heights) (ci := 2) rfl 0 rfl [0, 1, 2, 3, 4, 5] [] [0, 1, 2, 3, 4, 5] rfl (by decide) (wr := []) rfl (by decide) (by decide) (wf := fun _ => [(e0, .inr (2, [.ref e1, .ref e2, .int (nI (0 + 1)), wf])), (e1, .inl (cI, 24, .inl (upd g 0 (nI 0)))), (e2, .inl (cI, 24, .inl (upd Qu 0 (nI 0)))), (p0, .inr (0, [.ref p1, .ref p2, .int (nI np)])), (p1, .inl (cI, 24, .inl P)), (p2, .inl (cI, 24, .inl K))]) (fun _ => rfl) (by decide) rfl hl.1 rfl (Nat.le_of_ble_eq_true rfl) (by decide) (by decide) d_Heights_heightsFit_32 (fun r u0 H locs hcq hP hD hS => ?_)
      subst hcq
      refine lv_pop hx hb d_Heights_heightsFit_35 rfl ?_
      refine lv_iconst (v := nI 0) hx hb d_Heights_heightsFit_36 (by decide) ?_
      refine lv_istore_n hx hb d_Heights_heightsFit_37 rfl hl (by decide) (lv' := [(2, .int (nI 0)), (0, .ref e0), (1, .ref p0)]) rfl (fun ls hl => ?_)
      have loop_38 : ∀ (k : Nat) (i : Nat) (F1 Qu1 : Nat → Int32) (qd1 : Nat) (H : Heap) (locs : List Loc) (ls : Array Slot), np - i = k → (i ≤ qd1) → (hInv P K np F1 Qu1 qd1) → (∀ a, a < i → ∀ j, j < np → Qu1 a = nI j → ∀ b, b ≤ 12 → F1 j = nI b → clo P K np F1 j b) → va_P D classes [(e0, .inr (2, [.ref e1, .ref e2, .int (nI qd1), wf])), (e1, .inl (cI, 24, .inl F1)), (e2, .inl (cI, 24, .inl Qu1)), (p0, .inr (0, [.ref p1, .ref p2, .int (nI np)])), (p1, .inl (cI, 24, .inl P)), (p2, .inl (cI, 24, .inl K))] H → va_D A [(e0, .inr (2, [.ref e1, .ref e2, .int (nI qd1), wf])), (e1, .inl (cI, 24, .inl F1)), (e2, .inl (cI, 24, .inl Qu1)), (p0, .inr (0, [.ref p1, .ref p2, .int (nI np)])), (p1, .inl (cI, 24, .inl P)), (p2, .inl (cI, 24, .inl K))] → va_S A s.heap H locs → lv_has ls 3 [(2, .int (nI i)), (0, .ref e0), (1, .ref p0)] → W p l e ({ frames := 2, cells := 0, slots := 0, locals := 48 } : Room) s m args below meth c H locs 0 0 (MQ below (va_Qi (fitP P K np) (fun u => pl_out D classes (TY cI cZ cL) A ((fun (u : HS) => [(e0, .inr (2, [.ref e1, .ref e2, .int (nI u.2.2.1), wf])), (e1, .inl (cI, 24, .inl u.1)), (e2, .inl (cI, 24, .inl u.2.1)), (p0, .inr (0, [.ref p1, .ref p2, .int (nI np)])), (p1, .inl (cI, 24, .inl P)), (p2, .inl (cI, 24, .inl K))]) u)) A) args s 0 0 A) (F0 m 38 ls []) := by
        intro k
        induction k using Nat.strongRecOn with
        | _ k ih =>
        intro i F1 Qu1 qd1 H locs ls hk hi1 hv1 hd1 hP hD hS hl
        have hqn := hv1.qn
        refine lv_iload_n hx hb d_Heights_heightsFit_38 rfl (lv_at hl 0 rfl) ?_
        refine lv_aload_n hx hb d_Heights_heightsFit_39 rfl (lv_at hl 1 rfl) ?_
        refine pl_get X fw_Heights_18 hK hP 0 rfl (v := .int (nI qd1)) rfl d_Heights_heightsFit_40 ?_
        refine pl_icmp_ge X (by omega) (by omega) d_Heights_heightsFit_43 rfl (fun g43 => ?_) (fun g43 => ?_)
        · skip
          refine lv_iconst (v := nI 1) hx hb d_Heights_heightsFit_76 (by decide) ?_
          exact pl_iret X hr hlk hK rfl (F1, Qu1, qd1, true) (fitP_t (hv1.done hp0 g43 hd1)) hP hD hS d_Heights_heightsFit_77
        · skip
          refine lv_iload_n hx hb d_Heights_heightsFit_46 rfl (lv_at hl 0 rfl) ?_
          refine lv_aload_n hx hb d_Heights_heightsFit_47 rfl (lv_at hl 2 rfl) ?_
          refine pl_get X fw_Heights_26 hK hP 3 rfl (v := .int (nI np)) rfl d_Heights_heightsFit_48 ?_
          refine pl_icmp_ge X (by omega) (by omega) d_Heights_heightsFit_51 rfl (fun g51 => ?_) (fun g51 => ?_)
          · skip
            exact absurd g51 (by omega)
          · skip
            obtain ⟨j, hj, hq1, hne⟩ := hv1.2.2.2.1 i g43
            obtain ⟨b0, hb0, hFj⟩ := hv1.lab hj hne
            refine lv_aload_n hx hb d_Heights_heightsFit_54 rfl (lv_at hl 1 rfl) ?_
            refine lv_aload_n hx hb d_Heights_heightsFit_55 rfl (lv_at hl 2 rfl) ?_
            refine lv_aload_n hx hb d_Heights_heightsFit_56 rfl (lv_at hl 1 rfl) ?_
            refine pl_get X fw_Heights_15 hK hP 0 rfl (v := .ref e2) rfl d_Heights_heightsFit_57 ?_
            refine lv_iload_n hx hb d_Heights_heightsFit_60 rfl (lv_at hl 0 rfl) ?_
            refine pl_iald X hK hP 2 0 rfl rfl i (by omega) (by decide) (z := nI j) hq1 d_Heights_heightsFit_61 ?_
            refine pl_callVI X (rest := []) (As := [.ref p0, .int (nI j)]) (b := e0) (c_Heights_waysOnFit l D cI cZ cL t1 t2 e0 e1 e2 F1 Qu1 qd1 wf p0 p1 p2 np P K j b0 hnp hop hok hv1 hj hb0 hFj) ck_Heights_52 (EV_ok t1 t2) (pl_pass (EV_ok t1 t2) hE hD hS hA [0, 1, 2, 3, 4, 5] rfl) hK hP hD hS hA (T := F_Heights) (N := N_Heights) (ci := 2) rfl 0 rfl [0, 1, 2, 3, 4, 5] [] [0, 1, 2, 3, 4, 5] rfl (by decide) (wr := []) rfl (by decide) (by decide) (wf := fun (u : HS) => [(e0, .inr (2, [.ref e1, .ref e2, .int (nI u.2.2.1), wf])), (e1, .inl (cI, 24, .inl u.1)), (e2, .inl (cI, 24, .inl u.2.1)), (p0, .inr (0, [.ref p1, .ref p2, .int (nI np)])), (p1, .inl (cI, 24, .inl P)), (p2, .inl (cI, 24, .inl K))]) (fun _ => rfl) (by decide) rfl hl.1 rfl (Nat.le_of_ble_eq_true rfl) (by decide) (by decide) d_Heights_heightsFit_62 (fun r u H locs hcq hP hD hS => ?_)
            obtain ⟨hcq, hw1, hw2, hw3, hw4, hw5⟩ := hcq
            subst hcq
            refine pl_ifB_ne X d_Heights_heightsFit_65 rfl (fun g65 => ?_) (fun g65 => ?_)
            · skip
              refine lv_iinc hx hb d_Heights_heightsFit_70 hl (k := 0) rfl (nI_inc1 _) (by decide) (lv' := [(2, .int (nI (i + 1))), (0, .ref e0), (1, .ref p0)]) rfl (fun ls hl => ?_)
              refine lv_goto hx hb d_Heights_heightsFit_73 rfl ?_
              exact ih _ (by omega) (i + 1) u.1 u.2.1 u.2.2.1 _ _ _ rfl (by have := hw3.1; omega) hw1 (fun a ha j2 hj2 q2 b2 hb2 e2 => by rcases Nat.lt_succ_iff_lt_or_eq.mp ha with q | q; (exact heights_old (by omega) hd1 hv1 hw2 hw3.2 (by omega) q hj2 q2 hb2 e2); (exact heights_now (by omega) hj hq1 (by rw [← hw3.2 i g43, ← q]; exact q2) hj2 hFj hw2 hb0 hb2 e2 (hw4 g65))) hP hD hS hl
            · skip
              refine lv_iconst (v := nI 0) hx hb d_Heights_heightsFit_68 (by decide) ?_
              exact pl_iret X hr hlk hK rfl (u.1, u.2.1, u.2.2.1, false) (fitP_f (hw5 g65)) hP hD hS d_Heights_heightsFit_69
      exact loop_38 _ 0 (upd g 0 (nI 0)) (upd Qu 0 (nI 0)) (0 + 1) _ _ _ rfl (Nat.zero_le _) (hInv.init hp0 (fun j hj => hg j (by omega))) (fun a ha => absurd ha (Nat.not_lt_zero a)) hP hD hS hl
    · skip
      refine lv_aload_n hx hb d_Heights_heightsFit_10 rfl (lv_at hl 1 rfl) ?_
      refine pl_get X fw_Heights_9 hK hP 0 rfl (v := .ref e1) rfl d_Heights_heightsFit_11 ?_
      refine lv_iload_n hx hb d_Heights_heightsFit_14 rfl (lv_at hl 0 rfl) ?_
      refine lv_iconst (v := -1) hx hb d_Heights_heightsFit_15 (by decide) ?_
      refine pl_iast X hK hP hD hS 1 0 rfl rfl i (by omega) (by decide) d_Heights_heightsFit_16 (ws' := [(e0, .inr (2, [.ref e1, .ref e2, .int (nI qd), wf])), (e1, .inl (cI, 24, .inl (upd g i (-1)))), (e2, .inl (cI, 24, .inl Qu)), (p0, .inr (0, [.ref p1, .ref p2, .int (nI np)])), (p1, .inl (cI, 24, .inl P)), (p2, .inl (cI, 24, .inl K))]) rfl (fun H locs hP hD hS => ?_)
      refine lv_iinc hx hb d_Heights_heightsFit_17 hl (k := 0) rfl (nI_inc1 _) (by decide) (lv' := [(2, .int (nI (i + 1))), (0, .ref e0), (1, .ref p0)]) rfl (fun ls hl => ?_)
      refine lv_goto hx hb d_Heights_heightsFit_20 rfl ?_
      exact ih _ (by omega) (i + 1) (upd g i (-1)) _ _ _ rfl (by omega) (fun j hj => by rcases Nat.lt_succ_iff_lt_or_eq.mp hj with q | q; (rw [upd_n (Nat.ne_of_lt q)]; exact hg j q); (rw [q]; exact upd_s)) hP hD hS hl
  exact loop_2 _ 0 F _ _ _ rfl (Nat.zero_le _) (fun j hj => absurd hj (Nat.not_lt_zero j)) hP hD hS hl

set_option maxHeartbeats 4000000 in
set_option maxRecDepth 100000 in
theorem c_Heights_examine (l : Launch) (D : va_G) (cI cZ cL : ClassId) (t1 t2 : Nat) (e0 e1 e2 : Nat) (F Qu : Nat → Int32) (qd : Nat) (wf : Value) (p0 p1 p2 np : Nat) (P K : Nat → Int32) (hnp : np ≤ 24) (hop : okP P np) : pl_V l y_Heights_examine b_Heights_examine 2 ({ frames := 3, cells := 0, slots := 0, locals := 70 } : Room) (EV t1 t2) D classes (TY cI cZ cL) [.ref e0, .ref p0] [(e0, .inr (2, [.ref e1, .ref e2, .int (nI qd), wf])), (e1, .inl (cI, 24, .inl F)), (e2, .inl (cI, 24, .inl Qu)), (p0, .inr (0, [.ref p1, .ref p2, .int (nI np)])), (p1, .inl (cI, 24, .inl P)), (p2, .inl (cI, 24, .inl K))] (exaP P K np) (fun (u : HS) => [(e0, .inr (2, [.ref e1, .ref e2, .int (nI u.2.2.1), .int (bI (u.2.2.2))])), (e1, .inl (cI, 24, .inl u.1)), (e2, .inl (cI, 24, .inl u.2.1)), (p0, .inr (0, [.ref p1, .ref p2, .int (nI np)])), (p1, .inl (cI, 24, .inl P)), (p2, .inl (cI, 24, .inl K))]) := by
  refine pl_startV (by decide) (Nat.le_of_ble_eq_true rfl) ?_
  intro p e s m args below meth c A ls X hr hlk hin hK hP hD hS hA hE hl
  have X : CallFix p m c b_Heights_examine 2 s args TG R_Heights := X
  have hx := X.1
  have hb := X.2.1
  have hl : lv_has ls 2 [(0, .ref e0), (1, .ref p0)] := hl
  refine lv_aload_n hx hb d_Heights_examine_0 rfl (lv_at hl 0 rfl) ?_
  refine lv_aload_n hx hb d_Heights_examine_1 rfl (lv_at hl 1 rfl) ?_
  refine pl_get X fw_Heights_26 hK hP 3 rfl (v := .int (nI np)) rfl d_Heights_examine_2 ?_
  refine pl_if_le X (by omega) d_Heights_examine_5 rfl (fun g5 => ?_) (fun g5 => ?_)
  · skip
    refine lv_iconst (v := nI 0) hx hb d_Heights_examine_27 (by decide) ?_
    refine pl_put X fw_Heights_22 fp_Heights rfl hK hP hD hS 0 rfl (v := .int (nI 0)) rfl rfl (Nat.le_of_ble_eq_true rfl) d_Heights_examine_28 (ws' := [(e0, .inr (2, [.ref e1, .ref e2, .int (nI qd), .int (nI 0)])), (e1, .inl (cI, 24, .inl F)), (e2, .inl (cI, 24, .inl Qu)), (p0, .inr (0, [.ref p1, .ref p2, .int (nI np)])), (p1, .inl (cI, 24, .inl P)), (p2, .inl (cI, 24, .inl K))]) rfl (fun H locs hP hD hS => ?_)
    exact pl_vret X hr hlk hK (F, Qu, qd, false) (exaP_f (fun q => q.2.elim (fun G g => absurd g.1 (by omega)))) hP hD hS d_Heights_examine_31
  · skip
    refine lv_aload_n hx hb d_Heights_examine_8 rfl (lv_at hl 1 rfl) ?_
    refine pl_callSI X (rest := [.ref e0]) (As := [.ref p0]) (c_Heights_numbersFit l D cI cZ cL p0 p1 p2 np P K hnp hop) ck_Heights_31 pl_E0_ok trivial hK hP hD hS hA [3, 4, 5] [0, 1, 2] [0, 1, 2, 3, 4, 5] rfl (by decide) (wr := [(e0, .inr (2, [.ref e1, .ref e2, .int (nI qd), wf])), (e1, .inl (cI, 24, .inl F)), (e2, .inl (cI, 24, .inl Qu))]) rfl (by decide) (by decide) (wf := fun (bn : Bool) => [(e0, .inr (2, [.ref e1, .ref e2, .int (nI qd), wf])), (e1, .inl (cI, 24, .inl F)), (e2, .inl (cI, 24, .inl Qu)), (p0, .inr (0, [.ref p1, .ref p2, .int (nI np)])), (p1, .inl (cI, 24, .inl P)), (p2, .inl (cI, 24, .inl K))]) (fun _ => rfl) (by decide) rfl hl.1 rfl (Nat.le_of_ble_eq_true rfl) (by decide) (by decide) d_Heights_examine_9 (fun r bn H locs hcq hP hD hS => ?_)
    obtain ⟨hcq, hnb⟩ := hcq
    subst hcq
    refine pl_ifB_eq X d_Heights_examine_12 rfl (fun g12 => ?_) (fun g12 => ?_)
    · skip
      refine lv_iconst (v := nI 0) hx hb d_Heights_examine_27 (by decide) ?_
      refine pl_put X fw_Heights_22 fp_Heights rfl hK hP hD hS 0 rfl (v := .int (nI 0)) rfl rfl (Nat.le_of_ble_eq_true rfl) d_Heights_examine_28 (ws' := [(e0, .inr (2, [.ref e1, .ref e2, .int (nI qd), .int (nI 0)])), (e1, .inl (cI, 24, .inl F)), (e2, .inl (cI, 24, .inl Qu)), (p0, .inr (0, [.ref p1, .ref p2, .int (nI np)])), (p1, .inl (cI, 24, .inl P)), (p2, .inl (cI, 24, .inl K))]) rfl (fun H locs hP hD hS => ?_)
      exact pl_vret X hr hlk hK (F, Qu, qd, false) (exaP_f (fun q => absurd (hnb.mpr q.1) (by rw [g12]; decide))) hP hD hS d_Heights_examine_31
    · skip
      refine lv_aload_n hx hb d_Heights_examine_15 rfl (lv_at hl 0 rfl) ?_
      refine lv_aload_n hx hb d_Heights_examine_16 rfl (lv_at hl 1 rfl) ?_
      refine pl_callVI X (rest := [.ref e0]) (As := [.ref p0]) (b := e0) (c_Heights_heightsFit l D cI cZ cL t1 t2 e0 e1 e2 F Qu qd wf p0 p1 p2 np P K hnp g5 hop (hnb.mp g12)) ck_Heights_35 (EV_ok t1 t2) (pl_pass (EV_ok t1 t2) hE hD hS hA [0, 1, 2, 3, 4, 5] rfl) hK hP hD hS hA (T := F_Heights) (N := N_Heights) (ci := 2) rfl 0 rfl [0, 1, 2, 3, 4, 5] [] [0, 1, 2, 3, 4, 5] rfl (by decide) (wr := []) rfl (by decide) (by decide) (wf := fun (u : HS) => [(e0, .inr (2, [.ref e1, .ref e2, .int (nI u.2.2.1), wf])), (e1, .inl (cI, 24, .inl u.1)), (e2, .inl (cI, 24, .inl u.2.1)), (p0, .inr (0, [.ref p1, .ref p2, .int (nI np)])), (p1, .inl (cI, 24, .inl P)), (p2, .inl (cI, 24, .inl K))]) (fun _ => rfl) (by decide) rfl hl.1 rfl (Nat.le_of_ble_eq_true rfl) (by decide) (by decide) d_Heights_examine_17 (fun r u H locs hcq hP hD hS => ?_)
      have hfit := hcq
      obtain ⟨hcq, -, -⟩ := hcq
      subst hcq
      refine pl_ifB_eq X d_Heights_examine_20 rfl (fun g20 => ?_) (fun g20 => ?_)
      · skip
        refine lv_iconst (v := nI 0) hx hb d_Heights_examine_27 (by decide) ?_
        refine pl_put X fw_Heights_22 fp_Heights rfl hK hP hD hS 0 rfl (v := .int (nI 0)) rfl rfl (Nat.le_of_ble_eq_true rfl) d_Heights_examine_28 (ws' := [(e0, .inr (2, [.ref e1, .ref e2, .int (nI u.2.2.1), .int (nI 0)])), (e1, .inl (cI, 24, .inl u.1)), (e2, .inl (cI, 24, .inl u.2.1)), (p0, .inr (0, [.ref p1, .ref p2, .int (nI np)])), (p1, .inl (cI, 24, .inl P)), (p2, .inl (cI, 24, .inl K))]) rfl (fun H locs hP hD hS => ?_)
        exact pl_vret X hr hlk hK (u.1, u.2.1, u.2.2.1, false) (exaP_f (fun q => q.2.elim (hfit.2.2 g20))) hP hD hS d_Heights_examine_31
      · skip
        refine lv_iconst (v := nI 1) hx hb d_Heights_examine_23 (by decide) ?_
        refine lv_goto hx hb d_Heights_examine_24 rfl ?_
        refine pl_put X fw_Heights_22 fp_Heights rfl hK hP hD hS 0 rfl (v := .int (nI 1)) rfl rfl (Nat.le_of_ble_eq_true rfl) d_Heights_examine_28 (ws' := [(e0, .inr (2, [.ref e1, .ref e2, .int (nI u.2.2.1), .int (nI 1)])), (e1, .inl (cI, 24, .inl u.1)), (e2, .inl (cI, 24, .inl u.2.1)), (p0, .inr (0, [.ref p1, .ref p2, .int (nI np)])), (p1, .inl (cI, 24, .inl P)), (p2, .inl (cI, 24, .inl K))]) rfl (fun H locs hP hD hS => ?_)
        exact pl_vret X hr hlk hK (u.1, u.2.1, u.2.2.1, true) (exaP_t ⟨hnb.mp g12, hfit.2.1 g20⟩) hP hD hS d_Heights_examine_31
