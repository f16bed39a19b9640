set_option maxHeartbeats 4000000 in
set_option maxRecDepth 100000 in
theorem c_Model_thrown (l : Launch) (D : va_G) (cI cZ cL : ClassId) (m0 o1 o2 o3 o4 o5 o6 o7 o8 o9 o10 o11 : Nat) (P K Hm ru lo hi tm sa ca ta tn : Nat → Int32) (fo1 fk1 : Int32) (co np n stat how pl la stt q dn : Nat)  : pl_I l y_Model_thrown b_Model_thrown 1 .int ({ frames := 0, cells := 0, slots := 0, locals := 0 } : Room) pl_E0 D classes (TY cI cZ cL) [.ref m0] [(m0, .inr (6, [.int (nI co), .int (nI np), .ref o1, .ref o2, .ref o3, .int (nI n), .ref o4, .ref o5, .ref o6, .ref o7, .int fo1, .int fk1, .int (nI stat), .int (nI how), .int (nI pl), .int (nI la), .int (nI stt), .int (nI q), .ref o8, .ref o9, .int (nI dn), .ref o10, .ref o11]))] (fun (r : Int32) (_ : Unit) => r = nI co) (fun (_ : Unit) => [(m0, .inr (6, [.int (nI co), .int (nI np), .ref o1, .ref o2, .ref o3, .int (nI n), .ref o4, .ref o5, .ref o6, .ref o7, .int fo1, .int fk1, .int (nI stat), .int (nI how), .int (nI pl), .int (nI la), .int (nI stt), .int (nI q), .ref o8, .ref o9, .int (nI dn), .ref o10, .ref o11]))]) := by
  refine pl_startI (by decide) (Nat.le_of_ble_eq_true rfl) ?_
  intro p e s m args below meth c A ls X hr hlk hin hK hP hD hS hA hE hl
  have X : CallFix p m c b_Model_thrown 1 s args TG R_Model := X
  have hx := X.1
  have hb := X.2.1
  have hl : lv_has ls 1 [(0, .ref m0)] := hl
  refine lv_aload_n hx hb d_Model_thrown_0 rfl (lv_at hl 0 rfl) ?_
  refine pl_get X fw_Model_48 hK hP 0 rfl (v := .int (nI co)) rfl d_Model_thrown_1 ?_
  exact pl_iret X hr hlk hK rfl () rfl hP hD hS d_Model_thrown_4

set_option maxHeartbeats 4000000 in
set_option maxRecDepth 100000 in
theorem c_Model_refuse (l : Launch) (D : va_G) (cI cZ cL : ClassId) (m0 o1 o2 o3 o4 o5 o6 o7 o8 o9 o10 o11 : Nat) (P K Hm ru lo hi tm sa ca ta tn : Nat → Int32) (fo1 fk1 : Int32) (co np n stat how pl la stt q dn : Nat) (j : Nat)  : pl_I l y_Model_refuse b_Model_refuse 2 .int ({ frames := 0, cells := 0, slots := 0, locals := 0 } : Room) pl_E0 D classes (TY cI cZ cL) [.ref m0, .int (nI j)] [(m0, .inr (6, [.int (nI co), .int (nI np), .ref o1, .ref o2, .ref o3, .int (nI n), .ref o4, .ref o5, .ref o6, .ref o7, .int fo1, .int fk1, .int (nI stat), .int (nI how), .int (nI pl), .int (nI la), .int (nI stt), .int (nI q), .ref o8, .ref o9, .int (nI dn), .ref o10, .ref o11]))] (fun (r : Int32) (_ : Unit) => r = nI 0) (fun (_ : Unit) => [(m0, .inr (6, [.int (nI j), .int (nI np), .ref o1, .ref o2, .ref o3, .int (nI n), .ref o4, .ref o5, .ref o6, .ref o7, .int fo1, .int fk1, .int (nI stat), .int (nI how), .int (nI pl), .int (nI la), .int (nI stt), .int (nI q), .ref o8, .ref o9, .int (nI dn), .ref o10, .ref o11]))]) := by
  refine pl_startI (by decide) (Nat.le_of_ble_eq_true rfl) ?_
  intro p e s m args below meth c A ls X hr hlk hin hK hP hD hS hA hE hl
  have X : CallFix p m c b_Model_refuse 2 s args TG R_Model := X
  have hx := X.1
  have hb := X.2.1
  have hl : lv_has ls 2 [(0, .ref m0), (1, .int (nI j))] := hl
  refine lv_aload_n hx hb d_Model_refuse_0 rfl (lv_at hl 0 rfl) ?_
  refine lv_iload_n hx hb d_Model_refuse_1 rfl (lv_at hl 1 rfl) ?_
  refine pl_put X fw_Model_48 fp_Model rfl hK hP hD hS 0 rfl (v := .int (nI j)) rfl rfl (Nat.le_of_ble_eq_true rfl) d_Model_refuse_2 (ws' := [(m0, .inr (6, [.int (nI j), .int (nI np), .ref o1, .ref o2, .ref o3, .int (nI n), .ref o4, .ref o5, .ref o6, .ref o7, .int fo1, .int fk1, .int (nI stat), .int (nI how), .int (nI pl), .int (nI la), .int (nI stt), .int (nI q), .ref o8, .ref o9, .int (nI dn), .ref o10, .ref o11]))]) rfl (fun H locs hP hD hS => ?_)
  refine lv_iconst (v := nI 0) hx hb d_Model_refuse_5 (by decide) ?_
  exact pl_iret X hr hlk hK rfl () rfl hP hD hS d_Model_refuse_6

set_option maxHeartbeats 4000000 in
set_option maxRecDepth 100000 in
theorem c_Model_code_1 (l : Launch) (D : va_G) (cI cZ cL : ClassId) (m0 o1 o2 o3 o4 o5 o6 o7 o8 o9 o10 o11 : Nat) (P K Hm ru lo hi tm sa ca ta tn : Nat → Int32) (fo1 fk1 : Int32) (co np n stat how pl la stt q dn : Nat) (x k : Int32) (hx13 : inB x 13 = false) : pl_I l y_Model_code b_Model_code 3 .int ({ frames := 1, cells := 0, slots := 0, locals := 21 } : Room) pl_E0 D classes (TY cI cZ cL) [.ref m0, .int x, .int k] [(m0, .inr (6, [.int (nI co), .int (nI np), .ref o1, .ref o2, .ref o3, .int (nI n), .ref o4, .ref o5, .ref o6, .ref o7, .int fo1, .int fk1, .int (nI stat), .int (nI how), .int (nI pl), .int (nI la), .int (nI stt), .int (nI q), .ref o8, .ref o9, .int (nI dn), .ref o10, .ref o11]))] (fun (r : Int32) (_ : Unit) => r = nI 0) (fun (_ : Unit) => [(m0, .inr (6, [.int (nI 1), .int (nI np), .ref o1, .ref o2, .ref o3, .int (nI n), .ref o4, .ref o5, .ref o6, .ref o7, .int fo1, .int fk1, .int (nI stat), .int (nI how), .int (nI pl), .int (nI la), .int (nI stt), .int (nI q), .ref o8, .ref o9, .int (nI dn), .ref o10, .ref o11]))]) := by
  refine pl_startI (by decide) (Nat.le_of_ble_eq_true rfl) ?_
  intro p e s m args below meth c A ls X hr hlk hin hK hP hD hS hA hE hl
  have X : CallFix p m c b_Model_code 3 s args TG R_Model := X
  have hx := X.1
  have hb := X.2.1
  have hl : lv_has ls 3 [(0, .ref m0), (1, .int x), (2, .int k)] := hl
  refine lv_aload_n hx hb d_Model_code_0 rfl (lv_at hl 0 rfl) ?_
  refine lv_iconst (v := nI 0) hx hb d_Model_code_1 (by decide) ?_
  refine pl_put X fw_Model_48 fp_Model rfl hK hP hD hS 0 rfl (v := .int (nI 0)) rfl rfl (Nat.le_of_ble_eq_true rfl) d_Model_code_2 (ws' := [(m0, .inr (6, [.int (nI 0), .int (nI np), .ref o1, .ref o2, .ref o3, .int (nI n), .ref o4, .ref o5, .ref o6, .ref o7, .int fo1, .int fk1, .int (nI stat), .int (nI how), .int (nI pl), .int (nI la), .int (nI stt), .int (nI q), .ref o8, .ref o9, .int (nI dn), .ref o10, .ref o11]))]) rfl (fun H locs hP hD hS => ?_)
  refine lv_iload_n hx hb d_Model_code_5 rfl (lv_at hl 1 rfl) ?_
  refine lv_if_lt hx hb d_Model_code_6 rfl (fun g6 => ?_) (fun g6 => ?_)
  · skip
    refine lv_aload_n hx hb d_Model_code_15 rfl (lv_at hl 0 rfl) ?_
    refine lv_iconst (v := nI 1) hx hb d_Model_code_16 (by decide) ?_
    refine pl_callVI X (rest := []) (As := [.int (nI 1)]) (b := m0) (c_Model_refuse l D cI cZ cL m0 o1 o2 o3 o4 o5 o6 o7 o8 o9 o10 o11 P K Hm ru lo hi tm sa ca ta tn fo1 fk1 0 np n stat how pl la stt q dn 1) ck_Model_51 pl_E0_ok trivial hK hP hD hS hA (T := F_Model) (N := N_Model) (ci := 6) rfl 0 rfl [0] [] [0] rfl (by decide) (wr := []) rfl (by decide) (by decide) (wf := fun _ => [(m0, .inr (6, [.int (nI 1), .int (nI np), .ref o1, .ref o2, .ref o3, .int (nI n), .ref o4, .ref o5, .ref o6, .ref o7, .int fo1, .int fk1, .int (nI stat), .int (nI how), .int (nI pl), .int (nI la), .int (nI stt), .int (nI q), .ref o8, .ref o9, .int (nI dn), .ref o10, .ref o11]))]) (fun _ => rfl) (by decide) rfl hl.1 rfl (Nat.le_of_ble_eq_true rfl) (by decide) (by decide) d_Model_code_17 (fun r u0 H locs hcq hP hD hS => ?_)
    subst hcq
    exact pl_iret X hr hlk hK rfl () rfl hP hD hS d_Model_code_20
  · skip
    refine lv_iload_n hx hb d_Model_code_9 rfl (lv_at hl 1 rfl) ?_
    refine lv_bipush (v := nI 12) hx hb d_Model_code_10 (by decide) ?_
    refine lv_icmp_le hx hb d_Model_code_12 rfl (fun g12 => ?_) (fun g12 => ?_)
    · skip
      exact absurd (inB_le_t (by omega) g6 g12) (by rw [hx13]; decide)
    · skip
      refine lv_aload_n hx hb d_Model_code_15 rfl (lv_at hl 0 rfl) ?_
      refine lv_iconst (v := nI 1) hx hb d_Model_code_16 (by decide) ?_
      refine pl_callVI X (rest := []) (As := [.int (nI 1)]) (b := m0) (c_Model_refuse l D cI cZ cL m0 o1 o2 o3 o4 o5 o6 o7 o8 o9 o10 o11 P K Hm ru lo hi tm sa ca ta tn fo1 fk1 0 np n stat how pl la stt q dn 1) ck_Model_51 pl_E0_ok trivial hK hP hD hS hA (T := F_Model) (N := N_Model) (ci := 6) rfl 0 rfl [0] [] [0] rfl (by decide) (wr := []) rfl (by decide) (by decide) (wf := fun _ => [(m0, .inr (6, [.int (nI 1), .int (nI np), .ref o1, .ref o2, .ref o3, .int (nI n), .ref o4, .ref o5, .ref o6, .ref o7, .int fo1, .int fk1, .int (nI stat), .int (nI how), .int (nI pl), .int (nI la), .int (nI stt), .int (nI q), .ref o8, .ref o9, .int (nI dn), .ref o10, .ref o11]))]) (fun _ => rfl) (by decide) rfl hl.1 rfl (Nat.le_of_ble_eq_true rfl) (by decide) (by decide) d_Model_code_17 (fun r u0 H locs hcq hP hD hS => ?_)
      subst hcq
      exact pl_iret X hr hlk hK rfl () rfl hP hD hS d_Model_code_20

set_option maxHeartbeats 4000000 in
set_option maxRecDepth 100000 in
theorem c_Model_code_2 (l : Launch) (D : va_G) (cI cZ cL : ClassId) (m0 o1 o2 o3 o4 o5 o6 o7 o8 o9 o10 o11 : Nat) (P K Hm ru lo hi tm sa ca ta tn : Nat → Int32) (fo1 fk1 : Int32) (co np n stat how pl la stt q dn : Nat) (x k : Int32) (hx13 : inB x 13 = true) (hnp : np = 24) : pl_I l y_Model_code b_Model_code 3 .int ({ frames := 1, cells := 0, slots := 0, locals := 21 } : Room) pl_E0 D classes (TY cI cZ cL) [.ref m0, .int x, .int k] [(m0, .inr (6, [.int (nI co), .int (nI np), .ref o1, .ref o2, .ref o3, .int (nI n), .ref o4, .ref o5, .ref o6, .ref o7, .int fo1, .int fk1, .int (nI stat), .int (nI how), .int (nI pl), .int (nI la), .int (nI stt), .int (nI q), .ref o8, .ref o9, .int (nI dn), .ref o10, .ref o11]))] (fun (r : Int32) (_ : Unit) => r = nI 0) (fun (_ : Unit) => [(m0, .inr (6, [.int (nI 2), .int (nI np), .ref o1, .ref o2, .ref o3, .int (nI n), .ref o4, .ref o5, .ref o6, .ref o7, .int fo1, .int fk1, .int (nI stat), .int (nI how), .int (nI pl), .int (nI la), .int (nI stt), .int (nI q), .ref o8, .ref o9, .int (nI dn), .ref o10, .ref o11]))]) := by
  refine pl_startI (by decide) (Nat.le_of_ble_eq_true rfl) ?_
  intro p e s m args below meth c A ls X hr hlk hin hK hP hD hS hA hE hl
  have X : CallFix p m c b_Model_code 3 s args TG R_Model := X
  have hx := X.1
  have hb := X.2.1
  have hl : lv_has ls 3 [(0, .ref m0), (1, .int x), (2, .int k)] := hl
  refine lv_aload_n hx hb d_Model_code_0 rfl (lv_at hl 0 rfl) ?_
  refine lv_iconst (v := nI 0) hx hb d_Model_code_1 (by decide) ?_
  refine pl_put X fw_Model_48 fp_Model rfl hK hP hD hS 0 rfl (v := .int (nI 0)) rfl rfl (Nat.le_of_ble_eq_true rfl) d_Model_code_2 (ws' := [(m0, .inr (6, [.int (nI 0), .int (nI np), .ref o1, .ref o2, .ref o3, .int (nI n), .ref o4, .ref o5, .ref o6, .ref o7, .int fo1, .int fk1, .int (nI stat), .int (nI how), .int (nI pl), .int (nI la), .int (nI stt), .int (nI q), .ref o8, .ref o9, .int (nI dn), .ref o10, .ref o11]))]) rfl (fun H locs hP hD hS => ?_)
  refine lv_iload_n hx hb d_Model_code_5 rfl (lv_at hl 1 rfl) ?_
  refine lv_if_lt hx hb d_Model_code_6 rfl (fun g6 => ?_) (fun g6 => ?_)
  · skip
    exact absurd (inB_lo (n := 13) g6) (by rw [hx13]; decide)
  · skip
    refine lv_iload_n hx hb d_Model_code_9 rfl (lv_at hl 1 rfl) ?_
    refine lv_bipush (v := nI 12) hx hb d_Model_code_10 (by decide) ?_
    refine lv_icmp_le hx hb d_Model_code_12 rfl (fun g12 => ?_) (fun g12 => ?_)
    · skip
      refine lv_aload_n hx hb d_Model_code_21 rfl (lv_at hl 0 rfl) ?_
      refine pl_get X fw_Model_55 hK hP 0 rfl (v := .int (nI np)) rfl d_Model_code_22 ?_
      refine lv_bipush (v := nI 24) hx hb d_Model_code_25 (by decide) ?_
      refine pl_icmp_ne X (by omega) (by decide) d_Model_code_27 rfl (fun g27 => ?_) (fun g27 => ?_)
      · skip
        exact absurd hnp g27
      · skip
        refine lv_aload_n hx hb d_Model_code_30 rfl (lv_at hl 0 rfl) ?_
        refine lv_iconst (v := nI 2) hx hb d_Model_code_31 (by decide) ?_
        refine pl_callVI X (rest := []) (As := [.int (nI 2)]) (b := m0) (c_Model_refuse l D cI cZ cL m0 o1 o2 o3 o4 o5 o6 o7 o8 o9 o10 o11 P K Hm ru lo hi tm sa ca ta tn fo1 fk1 0 np n stat how pl la stt q dn 2) ck_Model_51 pl_E0_ok trivial hK hP hD hS hA (T := F_Model) (N := N_Model) (ci := 6) rfl 0 rfl [0] [] [0] rfl (by decide) (wr := []) rfl (by decide) (by decide) (wf := fun _ => [(m0, .inr (6, [.int (nI 2), .int (nI np), .ref o1, .ref o2, .ref o3, .int (nI n), .ref o4, .ref o5, .ref o6, .ref o7, .int fo1, .int fk1, .int (nI stat), .int (nI how), .int (nI pl), .int (nI la), .int (nI stt), .int (nI q), .ref o8, .ref o9, .int (nI dn), .ref o10, .ref o11]))]) (fun _ => rfl) (by decide) rfl hl.1 rfl (Nat.le_of_ble_eq_true rfl) (by decide) (by decide) d_Model_code_32 (fun r u0 H locs hcq hP hD hS => ?_)
        subst hcq
        exact pl_iret X hr hlk hK rfl () rfl hP hD hS d_Model_code_35
    · skip
      exact absurd (inB_le_f (m := 12) (by omega) g12) (by rw [hx13]; decide)

set_option maxHeartbeats 4000000 in
set_option maxRecDepth 100000 in
theorem c_Model_code_0 (l : Launch) (D : va_G) (cI cZ cL : ClassId) (m0 o1 o2 o3 o4 o5 o6 o7 o8 o9 o10 o11 : Nat) (P K Hm ru lo hi tm sa ca ta tn : Nat → Int32) (fo1 fk1 : Int32) (co np n stat how pl la stt q dn : Nat) (x k : Int32) (hx13 : inB x 13 = true) (hnp : np < 24) : pl_I l y_Model_code b_Model_code 3 .int ({ frames := 1, cells := 0, slots := 0, locals := 21 } : Room) pl_E0 D classes (TY cI cZ cL) [.ref m0, .int x, .int k] [(m0, .inr (6, [.int (nI co), .int (nI np), .ref o1, .ref o2, .ref o3, .int (nI n), .ref o4, .ref o5, .ref o6, .ref o7, .int fo1, .int fk1, .int (nI stat), .int (nI how), .int (nI pl), .int (nI la), .int (nI stt), .int (nI q), .ref o8, .ref o9, .int (nI dn), .ref o10, .ref o11])), (o1, .inl (cI, 24, .inl P)), (o2, .inl (cI, 24, .inl K))] (fun (r : Int32) (_ : Unit) => r = nI np) (fun (_ : Unit) => [(m0, .inr (6, [.int (nI 0), .int (nI (np + 1)), .ref o1, .ref o2, .ref o3, .int (nI n), .ref o4, .ref o5, .ref o6, .ref o7, .int fo1, .int fk1, .int (nI 0), .int (nI how), .int (nI pl), .int (nI la), .int (nI stt), .int (nI q), .ref o8, .ref o9, .int (nI dn), .ref o10, .ref o11])), (o1, .inl (cI, 24, .inl (upd P np x))), (o2, .inl (cI, 24, .inl (upd K np k)))]) := by
  refine pl_startI (by decide) (Nat.le_of_ble_eq_true rfl) ?_
  intro p e s m args below meth c A ls X hr hlk hin hK hP hD hS hA hE hl
  have X : CallFix p m c b_Model_code 3 s args TG R_Model := X
  have hx := X.1
  have hb := X.2.1
  have hl : lv_has ls 3 [(0, .ref m0), (1, .int x), (2, .int k)] := hl
  refine lv_aload_n hx hb d_Model_code_0 rfl (lv_at hl 0 rfl) ?_
  refine lv_iconst (v := nI 0) hx hb d_Model_code_1 (by decide) ?_
  refine pl_put X fw_Model_48 fp_Model rfl hK hP hD hS 0 rfl (v := .int (nI 0)) rfl rfl (Nat.le_of_ble_eq_true rfl) d_Model_code_2 (ws' := [(m0, .inr (6, [.int (nI 0), .int (nI np), .ref o1, .ref o2, .ref o3, .int (nI n), .ref o4, .ref o5, .ref o6, .ref o7, .int fo1, .int fk1, .int (nI stat), .int (nI how), .int (nI pl), .int (nI la), .int (nI stt), .int (nI q), .ref o8, .ref o9, .int (nI dn), .ref o10, .ref o11])), (o1, .inl (cI, 24, .inl P)), (o2, .inl (cI, 24, .inl K))]) rfl (fun H locs hP hD hS => ?_)
  refine lv_iload_n hx hb d_Model_code_5 rfl (lv_at hl 1 rfl) ?_
  refine lv_if_lt hx hb d_Model_code_6 rfl (fun g6 => ?_) (fun g6 => ?_)
  · skip
    exact absurd (inB_lo (n := 13) g6) (by rw [hx13]; decide)
  · skip
    refine lv_iload_n hx hb d_Model_code_9 rfl (lv_at hl 1 rfl) ?_
    refine lv_bipush (v := nI 12) hx hb d_Model_code_10 (by decide) ?_
    refine lv_icmp_le hx hb d_Model_code_12 rfl (fun g12 => ?_) (fun g12 => ?_)
    · skip
      refine lv_aload_n hx hb d_Model_code_21 rfl (lv_at hl 0 rfl) ?_
      refine pl_get X fw_Model_55 hK hP 0 rfl (v := .int (nI np)) rfl d_Model_code_22 ?_
      refine lv_bipush (v := nI 24) hx hb d_Model_code_25 (by decide) ?_
      refine pl_icmp_ne X (by omega) (by decide) d_Model_code_27 rfl (fun g27 => ?_) (fun g27 => ?_)
      · skip
        refine lv_aload_n hx hb d_Model_code_36 rfl (lv_at hl 0 rfl) ?_
        refine pl_get X fw_Model_7 hK hP 0 rfl (v := .ref o1) rfl d_Model_code_37 ?_
        refine lv_aload_n hx hb d_Model_code_40 rfl (lv_at hl 0 rfl) ?_
        refine pl_get X fw_Model_55 hK hP 0 rfl (v := .int (nI np)) rfl d_Model_code_41 ?_
        refine lv_iload_n hx hb d_Model_code_44 rfl (lv_at hl 1 rfl) ?_
        refine pl_iast X hK hP hD hS 1 0 rfl rfl np (by omega) (by decide) d_Model_code_45 (ws' := [(m0, .inr (6, [.int (nI 0), .int (nI np), .ref o1, .ref o2, .ref o3, .int (nI n), .ref o4, .ref o5, .ref o6, .ref o7, .int fo1, .int fk1, .int (nI stat), .int (nI how), .int (nI pl), .int (nI la), .int (nI stt), .int (nI q), .ref o8, .ref o9, .int (nI dn), .ref o10, .ref o11])), (o1, .inl (cI, 24, .inl (upd P np x))), (o2, .inl (cI, 24, .inl K))]) rfl (fun H locs hP hD hS => ?_)
        refine lv_aload_n hx hb d_Model_code_46 rfl (lv_at hl 0 rfl) ?_
        refine pl_get X fw_Model_13 hK hP 0 rfl (v := .ref o2) rfl d_Model_code_47 ?_
        refine lv_aload_n hx hb d_Model_code_50 rfl (lv_at hl 0 rfl) ?_
        refine pl_get X fw_Model_55 hK hP 0 rfl (v := .int (nI np)) rfl d_Model_code_51 ?_
        refine lv_iload_n hx hb d_Model_code_54 rfl (lv_at hl 2 rfl) ?_
        refine pl_iast X hK hP hD hS 2 0 rfl rfl np (by omega) (by decide) d_Model_code_55 (ws' := [(m0, .inr (6, [.int (nI 0), .int (nI np), .ref o1, .ref o2, .ref o3, .int (nI n), .ref o4, .ref o5, .ref o6, .ref o7, .int fo1, .int fk1, .int (nI stat), .int (nI how), .int (nI pl), .int (nI la), .int (nI stt), .int (nI q), .ref o8, .ref o9, .int (nI dn), .ref o10, .ref o11])), (o1, .inl (cI, 24, .inl (upd P np x))), (o2, .inl (cI, 24, .inl (upd K np k)))]) rfl (fun H locs hP hD hS => ?_)
        refine lv_aload_n hx hb d_Model_code_56 rfl (lv_at hl 0 rfl) ?_
        refine lv_dup hx hb d_Model_code_57 rfl ?_
        refine pl_get X fw_Model_55 hK hP 0 rfl (v := .int (nI np)) rfl d_Model_code_58 ?_
        refine lv_iconst (v := nI 1) hx hb d_Model_code_61 (by decide) ?_
        refine pl_iadd X d_Model_code_62 (z := nI (np + 1)) (nI_add _ _) ?_
        refine pl_put X fw_Model_55 fp_Model rfl hK hP hD hS 0 rfl (v := .int (nI (np + 1))) rfl rfl (Nat.le_of_ble_eq_true rfl) d_Model_code_63 (ws' := [(m0, .inr (6, [.int (nI 0), .int (nI (np + 1)), .ref o1, .ref o2, .ref o3, .int (nI n), .ref o4, .ref o5, .ref o6, .ref o7, .int fo1, .int fk1, .int (nI stat), .int (nI how), .int (nI pl), .int (nI la), .int (nI stt), .int (nI q), .ref o8, .ref o9, .int (nI dn), .ref o10, .ref o11])), (o1, .inl (cI, 24, .inl (upd P np x))), (o2, .inl (cI, 24, .inl (upd K np k)))]) rfl (fun H locs hP hD hS => ?_)
        refine lv_aload_n hx hb d_Model_code_66 rfl (lv_at hl 0 rfl) ?_
        refine lv_iconst (v := nI 0) hx hb d_Model_code_67 (by decide) ?_
        refine pl_put X fw_Model_58 fp_Model rfl hK hP hD hS 0 rfl (v := .int (nI 0)) rfl rfl (Nat.le_of_ble_eq_true rfl) d_Model_code_68 (ws' := [(m0, .inr (6, [.int (nI 0), .int (nI (np + 1)), .ref o1, .ref o2, .ref o3, .int (nI n), .ref o4, .ref o5, .ref o6, .ref o7, .int fo1, .int fk1, .int (nI 0), .int (nI how), .int (nI pl), .int (nI la), .int (nI stt), .int (nI q), .ref o8, .ref o9, .int (nI dn), .ref o10, .ref o11])), (o1, .inl (cI, 24, .inl (upd P np x))), (o2, .inl (cI, 24, .inl (upd K np k)))]) rfl (fun H locs hP hD hS => ?_)
        refine lv_aload_n hx hb d_Model_code_71 rfl (lv_at hl 0 rfl) ?_
        refine pl_get X fw_Model_55 hK hP 0 rfl (v := .int (nI (np + 1))) rfl d_Model_code_72 ?_
        refine lv_iconst (v := nI 1) hx hb d_Model_code_75 (by decide) ?_
        refine pl_isub X d_Model_code_76 (z := nI np) (nI_dec _) ?_
        exact pl_iret X hr hlk hK rfl () rfl hP hD hS d_Model_code_77
      · skip
        exact absurd g27 (by omega)
    · skip
      exact absurd (inB_le_f (m := 12) (by omega) g12) (by rw [hx13]; decide)

set_option maxHeartbeats 4000000 in
set_option maxRecDepth 100000 in
theorem c_Model_clear (l : Launch) (D : va_G) (cI cZ cL : ClassId) (m0 o1 o2 o3 o4 o5 o6 o7 o8 o9 o10 o11 : Nat) (P K Hm ru lo hi tm sa ca ta tn : Nat → Int32) (fo1 fk1 : Int32) (co np n stat how pl la stt q dn : Nat)  : pl_V l y_Model_clear b_Model_clear 1 ({ frames := 0, cells := 0, slots := 0, locals := 0 } : Room) pl_E0 D classes (TY cI cZ cL) [.ref m0] [(m0, .inr (6, [.int (nI co), .int (nI np), .ref o1, .ref o2, .ref o3, .int (nI n), .ref o4, .ref o5, .ref o6, .ref o7, .int fo1, .int fk1, .int (nI stat), .int (nI how), .int (nI pl), .int (nI la), .int (nI stt), .int (nI q), .ref o8, .ref o9, .int (nI dn), .ref o10, .ref o11]))] (fun _ : Unit => True) (fun (_ : Unit) => [(m0, .inr (6, [.int (nI 0), .int (nI 0), .ref o1, .ref o2, .ref o3, .int (nI n), .ref o4, .ref o5, .ref o6, .ref o7, .int fo1, .int fk1, .int (nI 0), .int (nI how), .int (nI pl), .int (nI la), .int (nI stt), .int (nI q), .ref o8, .ref o9, .int (nI dn), .ref o10, .ref o11]))]) := by
  refine pl_startV (by decide) (Nat.le_of_ble_eq_true rfl) ?_
  intro p e s m args below meth c A ls X hr hlk hin hK hP hD hS hA hE hl
  have X : CallFix p m c b_Model_clear 1 s args TG R_Model := X
  have hx := X.1
  have hb := X.2.1
  have hl : lv_has ls 1 [(0, .ref m0)] := hl
  refine lv_aload_n hx hb d_Model_clear_0 rfl (lv_at hl 0 rfl) ?_
  refine lv_iconst (v := nI 0) hx hb d_Model_clear_1 (by decide) ?_
  refine pl_put X fw_Model_48 fp_Model rfl hK hP hD hS 0 rfl (v := .int (nI 0)) rfl rfl (Nat.le_of_ble_eq_true rfl) d_Model_clear_2 (ws' := [(m0, .inr (6, [.int (nI 0), .int (nI np), .ref o1, .ref o2, .ref o3, .int (nI n), .ref o4, .ref o5, .ref o6, .ref o7, .int fo1, .int fk1, .int (nI stat), .int (nI how), .int (nI pl), .int (nI la), .int (nI stt), .int (nI q), .ref o8, .ref o9, .int (nI dn), .ref o10, .ref o11]))]) rfl (fun H locs hP hD hS => ?_)
  refine lv_aload_n hx hb d_Model_clear_5 rfl (lv_at hl 0 rfl) ?_
  refine lv_iconst (v := nI 0) hx hb d_Model_clear_6 (by decide) ?_
  refine pl_put X fw_Model_55 fp_Model rfl hK hP hD hS 0 rfl (v := .int (nI 0)) rfl rfl (Nat.le_of_ble_eq_true rfl) d_Model_clear_7 (ws' := [(m0, .inr (6, [.int (nI 0), .int (nI 0), .ref o1, .ref o2, .ref o3, .int (nI n), .ref o4, .ref o5, .ref o6, .ref o7, .int fo1, .int fk1, .int (nI stat), .int (nI how), .int (nI pl), .int (nI la), .int (nI stt), .int (nI q), .ref o8, .ref o9, .int (nI dn), .ref o10, .ref o11]))]) rfl (fun H locs hP hD hS => ?_)
  refine lv_aload_n hx hb d_Model_clear_10 rfl (lv_at hl 0 rfl) ?_
  refine lv_iconst (v := nI 0) hx hb d_Model_clear_11 (by decide) ?_
  refine pl_put X fw_Model_58 fp_Model rfl hK hP hD hS 0 rfl (v := .int (nI 0)) rfl rfl (Nat.le_of_ble_eq_true rfl) d_Model_clear_12 (ws' := [(m0, .inr (6, [.int (nI 0), .int (nI 0), .ref o1, .ref o2, .ref o3, .int (nI n), .ref o4, .ref o5, .ref o6, .ref o7, .int fo1, .int fk1, .int (nI 0), .int (nI how), .int (nI pl), .int (nI la), .int (nI stt), .int (nI q), .ref o8, .ref o9, .int (nI dn), .ref o10, .ref o11]))]) rfl (fun H locs hP hD hS => ?_)
  exact pl_vret X hr hlk hK () trivial hP hD hS d_Model_clear_15

set_option maxHeartbeats 4000000 in
set_option maxRecDepth 100000 in
theorem c_Model_states_1 (l : Launch) (D : va_G) (cI cZ cL : ClassId) (m0 o1 o2 o3 o4 o5 o6 o7 o8 o9 o10 o11 : Nat) (P K Hm ru lo hi tm sa ca ta tn : Nat → Int32) (fo1 fk1 : Int32) (co np n stat how pl la stt q dn : Nat) (x : Int32) (hx14 : in14 x = false) : pl_V l y_Model_states b_Model_states 3 ({ frames := 0, cells := 0, slots := 0, locals := 0 } : Room) pl_E0 D classes (TY cI cZ cL) [.ref m0, .int x] [(m0, .inr (6, [.int (nI co), .int (nI np), .ref o1, .ref o2, .ref o3, .int (nI n), .ref o4, .ref o5, .ref o6, .ref o7, .int fo1, .int fk1, .int (nI stat), .int (nI how), .int (nI pl), .int (nI la), .int (nI stt), .int (nI q), .ref o8, .ref o9, .int (nI dn), .ref o10, .ref o11]))] (fun _ : Unit => True) (fun (_ : Unit) => [(m0, .inr (6, [.int (nI 1), .int (nI np), .ref o1, .ref o2, .ref o3, .int (nI n), .ref o4, .ref o5, .ref o6, .ref o7, .int fo1, .int fk1, .int (nI stat), .int (nI how), .int (nI pl), .int (nI la), .int (nI stt), .int (nI q), .ref o8, .ref o9, .int (nI dn), .ref o10, .ref o11]))]) := by
  refine pl_startV (by decide) (Nat.le_of_ble_eq_true rfl) ?_
  intro p e s m args below meth c A ls X hr hlk hin hK hP hD hS hA hE hl
  have X : CallFix p m c b_Model_states 3 s args TG R_Model := X
  have hx := X.1
  have hb := X.2.1
  have hl : lv_has ls 3 [(0, .ref m0), (1, .int x)] := hl
  refine lv_aload_n hx hb d_Model_states_0 rfl (lv_at hl 0 rfl) ?_
  refine lv_iload_n hx hb d_Model_states_1 rfl (lv_at hl 1 rfl) ?_
  refine lv_iconst (v := nI 1) hx hb d_Model_states_2 (by decide) ?_
  refine lv_icmp_lt hx hb d_Model_states_3 rfl (fun g3 => ?_) (fun g3 => ?_)
  · skip
    refine lv_iconst (v := nI 1) hx hb d_Model_states_11 (by decide) ?_
    refine lv_goto hx hb d_Model_states_12 rfl ?_
    refine pl_put X fw_Model_48 fp_Model rfl hK hP hD hS 0 rfl (v := .int (nI 1)) rfl rfl (Nat.le_of_ble_eq_true rfl) d_Model_states_16 (ws' := [(m0, .inr (6, [.int (nI 1), .int (nI np), .ref o1, .ref o2, .ref o3, .int (nI n), .ref o4, .ref o5, .ref o6, .ref o7, .int fo1, .int fk1, .int (nI stat), .int (nI how), .int (nI pl), .int (nI la), .int (nI stt), .int (nI q), .ref o8, .ref o9, .int (nI dn), .ref o10, .ref o11]))]) rfl (fun H locs hP hD hS => ?_)
    refine lv_aload_n hx hb d_Model_states_19 rfl (lv_at hl 0 rfl) ?_
    refine pl_get X fw_Model_48 hK hP 0 rfl (v := .int (nI 1)) rfl d_Model_states_20 ?_
    refine pl_if_le X (by decide) d_Model_states_23 rfl (fun gL => ?_) (fun gL => ?_)
    · skip
      exact absurd gL (by decide)
    · skip
      exact pl_vret X hr hlk hK () trivial hP hD hS d_Model_states_26
  · skip
    refine lv_iload_n hx hb d_Model_states_6 rfl (lv_at hl 1 rfl) ?_
    refine lv_iconst (v := nI 4) hx hb d_Model_states_7 (by decide) ?_
    refine lv_icmp_le hx hb d_Model_states_8 rfl (fun g8 => ?_) (fun g8 => ?_)
    · skip
      exact absurd (in14_in g3 g8) (by rw [hx14]; decide)
    · skip
      refine lv_iconst (v := nI 1) hx hb d_Model_states_11 (by decide) ?_
      refine lv_goto hx hb d_Model_states_12 rfl ?_
      refine pl_put X fw_Model_48 fp_Model rfl hK hP hD hS 0 rfl (v := .int (nI 1)) rfl rfl (Nat.le_of_ble_eq_true rfl) d_Model_states_16 (ws' := [(m0, .inr (6, [.int (nI 1), .int (nI np), .ref o1, .ref o2, .ref o3, .int (nI n), .ref o4, .ref o5, .ref o6, .ref o7, .int fo1, .int fk1, .int (nI stat), .int (nI how), .int (nI pl), .int (nI la), .int (nI stt), .int (nI q), .ref o8, .ref o9, .int (nI dn), .ref o10, .ref o11]))]) rfl (fun H locs hP hD hS => ?_)
      refine lv_aload_n hx hb d_Model_states_19 rfl (lv_at hl 0 rfl) ?_
      refine pl_get X fw_Model_48 hK hP 0 rfl (v := .int (nI 1)) rfl d_Model_states_20 ?_
      refine pl_if_le X (by decide) d_Model_states_23 rfl (fun gL => ?_) (fun gL => ?_)
      · skip
        exact absurd gL (by decide)
      · skip
        exact pl_vret X hr hlk hK () trivial hP hD hS d_Model_states_26

set_option maxHeartbeats 4000000 in
set_option maxRecDepth 100000 in
theorem c_Model_states_0 (l : Launch) (D : va_G) (cI cZ cL : ClassId) (m0 o1 o2 o3 o4 o5 o6 o7 o8 o9 o10 o11 : Nat) (P K Hm ru lo hi tm sa ca ta tn : Nat → Int32) (fo1 fk1 : Int32) (co np n stat how pl la stt q dn : Nat) (j : Nat) (hj1 : 1 ≤ j) (hj4 : j ≤ 4) : pl_V l y_Model_states b_Model_states 3 ({ frames := 0, cells := 0, slots := 0, locals := 0 } : Room) pl_E0 D classes (TY cI cZ cL) [.ref m0, .int (nI j)] [(m0, .inr (6, [.int (nI co), .int (nI np), .ref o1, .ref o2, .ref o3, .int (nI n), .ref o4, .ref o5, .ref o6, .ref o7, .int fo1, .int fk1, .int (nI stat), .int (nI how), .int (nI pl), .int (nI la), .int (nI stt), .int (nI q), .ref o8, .ref o9, .int (nI dn), .ref o10, .ref o11])), (o4, .inl (cZ, 32, .inl ru))] (fun _ : Unit => True) (fun (_ : Unit) => [(m0, .inr (6, [.int (nI 0), .int (nI np), .ref o1, .ref o2, .ref o3, .int (nI j), .ref o4, .ref o5, .ref o6, .ref o7, .int fo1, .int fk1, .int (nI 0), .int (nI how), .int (nI pl), .int (nI la), .int (nI stt), .int (nI q), .ref o8, .ref o9, .int (nI dn), .ref o10, .ref o11])), (o4, .inl (cZ, 32, .inl (fun _ => nI 0)))]) := by
  refine pl_startV (by decide) (Nat.le_of_ble_eq_true rfl) ?_
  intro p e s m args below meth c A ls X hr hlk hin hK hP hD hS hA hE hl
  have X : CallFix p m c b_Model_states 3 s args TG R_Model := X
  have hx := X.1
  have hb := X.2.1
  have hl : lv_has ls 3 [(0, .ref m0), (1, .int (nI j))] := hl
  refine lv_aload_n hx hb d_Model_states_0 rfl (lv_at hl 0 rfl) ?_
  refine lv_iload_n hx hb d_Model_states_1 rfl (lv_at hl 1 rfl) ?_
  refine lv_iconst (v := nI 1) hx hb d_Model_states_2 (by decide) ?_
  refine pl_icmp_lt X (by omega) (by decide) d_Model_states_3 rfl (fun g3 => ?_) (fun g3 => ?_)
  · skip
    exact absurd g3 (by omega)
  · skip
    refine lv_iload_n hx hb d_Model_states_6 rfl (lv_at hl 1 rfl) ?_
    refine lv_iconst (v := nI 4) hx hb d_Model_states_7 (by decide) ?_
    refine pl_icmp_le X (by omega) (by decide) d_Model_states_8 rfl (fun g8 => ?_) (fun g8 => ?_)
    · skip
      refine lv_iconst (v := nI 0) hx hb d_Model_states_15 (by decide) ?_
      refine pl_put X fw_Model_48 fp_Model rfl hK hP hD hS 0 rfl (v := .int (nI 0)) rfl rfl (Nat.le_of_ble_eq_true rfl) d_Model_states_16 (ws' := [(m0, .inr (6, [.int (nI 0), .int (nI np), .ref o1, .ref o2, .ref o3, .int (nI n), .ref o4, .ref o5, .ref o6, .ref o7, .int fo1, .int fk1, .int (nI stat), .int (nI how), .int (nI pl), .int (nI la), .int (nI stt), .int (nI q), .ref o8, .ref o9, .int (nI dn), .ref o10, .ref o11])), (o4, .inl (cZ, 32, .inl ru))]) rfl (fun H locs hP hD hS => ?_)
      refine lv_aload_n hx hb d_Model_states_19 rfl (lv_at hl 0 rfl) ?_
      refine pl_get X fw_Model_48 hK hP 0 rfl (v := .int (nI 0)) rfl d_Model_states_20 ?_
      refine pl_if_le X (by decide) d_Model_states_23 rfl (fun gL => ?_) (fun gL => ?_)
      · skip
        refine lv_aload_n hx hb d_Model_states_27 rfl (lv_at hl 0 rfl) ?_
        refine lv_iload_n hx hb d_Model_states_28 rfl (lv_at hl 1 rfl) ?_
        refine pl_put X fw_Model_19 fp_Model rfl hK hP hD hS 0 rfl (v := .int (nI j)) rfl rfl (Nat.le_of_ble_eq_true rfl) d_Model_states_29 (ws' := [(m0, .inr (6, [.int (nI 0), .int (nI np), .ref o1, .ref o2, .ref o3, .int (nI j), .ref o4, .ref o5, .ref o6, .ref o7, .int fo1, .int fk1, .int (nI stat), .int (nI how), .int (nI pl), .int (nI la), .int (nI stt), .int (nI q), .ref o8, .ref o9, .int (nI dn), .ref o10, .ref o11])), (o4, .inl (cZ, 32, .inl ru))]) rfl (fun H locs hP hD hS => ?_)
        refine lv_iconst (v := nI 0) hx hb d_Model_states_32 (by decide) ?_
        refine lv_istore_n hx hb d_Model_states_33 rfl hl (by decide) (lv' := [(2, .int (nI 0)), (0, .ref m0), (1, .int (nI j))]) rfl (fun ls hl => ?_)
        have loop_34 : ∀ (k : Nat) (i : Nat) (g : Nat → Int32) (H : Heap) (locs : List Loc) (ls : Array Slot), 32 - i = k → (i ≤ 32) → (∀ j, j < i → g j = nI 0) → va_P D classes [(m0, .inr (6, [.int (nI 0), .int (nI np), .ref o1, .ref o2, .ref o3, .int (nI j), .ref o4, .ref o5, .ref o6, .ref o7, .int fo1, .int fk1, .int (nI stat), .int (nI how), .int (nI pl), .int (nI la), .int (nI stt), .int (nI q), .ref o8, .ref o9, .int (nI dn), .ref o10, .ref o11])), (o4, .inl (cZ, 32, .inl g))] H → va_D A [(m0, .inr (6, [.int (nI 0), .int (nI np), .ref o1, .ref o2, .ref o3, .int (nI j), .ref o4, .ref o5, .ref o6, .ref o7, .int fo1, .int fk1, .int (nI stat), .int (nI how), .int (nI pl), .int (nI la), .int (nI stt), .int (nI q), .ref o8, .ref o9, .int (nI dn), .ref o10, .ref o11])), (o4, .inl (cZ, 32, .inl g))] → va_S A s.heap H locs → lv_has ls 3 [(2, .int (nI i)), (0, .ref m0), (1, .int (nI j))] → W p l e ({ frames := 0, cells := 0, slots := 0, locals := 0 } : Room) s m args below meth c H locs 0 0 (MQ below (va_Qv (fun _ : Unit => True) (fun u => pl_out D classes (TY cI cZ cL) A ((fun (_ : Unit) => [(m0, .inr (6, [.int (nI 0), .int (nI np), .ref o1, .ref o2, .ref o3, .int (nI j), .ref o4, .ref o5, .ref o6, .ref o7, .int fo1, .int fk1, .int (nI 0), .int (nI how), .int (nI pl), .int (nI la), .int (nI stt), .int (nI q), .ref o8, .ref o9, .int (nI dn), .ref o10, .ref o11])), (o4, .inl (cZ, 32, .inl (fun _ => nI 0)))]) u)) A) args s 0 0 A) (F0 m 34 ls []) := by
          intro k
          induction k using Nat.strongRecOn with
          | _ k ih =>
          intro i g H locs ls hk hi0 hg hP hD hS hl
          refine lv_iload_n hx hb d_Model_states_34 rfl (lv_at hl 0 rfl) ?_
          refine lv_bipush (v := nI 32) hx hb d_Model_states_35 (by decide) ?_
          refine pl_icmp_ge X (by omega) (by decide) d_Model_states_37 rfl (fun g37 => ?_) (fun g37 => ?_)
          · skip
            refine lv_aload_n hx hb d_Model_states_53 rfl (lv_at hl 1 rfl) ?_
            refine lv_iconst (v := nI 0) hx hb d_Model_states_54 (by decide) ?_
            refine pl_put X fw_Model_58 fp_Model rfl hK hP hD hS 0 rfl (v := .int (nI 0)) rfl rfl (Nat.le_of_ble_eq_true rfl) d_Model_states_55 (ws' := [(m0, .inr (6, [.int (nI 0), .int (nI np), .ref o1, .ref o2, .ref o3, .int (nI j), .ref o4, .ref o5, .ref o6, .ref o7, .int fo1, .int fk1, .int (nI 0), .int (nI how), .int (nI pl), .int (nI la), .int (nI stt), .int (nI q), .ref o8, .ref o9, .int (nI dn), .ref o10, .ref o11])), (o4, .inl (cZ, 32, .inl g))]) rfl (fun H locs hP hD hS => ?_)
            have hP := pl_ext hP 1 rfl (fun _ => nI 0) (fun j hj => hg j (by omega)) (ws' := [(m0, .inr (6, [.int (nI 0), .int (nI np), .ref o1, .ref o2, .ref o3, .int (nI j), .ref o4, .ref o5, .ref o6, .ref o7, .int fo1, .int fk1, .int (nI 0), .int (nI how), .int (nI pl), .int (nI la), .int (nI stt), .int (nI q), .ref o8, .ref o9, .int (nI dn), .ref o10, .ref o11])), (o4, .inl (cZ, 32, .inl (fun _ => nI 0)))]) rfl
            have hD := pl_extD hD 1 rfl (.inl (cZ, 32, .inl (fun _ => nI 0))) (ws' := [(m0, .inr (6, [.int (nI 0), .int (nI np), .ref o1, .ref o2, .ref o3, .int (nI j), .ref o4, .ref o5, .ref o6, .ref o7, .int fo1, .int fk1, .int (nI 0), .int (nI how), .int (nI pl), .int (nI la), .int (nI stt), .int (nI q), .ref o8, .ref o9, .int (nI dn), .ref o10, .ref o11])), (o4, .inl (cZ, 32, .inl (fun _ => nI 0)))]) rfl
            exact pl_vret X hr hlk hK () trivial hP hD hS d_Model_states_58
          · skip
            refine lv_aload_n hx hb d_Model_states_40 rfl (lv_at hl 1 rfl) ?_
            refine pl_get X fw_Model_23 hK hP 0 rfl (v := .ref o4) rfl d_Model_states_41 ?_
            refine lv_iload_n hx hb d_Model_states_44 rfl (lv_at hl 0 rfl) ?_
            refine lv_iconst (v := nI 0) hx hb d_Model_states_45 (by decide) ?_
            refine pl_zast X hK hP hD hS 1 1 rfl rfl i (by omega) (by decide) rfl d_Model_states_46 (ws' := [(m0, .inr (6, [.int (nI 0), .int (nI np), .ref o1, .ref o2, .ref o3, .int (nI j), .ref o4, .ref o5, .ref o6, .ref o7, .int fo1, .int fk1, .int (nI stat), .int (nI how), .int (nI pl), .int (nI la), .int (nI stt), .int (nI q), .ref o8, .ref o9, .int (nI dn), .ref o10, .ref o11])), (o4, .inl (cZ, 32, .inl (upd g i (nI 0))))]) rfl (fun H locs hP hD hS => ?_)
            refine lv_iinc hx hb d_Model_states_47 hl (k := 0) rfl (nI_inc1 _) (by decide) (lv' := [(2, .int (nI (i + 1))), (0, .ref m0), (1, .int (nI j))]) rfl (fun ls hl => ?_)
            refine lv_goto hx hb d_Model_states_50 rfl ?_
            exact ih _ (by omega) (i + 1) (upd g i (nI 0)) _ _ _ rfl (by omega) (fun j hj => by rcases Nat.lt_succ_iff_lt_or_eq.mp hj with q | q; (rw [upd_n (Nat.ne_of_lt q)]; exact hg j q); (rw [q]; exact upd_s)) hP hD hS hl
        exact loop_34 _ 0 ru _ _ _ rfl (Nat.zero_le _) (fun j hj => absurd hj (Nat.not_lt_zero j)) hP hD hS hl
      · skip
        exact absurd gL (by decide)
    · skip
      exact absurd g8 (by omega)

set_option maxHeartbeats 4000000 in
set_option maxRecDepth 100000 in
theorem c_Model_isState (l : Launch) (D : va_G) (cI cZ cL : ClassId) (m0 o1 o2 o3 o4 o5 o6 o7 o8 o9 o10 o11 : Nat) (P K Hm ru lo hi tm sa ca ta tn : Nat → Int32) (fo1 fk1 : Int32) (co np n stat how pl la stt q dn : Nat) (x : Int32) (hn : n < 2 ^ 31) : pl_I l y_Model_isState b_Model_isState 2 .boolean ({ frames := 0, cells := 0, slots := 0, locals := 0 } : Room) pl_E0 D classes (TY cI cZ cL) [.ref m0, .int x] [(m0, .inr (6, [.int (nI co), .int (nI np), .ref o1, .ref o2, .ref o3, .int (nI n), .ref o4, .ref o5, .ref o6, .ref o7, .int fo1, .int fk1, .int (nI stat), .int (nI how), .int (nI pl), .int (nI la), .int (nI stt), .int (nI q), .ref o8, .ref o9, .int (nI dn), .ref o10, .ref o11]))] (fun (r : Int32) (_ : Unit) => r = bI (inB x n)) (fun (_ : Unit) => [(m0, .inr (6, [.int (nI co), .int (nI np), .ref o1, .ref o2, .ref o3, .int (nI n), .ref o4, .ref o5, .ref o6, .ref o7, .int fo1, .int fk1, .int (nI stat), .int (nI how), .int (nI pl), .int (nI la), .int (nI stt), .int (nI q), .ref o8, .ref o9, .int (nI dn), .ref o10, .ref o11]))]) := by
  refine pl_startI (by decide) (Nat.le_of_ble_eq_true rfl) ?_
  intro p e s m args below meth c A ls X hr hlk hin hK hP hD hS hA hE hl
  have X : CallFix p m c b_Model_isState 2 s args TG R_Model := X
  have hx := X.1
  have hb := X.2.1
  have hl : lv_has ls 2 [(0, .ref m0), (1, .int x)] := hl
  refine lv_iload_n hx hb d_Model_isState_0 rfl (lv_at hl 1 rfl) ?_
  refine lv_if_lt hx hb d_Model_isState_1 rfl (fun g1 => ?_) (fun g1 => ?_)
  · skip
    refine lv_iconst (v := nI 0) hx hb d_Model_isState_16 (by decide) ?_
    exact pl_iret X hr hlk hK rfl () (bI_f (inB_lo g1)) hP hD hS d_Model_isState_17
  · skip
    refine lv_iload_n hx hb d_Model_isState_4 rfl (lv_at hl 1 rfl) ?_
    refine lv_aload_n hx hb d_Model_isState_5 rfl (lv_at hl 0 rfl) ?_
    refine pl_get X fw_Model_19 hK hP 0 rfl (v := .int (nI n)) rfl d_Model_isState_6 ?_
    refine lv_icmp_ge hx hb d_Model_isState_9 rfl (fun g9 => ?_) (fun g9 => ?_)
    · skip
      refine lv_iconst (v := nI 0) hx hb d_Model_isState_16 (by decide) ?_
      exact pl_iret X hr hlk hK rfl () (bI_f (inB_hi hn g9)) hP hD hS d_Model_isState_17
    · skip
      refine lv_iconst (v := nI 1) hx hb d_Model_isState_12 (by decide) ?_
      refine lv_goto hx hb d_Model_isState_13 rfl ?_
      exact pl_iret X hr hlk hK rfl () (bI_t (inB_in hn g1 g9)) hP hD hS d_Model_isState_17

set_option maxHeartbeats 4000000 in
set_option maxRecDepth 100000 in
theorem c_Model_isPlace (l : Launch) (D : va_G) (cI cZ cL : ClassId) (m0 o1 o2 o3 o4 o5 o6 o7 o8 o9 o10 o11 : Nat) (P K Hm ru lo hi tm sa ca ta tn : Nat → Int32) (fo1 fk1 : Int32) (co np n stat how pl la stt q dn : Nat) (x : Int32) (hn : np < 2 ^ 31) : pl_I l y_Model_isPlace b_Model_isPlace 2 .boolean ({ frames := 0, cells := 0, slots := 0, locals := 0 } : Room) pl_E0 D classes (TY cI cZ cL) [.ref m0, .int x] [(m0, .inr (6, [.int (nI co), .int (nI np), .ref o1, .ref o2, .ref o3, .int (nI n), .ref o4, .ref o5, .ref o6, .ref o7, .int fo1, .int fk1, .int (nI stat), .int (nI how), .int (nI pl), .int (nI la), .int (nI stt), .int (nI q), .ref o8, .ref o9, .int (nI dn), .ref o10, .ref o11]))] (fun (r : Int32) (_ : Unit) => r = bI (inB x np)) (fun (_ : Unit) => [(m0, .inr (6, [.int (nI co), .int (nI np), .ref o1, .ref o2, .ref o3, .int (nI n), .ref o4, .ref o5, .ref o6, .ref o7, .int fo1, .int fk1, .int (nI stat), .int (nI how), .int (nI pl), .int (nI la), .int (nI stt), .int (nI q), .ref o8, .ref o9, .int (nI dn), .ref o10, .ref o11]))]) := by
  refine pl_startI (by decide) (Nat.le_of_ble_eq_true rfl) ?_
  intro p e s m args below meth c A ls X hr hlk hin hK hP hD hS hA hE hl
  have X : CallFix p m c b_Model_isPlace 2 s args TG R_Model := X
  have hx := X.1
  have hb := X.2.1
  have hl : lv_has ls 2 [(0, .ref m0), (1, .int x)] := hl
  refine lv_iload_n hx hb d_Model_isPlace_0 rfl (lv_at hl 1 rfl) ?_
  refine lv_if_lt hx hb d_Model_isPlace_1 rfl (fun g1 => ?_) (fun g1 => ?_)
  · skip
    refine lv_iconst (v := nI 0) hx hb d_Model_isPlace_16 (by decide) ?_
    exact pl_iret X hr hlk hK rfl () (bI_f (inB_lo g1)) hP hD hS d_Model_isPlace_17
  · skip
    refine lv_iload_n hx hb d_Model_isPlace_4 rfl (lv_at hl 1 rfl) ?_
    refine lv_aload_n hx hb d_Model_isPlace_5 rfl (lv_at hl 0 rfl) ?_
    refine pl_get X fw_Model_55 hK hP 0 rfl (v := .int (nI np)) rfl d_Model_isPlace_6 ?_
    refine lv_icmp_ge hx hb d_Model_isPlace_9 rfl (fun g9 => ?_) (fun g9 => ?_)
    · skip
      refine lv_iconst (v := nI 0) hx hb d_Model_isPlace_16 (by decide) ?_
      exact pl_iret X hr hlk hK rfl () (bI_f (inB_hi hn g9)) hP hD hS d_Model_isPlace_17
    · skip
      refine lv_iconst (v := nI 1) hx hb d_Model_isPlace_12 (by decide) ?_
      refine lv_goto hx hb d_Model_isPlace_13 rfl ?_
      exact pl_iret X hr hlk hK rfl () (bI_t (inB_in hn g1 g9)) hP hD hS d_Model_isPlace_17

set_option maxHeartbeats 4000000 in
set_option maxRecDepth 100000 in
theorem c_Model_rule_1 (l : Launch) (D : va_G) (cI cZ cL : ClassId) (m0 o1 o2 o3 o4 o5 o6 o7 o8 o9 o10 o11 : Nat) (P K Hm ru lo hi tm sa ca ta tn : Nat → Int32) (fo1 fk1 : Int32) (co np n stat how pl la stt q dn : Nat) (x1 x2 x3 x4 x5 : Int32) (hn : n ≤ 4) (hrk : ruleOk n x1 x2 x3 x4 x5 = false) : pl_V l y_Model_rule b_Model_rule 7 ({ frames := 1, cells := 0, slots := 0, locals := 21 } : Room) pl_E0 D classes (TY cI cZ cL) [.ref m0, .int x1, .int x2, .int x3, .int x4, .int x5] [(m0, .inr (6, [.int (nI co), .int (nI np), .ref o1, .ref o2, .ref o3, .int (nI n), .ref o4, .ref o5, .ref o6, .ref o7, .int fo1, .int fk1, .int (nI stat), .int (nI how), .int (nI pl), .int (nI la), .int (nI stt), .int (nI q), .ref o8, .ref o9, .int (nI dn), .ref o10, .ref o11]))] (fun _ : Unit => True) (fun (_ : Unit) => [(m0, .inr (6, [.int (nI 1), .int (nI np), .ref o1, .ref o2, .ref o3, .int (nI n), .ref o4, .ref o5, .ref o6, .ref o7, .int fo1, .int fk1, .int (nI stat), .int (nI how), .int (nI pl), .int (nI la), .int (nI stt), .int (nI q), .ref o8, .ref o9, .int (nI dn), .ref o10, .ref o11]))]) := by
  refine pl_startV (by decide) (Nat.le_of_ble_eq_true rfl) ?_
  intro p e s m args below meth c A ls X hr hlk hin hK hP hD hS hA hE hl
  have X : CallFix p m c b_Model_rule 7 s args TG R_Model := X
  have hx := X.1
  have hb := X.2.1
  have hl : lv_has ls 7 [(0, .ref m0), (1, .int x1), (2, .int x2), (3, .int x3), (4, .int x4), (5, .int x5)] := hl
  refine lv_aload_n hx hb d_Model_rule_0 rfl (lv_at hl 0 rfl) ?_
  refine lv_aload_n hx hb d_Model_rule_1 rfl (lv_at hl 0 rfl) ?_
  refine lv_iload_n hx hb d_Model_rule_2 rfl (lv_at hl 1 rfl) ?_
  refine pl_callVI X (rest := [.ref m0]) (As := [.int x1]) (b := m0) (c_Model_isState l D cI cZ cL m0 o1 o2 o3 o4 o5 o6 o7 o8 o9 o10 o11 P K Hm ru lo hi tm sa ca ta tn fo1 fk1 co np n stat how pl la stt q dn x1 (by omega)) ck_Model_61 pl_E0_ok trivial hK hP hD hS hA (T := F_Model) (N := N_Model) (ci := 6) rfl 0 rfl [0] [] [0] rfl (by decide) (wr := []) rfl (by decide) (by decide) (wf := fun _ => [(m0, .inr (6, [.int (nI co), .int (nI np), .ref o1, .ref o2, .ref o3, .int (nI n), .ref o4, .ref o5, .ref o6, .ref o7, .int fo1, .int fk1, .int (nI stat), .int (nI how), .int (nI pl), .int (nI la), .int (nI stt), .int (nI q), .ref o8, .ref o9, .int (nI dn), .ref o10, .ref o11]))]) (fun _ => rfl) (by decide) rfl hl.1 rfl (Nat.le_of_ble_eq_true rfl) (by decide) (by decide) d_Model_rule_3 (fun r u0 H locs hcq hP hD hS => ?_)
  subst hcq
  refine pl_ifB_eq X d_Model_rule_6 rfl (fun g6 => ?_) (fun g6 => ?_)
  · skip
    refine lv_iconst (v := nI 1) hx hb d_Model_rule_34 (by decide) ?_
    refine lv_goto hx hb d_Model_rule_35 rfl ?_
    refine pl_put X fw_Model_48 fp_Model rfl hK hP hD hS 0 rfl (v := .int (nI 1)) rfl rfl (Nat.le_of_ble_eq_true rfl) d_Model_rule_39 (ws' := [(m0, .inr (6, [.int (nI 1), .int (nI np), .ref o1, .ref o2, .ref o3, .int (nI n), .ref o4, .ref o5, .ref o6, .ref o7, .int fo1, .int fk1, .int (nI stat), .int (nI how), .int (nI pl), .int (nI la), .int (nI stt), .int (nI q), .ref o8, .ref o9, .int (nI dn), .ref o10, .ref o11]))]) rfl (fun H locs hP hD hS => ?_)
    refine lv_aload_n hx hb d_Model_rule_42 rfl (lv_at hl 0 rfl) ?_
    refine pl_get X fw_Model_48 hK hP 0 rfl (v := .int (nI 1)) rfl d_Model_rule_43 ?_
    refine pl_if_le X (by decide) d_Model_rule_46 rfl (fun gL => ?_) (fun gL => ?_)
    · skip
      exact absurd gL (by decide)
    · skip
      exact pl_vret X hr hlk hK () trivial hP hD hS d_Model_rule_49
  · skip
    refine lv_aload_n hx hb d_Model_rule_9 rfl (lv_at hl 0 rfl) ?_
    refine lv_iload hx hb d_Model_rule_10 (lv_at hl 5 rfl) ?_
    refine pl_callVI X (rest := [.ref m0]) (As := [.int x5]) (b := m0) (c_Model_isState l D cI cZ cL m0 o1 o2 o3 o4 o5 o6 o7 o8 o9 o10 o11 P K Hm ru lo hi tm sa ca ta tn fo1 fk1 co np n stat how pl la stt q dn x5 (by omega)) ck_Model_61 pl_E0_ok trivial hK hP hD hS hA (T := F_Model) (N := N_Model) (ci := 6) rfl 0 rfl [0] [] [0] rfl (by decide) (wr := []) rfl (by decide) (by decide) (wf := fun _ => [(m0, .inr (6, [.int (nI co), .int (nI np), .ref o1, .ref o2, .ref o3, .int (nI n), .ref o4, .ref o5, .ref o6, .ref o7, .int fo1, .int fk1, .int (nI stat), .int (nI how), .int (nI pl), .int (nI la), .int (nI stt), .int (nI q), .ref o8, .ref o9, .int (nI dn), .ref o10, .ref o11]))]) (fun _ => rfl) (by decide) rfl hl.1 rfl (Nat.le_of_ble_eq_true rfl) (by decide) (by decide) d_Model_rule_12 (fun r u0 H locs hcq hP hD hS => ?_)
    subst hcq
    refine pl_ifB_eq X d_Model_rule_15 rfl (fun g15 => ?_) (fun g15 => ?_)
    · skip
      refine lv_iconst (v := nI 1) hx hb d_Model_rule_34 (by decide) ?_
      refine lv_goto hx hb d_Model_rule_35 rfl ?_
      refine pl_put X fw_Model_48 fp_Model rfl hK hP hD hS 0 rfl (v := .int (nI 1)) rfl rfl (Nat.le_of_ble_eq_true rfl) d_Model_rule_39 (ws' := [(m0, .inr (6, [.int (nI 1), .int (nI np), .ref o1, .ref o2, .ref o3, .int (nI n), .ref o4, .ref o5, .ref o6, .ref o7, .int fo1, .int fk1, .int (nI stat), .int (nI how), .int (nI pl), .int (nI la), .int (nI stt), .int (nI q), .ref o8, .ref o9, .int (nI dn), .ref o10, .ref o11]))]) rfl (fun H locs hP hD hS => ?_)
      refine lv_aload_n hx hb d_Model_rule_42 rfl (lv_at hl 0 rfl) ?_
      refine pl_get X fw_Model_48 hK hP 0 rfl (v := .int (nI 1)) rfl d_Model_rule_43 ?_
      refine pl_if_le X (by decide) d_Model_rule_46 rfl (fun gL => ?_) (fun gL => ?_)
      · skip
        exact absurd gL (by decide)
      · skip
        exact pl_vret X hr hlk hK () trivial hP hD hS d_Model_rule_49
    · skip
      refine lv_iload_n hx hb d_Model_rule_18 rfl (lv_at hl 2 rfl) ?_
      refine lv_if_lt hx hb d_Model_rule_19 rfl (fun g19 => ?_) (fun g19 => ?_)
      · skip
        refine lv_iconst (v := nI 1) hx hb d_Model_rule_34 (by decide) ?_
        refine lv_goto hx hb d_Model_rule_35 rfl ?_
        refine pl_put X fw_Model_48 fp_Model rfl hK hP hD hS 0 rfl (v := .int (nI 1)) rfl rfl (Nat.le_of_ble_eq_true rfl) d_Model_rule_39 (ws' := [(m0, .inr (6, [.int (nI 1), .int (nI np), .ref o1, .ref o2, .ref o3, .int (nI n), .ref o4, .ref o5, .ref o6, .ref o7, .int fo1, .int fk1, .int (nI stat), .int (nI how), .int (nI pl), .int (nI la), .int (nI stt), .int (nI q), .ref o8, .ref o9, .int (nI dn), .ref o10, .ref o11]))]) rfl (fun H locs hP hD hS => ?_)
        refine lv_aload_n hx hb d_Model_rule_42 rfl (lv_at hl 0 rfl) ?_
        refine pl_get X fw_Model_48 hK hP 0 rfl (v := .int (nI 1)) rfl d_Model_rule_43 ?_
        refine pl_if_le X (by decide) d_Model_rule_46 rfl (fun gL => ?_) (fun gL => ?_)
        · skip
          exact absurd gL (by decide)
        · skip
          exact pl_vret X hr hlk hK () trivial hP hD hS d_Model_rule_49
      · skip
        refine lv_iload_n hx hb d_Model_rule_22 rfl (lv_at hl 2 rfl) ?_
        refine lv_bipush (v := nI 7) hx hb d_Model_rule_23 (by decide) ?_
        refine lv_icmp_gt hx hb d_Model_rule_25 rfl (fun g25 => ?_) (fun g25 => ?_)
        · skip
          refine lv_iconst (v := nI 1) hx hb d_Model_rule_34 (by decide) ?_
          refine lv_goto hx hb d_Model_rule_35 rfl ?_
          refine pl_put X fw_Model_48 fp_Model rfl hK hP hD hS 0 rfl (v := .int (nI 1)) rfl rfl (Nat.le_of_ble_eq_true rfl) d_Model_rule_39 (ws' := [(m0, .inr (6, [.int (nI 1), .int (nI np), .ref o1, .ref o2, .ref o3, .int (nI n), .ref o4, .ref o5, .ref o6, .ref o7, .int fo1, .int fk1, .int (nI stat), .int (nI how), .int (nI pl), .int (nI la), .int (nI stt), .int (nI q), .ref o8, .ref o9, .int (nI dn), .ref o10, .ref o11]))]) rfl (fun H locs hP hD hS => ?_)
          refine lv_aload_n hx hb d_Model_rule_42 rfl (lv_at hl 0 rfl) ?_
          refine pl_get X fw_Model_48 hK hP 0 rfl (v := .int (nI 1)) rfl d_Model_rule_43 ?_
          refine pl_if_le X (by decide) d_Model_rule_46 rfl (fun gL => ?_) (fun gL => ?_)
          · skip
            exact absurd gL (by decide)
          · skip
            exact pl_vret X hr hlk hK () trivial hP hD hS d_Model_rule_49
        · skip
          refine lv_iload hx hb d_Model_rule_28 (lv_at hl 4 rfl) ?_
          refine lv_iload_n hx hb d_Model_rule_30 rfl (lv_at hl 3 rfl) ?_
          refine lv_icmp_ge hx hb d_Model_rule_31 rfl (fun g31 => ?_) (fun g31 => ?_)
          · skip
            have hrk2 : ruleOk n x1 x2 x3 x4 x5 = true := by unfold ruleOk; rw [g6, g15, inB_le_t (m := 7) (by omega) g19 (i_nlt.mp g25), decide_eq_true g31]; rfl
            exact absurd hrk2 (by rw [hrk]; decide)
          · skip
            refine lv_iconst (v := nI 1) hx hb d_Model_rule_34 (by decide) ?_
            refine lv_goto hx hb d_Model_rule_35 rfl ?_
            refine pl_put X fw_Model_48 fp_Model rfl hK hP hD hS 0 rfl (v := .int (nI 1)) rfl rfl (Nat.le_of_ble_eq_true rfl) d_Model_rule_39 (ws' := [(m0, .inr (6, [.int (nI 1), .int (nI np), .ref o1, .ref o2, .ref o3, .int (nI n), .ref o4, .ref o5, .ref o6, .ref o7, .int fo1, .int fk1, .int (nI stat), .int (nI how), .int (nI pl), .int (nI la), .int (nI stt), .int (nI q), .ref o8, .ref o9, .int (nI dn), .ref o10, .ref o11]))]) rfl (fun H locs hP hD hS => ?_)
            refine lv_aload_n hx hb d_Model_rule_42 rfl (lv_at hl 0 rfl) ?_
            refine pl_get X fw_Model_48 hK hP 0 rfl (v := .int (nI 1)) rfl d_Model_rule_43 ?_
            refine pl_if_le X (by decide) d_Model_rule_46 rfl (fun gL => ?_) (fun gL => ?_)
            · skip
              exact absurd gL (by decide)
            · skip
              exact pl_vret X hr hlk hK () trivial hP hD hS d_Model_rule_49

set_option maxHeartbeats 4000000 in
set_option maxRecDepth 100000 in
theorem c_Model_rule_0 (l : Launch) (D : va_G) (cI cZ cL : ClassId) (m0 o1 o2 o3 o4 o5 o6 o7 o8 o9 o10 o11 : Nat) (P K Hm ru lo hi tm sa ca ta tn : Nat → Int32) (fo1 fk1 : Int32) (co np n stat how pl la stt q dn : Nat) (fr ac tw : Nat) (x3 x4 : Int32) (hn : n ≤ 4) (hf : fr < n) (ha : ac < 8) (ht : tw < n) (hx34 : x3 ≤ x4) : pl_V l y_Model_rule b_Model_rule 7 ({ frames := 1, cells := 0, slots := 0, locals := 21 } : Room) pl_E0 D classes (TY cI cZ cL) [.ref m0, .int (nI fr), .int (nI ac), .int x3, .int x4, .int (nI tw)] [(m0, .inr (6, [.int (nI co), .int (nI np), .ref o1, .ref o2, .ref o3, .int (nI n), .ref o4, .ref o5, .ref o6, .ref o7, .int fo1, .int fk1, .int (nI stat), .int (nI how), .int (nI pl), .int (nI la), .int (nI stt), .int (nI q), .ref o8, .ref o9, .int (nI dn), .ref o10, .ref o11])), (o4, .inl (cZ, 32, .inl ru)), (o5, .inl (cI, 32, .inl lo)), (o6, .inl (cI, 32, .inl hi)), (o7, .inl (cI, 32, .inl tm))] (fun _ : Unit => True) (fun (_ : Unit) => [(m0, .inr (6, [.int (nI 0), .int (nI np), .ref o1, .ref o2, .ref o3, .int (nI n), .ref o4, .ref o5, .ref o6, .ref o7, .int fo1, .int fk1, .int (nI 0), .int (nI how), .int (nI pl), .int (nI la), .int (nI stt), .int (nI q), .ref o8, .ref o9, .int (nI dn), .ref o10, .ref o11])), (o4, .inl (cZ, 32, .inl (upd ru (fr * 8 + ac) (nI 1)))), (o5, .inl (cI, 32, .inl (upd lo (fr * 8 + ac) x3))), (o6, .inl (cI, 32, .inl (upd hi (fr * 8 + ac) x4))), (o7, .inl (cI, 32, .inl (upd tm (fr * 8 + ac) (nI tw))))]) := by
  refine pl_startV (by decide) (Nat.le_of_ble_eq_true rfl) ?_
  intro p e s m args below meth c A ls X hr hlk hin hK hP hD hS hA hE hl
  have X : CallFix p m c b_Model_rule 7 s args TG R_Model := X
  have hx := X.1
  have hb := X.2.1
  have hl : lv_has ls 7 [(0, .ref m0), (1, .int (nI fr)), (2, .int (nI ac)), (3, .int x3), (4, .int x4), (5, .int (nI tw))] := hl
  refine lv_aload_n hx hb d_Model_rule_0 rfl (lv_at hl 0 rfl) ?_
  refine lv_aload_n hx hb d_Model_rule_1 rfl (lv_at hl 0 rfl) ?_
  refine lv_iload_n hx hb d_Model_rule_2 rfl (lv_at hl 1 rfl) ?_
  refine pl_callVI X (rest := [.ref m0]) (As := [.int (nI fr)]) (b := m0) (c_Model_isState l D cI cZ cL m0 o1 o2 o3 o4 o5 o6 o7 o8 o9 o10 o11 P K Hm ru lo hi tm sa ca ta tn fo1 fk1 co np n stat how pl la stt q dn (nI fr) (by omega)) ck_Model_61 pl_E0_ok trivial hK hP hD hS hA (T := F_Model) (N := N_Model) (ci := 6) rfl 0 rfl [0] [1, 2, 3, 4] [4, 0, 1, 2, 3] rfl (by decide) (wr := [(o4, .inl (cZ, 32, .inl ru)), (o5, .inl (cI, 32, .inl lo)), (o6, .inl (cI, 32, .inl hi)), (o7, .inl (cI, 32, .inl tm))]) rfl (by decide) (by decide) (wf := fun _ => [(m0, .inr (6, [.int (nI co), .int (nI np), .ref o1, .ref o2, .ref o3, .int (nI n), .ref o4, .ref o5, .ref o6, .ref o7, .int fo1, .int fk1, .int (nI stat), .int (nI how), .int (nI pl), .int (nI la), .int (nI stt), .int (nI q), .ref o8, .ref o9, .int (nI dn), .ref o10, .ref o11])), (o4, .inl (cZ, 32, .inl ru)), (o5, .inl (cI, 32, .inl lo)), (o6, .inl (cI, 32, .inl hi)), (o7, .inl (cI, 32, .inl tm))]) (fun _ => rfl) (by decide) rfl hl.1 rfl (Nat.le_of_ble_eq_true rfl) (by decide) (by decide) d_Model_rule_3 (fun r u0 H locs hcq hP hD hS => ?_)
  subst hcq
  refine pl_ifB_eq X d_Model_rule_6 rfl (fun g6 => ?_) (fun g6 => ?_)
  · skip
    exact absurd g6 (by rw [inB_nI (by omega), decide_eq_true hf]; decide)
  · skip
    refine lv_aload_n hx hb d_Model_rule_9 rfl (lv_at hl 0 rfl) ?_
    refine lv_iload hx hb d_Model_rule_10 (lv_at hl 5 rfl) ?_
    refine pl_callVI X (rest := [.ref m0]) (As := [.int (nI tw)]) (b := m0) (c_Model_isState l D cI cZ cL m0 o1 o2 o3 o4 o5 o6 o7 o8 o9 o10 o11 P K Hm ru lo hi tm sa ca ta tn fo1 fk1 co np n stat how pl la stt q dn (nI tw) (by omega)) ck_Model_61 pl_E0_ok trivial hK hP hD hS hA (T := F_Model) (N := N_Model) (ci := 6) rfl 0 rfl [0] [1, 2, 3, 4] [4, 0, 1, 2, 3] rfl (by decide) (wr := [(o4, .inl (cZ, 32, .inl ru)), (o5, .inl (cI, 32, .inl lo)), (o6, .inl (cI, 32, .inl hi)), (o7, .inl (cI, 32, .inl tm))]) rfl (by decide) (by decide) (wf := fun _ => [(m0, .inr (6, [.int (nI co), .int (nI np), .ref o1, .ref o2, .ref o3, .int (nI n), .ref o4, .ref o5, .ref o6, .ref o7, .int fo1, .int fk1, .int (nI stat), .int (nI how), .int (nI pl), .int (nI la), .int (nI stt), .int (nI q), .ref o8, .ref o9, .int (nI dn), .ref o10, .ref o11])), (o4, .inl (cZ, 32, .inl ru)), (o5, .inl (cI, 32, .inl lo)), (o6, .inl (cI, 32, .inl hi)), (o7, .inl (cI, 32, .inl tm))]) (fun _ => rfl) (by decide) rfl hl.1 rfl (Nat.le_of_ble_eq_true rfl) (by decide) (by decide) d_Model_rule_12 (fun r u0 H locs hcq hP hD hS => ?_)
    subst hcq
    refine pl_ifB_eq X d_Model_rule_15 rfl (fun g15 => ?_) (fun g15 => ?_)
    · skip
      exact absurd g15 (by rw [inB_nI (by omega), decide_eq_true ht]; decide)
    · skip
      refine lv_iload_n hx hb d_Model_rule_18 rfl (lv_at hl 2 rfl) ?_
      refine pl_if_lt X (by omega) d_Model_rule_19 rfl ?_
      refine lv_iload_n hx hb d_Model_rule_22 rfl (lv_at hl 2 rfl) ?_
      refine lv_bipush (v := nI 7) hx hb d_Model_rule_23 (by decide) ?_
      refine pl_icmp_gt X (by omega) (by decide) d_Model_rule_25 rfl (fun g25 => ?_) (fun g25 => ?_)
      · skip
        exact absurd g25 (by omega)
      · skip
        refine lv_iload hx hb d_Model_rule_28 (lv_at hl 4 rfl) ?_
        refine lv_iload_n hx hb d_Model_rule_30 rfl (lv_at hl 3 rfl) ?_
        refine lv_icmp_ge hx hb d_Model_rule_31 rfl (fun g31 => ?_) (fun g31 => ?_)
        · skip
          refine lv_iconst (v := nI 0) hx hb d_Model_rule_38 (by decide) ?_
          refine pl_put X fw_Model_48 fp_Model rfl hK hP hD hS 0 rfl (v := .int (nI 0)) rfl rfl (Nat.le_of_ble_eq_true rfl) d_Model_rule_39 (ws' := [(m0, .inr (6, [.int (nI 0), .int (nI np), .ref o1, .ref o2, .ref o3, .int (nI n), .ref o4, .ref o5, .ref o6, .ref o7, .int fo1, .int fk1, .int (nI stat), .int (nI how), .int (nI pl), .int (nI la), .int (nI stt), .int (nI q), .ref o8, .ref o9, .int (nI dn), .ref o10, .ref o11])), (o4, .inl (cZ, 32, .inl ru)), (o5, .inl (cI, 32, .inl lo)), (o6, .inl (cI, 32, .inl hi)), (o7, .inl (cI, 32, .inl tm))]) rfl (fun H locs hP hD hS => ?_)
          refine lv_aload_n hx hb d_Model_rule_42 rfl (lv_at hl 0 rfl) ?_
          refine pl_get X fw_Model_48 hK hP 0 rfl (v := .int (nI 0)) rfl d_Model_rule_43 ?_
          refine pl_if_le X (by decide) d_Model_rule_46 rfl (fun gL => ?_) (fun gL => ?_)
          · skip
            refine lv_bipush (v := nI 8) hx hb d_Model_rule_50 (by decide) ?_
            refine lv_iload_n hx hb d_Model_rule_52 rfl (lv_at hl 1 rfl) ?_
            refine pl_imul X d_Model_rule_53 (z := nI (fr * 8)) (pk_mulC _ _) ?_
            refine lv_iload_n hx hb d_Model_rule_54 rfl (lv_at hl 2 rfl) ?_
            refine pl_iadd X d_Model_rule_55 (z := nI (fr * 8 + ac)) (nI_add _ _) ?_
            refine lv_istore hx hb d_Model_rule_56 hl (by decide) (lv' := [(6, .int (nI (fr * 8 + ac))), (0, .ref m0), (1, .int (nI fr)), (2, .int (nI ac)), (3, .int x3), (4, .int x4), (5, .int (nI tw))]) rfl (fun ls hl => ?_)
            refine lv_aload_n hx hb d_Model_rule_58 rfl (lv_at hl 1 rfl) ?_
            refine pl_get X fw_Model_23 hK hP 0 rfl (v := .ref o4) rfl d_Model_rule_59 ?_
            refine lv_iload hx hb d_Model_rule_62 (lv_at hl 0 rfl) ?_
            refine lv_iconst (v := nI 1) hx hb d_Model_rule_64 (by decide) ?_
            refine pl_zast X hK hP hD hS 1 1 rfl rfl (fr * 8 + ac) (by omega) (by decide) rfl d_Model_rule_65 (ws' := [(m0, .inr (6, [.int (nI 0), .int (nI np), .ref o1, .ref o2, .ref o3, .int (nI n), .ref o4, .ref o5, .ref o6, .ref o7, .int fo1, .int fk1, .int (nI stat), .int (nI how), .int (nI pl), .int (nI la), .int (nI stt), .int (nI q), .ref o8, .ref o9, .int (nI dn), .ref o10, .ref o11])), (o4, .inl (cZ, 32, .inl (upd ru (fr * 8 + ac) (nI 1)))), (o5, .inl (cI, 32, .inl lo)), (o6, .inl (cI, 32, .inl hi)), (o7, .inl (cI, 32, .inl tm))]) rfl (fun H locs hP hD hS => ?_)
            refine lv_aload_n hx hb d_Model_rule_66 rfl (lv_at hl 1 rfl) ?_
            refine pl_get X fw_Model_27 hK hP 0 rfl (v := .ref o5) rfl d_Model_rule_67 ?_
            refine lv_iload hx hb d_Model_rule_70 (lv_at hl 0 rfl) ?_
            refine lv_iload_n hx hb d_Model_rule_72 rfl (lv_at hl 4 rfl) ?_
            refine pl_iast X hK hP hD hS 2 0 rfl rfl (fr * 8 + ac) (by omega) (by decide) d_Model_rule_73 (ws' := [(m0, .inr (6, [.int (nI 0), .int (nI np), .ref o1, .ref o2, .ref o3, .int (nI n), .ref o4, .ref o5, .ref o6, .ref o7, .int fo1, .int fk1, .int (nI stat), .int (nI how), .int (nI pl), .int (nI la), .int (nI stt), .int (nI q), .ref o8, .ref o9, .int (nI dn), .ref o10, .ref o11])), (o4, .inl (cZ, 32, .inl (upd ru (fr * 8 + ac) (nI 1)))), (o5, .inl (cI, 32, .inl (upd lo (fr * 8 + ac) x3))), (o6, .inl (cI, 32, .inl hi)), (o7, .inl (cI, 32, .inl tm))]) rfl (fun H locs hP hD hS => ?_)
            refine lv_aload_n hx hb d_Model_rule_74 rfl (lv_at hl 1 rfl) ?_
            refine pl_get X fw_Model_30 hK hP 0 rfl (v := .ref o6) rfl d_Model_rule_75 ?_
            refine lv_iload hx hb d_Model_rule_78 (lv_at hl 0 rfl) ?_
            refine lv_iload hx hb d_Model_rule_80 (lv_at hl 5 rfl) ?_
            refine pl_iast X hK hP hD hS 3 0 rfl rfl (fr * 8 + ac) (by omega) (by decide) d_Model_rule_82 (ws' := [(m0, .inr (6, [.int (nI 0), .int (nI np), .ref o1, .ref o2, .ref o3, .int (nI n), .ref o4, .ref o5, .ref o6, .ref o7, .int fo1, .int fk1, .int (nI stat), .int (nI how), .int (nI pl), .int (nI la), .int (nI stt), .int (nI q), .ref o8, .ref o9, .int (nI dn), .ref o10, .ref o11])), (o4, .inl (cZ, 32, .inl (upd ru (fr * 8 + ac) (nI 1)))), (o5, .inl (cI, 32, .inl (upd lo (fr * 8 + ac) x3))), (o6, .inl (cI, 32, .inl (upd hi (fr * 8 + ac) x4))), (o7, .inl (cI, 32, .inl tm))]) rfl (fun H locs hP hD hS => ?_)
            refine lv_aload_n hx hb d_Model_rule_83 rfl (lv_at hl 1 rfl) ?_
            refine pl_get X fw_Model_33 hK hP 0 rfl (v := .ref o7) rfl d_Model_rule_84 ?_
            refine lv_iload hx hb d_Model_rule_87 (lv_at hl 0 rfl) ?_
            refine lv_iload hx hb d_Model_rule_89 (lv_at hl 6 rfl) ?_
            refine pl_iast X hK hP hD hS 4 0 rfl rfl (fr * 8 + ac) (by omega) (by decide) d_Model_rule_91 (ws' := [(m0, .inr (6, [.int (nI 0), .int (nI np), .ref o1, .ref o2, .ref o3, .int (nI n), .ref o4, .ref o5, .ref o6, .ref o7, .int fo1, .int fk1, .int (nI stat), .int (nI how), .int (nI pl), .int (nI la), .int (nI stt), .int (nI q), .ref o8, .ref o9, .int (nI dn), .ref o10, .ref o11])), (o4, .inl (cZ, 32, .inl (upd ru (fr * 8 + ac) (nI 1)))), (o5, .inl (cI, 32, .inl (upd lo (fr * 8 + ac) x3))), (o6, .inl (cI, 32, .inl (upd hi (fr * 8 + ac) x4))), (o7, .inl (cI, 32, .inl (upd tm (fr * 8 + ac) (nI tw))))]) rfl (fun H locs hP hD hS => ?_)
            refine lv_aload_n hx hb d_Model_rule_92 rfl (lv_at hl 1 rfl) ?_
            refine lv_iconst (v := nI 0) hx hb d_Model_rule_93 (by decide) ?_
            refine pl_put X fw_Model_58 fp_Model rfl hK hP hD hS 0 rfl (v := .int (nI 0)) rfl rfl (Nat.le_of_ble_eq_true rfl) d_Model_rule_94 (ws' := [(m0, .inr (6, [.int (nI 0), .int (nI np), .ref o1, .ref o2, .ref o3, .int (nI n), .ref o4, .ref o5, .ref o6, .ref o7, .int fo1, .int fk1, .int (nI 0), .int (nI how), .int (nI pl), .int (nI la), .int (nI stt), .int (nI q), .ref o8, .ref o9, .int (nI dn), .ref o10, .ref o11])), (o4, .inl (cZ, 32, .inl (upd ru (fr * 8 + ac) (nI 1)))), (o5, .inl (cI, 32, .inl (upd lo (fr * 8 + ac) x3))), (o6, .inl (cI, 32, .inl (upd hi (fr * 8 + ac) x4))), (o7, .inl (cI, 32, .inl (upd tm (fr * 8 + ac) (nI tw))))]) rfl (fun H locs hP hD hS => ?_)
            exact pl_vret X hr hlk hK () trivial hP hD hS d_Model_rule_97
          · skip
            exact absurd gL (by decide)
        · skip
          exact absurd hx34 g31

set_option maxHeartbeats 4000000 in
set_option maxRecDepth 100000 in
theorem c_Model_takes_0 (l : Launch) (D : va_G) (cI cZ cL : ClassId)  : pl_I l y_Model_takes b_Model_takes 1 .int ({ frames := 0, cells := 0, slots := 0, locals := 0 } : Room) pl_E0 D classes (TY cI cZ cL) [.int (nI 0)] [] (fun (r : Int32) (_ : Unit) => r = nI (tkN 0)) (fun (_ : Unit) => []) := by
  refine pl_startI (by decide) (Nat.le_of_ble_eq_true rfl) ?_
  intro p e s m args below meth c A ls X hr hlk hin hK hP hD hS hA hE hl
  have X : CallFix p m c b_Model_takes 1 s args TG R_Model := X
  have hx := X.1
  have hb := X.2.1
  have hl : lv_has ls 1 [(0, .int (nI 0))] := hl
  refine lv_iload_n hx hb d_Model_takes_0 rfl (lv_at hl 0 rfl) ?_
  refine lv_iconst (v := nI 2) hx hb d_Model_takes_1 (by decide) ?_
  refine pl_icmp_eq X (by decide) (by decide) d_Model_takes_2 rfl (fun gL => ?_) (fun gL => ?_)
  · skip
    exact absurd gL (by decide)
  · skip
    refine lv_iload_n hx hb d_Model_takes_5 rfl (lv_at hl 0 rfl) ?_
    refine lv_iconst (v := nI 3) hx hb d_Model_takes_6 (by decide) ?_
    refine pl_icmp_eq X (by decide) (by decide) d_Model_takes_7 rfl (fun gL => ?_) (fun gL => ?_)
    · skip
      exact absurd gL (by decide)
    · skip
      refine lv_iload_n hx hb d_Model_takes_10 rfl (lv_at hl 0 rfl) ?_
      refine lv_iconst (v := nI 4) hx hb d_Model_takes_11 (by decide) ?_
      refine pl_icmp_eq X (by decide) (by decide) d_Model_takes_12 rfl (fun gL => ?_) (fun gL => ?_)
      · skip
        exact absurd gL (by decide)
      · skip
        refine lv_iload_n hx hb d_Model_takes_15 rfl (lv_at hl 0 rfl) ?_
        refine lv_bipush (v := nI 10) hx hb d_Model_takes_16 (by decide) ?_
        refine pl_icmp_ne X (by decide) (by decide) d_Model_takes_18 rfl (fun gL => ?_) (fun gL => ?_)
        · skip
          refine lv_iload_n hx hb d_Model_takes_25 rfl (lv_at hl 0 rfl) ?_
          refine lv_iconst (v := nI 1) hx hb d_Model_takes_26 (by decide) ?_
          refine pl_icmp_eq X (by decide) (by decide) d_Model_takes_27 rfl (fun gL => ?_) (fun gL => ?_)
          · skip
            exact absurd gL (by decide)
          · skip
            refine lv_iload_n hx hb d_Model_takes_30 rfl (lv_at hl 0 rfl) ?_
            refine lv_bipush (v := nI 6) hx hb d_Model_takes_31 (by decide) ?_
            refine pl_icmp_eq X (by decide) (by decide) d_Model_takes_33 rfl (fun gL => ?_) (fun gL => ?_)
            · skip
              exact absurd gL (by decide)
            · skip
              refine lv_iload_n hx hb d_Model_takes_36 rfl (lv_at hl 0 rfl) ?_
              refine lv_bipush (v := nI 8) hx hb d_Model_takes_37 (by decide) ?_
              refine pl_icmp_eq X (by decide) (by decide) d_Model_takes_39 rfl (fun gL => ?_) (fun gL => ?_)
              · skip
                exact absurd gL (by decide)
              · skip
                refine lv_iload_n hx hb d_Model_takes_42 rfl (lv_at hl 0 rfl) ?_
                refine lv_bipush (v := nI 9) hx hb d_Model_takes_43 (by decide) ?_
                refine pl_icmp_eq X (by decide) (by decide) d_Model_takes_45 rfl (fun gL => ?_) (fun gL => ?_)
                · skip
                  exact absurd gL (by decide)
                · skip
                  refine lv_iload_n hx hb d_Model_takes_48 rfl (lv_at hl 0 rfl) ?_
                  refine lv_bipush (v := nI 11) hx hb d_Model_takes_49 (by decide) ?_
                  refine pl_icmp_ne X (by decide) (by decide) d_Model_takes_51 rfl (fun gL => ?_) (fun gL => ?_)
                  · skip
                    refine lv_iconst (v := nI 0) hx hb d_Model_takes_58 (by decide) ?_
                    exact pl_iret X hr hlk hK rfl () rfl hP hD hS d_Model_takes_59
                  · skip
                    exact absurd gL (by decide)
        · skip
          exact absurd gL (by decide)

set_option maxHeartbeats 4000000 in
set_option maxRecDepth 100000 in
theorem c_Model_takes_1 (l : Launch) (D : va_G) (cI cZ cL : ClassId)  : pl_I l y_Model_takes b_Model_takes 1 .int ({ frames := 0, cells := 0, slots := 0, locals := 0 } : Room) pl_E0 D classes (TY cI cZ cL) [.int (nI 1)] [] (fun (r : Int32) (_ : Unit) => r = nI (tkN 1)) (fun (_ : Unit) => []) := by
  refine pl_startI (by decide) (Nat.le_of_ble_eq_true rfl) ?_
  intro p e s m args below meth c A ls X hr hlk hin hK hP hD hS hA hE hl
  have X : CallFix p m c b_Model_takes 1 s args TG R_Model := X
  have hx := X.1
  have hb := X.2.1
  have hl : lv_has ls 1 [(0, .int (nI 1))] := hl
  refine lv_iload_n hx hb d_Model_takes_0 rfl (lv_at hl 0 rfl) ?_
  refine lv_iconst (v := nI 2) hx hb d_Model_takes_1 (by decide) ?_
  refine pl_icmp_eq X (by decide) (by decide) d_Model_takes_2 rfl (fun gL => ?_) (fun gL => ?_)
  · skip
    exact absurd gL (by decide)
  · skip
    refine lv_iload_n hx hb d_Model_takes_5 rfl (lv_at hl 0 rfl) ?_
    refine lv_iconst (v := nI 3) hx hb d_Model_takes_6 (by decide) ?_
    refine pl_icmp_eq X (by decide) (by decide) d_Model_takes_7 rfl (fun gL => ?_) (fun gL => ?_)
    · skip
      exact absurd gL (by decide)
    · skip
      refine lv_iload_n hx hb d_Model_takes_10 rfl (lv_at hl 0 rfl) ?_
      refine lv_iconst (v := nI 4) hx hb d_Model_takes_11 (by decide) ?_
      refine pl_icmp_eq X (by decide) (by decide) d_Model_takes_12 rfl (fun gL => ?_) (fun gL => ?_)
      · skip
        exact absurd gL (by decide)
      · skip
        refine lv_iload_n hx hb d_Model_takes_15 rfl (lv_at hl 0 rfl) ?_
        refine lv_bipush (v := nI 10) hx hb d_Model_takes_16 (by decide) ?_
        refine pl_icmp_ne X (by decide) (by decide) d_Model_takes_18 rfl (fun gL => ?_) (fun gL => ?_)
        · skip
          refine lv_iload_n hx hb d_Model_takes_25 rfl (lv_at hl 0 rfl) ?_
          refine lv_iconst (v := nI 1) hx hb d_Model_takes_26 (by decide) ?_
          refine pl_icmp_eq X (by decide) (by decide) d_Model_takes_27 rfl (fun gL => ?_) (fun gL => ?_)
          · skip
            refine lv_iconst (v := nI 1) hx hb d_Model_takes_54 (by decide) ?_
            refine lv_goto hx hb d_Model_takes_55 rfl ?_
            exact pl_iret X hr hlk hK rfl () rfl hP hD hS d_Model_takes_59
          · skip
            exact absurd gL (by decide)
        · skip
          exact absurd gL (by decide)

set_option maxHeartbeats 4000000 in
set_option maxRecDepth 100000 in
theorem c_Model_takes_2 (l : Launch) (D : va_G) (cI cZ cL : ClassId)  : pl_I l y_Model_takes b_Model_takes 1 .int ({ frames := 0, cells := 0, slots := 0, locals := 0 } : Room) pl_E0 D classes (TY cI cZ cL) [.int (nI 2)] [] (fun (r : Int32) (_ : Unit) => r = nI (tkN 2)) (fun (_ : Unit) => []) := by
  refine pl_startI (by decide) (Nat.le_of_ble_eq_true rfl) ?_
  intro p e s m args below meth c A ls X hr hlk hin hK hP hD hS hA hE hl
  have X : CallFix p m c b_Model_takes 1 s args TG R_Model := X
  have hx := X.1
  have hb := X.2.1
  have hl : lv_has ls 1 [(0, .int (nI 2))] := hl
  refine lv_iload_n hx hb d_Model_takes_0 rfl (lv_at hl 0 rfl) ?_
  refine lv_iconst (v := nI 2) hx hb d_Model_takes_1 (by decide) ?_
  refine pl_icmp_eq X (by decide) (by decide) d_Model_takes_2 rfl (fun gL => ?_) (fun gL => ?_)
  · skip
    refine lv_iconst (v := nI 2) hx hb d_Model_takes_21 (by decide) ?_
    refine lv_goto hx hb d_Model_takes_22 rfl ?_
    exact pl_iret X hr hlk hK rfl () rfl hP hD hS d_Model_takes_59
  · skip
    exact absurd gL (by decide)

set_option maxHeartbeats 4000000 in
set_option maxRecDepth 100000 in
theorem c_Model_takes_3 (l : Launch) (D : va_G) (cI cZ cL : ClassId)  : pl_I l y_Model_takes b_Model_takes 1 .int ({ frames := 0, cells := 0, slots := 0, locals := 0 } : Room) pl_E0 D classes (TY cI cZ cL) [.int (nI 3)] [] (fun (r : Int32) (_ : Unit) => r = nI (tkN 3)) (fun (_ : Unit) => []) := by
  refine pl_startI (by decide) (Nat.le_of_ble_eq_true rfl) ?_
  intro p e s m args below meth c A ls X hr hlk hin hK hP hD hS hA hE hl
  have X : CallFix p m c b_Model_takes 1 s args TG R_Model := X
  have hx := X.1
  have hb := X.2.1
  have hl : lv_has ls 1 [(0, .int (nI 3))] := hl
  refine lv_iload_n hx hb d_Model_takes_0 rfl (lv_at hl 0 rfl) ?_
  refine lv_iconst (v := nI 2) hx hb d_Model_takes_1 (by decide) ?_
  refine pl_icmp_eq X (by decide) (by decide) d_Model_takes_2 rfl (fun gL => ?_) (fun gL => ?_)
  · skip
    exact absurd gL (by decide)
  · skip
    refine lv_iload_n hx hb d_Model_takes_5 rfl (lv_at hl 0 rfl) ?_
    refine lv_iconst (v := nI 3) hx hb d_Model_takes_6 (by decide) ?_
    refine pl_icmp_eq X (by decide) (by decide) d_Model_takes_7 rfl (fun gL => ?_) (fun gL => ?_)
    · skip
      refine lv_iconst (v := nI 2) hx hb d_Model_takes_21 (by decide) ?_
      refine lv_goto hx hb d_Model_takes_22 rfl ?_
      exact pl_iret X hr hlk hK rfl () rfl hP hD hS d_Model_takes_59
    · skip
      exact absurd gL (by decide)

set_option maxHeartbeats 4000000 in
set_option maxRecDepth 100000 in
theorem c_Model_takes_4 (l : Launch) (D : va_G) (cI cZ cL : ClassId)  : pl_I l y_Model_takes b_Model_takes 1 .int ({ frames := 0, cells := 0, slots := 0, locals := 0 } : Room) pl_E0 D classes (TY cI cZ cL) [.int (nI 4)] [] (fun (r : Int32) (_ : Unit) => r = nI (tkN 4)) (fun (_ : Unit) => []) := by
  refine pl_startI (by decide) (Nat.le_of_ble_eq_true rfl) ?_
  intro p e s m args below meth c A ls X hr hlk hin hK hP hD hS hA hE hl
  have X : CallFix p m c b_Model_takes 1 s args TG R_Model := X
  have hx := X.1
  have hb := X.2.1
  have hl : lv_has ls 1 [(0, .int (nI 4))] := hl
  refine lv_iload_n hx hb d_Model_takes_0 rfl (lv_at hl 0 rfl) ?_
  refine lv_iconst (v := nI 2) hx hb d_Model_takes_1 (by decide) ?_
  refine pl_icmp_eq X (by decide) (by decide) d_Model_takes_2 rfl (fun gL => ?_) (fun gL => ?_)
  · skip
    exact absurd gL (by decide)
  · skip
    refine lv_iload_n hx hb d_Model_takes_5 rfl (lv_at hl 0 rfl) ?_
    refine lv_iconst (v := nI 3) hx hb d_Model_takes_6 (by decide) ?_
    refine pl_icmp_eq X (by decide) (by decide) d_Model_takes_7 rfl (fun gL => ?_) (fun gL => ?_)
    · skip
      exact absurd gL (by decide)
    · skip
      refine lv_iload_n hx hb d_Model_takes_10 rfl (lv_at hl 0 rfl) ?_
      refine lv_iconst (v := nI 4) hx hb d_Model_takes_11 (by decide) ?_
      refine pl_icmp_eq X (by decide) (by decide) d_Model_takes_12 rfl (fun gL => ?_) (fun gL => ?_)
      · skip
        refine lv_iconst (v := nI 2) hx hb d_Model_takes_21 (by decide) ?_
        refine lv_goto hx hb d_Model_takes_22 rfl ?_
        exact pl_iret X hr hlk hK rfl () rfl hP hD hS d_Model_takes_59
      · skip
        exact absurd gL (by decide)

set_option maxHeartbeats 4000000 in
set_option maxRecDepth 100000 in
theorem c_Model_takes_5 (l : Launch) (D : va_G) (cI cZ cL : ClassId)  : pl_I l y_Model_takes b_Model_takes 1 .int ({ frames := 0, cells := 0, slots := 0, locals := 0 } : Room) pl_E0 D classes (TY cI cZ cL) [.int (nI 5)] [] (fun (r : Int32) (_ : Unit) => r = nI (tkN 5)) (fun (_ : Unit) => []) := by
  refine pl_startI (by decide) (Nat.le_of_ble_eq_true rfl) ?_
  intro p e s m args below meth c A ls X hr hlk hin hK hP hD hS hA hE hl
  have X : CallFix p m c b_Model_takes 1 s args TG R_Model := X
  have hx := X.1
  have hb := X.2.1
  have hl : lv_has ls 1 [(0, .int (nI 5))] := hl
  refine lv_iload_n hx hb d_Model_takes_0 rfl (lv_at hl 0 rfl) ?_
  refine lv_iconst (v := nI 2) hx hb d_Model_takes_1 (by decide) ?_
  refine pl_icmp_eq X (by decide) (by decide) d_Model_takes_2 rfl (fun gL => ?_) (fun gL => ?_)
  · skip
    exact absurd gL (by decide)
  · skip
    refine lv_iload_n hx hb d_Model_takes_5 rfl (lv_at hl 0 rfl) ?_
    refine lv_iconst (v := nI 3) hx hb d_Model_takes_6 (by decide) ?_
    refine pl_icmp_eq X (by decide) (by decide) d_Model_takes_7 rfl (fun gL => ?_) (fun gL => ?_)
    · skip
      exact absurd gL (by decide)
    · skip
      refine lv_iload_n hx hb d_Model_takes_10 rfl (lv_at hl 0 rfl) ?_
      refine lv_iconst (v := nI 4) hx hb d_Model_takes_11 (by decide) ?_
      refine pl_icmp_eq X (by decide) (by decide) d_Model_takes_12 rfl (fun gL => ?_) (fun gL => ?_)
      · skip
        exact absurd gL (by decide)
      · skip
        refine lv_iload_n hx hb d_Model_takes_15 rfl (lv_at hl 0 rfl) ?_
        refine lv_bipush (v := nI 10) hx hb d_Model_takes_16 (by decide) ?_
        refine pl_icmp_ne X (by decide) (by decide) d_Model_takes_18 rfl (fun gL => ?_) (fun gL => ?_)
        · skip
          refine lv_iload_n hx hb d_Model_takes_25 rfl (lv_at hl 0 rfl) ?_
          refine lv_iconst (v := nI 1) hx hb d_Model_takes_26 (by decide) ?_
          refine pl_icmp_eq X (by decide) (by decide) d_Model_takes_27 rfl (fun gL => ?_) (fun gL => ?_)
          · skip
            exact absurd gL (by decide)
          · skip
            refine lv_iload_n hx hb d_Model_takes_30 rfl (lv_at hl 0 rfl) ?_
            refine lv_bipush (v := nI 6) hx hb d_Model_takes_31 (by decide) ?_
            refine pl_icmp_eq X (by decide) (by decide) d_Model_takes_33 rfl (fun gL => ?_) (fun gL => ?_)
            · skip
              exact absurd gL (by decide)
            · skip
              refine lv_iload_n hx hb d_Model_takes_36 rfl (lv_at hl 0 rfl) ?_
              refine lv_bipush (v := nI 8) hx hb d_Model_takes_37 (by decide) ?_
              refine pl_icmp_eq X (by decide) (by decide) d_Model_takes_39 rfl (fun gL => ?_) (fun gL => ?_)
              · skip
                exact absurd gL (by decide)
              · skip
                refine lv_iload_n hx hb d_Model_takes_42 rfl (lv_at hl 0 rfl) ?_
                refine lv_bipush (v := nI 9) hx hb d_Model_takes_43 (by decide) ?_
                refine pl_icmp_eq X (by decide) (by decide) d_Model_takes_45 rfl (fun gL => ?_) (fun gL => ?_)
                · skip
                  exact absurd gL (by decide)
                · skip
                  refine lv_iload_n hx hb d_Model_takes_48 rfl (lv_at hl 0 rfl) ?_
                  refine lv_bipush (v := nI 11) hx hb d_Model_takes_49 (by decide) ?_
                  refine pl_icmp_ne X (by decide) (by decide) d_Model_takes_51 rfl (fun gL => ?_) (fun gL => ?_)
                  · skip
                    refine lv_iconst (v := nI 0) hx hb d_Model_takes_58 (by decide) ?_
                    exact pl_iret X hr hlk hK rfl () rfl hP hD hS d_Model_takes_59
                  · skip
                    exact absurd gL (by decide)
        · skip
          exact absurd gL (by decide)

set_option maxHeartbeats 4000000 in
set_option maxRecDepth 100000 in
theorem c_Model_takes_6 (l : Launch) (D : va_G) (cI cZ cL : ClassId)  : pl_I l y_Model_takes b_Model_takes 1 .int ({ frames := 0, cells := 0, slots := 0, locals := 0 } : Room) pl_E0 D classes (TY cI cZ cL) [.int (nI 6)] [] (fun (r : Int32) (_ : Unit) => r = nI (tkN 6)) (fun (_ : Unit) => []) := by
  refine pl_startI (by decide) (Nat.le_of_ble_eq_true rfl) ?_
  intro p e s m args below meth c A ls X hr hlk hin hK hP hD hS hA hE hl
  have X : CallFix p m c b_Model_takes 1 s args TG R_Model := X
  have hx := X.1
  have hb := X.2.1
  have hl : lv_has ls 1 [(0, .int (nI 6))] := hl
  refine lv_iload_n hx hb d_Model_takes_0 rfl (lv_at hl 0 rfl) ?_
  refine lv_iconst (v := nI 2) hx hb d_Model_takes_1 (by decide) ?_
  refine pl_icmp_eq X (by decide) (by decide) d_Model_takes_2 rfl (fun gL => ?_) (fun gL => ?_)
  · skip
    exact absurd gL (by decide)
  · skip
    refine lv_iload_n hx hb d_Model_takes_5 rfl (lv_at hl 0 rfl) ?_
    refine lv_iconst (v := nI 3) hx hb d_Model_takes_6 (by decide) ?_
    refine pl_icmp_eq X (by decide) (by decide) d_Model_takes_7 rfl (fun gL => ?_) (fun gL => ?_)
    · skip
      exact absurd gL (by decide)
    · skip
      refine lv_iload_n hx hb d_Model_takes_10 rfl (lv_at hl 0 rfl) ?_
      refine lv_iconst (v := nI 4) hx hb d_Model_takes_11 (by decide) ?_
      refine pl_icmp_eq X (by decide) (by decide) d_Model_takes_12 rfl (fun gL => ?_) (fun gL => ?_)
      · skip
        exact absurd gL (by decide)
      · skip
        refine lv_iload_n hx hb d_Model_takes_15 rfl (lv_at hl 0 rfl) ?_
        refine lv_bipush (v := nI 10) hx hb d_Model_takes_16 (by decide) ?_
        refine pl_icmp_ne X (by decide) (by decide) d_Model_takes_18 rfl (fun gL => ?_) (fun gL => ?_)
        · skip
          refine lv_iload_n hx hb d_Model_takes_25 rfl (lv_at hl 0 rfl) ?_
          refine lv_iconst (v := nI 1) hx hb d_Model_takes_26 (by decide) ?_
          refine pl_icmp_eq X (by decide) (by decide) d_Model_takes_27 rfl (fun gL => ?_) (fun gL => ?_)
          · skip
            exact absurd gL (by decide)
          · skip
            refine lv_iload_n hx hb d_Model_takes_30 rfl (lv_at hl 0 rfl) ?_
            refine lv_bipush (v := nI 6) hx hb d_Model_takes_31 (by decide) ?_
            refine pl_icmp_eq X (by decide) (by decide) d_Model_takes_33 rfl (fun gL => ?_) (fun gL => ?_)
            · skip
              refine lv_iconst (v := nI 1) hx hb d_Model_takes_54 (by decide) ?_
              refine lv_goto hx hb d_Model_takes_55 rfl ?_
              exact pl_iret X hr hlk hK rfl () rfl hP hD hS d_Model_takes_59
            · skip
              exact absurd gL (by decide)
        · skip
          exact absurd gL (by decide)

set_option maxHeartbeats 4000000 in
set_option maxRecDepth 100000 in
theorem c_Model_takes_7 (l : Launch) (D : va_G) (cI cZ cL : ClassId)  : pl_I l y_Model_takes b_Model_takes 1 .int ({ frames := 0, cells := 0, slots := 0, locals := 0 } : Room) pl_E0 D classes (TY cI cZ cL) [.int (nI 7)] [] (fun (r : Int32) (_ : Unit) => r = nI (tkN 7)) (fun (_ : Unit) => []) := by
  refine pl_startI (by decide) (Nat.le_of_ble_eq_true rfl) ?_
  intro p e s m args below meth c A ls X hr hlk hin hK hP hD hS hA hE hl
  have X : CallFix p m c b_Model_takes 1 s args TG R_Model := X
  have hx := X.1
  have hb := X.2.1
  have hl : lv_has ls 1 [(0, .int (nI 7))] := hl
  refine lv_iload_n hx hb d_Model_takes_0 rfl (lv_at hl 0 rfl) ?_
  refine lv_iconst (v := nI 2) hx hb d_Model_takes_1 (by decide) ?_
  refine pl_icmp_eq X (by decide) (by decide) d_Model_takes_2 rfl (fun gL => ?_) (fun gL => ?_)
  · skip
    exact absurd gL (by decide)
  · skip
    refine lv_iload_n hx hb d_Model_takes_5 rfl (lv_at hl 0 rfl) ?_
    refine lv_iconst (v := nI 3) hx hb d_Model_takes_6 (by decide) ?_
    refine pl_icmp_eq X (by decide) (by decide) d_Model_takes_7 rfl (fun gL => ?_) (fun gL => ?_)
    · skip
      exact absurd gL (by decide)
    · skip
      refine lv_iload_n hx hb d_Model_takes_10 rfl (lv_at hl 0 rfl) ?_
      refine lv_iconst (v := nI 4) hx hb d_Model_takes_11 (by decide) ?_
      refine pl_icmp_eq X (by decide) (by decide) d_Model_takes_12 rfl (fun gL => ?_) (fun gL => ?_)
      · skip
        exact absurd gL (by decide)
      · skip
        refine lv_iload_n hx hb d_Model_takes_15 rfl (lv_at hl 0 rfl) ?_
        refine lv_bipush (v := nI 10) hx hb d_Model_takes_16 (by decide) ?_
        refine pl_icmp_ne X (by decide) (by decide) d_Model_takes_18 rfl (fun gL => ?_) (fun gL => ?_)
        · skip
          refine lv_iload_n hx hb d_Model_takes_25 rfl (lv_at hl 0 rfl) ?_
          refine lv_iconst (v := nI 1) hx hb d_Model_takes_26 (by decide) ?_
          refine pl_icmp_eq X (by decide) (by decide) d_Model_takes_27 rfl (fun gL => ?_) (fun gL => ?_)
          · skip
            exact absurd gL (by decide)
          · skip
            refine lv_iload_n hx hb d_Model_takes_30 rfl (lv_at hl 0 rfl) ?_
            refine lv_bipush (v := nI 6) hx hb d_Model_takes_31 (by decide) ?_
            refine pl_icmp_eq X (by decide) (by decide) d_Model_takes_33 rfl (fun gL => ?_) (fun gL => ?_)
            · skip
              exact absurd gL (by decide)
            · skip
              refine lv_iload_n hx hb d_Model_takes_36 rfl (lv_at hl 0 rfl) ?_
              refine lv_bipush (v := nI 8) hx hb d_Model_takes_37 (by decide) ?_
              refine pl_icmp_eq X (by decide) (by decide) d_Model_takes_39 rfl (fun gL => ?_) (fun gL => ?_)
              · skip
                exact absurd gL (by decide)
              · skip
                refine lv_iload_n hx hb d_Model_takes_42 rfl (lv_at hl 0 rfl) ?_
                refine lv_bipush (v := nI 9) hx hb d_Model_takes_43 (by decide) ?_
                refine pl_icmp_eq X (by decide) (by decide) d_Model_takes_45 rfl (fun gL => ?_) (fun gL => ?_)
                · skip
                  exact absurd gL (by decide)
                · skip
                  refine lv_iload_n hx hb d_Model_takes_48 rfl (lv_at hl 0 rfl) ?_
                  refine lv_bipush (v := nI 11) hx hb d_Model_takes_49 (by decide) ?_
                  refine pl_icmp_ne X (by decide) (by decide) d_Model_takes_51 rfl (fun gL => ?_) (fun gL => ?_)
                  · skip
                    refine lv_iconst (v := nI 0) hx hb d_Model_takes_58 (by decide) ?_
                    exact pl_iret X hr hlk hK rfl () rfl hP hD hS d_Model_takes_59
                  · skip
                    exact absurd gL (by decide)
        · skip
          exact absurd gL (by decide)

set_option maxHeartbeats 4000000 in
set_option maxRecDepth 100000 in
theorem c_Model_takes_8 (l : Launch) (D : va_G) (cI cZ cL : ClassId)  : pl_I l y_Model_takes b_Model_takes 1 .int ({ frames := 0, cells := 0, slots := 0, locals := 0 } : Room) pl_E0 D classes (TY cI cZ cL) [.int (nI 8)] [] (fun (r : Int32) (_ : Unit) => r = nI (tkN 8)) (fun (_ : Unit) => []) := by
  refine pl_startI (by decide) (Nat.le_of_ble_eq_true rfl) ?_
  intro p e s m args below meth c A ls X hr hlk hin hK hP hD hS hA hE hl
  have X : CallFix p m c b_Model_takes 1 s args TG R_Model := X
  have hx := X.1
  have hb := X.2.1
  have hl : lv_has ls 1 [(0, .int (nI 8))] := hl
  refine lv_iload_n hx hb d_Model_takes_0 rfl (lv_at hl 0 rfl) ?_
  refine lv_iconst (v := nI 2) hx hb d_Model_takes_1 (by decide) ?_
  refine pl_icmp_eq X (by decide) (by decide) d_Model_takes_2 rfl (fun gL => ?_) (fun gL => ?_)
  · skip
    exact absurd gL (by decide)
  · skip
    refine lv_iload_n hx hb d_Model_takes_5 rfl (lv_at hl 0 rfl) ?_
    refine lv_iconst (v := nI 3) hx hb d_Model_takes_6 (by decide) ?_
    refine pl_icmp_eq X (by decide) (by decide) d_Model_takes_7 rfl (fun gL => ?_) (fun gL => ?_)
    · skip
      exact absurd gL (by decide)
    · skip
      refine lv_iload_n hx hb d_Model_takes_10 rfl (lv_at hl 0 rfl) ?_
      refine lv_iconst (v := nI 4) hx hb d_Model_takes_11 (by decide) ?_
      refine pl_icmp_eq X (by decide) (by decide) d_Model_takes_12 rfl (fun gL => ?_) (fun gL => ?_)
      · skip
        exact absurd gL (by decide)
      · skip
        refine lv_iload_n hx hb d_Model_takes_15 rfl (lv_at hl 0 rfl) ?_
        refine lv_bipush (v := nI 10) hx hb d_Model_takes_16 (by decide) ?_
        refine pl_icmp_ne X (by decide) (by decide) d_Model_takes_18 rfl (fun gL => ?_) (fun gL => ?_)
        · skip
          refine lv_iload_n hx hb d_Model_takes_25 rfl (lv_at hl 0 rfl) ?_
          refine lv_iconst (v := nI 1) hx hb d_Model_takes_26 (by decide) ?_
          refine pl_icmp_eq X (by decide) (by decide) d_Model_takes_27 rfl (fun gL => ?_) (fun gL => ?_)
          · skip
            exact absurd gL (by decide)
          · skip
            refine lv_iload_n hx hb d_Model_takes_30 rfl (lv_at hl 0 rfl) ?_
            refine lv_bipush (v := nI 6) hx hb d_Model_takes_31 (by decide) ?_
            refine pl_icmp_eq X (by decide) (by decide) d_Model_takes_33 rfl (fun gL => ?_) (fun gL => ?_)
            · skip
              exact absurd gL (by decide)
            · skip
              refine lv_iload_n hx hb d_Model_takes_36 rfl (lv_at hl 0 rfl) ?_
              refine lv_bipush (v := nI 8) hx hb d_Model_takes_37 (by decide) ?_
              refine pl_icmp_eq X (by decide) (by decide) d_Model_takes_39 rfl (fun gL => ?_) (fun gL => ?_)
              · skip
                refine lv_iconst (v := nI 1) hx hb d_Model_takes_54 (by decide) ?_
                refine lv_goto hx hb d_Model_takes_55 rfl ?_
                exact pl_iret X hr hlk hK rfl () rfl hP hD hS d_Model_takes_59
              · skip
                exact absurd gL (by decide)
        · skip
          exact absurd gL (by decide)

set_option maxHeartbeats 4000000 in
set_option maxRecDepth 100000 in
theorem c_Model_takes_9 (l : Launch) (D : va_G) (cI cZ cL : ClassId)  : pl_I l y_Model_takes b_Model_takes 1 .int ({ frames := 0, cells := 0, slots := 0, locals := 0 } : Room) pl_E0 D classes (TY cI cZ cL) [.int (nI 9)] [] (fun (r : Int32) (_ : Unit) => r = nI (tkN 9)) (fun (_ : Unit) => []) := by
  refine pl_startI (by decide) (Nat.le_of_ble_eq_true rfl) ?_
  intro p e s m args below meth c A ls X hr hlk hin hK hP hD hS hA hE hl
  have X : CallFix p m c b_Model_takes 1 s args TG R_Model := X
  have hx := X.1
  have hb := X.2.1
  have hl : lv_has ls 1 [(0, .int (nI 9))] := hl
  refine lv_iload_n hx hb d_Model_takes_0 rfl (lv_at hl 0 rfl) ?_
  refine lv_iconst (v := nI 2) hx hb d_Model_takes_1 (by decide) ?_
  refine pl_icmp_eq X (by decide) (by decide) d_Model_takes_2 rfl (fun gL => ?_) (fun gL => ?_)
  · skip
    exact absurd gL (by decide)
  · skip
    refine lv_iload_n hx hb d_Model_takes_5 rfl (lv_at hl 0 rfl) ?_
    refine lv_iconst (v := nI 3) hx hb d_Model_takes_6 (by decide) ?_
    refine pl_icmp_eq X (by decide) (by decide) d_Model_takes_7 rfl (fun gL => ?_) (fun gL => ?_)
    · skip
      exact absurd gL (by decide)
    · skip
      refine lv_iload_n hx hb d_Model_takes_10 rfl (lv_at hl 0 rfl) ?_
      refine lv_iconst (v := nI 4) hx hb d_Model_takes_11 (by decide) ?_
      refine pl_icmp_eq X (by decide) (by decide) d_Model_takes_12 rfl (fun gL => ?_) (fun gL => ?_)
      · skip
        exact absurd gL (by decide)
      · skip
        refine lv_iload_n hx hb d_Model_takes_15 rfl (lv_at hl 0 rfl) ?_
        refine lv_bipush (v := nI 10) hx hb d_Model_takes_16 (by decide) ?_
        refine pl_icmp_ne X (by decide) (by decide) d_Model_takes_18 rfl (fun gL => ?_) (fun gL => ?_)
        · skip
          refine lv_iload_n hx hb d_Model_takes_25 rfl (lv_at hl 0 rfl) ?_
          refine lv_iconst (v := nI 1) hx hb d_Model_takes_26 (by decide) ?_
          refine pl_icmp_eq X (by decide) (by decide) d_Model_takes_27 rfl (fun gL => ?_) (fun gL => ?_)
          · skip
            exact absurd gL (by decide)
          · skip
            refine lv_iload_n hx hb d_Model_takes_30 rfl (lv_at hl 0 rfl) ?_
            refine lv_bipush (v := nI 6) hx hb d_Model_takes_31 (by decide) ?_
            refine pl_icmp_eq X (by decide) (by decide) d_Model_takes_33 rfl (fun gL => ?_) (fun gL => ?_)
            · skip
              exact absurd gL (by decide)
            · skip
              refine lv_iload_n hx hb d_Model_takes_36 rfl (lv_at hl 0 rfl) ?_
              refine lv_bipush (v := nI 8) hx hb d_Model_takes_37 (by decide) ?_
              refine pl_icmp_eq X (by decide) (by decide) d_Model_takes_39 rfl (fun gL => ?_) (fun gL => ?_)
              · skip
                exact absurd gL (by decide)
              · skip
                refine lv_iload_n hx hb d_Model_takes_42 rfl (lv_at hl 0 rfl) ?_
                refine lv_bipush (v := nI 9) hx hb d_Model_takes_43 (by decide) ?_
                refine pl_icmp_eq X (by decide) (by decide) d_Model_takes_45 rfl (fun gL => ?_) (fun gL => ?_)
                · skip
                  refine lv_iconst (v := nI 1) hx hb d_Model_takes_54 (by decide) ?_
                  refine lv_goto hx hb d_Model_takes_55 rfl ?_
                  exact pl_iret X hr hlk hK rfl () rfl hP hD hS d_Model_takes_59
                · skip
                  exact absurd gL (by decide)
        · skip
          exact absurd gL (by decide)

set_option maxHeartbeats 4000000 in
set_option maxRecDepth 100000 in
theorem c_Model_takes_10 (l : Launch) (D : va_G) (cI cZ cL : ClassId)  : pl_I l y_Model_takes b_Model_takes 1 .int ({ frames := 0, cells := 0, slots := 0, locals := 0 } : Room) pl_E0 D classes (TY cI cZ cL) [.int (nI 10)] [] (fun (r : Int32) (_ : Unit) => r = nI (tkN 10)) (fun (_ : Unit) => []) := by
  refine pl_startI (by decide) (Nat.le_of_ble_eq_true rfl) ?_
  intro p e s m args below meth c A ls X hr hlk hin hK hP hD hS hA hE hl
  have X : CallFix p m c b_Model_takes 1 s args TG R_Model := X
  have hx := X.1
  have hb := X.2.1
  have hl : lv_has ls 1 [(0, .int (nI 10))] := hl
  refine lv_iload_n hx hb d_Model_takes_0 rfl (lv_at hl 0 rfl) ?_
  refine lv_iconst (v := nI 2) hx hb d_Model_takes_1 (by decide) ?_
  refine pl_icmp_eq X (by decide) (by decide) d_Model_takes_2 rfl (fun gL => ?_) (fun gL => ?_)
  · skip
    exact absurd gL (by decide)
  · skip
    refine lv_iload_n hx hb d_Model_takes_5 rfl (lv_at hl 0 rfl) ?_
    refine lv_iconst (v := nI 3) hx hb d_Model_takes_6 (by decide) ?_
    refine pl_icmp_eq X (by decide) (by decide) d_Model_takes_7 rfl (fun gL => ?_) (fun gL => ?_)
    · skip
      exact absurd gL (by decide)
    · skip
      refine lv_iload_n hx hb d_Model_takes_10 rfl (lv_at hl 0 rfl) ?_
      refine lv_iconst (v := nI 4) hx hb d_Model_takes_11 (by decide) ?_
      refine pl_icmp_eq X (by decide) (by decide) d_Model_takes_12 rfl (fun gL => ?_) (fun gL => ?_)
      · skip
        exact absurd gL (by decide)
      · skip
        refine lv_iload_n hx hb d_Model_takes_15 rfl (lv_at hl 0 rfl) ?_
        refine lv_bipush (v := nI 10) hx hb d_Model_takes_16 (by decide) ?_
        refine pl_icmp_ne X (by decide) (by decide) d_Model_takes_18 rfl (fun gL => ?_) (fun gL => ?_)
        · skip
          exact absurd gL (by decide)
        · skip
          refine lv_iconst (v := nI 2) hx hb d_Model_takes_21 (by decide) ?_
          refine lv_goto hx hb d_Model_takes_22 rfl ?_
          exact pl_iret X hr hlk hK rfl () rfl hP hD hS d_Model_takes_59

set_option maxHeartbeats 4000000 in
set_option maxRecDepth 100000 in
theorem c_Model_takes_11 (l : Launch) (D : va_G) (cI cZ cL : ClassId)  : pl_I l y_Model_takes b_Model_takes 1 .int ({ frames := 0, cells := 0, slots := 0, locals := 0 } : Room) pl_E0 D classes (TY cI cZ cL) [.int (nI 11)] [] (fun (r : Int32) (_ : Unit) => r = nI (tkN 11)) (fun (_ : Unit) => []) := by
  refine pl_startI (by decide) (Nat.le_of_ble_eq_true rfl) ?_
  intro p e s m args below meth c A ls X hr hlk hin hK hP hD hS hA hE hl
  have X : CallFix p m c b_Model_takes 1 s args TG R_Model := X
  have hx := X.1
  have hb := X.2.1
  have hl : lv_has ls 1 [(0, .int (nI 11))] := hl
  refine lv_iload_n hx hb d_Model_takes_0 rfl (lv_at hl 0 rfl) ?_
  refine lv_iconst (v := nI 2) hx hb d_Model_takes_1 (by decide) ?_
  refine pl_icmp_eq X (by decide) (by decide) d_Model_takes_2 rfl (fun gL => ?_) (fun gL => ?_)
  · skip
    exact absurd gL (by decide)
  · skip
    refine lv_iload_n hx hb d_Model_takes_5 rfl (lv_at hl 0 rfl) ?_
    refine lv_iconst (v := nI 3) hx hb d_Model_takes_6 (by decide) ?_
    refine pl_icmp_eq X (by decide) (by decide) d_Model_takes_7 rfl (fun gL => ?_) (fun gL => ?_)
    · skip
      exact absurd gL (by decide)
    · skip
      refine lv_iload_n hx hb d_Model_takes_10 rfl (lv_at hl 0 rfl) ?_
      refine lv_iconst (v := nI 4) hx hb d_Model_takes_11 (by decide) ?_
      refine pl_icmp_eq X (by decide) (by decide) d_Model_takes_12 rfl (fun gL => ?_) (fun gL => ?_)
      · skip
        exact absurd gL (by decide)
      · skip
        refine lv_iload_n hx hb d_Model_takes_15 rfl (lv_at hl 0 rfl) ?_
        refine lv_bipush (v := nI 10) hx hb d_Model_takes_16 (by decide) ?_
        refine pl_icmp_ne X (by decide) (by decide) d_Model_takes_18 rfl (fun gL => ?_) (fun gL => ?_)
        · skip
          refine lv_iload_n hx hb d_Model_takes_25 rfl (lv_at hl 0 rfl) ?_
          refine lv_iconst (v := nI 1) hx hb d_Model_takes_26 (by decide) ?_
          refine pl_icmp_eq X (by decide) (by decide) d_Model_takes_27 rfl (fun gL => ?_) (fun gL => ?_)
          · skip
            exact absurd gL (by decide)
          · skip
            refine lv_iload_n hx hb d_Model_takes_30 rfl (lv_at hl 0 rfl) ?_
            refine lv_bipush (v := nI 6) hx hb d_Model_takes_31 (by decide) ?_
            refine pl_icmp_eq X (by decide) (by decide) d_Model_takes_33 rfl (fun gL => ?_) (fun gL => ?_)
            · skip
              exact absurd gL (by decide)
            · skip
              refine lv_iload_n hx hb d_Model_takes_36 rfl (lv_at hl 0 rfl) ?_
              refine lv_bipush (v := nI 8) hx hb d_Model_takes_37 (by decide) ?_
              refine pl_icmp_eq X (by decide) (by decide) d_Model_takes_39 rfl (fun gL => ?_) (fun gL => ?_)
              · skip
                exact absurd gL (by decide)
              · skip
                refine lv_iload_n hx hb d_Model_takes_42 rfl (lv_at hl 0 rfl) ?_
                refine lv_bipush (v := nI 9) hx hb d_Model_takes_43 (by decide) ?_
                refine pl_icmp_eq X (by decide) (by decide) d_Model_takes_45 rfl (fun gL => ?_) (fun gL => ?_)
                · skip
                  exact absurd gL (by decide)
                · skip
                  refine lv_iload_n hx hb d_Model_takes_48 rfl (lv_at hl 0 rfl) ?_
                  refine lv_bipush (v := nI 11) hx hb d_Model_takes_49 (by decide) ?_
                  refine pl_icmp_ne X (by decide) (by decide) d_Model_takes_51 rfl (fun gL => ?_) (fun gL => ?_)
                  · skip
                    exact absurd gL (by decide)
                  · skip
                    refine lv_iconst (v := nI 1) hx hb d_Model_takes_54 (by decide) ?_
                    refine lv_goto hx hb d_Model_takes_55 rfl ?_
                    exact pl_iret X hr hlk hK rfl () rfl hP hD hS d_Model_takes_59
        · skip
          exact absurd gL (by decide)

set_option maxHeartbeats 4000000 in
set_option maxRecDepth 100000 in
theorem c_Model_takes_12 (l : Launch) (D : va_G) (cI cZ cL : ClassId)  : pl_I l y_Model_takes b_Model_takes 1 .int ({ frames := 0, cells := 0, slots := 0, locals := 0 } : Room) pl_E0 D classes (TY cI cZ cL) [.int (nI 12)] [] (fun (r : Int32) (_ : Unit) => r = nI (tkN 12)) (fun (_ : Unit) => []) := by
  refine pl_startI (by decide) (Nat.le_of_ble_eq_true rfl) ?_
  intro p e s m args below meth c A ls X hr hlk hin hK hP hD hS hA hE hl
  have X : CallFix p m c b_Model_takes 1 s args TG R_Model := X
  have hx := X.1
  have hb := X.2.1
  have hl : lv_has ls 1 [(0, .int (nI 12))] := hl
  refine lv_iload_n hx hb d_Model_takes_0 rfl (lv_at hl 0 rfl) ?_
  refine lv_iconst (v := nI 2) hx hb d_Model_takes_1 (by decide) ?_
  refine pl_icmp_eq X (by decide) (by decide) d_Model_takes_2 rfl (fun gL => ?_) (fun gL => ?_)
  · skip
    exact absurd gL (by decide)
  · skip
    refine lv_iload_n hx hb d_Model_takes_5 rfl (lv_at hl 0 rfl) ?_
    refine lv_iconst (v := nI 3) hx hb d_Model_takes_6 (by decide) ?_
    refine pl_icmp_eq X (by decide) (by decide) d_Model_takes_7 rfl (fun gL => ?_) (fun gL => ?_)
    · skip
      exact absurd gL (by decide)
    · skip
      refine lv_iload_n hx hb d_Model_takes_10 rfl (lv_at hl 0 rfl) ?_
      refine lv_iconst (v := nI 4) hx hb d_Model_takes_11 (by decide) ?_
      refine pl_icmp_eq X (by decide) (by decide) d_Model_takes_12 rfl (fun gL => ?_) (fun gL => ?_)
      · skip
        exact absurd gL (by decide)
      · skip
        refine lv_iload_n hx hb d_Model_takes_15 rfl (lv_at hl 0 rfl) ?_
        refine lv_bipush (v := nI 10) hx hb d_Model_takes_16 (by decide) ?_
        refine pl_icmp_ne X (by decide) (by decide) d_Model_takes_18 rfl (fun gL => ?_) (fun gL => ?_)
        · skip
          refine lv_iload_n hx hb d_Model_takes_25 rfl (lv_at hl 0 rfl) ?_
          refine lv_iconst (v := nI 1) hx hb d_Model_takes_26 (by decide) ?_
          refine pl_icmp_eq X (by decide) (by decide) d_Model_takes_27 rfl (fun gL => ?_) (fun gL => ?_)
          · skip
            exact absurd gL (by decide)
          · skip
            refine lv_iload_n hx hb d_Model_takes_30 rfl (lv_at hl 0 rfl) ?_
            refine lv_bipush (v := nI 6) hx hb d_Model_takes_31 (by decide) ?_
            refine pl_icmp_eq X (by decide) (by decide) d_Model_takes_33 rfl (fun gL => ?_) (fun gL => ?_)
            · skip
              exact absurd gL (by decide)
            · skip
              refine lv_iload_n hx hb d_Model_takes_36 rfl (lv_at hl 0 rfl) ?_
              refine lv_bipush (v := nI 8) hx hb d_Model_takes_37 (by decide) ?_
              refine pl_icmp_eq X (by decide) (by decide) d_Model_takes_39 rfl (fun gL => ?_) (fun gL => ?_)
              · skip
                exact absurd gL (by decide)
              · skip
                refine lv_iload_n hx hb d_Model_takes_42 rfl (lv_at hl 0 rfl) ?_
                refine lv_bipush (v := nI 9) hx hb d_Model_takes_43 (by decide) ?_
                refine pl_icmp_eq X (by decide) (by decide) d_Model_takes_45 rfl (fun gL => ?_) (fun gL => ?_)
                · skip
                  exact absurd gL (by decide)
                · skip
                  refine lv_iload_n hx hb d_Model_takes_48 rfl (lv_at hl 0 rfl) ?_
                  refine lv_bipush (v := nI 11) hx hb d_Model_takes_49 (by decide) ?_
                  refine pl_icmp_ne X (by decide) (by decide) d_Model_takes_51 rfl (fun gL => ?_) (fun gL => ?_)
                  · skip
                    refine lv_iconst (v := nI 0) hx hb d_Model_takes_58 (by decide) ?_
                    exact pl_iret X hr hlk hK rfl () rfl hP hD hS d_Model_takes_59
                  · skip
                    exact absurd gL (by decide)
        · skip
          exact absurd gL (by decide)

theorem c_Model_takes (l : Launch) (D : va_G) (cI cZ cL : ClassId) (o : Nat) (ho : o ≤ 12) : pl_I l y_Model_takes b_Model_takes 1 .int ({ frames := 0, cells := 0, slots := 0, locals := 0 } : Room) pl_E0 D classes (TY cI cZ cL) [.int (nI o)] [] (fun (r : Int32) (_ : Unit) => r = nI (tkN o)) (fun (_ : Unit) => []) := by
  rcases (show o = 0 ∨ o = 1 ∨ o = 2 ∨ o = 3 ∨ o = 4 ∨ o = 5 ∨ o = 6 ∨ o = 7 ∨ o = 8 ∨ o = 9 ∨ o = 10 ∨ o = 11 ∨ o = 12 by omega) with rfl | rfl | rfl | rfl | rfl | rfl | rfl | rfl | rfl | rfl | rfl | rfl | rfl
  · exact c_Model_takes_0 l D cI cZ cL
  · exact c_Model_takes_1 l D cI cZ cL
  · exact c_Model_takes_2 l D cI cZ cL
  · exact c_Model_takes_3 l D cI cZ cL
  · exact c_Model_takes_4 l D cI cZ cL
  · exact c_Model_takes_5 l D cI cZ cL
  · exact c_Model_takes_6 l D cI cZ cL
  · exact c_Model_takes_7 l D cI cZ cL
  · exact c_Model_takes_8 l D cI cZ cL
  · exact c_Model_takes_9 l D cI cZ cL
  · exact c_Model_takes_10 l D cI cZ cL
  · exact c_Model_takes_11 l D cI cZ cL
  · exact c_Model_takes_12 l D cI cZ cL

set_option maxHeartbeats 4000000 in
set_option maxRecDepth 100000 in
theorem c_Model_gives_0 (l : Launch) (D : va_G) (cI cZ cL : ClassId)  : pl_I l y_Model_gives b_Model_gives 1 .int ({ frames := 0, cells := 0, slots := 0, locals := 0 } : Room) pl_E0 D classes (TY cI cZ cL) [.int (nI 0)] [] (fun (r : Int32) (_ : Unit) => r = nI (lvN 0)) (fun (_ : Unit) => []) := by
  refine pl_startI (by decide) (Nat.le_of_ble_eq_true rfl) ?_
  intro p e s m args below meth c A ls X hr hlk hin hK hP hD hS hA hE hl
  have X : CallFix p m c b_Model_gives 1 s args TG R_Model := X
  have hx := X.1
  have hb := X.2.1
  have hl : lv_has ls 1 [(0, .int (nI 0))] := hl
  refine lv_iload_n hx hb d_Model_gives_0 rfl (lv_at hl 0 rfl) ?_
  refine lv_bipush (v := nI 10) hx hb d_Model_gives_1 (by decide) ?_
  refine pl_icmp_eq X (by decide) (by decide) d_Model_gives_3 rfl (fun gL => ?_) (fun gL => ?_)
  · skip
    exact absurd gL (by decide)
  · skip
    refine lv_iload_n hx hb d_Model_gives_6 rfl (lv_at hl 0 rfl) ?_
    refine lv_bipush (v := nI 11) hx hb d_Model_gives_7 (by decide) ?_
    refine pl_icmp_ne X (by decide) (by decide) d_Model_gives_9 rfl (fun gL => ?_) (fun gL => ?_)
    · skip
      refine lv_iload_n hx hb d_Model_gives_16 rfl (lv_at hl 0 rfl) ?_
      refine pl_if_eq X (by decide) d_Model_gives_17 rfl (fun gL => ?_) (fun gL => ?_)
      · skip
        refine lv_iconst (v := nI 1) hx hb d_Model_gives_40 (by decide) ?_
        refine lv_goto hx hb d_Model_gives_41 rfl ?_
        exact pl_iret X hr hlk hK rfl () rfl hP hD hS d_Model_gives_45
      · skip
        exact absurd gL (by decide)
    · skip
      exact absurd gL (by decide)

set_option maxHeartbeats 4000000 in
set_option maxRecDepth 100000 in
theorem c_Model_gives_1 (l : Launch) (D : va_G) (cI cZ cL : ClassId)  : pl_I l y_Model_gives b_Model_gives 1 .int ({ frames := 0, cells := 0, slots := 0, locals := 0 } : Room) pl_E0 D classes (TY cI cZ cL) [.int (nI 1)] [] (fun (r : Int32) (_ : Unit) => r = nI (lvN 1)) (fun (_ : Unit) => []) := by
  refine pl_startI (by decide) (Nat.le_of_ble_eq_true rfl) ?_
  intro p e s m args below meth c A ls X hr hlk hin hK hP hD hS hA hE hl
  have X : CallFix p m c b_Model_gives 1 s args TG R_Model := X
  have hx := X.1
  have hb := X.2.1
  have hl : lv_has ls 1 [(0, .int (nI 1))] := hl
  refine lv_iload_n hx hb d_Model_gives_0 rfl (lv_at hl 0 rfl) ?_
  refine lv_bipush (v := nI 10) hx hb d_Model_gives_1 (by decide) ?_
  refine pl_icmp_eq X (by decide) (by decide) d_Model_gives_3 rfl (fun gL => ?_) (fun gL => ?_)
  · skip
    exact absurd gL (by decide)
  · skip
    refine lv_iload_n hx hb d_Model_gives_6 rfl (lv_at hl 0 rfl) ?_
    refine lv_bipush (v := nI 11) hx hb d_Model_gives_7 (by decide) ?_
    refine pl_icmp_ne X (by decide) (by decide) d_Model_gives_9 rfl (fun gL => ?_) (fun gL => ?_)
    · skip
      refine lv_iload_n hx hb d_Model_gives_16 rfl (lv_at hl 0 rfl) ?_
      refine pl_if_eq X (by decide) d_Model_gives_17 rfl (fun gL => ?_) (fun gL => ?_)
      · skip
        exact absurd gL (by decide)
      · skip
        refine lv_iload_n hx hb d_Model_gives_20 rfl (lv_at hl 0 rfl) ?_
        refine lv_iconst (v := nI 5) hx hb d_Model_gives_21 (by decide) ?_
        refine pl_icmp_eq X (by decide) (by decide) d_Model_gives_22 rfl (fun gL => ?_) (fun gL => ?_)
        · skip
          exact absurd gL (by decide)
        · skip
          refine lv_iload_n hx hb d_Model_gives_25 rfl (lv_at hl 0 rfl) ?_
          refine lv_iconst (v := nI 2) hx hb d_Model_gives_26 (by decide) ?_
          refine pl_icmp_eq X (by decide) (by decide) d_Model_gives_27 rfl (fun gL => ?_) (fun gL => ?_)
          · skip
            exact absurd gL (by decide)
          · skip
            refine lv_iload_n hx hb d_Model_gives_30 rfl (lv_at hl 0 rfl) ?_
            refine lv_iconst (v := nI 3) hx hb d_Model_gives_31 (by decide) ?_
            refine pl_icmp_eq X (by decide) (by decide) d_Model_gives_32 rfl (fun gL => ?_) (fun gL => ?_)
            · skip
              exact absurd gL (by decide)
            · skip
              refine lv_iload_n hx hb d_Model_gives_35 rfl (lv_at hl 0 rfl) ?_
              refine lv_iconst (v := nI 4) hx hb d_Model_gives_36 (by decide) ?_
              refine pl_icmp_ne X (by decide) (by decide) d_Model_gives_37 rfl (fun gL => ?_) (fun gL => ?_)
              · skip
                refine lv_iconst (v := nI 0) hx hb d_Model_gives_44 (by decide) ?_
                exact pl_iret X hr hlk hK rfl () rfl hP hD hS d_Model_gives_45
              · skip
                exact absurd gL (by decide)
    · skip
      exact absurd gL (by decide)

set_option maxHeartbeats 4000000 in
set_option maxRecDepth 100000 in
theorem c_Model_gives_2 (l : Launch) (D : va_G) (cI cZ cL : ClassId)  : pl_I l y_Model_gives b_Model_gives 1 .int ({ frames := 0, cells := 0, slots := 0, locals := 0 } : Room) pl_E0 D classes (TY cI cZ cL) [.int (nI 2)] [] (fun (r : Int32) (_ : Unit) => r = nI (lvN 2)) (fun (_ : Unit) => []) := by
  refine pl_startI (by decide) (Nat.le_of_ble_eq_true rfl) ?_
  intro p e s m args below meth c A ls X hr hlk hin hK hP hD hS hA hE hl
  have X : CallFix p m c b_Model_gives 1 s args TG R_Model := X
  have hx := X.1
  have hb := X.2.1
  have hl : lv_has ls 1 [(0, .int (nI 2))] := hl
  refine lv_iload_n hx hb d_Model_gives_0 rfl (lv_at hl 0 rfl) ?_
  refine lv_bipush (v := nI 10) hx hb d_Model_gives_1 (by decide) ?_
  refine pl_icmp_eq X (by decide) (by decide) d_Model_gives_3 rfl (fun gL => ?_) (fun gL => ?_)
  · skip
    exact absurd gL (by decide)
  · skip
    refine lv_iload_n hx hb d_Model_gives_6 rfl (lv_at hl 0 rfl) ?_
    refine lv_bipush (v := nI 11) hx hb d_Model_gives_7 (by decide) ?_
    refine pl_icmp_ne X (by decide) (by decide) d_Model_gives_9 rfl (fun gL => ?_) (fun gL => ?_)
    · skip
      refine lv_iload_n hx hb d_Model_gives_16 rfl (lv_at hl 0 rfl) ?_
      refine pl_if_eq X (by decide) d_Model_gives_17 rfl (fun gL => ?_) (fun gL => ?_)
      · skip
        exact absurd gL (by decide)
      · skip
        refine lv_iload_n hx hb d_Model_gives_20 rfl (lv_at hl 0 rfl) ?_
        refine lv_iconst (v := nI 5) hx hb d_Model_gives_21 (by decide) ?_
        refine pl_icmp_eq X (by decide) (by decide) d_Model_gives_22 rfl (fun gL => ?_) (fun gL => ?_)
        · skip
          exact absurd gL (by decide)
        · skip
          refine lv_iload_n hx hb d_Model_gives_25 rfl (lv_at hl 0 rfl) ?_
          refine lv_iconst (v := nI 2) hx hb d_Model_gives_26 (by decide) ?_
          refine pl_icmp_eq X (by decide) (by decide) d_Model_gives_27 rfl (fun gL => ?_) (fun gL => ?_)
          · skip
            refine lv_iconst (v := nI 1) hx hb d_Model_gives_40 (by decide) ?_
            refine lv_goto hx hb d_Model_gives_41 rfl ?_
            exact pl_iret X hr hlk hK rfl () rfl hP hD hS d_Model_gives_45
          · skip
            exact absurd gL (by decide)
    · skip
      exact absurd gL (by decide)

set_option maxHeartbeats 4000000 in
set_option maxRecDepth 100000 in
theorem c_Model_gives_3 (l : Launch) (D : va_G) (cI cZ cL : ClassId)  : pl_I l y_Model_gives b_Model_gives 1 .int ({ frames := 0, cells := 0, slots := 0, locals := 0 } : Room) pl_E0 D classes (TY cI cZ cL) [.int (nI 3)] [] (fun (r : Int32) (_ : Unit) => r = nI (lvN 3)) (fun (_ : Unit) => []) := by
  refine pl_startI (by decide) (Nat.le_of_ble_eq_true rfl) ?_
  intro p e s m args below meth c A ls X hr hlk hin hK hP hD hS hA hE hl
  have X : CallFix p m c b_Model_gives 1 s args TG R_Model := X
  have hx := X.1
  have hb := X.2.1
  have hl : lv_has ls 1 [(0, .int (nI 3))] := hl
  refine lv_iload_n hx hb d_Model_gives_0 rfl (lv_at hl 0 rfl) ?_
  refine lv_bipush (v := nI 10) hx hb d_Model_gives_1 (by decide) ?_
  refine pl_icmp_eq X (by decide) (by decide) d_Model_gives_3 rfl (fun gL => ?_) (fun gL => ?_)
  · skip
    exact absurd gL (by decide)
  · skip
    refine lv_iload_n hx hb d_Model_gives_6 rfl (lv_at hl 0 rfl) ?_
    refine lv_bipush (v := nI 11) hx hb d_Model_gives_7 (by decide) ?_
    refine pl_icmp_ne X (by decide) (by decide) d_Model_gives_9 rfl (fun gL => ?_) (fun gL => ?_)
    · skip
      refine lv_iload_n hx hb d_Model_gives_16 rfl (lv_at hl 0 rfl) ?_
      refine pl_if_eq X (by decide) d_Model_gives_17 rfl (fun gL => ?_) (fun gL => ?_)
      · skip
        exact absurd gL (by decide)
      · skip
        refine lv_iload_n hx hb d_Model_gives_20 rfl (lv_at hl 0 rfl) ?_
        refine lv_iconst (v := nI 5) hx hb d_Model_gives_21 (by decide) ?_
        refine pl_icmp_eq X (by decide) (by decide) d_Model_gives_22 rfl (fun gL => ?_) (fun gL => ?_)
        · skip
          exact absurd gL (by decide)
        · skip
          refine lv_iload_n hx hb d_Model_gives_25 rfl (lv_at hl 0 rfl) ?_
          refine lv_iconst (v := nI 2) hx hb d_Model_gives_26 (by decide) ?_
          refine pl_icmp_eq X (by decide) (by decide) d_Model_gives_27 rfl (fun gL => ?_) (fun gL => ?_)
          · skip
            exact absurd gL (by decide)
          · skip
            refine lv_iload_n hx hb d_Model_gives_30 rfl (lv_at hl 0 rfl) ?_
            refine lv_iconst (v := nI 3) hx hb d_Model_gives_31 (by decide) ?_
            refine pl_icmp_eq X (by decide) (by decide) d_Model_gives_32 rfl (fun gL => ?_) (fun gL => ?_)
            · skip
              refine lv_iconst (v := nI 1) hx hb d_Model_gives_40 (by decide) ?_
              refine lv_goto hx hb d_Model_gives_41 rfl ?_
              exact pl_iret X hr hlk hK rfl () rfl hP hD hS d_Model_gives_45
            · skip
              exact absurd gL (by decide)
    · skip
      exact absurd gL (by decide)

set_option maxHeartbeats 4000000 in
set_option maxRecDepth 100000 in
theorem c_Model_gives_4 (l : Launch) (D : va_G) (cI cZ cL : ClassId)  : pl_I l y_Model_gives b_Model_gives 1 .int ({ frames := 0, cells := 0, slots := 0, locals := 0 } : Room) pl_E0 D classes (TY cI cZ cL) [.int (nI 4)] [] (fun (r : Int32) (_ : Unit) => r = nI (lvN 4)) (fun (_ : Unit) => []) := by
  refine pl_startI (by decide) (Nat.le_of_ble_eq_true rfl) ?_
  intro p e s m args below meth c A ls X hr hlk hin hK hP hD hS hA hE hl
  have X : CallFix p m c b_Model_gives 1 s args TG R_Model := X
  have hx := X.1
  have hb := X.2.1
  have hl : lv_has ls 1 [(0, .int (nI 4))] := hl
  refine lv_iload_n hx hb d_Model_gives_0 rfl (lv_at hl 0 rfl) ?_
  refine lv_bipush (v := nI 10) hx hb d_Model_gives_1 (by decide) ?_
  refine pl_icmp_eq X (by decide) (by decide) d_Model_gives_3 rfl (fun gL => ?_) (fun gL => ?_)
  · skip
    exact absurd gL (by decide)
  · skip
    refine lv_iload_n hx hb d_Model_gives_6 rfl (lv_at hl 0 rfl) ?_
    refine lv_bipush (v := nI 11) hx hb d_Model_gives_7 (by decide) ?_
    refine pl_icmp_ne X (by decide) (by decide) d_Model_gives_9 rfl (fun gL => ?_) (fun gL => ?_)
    · skip
      refine lv_iload_n hx hb d_Model_gives_16 rfl (lv_at hl 0 rfl) ?_
      refine pl_if_eq X (by decide) d_Model_gives_17 rfl (fun gL => ?_) (fun gL => ?_)
      · skip
        exact absurd gL (by decide)
      · skip
        refine lv_iload_n hx hb d_Model_gives_20 rfl (lv_at hl 0 rfl) ?_
        refine lv_iconst (v := nI 5) hx hb d_Model_gives_21 (by decide) ?_
        refine pl_icmp_eq X (by decide) (by decide) d_Model_gives_22 rfl (fun gL => ?_) (fun gL => ?_)
        · skip
          exact absurd gL (by decide)
        · skip
          refine lv_iload_n hx hb d_Model_gives_25 rfl (lv_at hl 0 rfl) ?_
          refine lv_iconst (v := nI 2) hx hb d_Model_gives_26 (by decide) ?_
          refine pl_icmp_eq X (by decide) (by decide) d_Model_gives_27 rfl (fun gL => ?_) (fun gL => ?_)
          · skip
            exact absurd gL (by decide)
          · skip
            refine lv_iload_n hx hb d_Model_gives_30 rfl (lv_at hl 0 rfl) ?_
            refine lv_iconst (v := nI 3) hx hb d_Model_gives_31 (by decide) ?_
            refine pl_icmp_eq X (by decide) (by decide) d_Model_gives_32 rfl (fun gL => ?_) (fun gL => ?_)
            · skip
              exact absurd gL (by decide)
            · skip
              refine lv_iload_n hx hb d_Model_gives_35 rfl (lv_at hl 0 rfl) ?_
              refine lv_iconst (v := nI 4) hx hb d_Model_gives_36 (by decide) ?_
              refine pl_icmp_ne X (by decide) (by decide) d_Model_gives_37 rfl (fun gL => ?_) (fun gL => ?_)
              · skip
                exact absurd gL (by decide)
              · skip
                refine lv_iconst (v := nI 1) hx hb d_Model_gives_40 (by decide) ?_
                refine lv_goto hx hb d_Model_gives_41 rfl ?_
                exact pl_iret X hr hlk hK rfl () rfl hP hD hS d_Model_gives_45
    · skip
      exact absurd gL (by decide)

set_option maxHeartbeats 4000000 in
set_option maxRecDepth 100000 in
theorem c_Model_gives_5 (l : Launch) (D : va_G) (cI cZ cL : ClassId)  : pl_I l y_Model_gives b_Model_gives 1 .int ({ frames := 0, cells := 0, slots := 0, locals := 0 } : Room) pl_E0 D classes (TY cI cZ cL) [.int (nI 5)] [] (fun (r : Int32) (_ : Unit) => r = nI (lvN 5)) (fun (_ : Unit) => []) := by
  refine pl_startI (by decide) (Nat.le_of_ble_eq_true rfl) ?_
  intro p e s m args below meth c A ls X hr hlk hin hK hP hD hS hA hE hl
  have X : CallFix p m c b_Model_gives 1 s args TG R_Model := X
  have hx := X.1
  have hb := X.2.1
  have hl : lv_has ls 1 [(0, .int (nI 5))] := hl
  refine lv_iload_n hx hb d_Model_gives_0 rfl (lv_at hl 0 rfl) ?_
  refine lv_bipush (v := nI 10) hx hb d_Model_gives_1 (by decide) ?_
  refine pl_icmp_eq X (by decide) (by decide) d_Model_gives_3 rfl (fun gL => ?_) (fun gL => ?_)
  · skip
    exact absurd gL (by decide)
  · skip
    refine lv_iload_n hx hb d_Model_gives_6 rfl (lv_at hl 0 rfl) ?_
    refine lv_bipush (v := nI 11) hx hb d_Model_gives_7 (by decide) ?_
    refine pl_icmp_ne X (by decide) (by decide) d_Model_gives_9 rfl (fun gL => ?_) (fun gL => ?_)
    · skip
      refine lv_iload_n hx hb d_Model_gives_16 rfl (lv_at hl 0 rfl) ?_
      refine pl_if_eq X (by decide) d_Model_gives_17 rfl (fun gL => ?_) (fun gL => ?_)
      · skip
        exact absurd gL (by decide)
      · skip
        refine lv_iload_n hx hb d_Model_gives_20 rfl (lv_at hl 0 rfl) ?_
        refine lv_iconst (v := nI 5) hx hb d_Model_gives_21 (by decide) ?_
        refine pl_icmp_eq X (by decide) (by decide) d_Model_gives_22 rfl (fun gL => ?_) (fun gL => ?_)
        · skip
          refine lv_iconst (v := nI 1) hx hb d_Model_gives_40 (by decide) ?_
          refine lv_goto hx hb d_Model_gives_41 rfl ?_
          exact pl_iret X hr hlk hK rfl () rfl hP hD hS d_Model_gives_45
        · skip
          exact absurd gL (by decide)
    · skip
      exact absurd gL (by decide)

set_option maxHeartbeats 4000000 in
set_option maxRecDepth 100000 in
theorem c_Model_gives_6 (l : Launch) (D : va_G) (cI cZ cL : ClassId)  : pl_I l y_Model_gives b_Model_gives 1 .int ({ frames := 0, cells := 0, slots := 0, locals := 0 } : Room) pl_E0 D classes (TY cI cZ cL) [.int (nI 6)] [] (fun (r : Int32) (_ : Unit) => r = nI (lvN 6)) (fun (_ : Unit) => []) := by
  refine pl_startI (by decide) (Nat.le_of_ble_eq_true rfl) ?_
  intro p e s m args below meth c A ls X hr hlk hin hK hP hD hS hA hE hl
  have X : CallFix p m c b_Model_gives 1 s args TG R_Model := X
  have hx := X.1
  have hb := X.2.1
  have hl : lv_has ls 1 [(0, .int (nI 6))] := hl
  refine lv_iload_n hx hb d_Model_gives_0 rfl (lv_at hl 0 rfl) ?_
  refine lv_bipush (v := nI 10) hx hb d_Model_gives_1 (by decide) ?_
  refine pl_icmp_eq X (by decide) (by decide) d_Model_gives_3 rfl (fun gL => ?_) (fun gL => ?_)
  · skip
    exact absurd gL (by decide)
  · skip
    refine lv_iload_n hx hb d_Model_gives_6 rfl (lv_at hl 0 rfl) ?_
    refine lv_bipush (v := nI 11) hx hb d_Model_gives_7 (by decide) ?_
    refine pl_icmp_ne X (by decide) (by decide) d_Model_gives_9 rfl (fun gL => ?_) (fun gL => ?_)
    · skip
      refine lv_iload_n hx hb d_Model_gives_16 rfl (lv_at hl 0 rfl) ?_
      refine pl_if_eq X (by decide) d_Model_gives_17 rfl (fun gL => ?_) (fun gL => ?_)
      · skip
        exact absurd gL (by decide)
      · skip
        refine lv_iload_n hx hb d_Model_gives_20 rfl (lv_at hl 0 rfl) ?_
        refine lv_iconst (v := nI 5) hx hb d_Model_gives_21 (by decide) ?_
        refine pl_icmp_eq X (by decide) (by decide) d_Model_gives_22 rfl (fun gL => ?_) (fun gL => ?_)
        · skip
          exact absurd gL (by decide)
        · skip
          refine lv_iload_n hx hb d_Model_gives_25 rfl (lv_at hl 0 rfl) ?_
          refine lv_iconst (v := nI 2) hx hb d_Model_gives_26 (by decide) ?_
          refine pl_icmp_eq X (by decide) (by decide) d_Model_gives_27 rfl (fun gL => ?_) (fun gL => ?_)
          · skip
            exact absurd gL (by decide)
          · skip
            refine lv_iload_n hx hb d_Model_gives_30 rfl (lv_at hl 0 rfl) ?_
            refine lv_iconst (v := nI 3) hx hb d_Model_gives_31 (by decide) ?_
            refine pl_icmp_eq X (by decide) (by decide) d_Model_gives_32 rfl (fun gL => ?_) (fun gL => ?_)
            · skip
              exact absurd gL (by decide)
            · skip
              refine lv_iload_n hx hb d_Model_gives_35 rfl (lv_at hl 0 rfl) ?_
              refine lv_iconst (v := nI 4) hx hb d_Model_gives_36 (by decide) ?_
              refine pl_icmp_ne X (by decide) (by decide) d_Model_gives_37 rfl (fun gL => ?_) (fun gL => ?_)
              · skip
                refine lv_iconst (v := nI 0) hx hb d_Model_gives_44 (by decide) ?_
                exact pl_iret X hr hlk hK rfl () rfl hP hD hS d_Model_gives_45
              · skip
                exact absurd gL (by decide)
    · skip
      exact absurd gL (by decide)

set_option maxHeartbeats 4000000 in
set_option maxRecDepth 100000 in
theorem c_Model_gives_7 (l : Launch) (D : va_G) (cI cZ cL : ClassId)  : pl_I l y_Model_gives b_Model_gives 1 .int ({ frames := 0, cells := 0, slots := 0, locals := 0 } : Room) pl_E0 D classes (TY cI cZ cL) [.int (nI 7)] [] (fun (r : Int32) (_ : Unit) => r = nI (lvN 7)) (fun (_ : Unit) => []) := by
  refine pl_startI (by decide) (Nat.le_of_ble_eq_true rfl) ?_
  intro p e s m args below meth c A ls X hr hlk hin hK hP hD hS hA hE hl
  have X : CallFix p m c b_Model_gives 1 s args TG R_Model := X
  have hx := X.1
  have hb := X.2.1
  have hl : lv_has ls 1 [(0, .int (nI 7))] := hl
  refine lv_iload_n hx hb d_Model_gives_0 rfl (lv_at hl 0 rfl) ?_
  refine lv_bipush (v := nI 10) hx hb d_Model_gives_1 (by decide) ?_
  refine pl_icmp_eq X (by decide) (by decide) d_Model_gives_3 rfl (fun gL => ?_) (fun gL => ?_)
  · skip
    exact absurd gL (by decide)
  · skip
    refine lv_iload_n hx hb d_Model_gives_6 rfl (lv_at hl 0 rfl) ?_
    refine lv_bipush (v := nI 11) hx hb d_Model_gives_7 (by decide) ?_
    refine pl_icmp_ne X (by decide) (by decide) d_Model_gives_9 rfl (fun gL => ?_) (fun gL => ?_)
    · skip
      refine lv_iload_n hx hb d_Model_gives_16 rfl (lv_at hl 0 rfl) ?_
      refine pl_if_eq X (by decide) d_Model_gives_17 rfl (fun gL => ?_) (fun gL => ?_)
      · skip
        exact absurd gL (by decide)
      · skip
        refine lv_iload_n hx hb d_Model_gives_20 rfl (lv_at hl 0 rfl) ?_
        refine lv_iconst (v := nI 5) hx hb d_Model_gives_21 (by decide) ?_
        refine pl_icmp_eq X (by decide) (by decide) d_Model_gives_22 rfl (fun gL => ?_) (fun gL => ?_)
        · skip
          exact absurd gL (by decide)
        · skip
          refine lv_iload_n hx hb d_Model_gives_25 rfl (lv_at hl 0 rfl) ?_
          refine lv_iconst (v := nI 2) hx hb d_Model_gives_26 (by decide) ?_
          refine pl_icmp_eq X (by decide) (by decide) d_Model_gives_27 rfl (fun gL => ?_) (fun gL => ?_)
          · skip
            exact absurd gL (by decide)
          · skip
            refine lv_iload_n hx hb d_Model_gives_30 rfl (lv_at hl 0 rfl) ?_
            refine lv_iconst (v := nI 3) hx hb d_Model_gives_31 (by decide) ?_
            refine pl_icmp_eq X (by decide) (by decide) d_Model_gives_32 rfl (fun gL => ?_) (fun gL => ?_)
            · skip
              exact absurd gL (by decide)
            · skip
              refine lv_iload_n hx hb d_Model_gives_35 rfl (lv_at hl 0 rfl) ?_
              refine lv_iconst (v := nI 4) hx hb d_Model_gives_36 (by decide) ?_
              refine pl_icmp_ne X (by decide) (by decide) d_Model_gives_37 rfl (fun gL => ?_) (fun gL => ?_)
              · skip
                refine lv_iconst (v := nI 0) hx hb d_Model_gives_44 (by decide) ?_
                exact pl_iret X hr hlk hK rfl () rfl hP hD hS d_Model_gives_45
              · skip
                exact absurd gL (by decide)
    · skip
      exact absurd gL (by decide)

set_option maxHeartbeats 4000000 in
set_option maxRecDepth 100000 in
theorem c_Model_gives_8 (l : Launch) (D : va_G) (cI cZ cL : ClassId)  : pl_I l y_Model_gives b_Model_gives 1 .int ({ frames := 0, cells := 0, slots := 0, locals := 0 } : Room) pl_E0 D classes (TY cI cZ cL) [.int (nI 8)] [] (fun (r : Int32) (_ : Unit) => r = nI (lvN 8)) (fun (_ : Unit) => []) := by
  refine pl_startI (by decide) (Nat.le_of_ble_eq_true rfl) ?_
  intro p e s m args below meth c A ls X hr hlk hin hK hP hD hS hA hE hl
  have X : CallFix p m c b_Model_gives 1 s args TG R_Model := X
  have hx := X.1
  have hb := X.2.1
  have hl : lv_has ls 1 [(0, .int (nI 8))] := hl
  refine lv_iload_n hx hb d_Model_gives_0 rfl (lv_at hl 0 rfl) ?_
  refine lv_bipush (v := nI 10) hx hb d_Model_gives_1 (by decide) ?_
  refine pl_icmp_eq X (by decide) (by decide) d_Model_gives_3 rfl (fun gL => ?_) (fun gL => ?_)
  · skip
    exact absurd gL (by decide)
  · skip
    refine lv_iload_n hx hb d_Model_gives_6 rfl (lv_at hl 0 rfl) ?_
    refine lv_bipush (v := nI 11) hx hb d_Model_gives_7 (by decide) ?_
    refine pl_icmp_ne X (by decide) (by decide) d_Model_gives_9 rfl (fun gL => ?_) (fun gL => ?_)
    · skip
      refine lv_iload_n hx hb d_Model_gives_16 rfl (lv_at hl 0 rfl) ?_
      refine pl_if_eq X (by decide) d_Model_gives_17 rfl (fun gL => ?_) (fun gL => ?_)
      · skip
        exact absurd gL (by decide)
      · skip
        refine lv_iload_n hx hb d_Model_gives_20 rfl (lv_at hl 0 rfl) ?_
        refine lv_iconst (v := nI 5) hx hb d_Model_gives_21 (by decide) ?_
        refine pl_icmp_eq X (by decide) (by decide) d_Model_gives_22 rfl (fun gL => ?_) (fun gL => ?_)
        · skip
          exact absurd gL (by decide)
        · skip
          refine lv_iload_n hx hb d_Model_gives_25 rfl (lv_at hl 0 rfl) ?_
          refine lv_iconst (v := nI 2) hx hb d_Model_gives_26 (by decide) ?_
          refine pl_icmp_eq X (by decide) (by decide) d_Model_gives_27 rfl (fun gL => ?_) (fun gL => ?_)
          · skip
            exact absurd gL (by decide)
          · skip
            refine lv_iload_n hx hb d_Model_gives_30 rfl (lv_at hl 0 rfl) ?_
            refine lv_iconst (v := nI 3) hx hb d_Model_gives_31 (by decide) ?_
            refine pl_icmp_eq X (by decide) (by decide) d_Model_gives_32 rfl (fun gL => ?_) (fun gL => ?_)
            · skip
              exact absurd gL (by decide)
            · skip
              refine lv_iload_n hx hb d_Model_gives_35 rfl (lv_at hl 0 rfl) ?_
              refine lv_iconst (v := nI 4) hx hb d_Model_gives_36 (by decide) ?_
              refine pl_icmp_ne X (by decide) (by decide) d_Model_gives_37 rfl (fun gL => ?_) (fun gL => ?_)
              · skip
                refine lv_iconst (v := nI 0) hx hb d_Model_gives_44 (by decide) ?_
                exact pl_iret X hr hlk hK rfl () rfl hP hD hS d_Model_gives_45
              · skip
                exact absurd gL (by decide)
    · skip
      exact absurd gL (by decide)

set_option maxHeartbeats 4000000 in
set_option maxRecDepth 100000 in
theorem c_Model_gives_9 (l : Launch) (D : va_G) (cI cZ cL : ClassId)  : pl_I l y_Model_gives b_Model_gives 1 .int ({ frames := 0, cells := 0, slots := 0, locals := 0 } : Room) pl_E0 D classes (TY cI cZ cL) [.int (nI 9)] [] (fun (r : Int32) (_ : Unit) => r = nI (lvN 9)) (fun (_ : Unit) => []) := by
  refine pl_startI (by decide) (Nat.le_of_ble_eq_true rfl) ?_
  intro p e s m args below meth c A ls X hr hlk hin hK hP hD hS hA hE hl
  have X : CallFix p m c b_Model_gives 1 s args TG R_Model := X
  have hx := X.1
  have hb := X.2.1
  have hl : lv_has ls 1 [(0, .int (nI 9))] := hl
  refine lv_iload_n hx hb d_Model_gives_0 rfl (lv_at hl 0 rfl) ?_
  refine lv_bipush (v := nI 10) hx hb d_Model_gives_1 (by decide) ?_
  refine pl_icmp_eq X (by decide) (by decide) d_Model_gives_3 rfl (fun gL => ?_) (fun gL => ?_)
  · skip
    exact absurd gL (by decide)
  · skip
    refine lv_iload_n hx hb d_Model_gives_6 rfl (lv_at hl 0 rfl) ?_
    refine lv_bipush (v := nI 11) hx hb d_Model_gives_7 (by decide) ?_
    refine pl_icmp_ne X (by decide) (by decide) d_Model_gives_9 rfl (fun gL => ?_) (fun gL => ?_)
    · skip
      refine lv_iload_n hx hb d_Model_gives_16 rfl (lv_at hl 0 rfl) ?_
      refine pl_if_eq X (by decide) d_Model_gives_17 rfl (fun gL => ?_) (fun gL => ?_)
      · skip
        exact absurd gL (by decide)
      · skip
        refine lv_iload_n hx hb d_Model_gives_20 rfl (lv_at hl 0 rfl) ?_
        refine lv_iconst (v := nI 5) hx hb d_Model_gives_21 (by decide) ?_
        refine pl_icmp_eq X (by decide) (by decide) d_Model_gives_22 rfl (fun gL => ?_) (fun gL => ?_)
        · skip
          exact absurd gL (by decide)
        · skip
          refine lv_iload_n hx hb d_Model_gives_25 rfl (lv_at hl 0 rfl) ?_
          refine lv_iconst (v := nI 2) hx hb d_Model_gives_26 (by decide) ?_
          refine pl_icmp_eq X (by decide) (by decide) d_Model_gives_27 rfl (fun gL => ?_) (fun gL => ?_)
          · skip
            exact absurd gL (by decide)
          · skip
            refine lv_iload_n hx hb d_Model_gives_30 rfl (lv_at hl 0 rfl) ?_
            refine lv_iconst (v := nI 3) hx hb d_Model_gives_31 (by decide) ?_
            refine pl_icmp_eq X (by decide) (by decide) d_Model_gives_32 rfl (fun gL => ?_) (fun gL => ?_)
            · skip
              exact absurd gL (by decide)
            · skip
              refine lv_iload_n hx hb d_Model_gives_35 rfl (lv_at hl 0 rfl) ?_
              refine lv_iconst (v := nI 4) hx hb d_Model_gives_36 (by decide) ?_
              refine pl_icmp_ne X (by decide) (by decide) d_Model_gives_37 rfl (fun gL => ?_) (fun gL => ?_)
              · skip
                refine lv_iconst (v := nI 0) hx hb d_Model_gives_44 (by decide) ?_
                exact pl_iret X hr hlk hK rfl () rfl hP hD hS d_Model_gives_45
              · skip
                exact absurd gL (by decide)
    · skip
      exact absurd gL (by decide)

set_option maxHeartbeats 4000000 in
set_option maxRecDepth 100000 in
theorem c_Model_gives_10 (l : Launch) (D : va_G) (cI cZ cL : ClassId)  : pl_I l y_Model_gives b_Model_gives 1 .int ({ frames := 0, cells := 0, slots := 0, locals := 0 } : Room) pl_E0 D classes (TY cI cZ cL) [.int (nI 10)] [] (fun (r : Int32) (_ : Unit) => r = nI (lvN 10)) (fun (_ : Unit) => []) := by
  refine pl_startI (by decide) (Nat.le_of_ble_eq_true rfl) ?_
  intro p e s m args below meth c A ls X hr hlk hin hK hP hD hS hA hE hl
  have X : CallFix p m c b_Model_gives 1 s args TG R_Model := X
  have hx := X.1
  have hb := X.2.1
  have hl : lv_has ls 1 [(0, .int (nI 10))] := hl
  refine lv_iload_n hx hb d_Model_gives_0 rfl (lv_at hl 0 rfl) ?_
  refine lv_bipush (v := nI 10) hx hb d_Model_gives_1 (by decide) ?_
  refine pl_icmp_eq X (by decide) (by decide) d_Model_gives_3 rfl (fun gL => ?_) (fun gL => ?_)
  · skip
    refine lv_iconst (v := nI 2) hx hb d_Model_gives_12 (by decide) ?_
    refine lv_goto hx hb d_Model_gives_13 rfl ?_
    exact pl_iret X hr hlk hK rfl () rfl hP hD hS d_Model_gives_45
  · skip
    exact absurd gL (by decide)

set_option maxHeartbeats 4000000 in
set_option maxRecDepth 100000 in
theorem c_Model_gives_11 (l : Launch) (D : va_G) (cI cZ cL : ClassId)  : pl_I l y_Model_gives b_Model_gives 1 .int ({ frames := 0, cells := 0, slots := 0, locals := 0 } : Room) pl_E0 D classes (TY cI cZ cL) [.int (nI 11)] [] (fun (r : Int32) (_ : Unit) => r = nI (lvN 11)) (fun (_ : Unit) => []) := by
  refine pl_startI (by decide) (Nat.le_of_ble_eq_true rfl) ?_
  intro p e s m args below meth c A ls X hr hlk hin hK hP hD hS hA hE hl
  have X : CallFix p m c b_Model_gives 1 s args TG R_Model := X
  have hx := X.1
  have hb := X.2.1
  have hl : lv_has ls 1 [(0, .int (nI 11))] := hl
  refine lv_iload_n hx hb d_Model_gives_0 rfl (lv_at hl 0 rfl) ?_
  refine lv_bipush (v := nI 10) hx hb d_Model_gives_1 (by decide) ?_
  refine pl_icmp_eq X (by decide) (by decide) d_Model_gives_3 rfl (fun gL => ?_) (fun gL => ?_)
  · skip
    exact absurd gL (by decide)
  · skip
    refine lv_iload_n hx hb d_Model_gives_6 rfl (lv_at hl 0 rfl) ?_
    refine lv_bipush (v := nI 11) hx hb d_Model_gives_7 (by decide) ?_
    refine pl_icmp_ne X (by decide) (by decide) d_Model_gives_9 rfl (fun gL => ?_) (fun gL => ?_)
    · skip
      exact absurd gL (by decide)
    · skip
      refine lv_iconst (v := nI 2) hx hb d_Model_gives_12 (by decide) ?_
      refine lv_goto hx hb d_Model_gives_13 rfl ?_
      exact pl_iret X hr hlk hK rfl () rfl hP hD hS d_Model_gives_45

set_option maxHeartbeats 4000000 in
set_option maxRecDepth 100000 in
theorem c_Model_gives_12 (l : Launch) (D : va_G) (cI cZ cL : ClassId)  : pl_I l y_Model_gives b_Model_gives 1 .int ({ frames := 0, cells := 0, slots := 0, locals := 0 } : Room) pl_E0 D classes (TY cI cZ cL) [.int (nI 12)] [] (fun (r : Int32) (_ : Unit) => r = nI (lvN 12)) (fun (_ : Unit) => []) := by
  refine pl_startI (by decide) (Nat.le_of_ble_eq_true rfl) ?_
  intro p e s m args below meth c A ls X hr hlk hin hK hP hD hS hA hE hl
  have X : CallFix p m c b_Model_gives 1 s args TG R_Model := X
  have hx := X.1
  have hb := X.2.1
  have hl : lv_has ls 1 [(0, .int (nI 12))] := hl
  refine lv_iload_n hx hb d_Model_gives_0 rfl (lv_at hl 0 rfl) ?_
  refine lv_bipush (v := nI 10) hx hb d_Model_gives_1 (by decide) ?_
  refine pl_icmp_eq X (by decide) (by decide) d_Model_gives_3 rfl (fun gL => ?_) (fun gL => ?_)
  · skip
    exact absurd gL (by decide)
  · skip
    refine lv_iload_n hx hb d_Model_gives_6 rfl (lv_at hl 0 rfl) ?_
    refine lv_bipush (v := nI 11) hx hb d_Model_gives_7 (by decide) ?_
    refine pl_icmp_ne X (by decide) (by decide) d_Model_gives_9 rfl (fun gL => ?_) (fun gL => ?_)
    · skip
      refine lv_iload_n hx hb d_Model_gives_16 rfl (lv_at hl 0 rfl) ?_
      refine pl_if_eq X (by decide) d_Model_gives_17 rfl (fun gL => ?_) (fun gL => ?_)
      · skip
        exact absurd gL (by decide)
      · skip
        refine lv_iload_n hx hb d_Model_gives_20 rfl (lv_at hl 0 rfl) ?_
        refine lv_iconst (v := nI 5) hx hb d_Model_gives_21 (by decide) ?_
        refine pl_icmp_eq X (by decide) (by decide) d_Model_gives_22 rfl (fun gL => ?_) (fun gL => ?_)
        · skip
          exact absurd gL (by decide)
        · skip
          refine lv_iload_n hx hb d_Model_gives_25 rfl (lv_at hl 0 rfl) ?_
          refine lv_iconst (v := nI 2) hx hb d_Model_gives_26 (by decide) ?_
          refine pl_icmp_eq X (by decide) (by decide) d_Model_gives_27 rfl (fun gL => ?_) (fun gL => ?_)
          · skip
            exact absurd gL (by decide)
          · skip
            refine lv_iload_n hx hb d_Model_gives_30 rfl (lv_at hl 0 rfl) ?_
            refine lv_iconst (v := nI 3) hx hb d_Model_gives_31 (by decide) ?_
            refine pl_icmp_eq X (by decide) (by decide) d_Model_gives_32 rfl (fun gL => ?_) (fun gL => ?_)
            · skip
              exact absurd gL (by decide)
            · skip
              refine lv_iload_n hx hb d_Model_gives_35 rfl (lv_at hl 0 rfl) ?_
              refine lv_iconst (v := nI 4) hx hb d_Model_gives_36 (by decide) ?_
              refine pl_icmp_ne X (by decide) (by decide) d_Model_gives_37 rfl (fun gL => ?_) (fun gL => ?_)
              · skip
                refine lv_iconst (v := nI 0) hx hb d_Model_gives_44 (by decide) ?_
                exact pl_iret X hr hlk hK rfl () rfl hP hD hS d_Model_gives_45
              · skip
                exact absurd gL (by decide)
    · skip
      exact absurd gL (by decide)

theorem c_Model_gives (l : Launch) (D : va_G) (cI cZ cL : ClassId) (o : Nat) (ho : o ≤ 12) : pl_I l y_Model_gives b_Model_gives 1 .int ({ frames := 0, cells := 0, slots := 0, locals := 0 } : Room) pl_E0 D classes (TY cI cZ cL) [.int (nI o)] [] (fun (r : Int32) (_ : Unit) => r = nI (lvN o)) (fun (_ : Unit) => []) := by
  rcases (show o = 0 ∨ o = 1 ∨ o = 2 ∨ o = 3 ∨ o = 4 ∨ o = 5 ∨ o = 6 ∨ o = 7 ∨ o = 8 ∨ o = 9 ∨ o = 10 ∨ o = 11 ∨ o = 12 by omega) with rfl | rfl | rfl | rfl | rfl | rfl | rfl | rfl | rfl | rfl | rfl | rfl | rfl
  · exact c_Model_gives_0 l D cI cZ cL
  · exact c_Model_gives_1 l D cI cZ cL
  · exact c_Model_gives_2 l D cI cZ cL
  · exact c_Model_gives_3 l D cI cZ cL
  · exact c_Model_gives_4 l D cI cZ cL
  · exact c_Model_gives_5 l D cI cZ cL
  · exact c_Model_gives_6 l D cI cZ cL
  · exact c_Model_gives_7 l D cI cZ cL
  · exact c_Model_gives_8 l D cI cZ cL
  · exact c_Model_gives_9 l D cI cZ cL
  · exact c_Model_gives_10 l D cI cZ cL
  · exact c_Model_gives_11 l D cI cZ cL
  · exact c_Model_gives_12 l D cI cZ cL

set_option maxHeartbeats 4000000 in
set_option maxRecDepth 100000 in
theorem c_Model_isK (l : Launch) (D : va_G) (cI cZ cL : ClassId) (m0 o1 o2 o3 o4 o5 o6 o7 o8 o9 o10 o11 : Nat) (P K Hm ru lo hi tm sa ca ta tn : Nat → Int32) (fo1 fk1 : Int32) (co np n stat how pl la stt q dn : Nat) (i : Nat) (hnp : np ≤ 24) (hilt : i < np) (hop : okP P np) : pl_I l y_Model_isK b_Model_isK 4 .boolean ({ frames := 1, cells := 0, slots := 0, locals := 21 } : Room) pl_E0 D classes (TY cI cZ cL) [.ref m0, .int (nI i)] [(m0, .inr (6, [.int (nI co), .int (nI np), .ref o1, .ref o2, .ref o3, .int (nI n), .ref o4, .ref o5, .ref o6, .ref o7, .int fo1, .int fk1, .int (nI stat), .int (nI how), .int (nI pl), .int (nI la), .int (nI stt), .int (nI q), .ref o8, .ref o9, .int (nI dn), .ref o10, .ref o11])), (o1, .inl (cI, 24, .inl P)), (o2, .inl (cI, 24, .inl K))] (fun (r : Int32) (_ : Unit) => r = bI (numFit (opn P i) (K i) np)) (fun (_ : Unit) => [(m0, .inr (6, [.int (nI co), .int (nI np), .ref o1, .ref o2, .ref o3, .int (nI n), .ref o4, .ref o5, .ref o6, .ref o7, .int fo1, .int fk1, .int (nI stat), .int (nI how), .int (nI pl), .int (nI la), .int (nI stt), .int (nI q), .ref o8, .ref o9, .int (nI dn), .ref o10, .ref o11])), (o1, .inl (cI, 24, .inl P)), (o2, .inl (cI, 24, .inl K))]) := by
  refine pl_startI (by decide) (Nat.le_of_ble_eq_true rfl) ?_
  intro p e s m args below meth c A ls X hr hlk hin hK hP hD hS hA hE hl
  have X : CallFix p m c b_Model_isK 4 s args TG R_Model := X
  have hx := X.1
  have hb := X.2.1
  have hl : lv_has ls 4 [(0, .ref m0), (1, .int (nI i))] := hl
  obtain ⟨ho1, ho2⟩ := hop i hilt
  refine lv_aload_n hx hb d_Model_isK_0 rfl (lv_at hl 0 rfl) ?_
  refine pl_get X fw_Model_7 hK hP 0 rfl (v := .ref o1) rfl d_Model_isK_1 ?_
  refine lv_iload_n hx hb d_Model_isK_4 rfl (lv_at hl 1 rfl) ?_
  refine pl_iald X hK hP 1 0 rfl rfl i (by omega) (by decide) (z := nI (opn P i)) ho1 d_Model_isK_5 ?_
  refine lv_istore_n hx hb d_Model_isK_6 rfl hl (by decide) (lv' := [(2, .int (nI (opn P i))), (0, .ref m0), (1, .int (nI i))]) rfl (fun ls hl => ?_)
  refine lv_aload_n hx hb d_Model_isK_7 rfl (lv_at hl 1 rfl) ?_
  refine pl_get X fw_Model_13 hK hP 0 rfl (v := .ref o2) rfl d_Model_isK_8 ?_
  refine lv_iload_n hx hb d_Model_isK_11 rfl (lv_at hl 2 rfl) ?_
  refine pl_iald X hK hP 2 0 rfl rfl i (by omega) (by decide) (z := K i) rfl d_Model_isK_12 ?_
  refine lv_istore_n hx hb d_Model_isK_13 rfl hl (by decide) (lv' := [(3, .int (K i)), (2, .int (nI (opn P i))), (0, .ref m0), (1, .int (nI i))]) rfl (fun ls hl => ?_)
  refine lv_iload_n hx hb d_Model_isK_14 rfl (lv_at hl 1 rfl) ?_
  refine lv_iconst (v := nI 5) hx hb d_Model_isK_15 (by decide) ?_
  refine pl_icmp_eq X (by omega) (by decide) d_Model_isK_16 rfl (fun g16 => ?_) (fun g16 => ?_)
  · skip
    refine lv_iload_n hx hb d_Model_isK_25 rfl (lv_at hl 0 rfl) ?_
    refine lv_if_lt hx hb d_Model_isK_26 rfl (fun g26 => ?_) (fun g26 => ?_)
    · skip
      refine lv_iconst (v := nI 0) hx hb d_Model_isK_39 (by decide) ?_
      exact pl_iret X hr hlk hK rfl () (bI_f ((numFit_a (Or.inl g16)).trans (inB_lo g26))) hP hD hS d_Model_isK_40
    · skip
      refine lv_iload_n hx hb d_Model_isK_29 rfl (lv_at hl 0 rfl) ?_
      refine lv_bipush (v := nI 7) hx hb d_Model_isK_30 (by decide) ?_
      refine lv_icmp_ge hx hb d_Model_isK_32 rfl (fun g32 => ?_) (fun g32 => ?_)
      · skip
        refine lv_iconst (v := nI 0) hx hb d_Model_isK_39 (by decide) ?_
        exact pl_iret X hr hlk hK rfl () (bI_f ((numFit_a (Or.inl g16)).trans (inB_hi (by omega) g32))) hP hD hS d_Model_isK_40
      · skip
        refine lv_iconst (v := nI 1) hx hb d_Model_isK_35 (by decide) ?_
        refine lv_goto hx hb d_Model_isK_36 rfl ?_
        exact pl_iret X hr hlk hK rfl () (bI_t ((numFit_a (Or.inl g16)).trans (inB_in (by omega) g26 g32))) hP hD hS d_Model_isK_40
  · skip
    refine lv_iload_n hx hb d_Model_isK_19 rfl (lv_at hl 1 rfl) ?_
    refine lv_bipush (v := nI 6) hx hb d_Model_isK_20 (by decide) ?_
    refine pl_icmp_ne X (by omega) (by decide) d_Model_isK_22 rfl (fun g22 => ?_) (fun g22 => ?_)
    · skip
      refine lv_iload_n hx hb d_Model_isK_41 rfl (lv_at hl 1 rfl) ?_
      refine lv_bipush (v := nI 9) hx hb d_Model_isK_42 (by decide) ?_
      refine pl_icmp_ne X (by omega) (by decide) d_Model_isK_44 rfl (fun g44 => ?_) (fun g44 => ?_)
      · skip
        refine lv_iload_n hx hb d_Model_isK_63 rfl (lv_at hl 1 rfl) ?_
        refine lv_bipush (v := nI 7) hx hb d_Model_isK_64 (by decide) ?_
        refine pl_icmp_eq X (by omega) (by decide) d_Model_isK_66 rfl (fun g66 => ?_) (fun g66 => ?_)
        · skip
          refine lv_aload_n hx hb d_Model_isK_75 rfl (lv_at hl 2 rfl) ?_
          refine lv_iload_n hx hb d_Model_isK_76 rfl (lv_at hl 0 rfl) ?_
          refine pl_callVI X (rest := []) (As := [.int (K i)]) (b := m0) (c_Model_isPlace l D cI cZ cL m0 o1 o2 o3 o4 o5 o6 o7 o8 o9 o10 o11 P K Hm ru lo hi tm sa ca ta tn fo1 fk1 co np n stat how pl la stt q dn (K i) (by omega)) ck_Model_65 pl_E0_ok trivial hK hP hD hS hA (T := F_Model) (N := N_Model) (ci := 6) rfl 0 rfl [0] [1, 2] [2, 0, 1] rfl (by decide) (wr := [(o1, .inl (cI, 24, .inl P)), (o2, .inl (cI, 24, .inl K))]) rfl (by decide) (by decide) (wf := fun _ => [(m0, .inr (6, [.int (nI co), .int (nI np), .ref o1, .ref o2, .ref o3, .int (nI n), .ref o4, .ref o5, .ref o6, .ref o7, .int fo1, .int fk1, .int (nI stat), .int (nI how), .int (nI pl), .int (nI la), .int (nI stt), .int (nI q), .ref o8, .ref o9, .int (nI dn), .ref o10, .ref o11])), (o1, .inl (cI, 24, .inl P)), (o2, .inl (cI, 24, .inl K))]) (fun _ => rfl) (by decide) rfl hl.1 rfl (Nat.le_of_ble_eq_true rfl) (by decide) (by decide) d_Model_isK_77 (fun r u0 H locs hcq hP hD hS => ?_)
          subst hcq
          refine pl_ifB_eq X d_Model_isK_80 rfl (fun g80 => ?_) (fun g80 => ?_)
          · skip
            refine lv_iconst (v := nI 0) hx hb d_Model_isK_87 (by decide) ?_
            exact pl_iret X hr hlk hK rfl () (bI_f ((numFit_c (Or.inl g66)).trans g80)) hP hD hS d_Model_isK_88
          · skip
            refine lv_iconst (v := nI 1) hx hb d_Model_isK_83 (by decide) ?_
            refine lv_goto hx hb d_Model_isK_84 rfl ?_
            exact pl_iret X hr hlk hK rfl () (bI_t ((numFit_c (Or.inl g66)).trans g80)) hP hD hS d_Model_isK_88
        · skip
          refine lv_iload_n hx hb d_Model_isK_69 rfl (lv_at hl 1 rfl) ?_
          refine lv_bipush (v := nI 8) hx hb d_Model_isK_70 (by decide) ?_
          refine pl_icmp_ne X (by omega) (by decide) d_Model_isK_72 rfl (fun g72 => ?_) (fun g72 => ?_)
          · skip
            refine lv_iconst (v := nI 1) hx hb d_Model_isK_83 (by decide) ?_
            refine lv_goto hx hb d_Model_isK_84 rfl ?_
            exact pl_iret X hr hlk hK rfl () (bI_t (numFit_d g16 g22 g44 g66 g72)) hP hD hS d_Model_isK_88
          · skip
            refine lv_aload_n hx hb d_Model_isK_75 rfl (lv_at hl 2 rfl) ?_
            refine lv_iload_n hx hb d_Model_isK_76 rfl (lv_at hl 0 rfl) ?_
            refine pl_callVI X (rest := []) (As := [.int (K i)]) (b := m0) (c_Model_isPlace l D cI cZ cL m0 o1 o2 o3 o4 o5 o6 o7 o8 o9 o10 o11 P K Hm ru lo hi tm sa ca ta tn fo1 fk1 co np n stat how pl la stt q dn (K i) (by omega)) ck_Model_65 pl_E0_ok trivial hK hP hD hS hA (T := F_Model) (N := N_Model) (ci := 6) rfl 0 rfl [0] [1, 2] [2, 0, 1] rfl (by decide) (wr := [(o1, .inl (cI, 24, .inl P)), (o2, .inl (cI, 24, .inl K))]) rfl (by decide) (by decide) (wf := fun _ => [(m0, .inr (6, [.int (nI co), .int (nI np), .ref o1, .ref o2, .ref o3, .int (nI n), .ref o4, .ref o5, .ref o6, .ref o7, .int fo1, .int fk1, .int (nI stat), .int (nI how), .int (nI pl), .int (nI la), .int (nI stt), .int (nI q), .ref o8, .ref o9, .int (nI dn), .ref o10, .ref o11])), (o1, .inl (cI, 24, .inl P)), (o2, .inl (cI, 24, .inl K))]) (fun _ => rfl) (by decide) rfl hl.1 rfl (Nat.le_of_ble_eq_true rfl) (by decide) (by decide) d_Model_isK_77 (fun r u0 H locs hcq hP hD hS => ?_)
            subst hcq
            refine pl_ifB_eq X d_Model_isK_80 rfl (fun g80 => ?_) (fun g80 => ?_)
            · skip
              refine lv_iconst (v := nI 0) hx hb d_Model_isK_87 (by decide) ?_
              exact pl_iret X hr hlk hK rfl () (bI_f ((numFit_c (Or.inr g72)).trans g80)) hP hD hS d_Model_isK_88
            · skip
              refine lv_iconst (v := nI 1) hx hb d_Model_isK_83 (by decide) ?_
              refine lv_goto hx hb d_Model_isK_84 rfl ?_
              exact pl_iret X hr hlk hK rfl () (bI_t ((numFit_c (Or.inr g72)).trans g80)) hP hD hS d_Model_isK_88
      · skip
        refine lv_iload_n hx hb d_Model_isK_47 rfl (lv_at hl 0 rfl) ?_
        refine lv_if_lt hx hb d_Model_isK_48 rfl (fun g48 => ?_) (fun g48 => ?_)
        · skip
          refine lv_iconst (v := nI 0) hx hb d_Model_isK_61 (by decide) ?_
          exact pl_iret X hr hlk hK rfl () (bI_f ((numFit_b g16 g22 g44).trans (inB_lo g48))) hP hD hS d_Model_isK_62
        · skip
          refine lv_iload_n hx hb d_Model_isK_51 rfl (lv_at hl 0 rfl) ?_
          refine lv_bipush (v := nI 8) hx hb d_Model_isK_52 (by decide) ?_
          refine lv_icmp_ge hx hb d_Model_isK_54 rfl (fun g54 => ?_) (fun g54 => ?_)
          · skip
            refine lv_iconst (v := nI 0) hx hb d_Model_isK_61 (by decide) ?_
            exact pl_iret X hr hlk hK rfl () (bI_f ((numFit_b g16 g22 g44).trans (inB_hi (by omega) g54))) hP hD hS d_Model_isK_62
          · skip
            refine lv_iconst (v := nI 1) hx hb d_Model_isK_57 (by decide) ?_
            refine lv_goto hx hb d_Model_isK_58 rfl ?_
            exact pl_iret X hr hlk hK rfl () (bI_t ((numFit_b g16 g22 g44).trans (inB_in (by omega) g48 g54))) hP hD hS d_Model_isK_62
    · skip
      refine lv_iload_n hx hb d_Model_isK_25 rfl (lv_at hl 0 rfl) ?_
      refine lv_if_lt hx hb d_Model_isK_26 rfl (fun g26 => ?_) (fun g26 => ?_)
      · skip
        refine lv_iconst (v := nI 0) hx hb d_Model_isK_39 (by decide) ?_
        exact pl_iret X hr hlk hK rfl () (bI_f ((numFit_a (Or.inr g22)).trans (inB_lo g26))) hP hD hS d_Model_isK_40
      · skip
        refine lv_iload_n hx hb d_Model_isK_29 rfl (lv_at hl 0 rfl) ?_
        refine lv_bipush (v := nI 7) hx hb d_Model_isK_30 (by decide) ?_
        refine lv_icmp_ge hx hb d_Model_isK_32 rfl (fun g32 => ?_) (fun g32 => ?_)
        · skip
          refine lv_iconst (v := nI 0) hx hb d_Model_isK_39 (by decide) ?_
          exact pl_iret X hr hlk hK rfl () (bI_f ((numFit_a (Or.inr g22)).trans (inB_hi (by omega) g32))) hP hD hS d_Model_isK_40
        · skip
          refine lv_iconst (v := nI 1) hx hb d_Model_isK_35 (by decide) ?_
          refine lv_goto hx hb d_Model_isK_36 rfl ?_
          exact pl_iret X hr hlk hK rfl () (bI_t ((numFit_a (Or.inr g22)).trans (inB_in (by omega) g26 g32))) hP hD hS d_Model_isK_40

set_option maxHeartbeats 4000000 in
set_option maxRecDepth 100000 in
theorem c_Model_reach_new (l : Launch) (D : va_G) (cI cZ cL : ClassId) (m0 o1 o2 o3 o4 o5 o6 o7 o8 o9 o10 o11 : Nat) (P K Hm ru lo hi tm sa ca ta tn : Nat → Int32) (fo1 fk1 : Int32) (co np n stat how pl la stt q dn : Nat) (i h : Nat) (hnp : np ≤ 24) (hilt : i < np) (hF : Hm i = -1) : pl_I l y_Model_reach b_Model_reach 3 .boolean ({ frames := 1, cells := 0, slots := 0, locals := 21 } : Room) pl_E0 D classes (TY cI cZ cL) [.ref m0, .int (nI i), .int (nI h)] [(m0, .inr (6, [.int (nI co), .int (nI np), .ref o1, .ref o2, .ref o3, .int (nI n), .ref o4, .ref o5, .ref o6, .ref o7, .int fo1, .int fk1, .int (nI stat), .int (nI how), .int (nI pl), .int (nI la), .int (nI stt), .int (nI q), .ref o8, .ref o9, .int (nI dn), .ref o10, .ref o11])), (o3, .inl (cI, 24, .inl Hm))] (fun (r : Int32) (_ : Unit) => r = nI 1) (fun (_ : Unit) => [(m0, .inr (6, [.int (nI co), .int (nI np), .ref o1, .ref o2, .ref o3, .int (nI n), .ref o4, .ref o5, .ref o6, .ref o7, .int fo1, .int fk1, .int (nI stat), .int (nI how), .int (nI pl), .int (nI la), .int (nI stt), .int (nI q), .ref o8, .ref o9, .int (nI dn), .ref o10, .ref o11])), (o3, .inl (cI, 24, .inl (upd Hm i (nI h))))]) := by
  refine pl_startI (by decide) (Nat.le_of_ble_eq_true rfl) ?_
  intro p e s m args below meth c A ls X hr hlk hin hK hP hD hS hA hE hl
  have X : CallFix p m c b_Model_reach 3 s args TG R_Model := X
  have hx := X.1
  have hb := X.2.1
  have hl : lv_has ls 3 [(0, .ref m0), (1, .int (nI i)), (2, .int (nI h))] := hl
  refine lv_aload_n hx hb d_Model_reach_0 rfl (lv_at hl 0 rfl) ?_
  refine lv_iload_n hx hb d_Model_reach_1 rfl (lv_at hl 1 rfl) ?_
  refine pl_callVI X (rest := []) (As := [.int (nI i)]) (b := m0) (c_Model_isPlace l D cI cZ cL m0 o1 o2 o3 o4 o5 o6 o7 o8 o9 o10 o11 P K Hm ru lo hi tm sa ca ta tn fo1 fk1 co np n stat how pl la stt q dn (nI i) (by omega)) ck_Model_65 pl_E0_ok trivial hK hP hD hS hA (T := F_Model) (N := N_Model) (ci := 6) rfl 0 rfl [0] [1] [1, 0] rfl (by decide) (wr := [(o3, .inl (cI, 24, .inl Hm))]) rfl (by decide) (by decide) (wf := fun _ => [(m0, .inr (6, [.int (nI co), .int (nI np), .ref o1, .ref o2, .ref o3, .int (nI n), .ref o4, .ref o5, .ref o6, .ref o7, .int fo1, .int fk1, .int (nI stat), .int (nI how), .int (nI pl), .int (nI la), .int (nI stt), .int (nI q), .ref o8, .ref o9, .int (nI dn), .ref o10, .ref o11])), (o3, .inl (cI, 24, .inl Hm))]) (fun _ => rfl) (by decide) rfl hl.1 rfl (Nat.le_of_ble_eq_true rfl) (by decide) (by decide) d_Model_reach_2 (fun r u0 H locs hcq hP hD hS => ?_)
  subst hcq
  refine pl_ifB_eq X d_Model_reach_5 rfl (fun g5 => ?_) (fun g5 => ?_)
  · skip
    exact absurd g5 (by rw [inB_nI (by omega), decide_eq_true hilt]; decide)
  · skip
    refine lv_aload_n hx hb d_Model_reach_8 rfl (lv_at hl 0 rfl) ?_
    refine pl_get X fw_Model_16 hK hP 0 rfl (v := .ref o3) rfl d_Model_reach_9 ?_
    refine lv_iload_n hx hb d_Model_reach_12 rfl (lv_at hl 1 rfl) ?_
    refine pl_iald X hK hP 1 0 rfl rfl i (by omega) (by decide) (z := -1) hF d_Model_reach_13 ?_
    refine lv_if_lt hx hb d_Model_reach_14 rfl (fun g14 => ?_) (fun g14 => ?_)
    · skip
      refine lv_aload_n hx hb d_Model_reach_29 rfl (lv_at hl 0 rfl) ?_
      refine pl_get X fw_Model_16 hK hP 0 rfl (v := .ref o3) rfl d_Model_reach_30 ?_
      refine lv_iload_n hx hb d_Model_reach_33 rfl (lv_at hl 1 rfl) ?_
      refine lv_iload_n hx hb d_Model_reach_34 rfl (lv_at hl 2 rfl) ?_
      refine pl_iast X hK hP hD hS 1 0 rfl rfl i (by omega) (by decide) d_Model_reach_35 (ws' := [(m0, .inr (6, [.int (nI co), .int (nI np), .ref o1, .ref o2, .ref o3, .int (nI n), .ref o4, .ref o5, .ref o6, .ref o7, .int fo1, .int fk1, .int (nI stat), .int (nI how), .int (nI pl), .int (nI la), .int (nI stt), .int (nI q), .ref o8, .ref o9, .int (nI dn), .ref o10, .ref o11])), (o3, .inl (cI, 24, .inl (upd Hm i (nI h))))]) rfl (fun H locs hP hD hS => ?_)
      refine lv_iconst (v := nI 1) hx hb d_Model_reach_36 (by decide) ?_
      exact pl_iret X hr hlk hK rfl () rfl hP hD hS d_Model_reach_37
    · skip
      exact absurd (by decide) g14

set_option maxHeartbeats 4000000 in
set_option maxRecDepth 100000 in
theorem c_Model_reach_same (l : Launch) (D : va_G) (cI cZ cL : ClassId) (m0 o1 o2 o3 o4 o5 o6 o7 o8 o9 o10 o11 : Nat) (P K Hm ru lo hi tm sa ca ta tn : Nat → Int32) (fo1 fk1 : Int32) (co np n stat how pl la stt q dn : Nat) (i h : Nat) (hnp : np ≤ 24) (hilt : i < np) (hh : h < 2 ^ 31) (hF : Hm i = nI h) : pl_I l y_Model_reach b_Model_reach 3 .boolean ({ frames := 1, cells := 0, slots := 0, locals := 21 } : Room) pl_E0 D classes (TY cI cZ cL) [.ref m0, .int (nI i), .int (nI h)] [(m0, .inr (6, [.int (nI co), .int (nI np), .ref o1, .ref o2, .ref o3, .int (nI n), .ref o4, .ref o5, .ref o6, .ref o7, .int fo1, .int fk1, .int (nI stat), .int (nI how), .int (nI pl), .int (nI la), .int (nI stt), .int (nI q), .ref o8, .ref o9, .int (nI dn), .ref o10, .ref o11])), (o3, .inl (cI, 24, .inl Hm))] (fun (r : Int32) (_ : Unit) => r = nI 1) (fun (_ : Unit) => [(m0, .inr (6, [.int (nI co), .int (nI np), .ref o1, .ref o2, .ref o3, .int (nI n), .ref o4, .ref o5, .ref o6, .ref o7, .int fo1, .int fk1, .int (nI stat), .int (nI how), .int (nI pl), .int (nI la), .int (nI stt), .int (nI q), .ref o8, .ref o9, .int (nI dn), .ref o10, .ref o11])), (o3, .inl (cI, 24, .inl (upd Hm i (nI h))))]) := by
  refine pl_startI (by decide) (Nat.le_of_ble_eq_true rfl) ?_
  intro p e s m args below meth c A ls X hr hlk hin hK hP hD hS hA hE hl
  have X : CallFix p m c b_Model_reach 3 s args TG R_Model := X
  have hx := X.1
  have hb := X.2.1
  have hl : lv_has ls 3 [(0, .ref m0), (1, .int (nI i)), (2, .int (nI h))] := hl
  refine lv_aload_n hx hb d_Model_reach_0 rfl (lv_at hl 0 rfl) ?_
  refine lv_iload_n hx hb d_Model_reach_1 rfl (lv_at hl 1 rfl) ?_
  refine pl_callVI X (rest := []) (As := [.int (nI i)]) (b := m0) (c_Model_isPlace l D cI cZ cL m0 o1 o2 o3 o4 o5 o6 o7 o8 o9 o10 o11 P K Hm ru lo hi tm sa ca ta tn fo1 fk1 co np n stat how pl la stt q dn (nI i) (by omega)) ck_Model_65 pl_E0_ok trivial hK hP hD hS hA (T := F_Model) (N := N_Model) (ci := 6) rfl 0 rfl [0] [1] [1, 0] rfl (by decide) (wr := [(o3, .inl (cI, 24, .inl Hm))]) rfl (by decide) (by decide) (wf := fun _ => [(m0, .inr (6, [.int (nI co), .int (nI np), .ref o1, .ref o2, .ref o3, .int (nI n), .ref o4, .ref o5, .ref o6, .ref o7, .int fo1, .int fk1, .int (nI stat), .int (nI how), .int (nI pl), .int (nI la), .int (nI stt), .int (nI q), .ref o8, .ref o9, .int (nI dn), .ref o10, .ref o11])), (o3, .inl (cI, 24, .inl Hm))]) (fun _ => rfl) (by decide) rfl hl.1 rfl (Nat.le_of_ble_eq_true rfl) (by decide) (by decide) d_Model_reach_2 (fun r u0 H locs hcq hP hD hS => ?_)
  subst hcq
  refine pl_ifB_eq X d_Model_reach_5 rfl (fun g5 => ?_) (fun g5 => ?_)
  · skip
    exact absurd g5 (by rw [inB_nI (by omega), decide_eq_true hilt]; decide)
  · skip
    refine lv_aload_n hx hb d_Model_reach_8 rfl (lv_at hl 0 rfl) ?_
    refine pl_get X fw_Model_16 hK hP 0 rfl (v := .ref o3) rfl d_Model_reach_9 ?_
    refine lv_iload_n hx hb d_Model_reach_12 rfl (lv_at hl 1 rfl) ?_
    refine pl_iald X hK hP 1 0 rfl rfl i (by omega) (by decide) (z := nI h) hF d_Model_reach_13 ?_
    refine pl_if_lt X (by omega) d_Model_reach_14 rfl ?_
    refine lv_aload_n hx hb d_Model_reach_17 rfl (lv_at hl 0 rfl) ?_
    refine pl_get X fw_Model_16 hK hP 0 rfl (v := .ref o3) rfl d_Model_reach_18 ?_
    refine lv_iload_n hx hb d_Model_reach_21 rfl (lv_at hl 1 rfl) ?_
    refine pl_iald X hK hP 1 0 rfl rfl i (by omega) (by decide) (z := nI h) hF d_Model_reach_22 ?_
    refine lv_iload_n hx hb d_Model_reach_23 rfl (lv_at hl 2 rfl) ?_
    refine pl_icmp_eq X (by omega) (by omega) d_Model_reach_24 rfl (fun g24 => ?_) (fun g24 => ?_)
    · skip
      refine lv_aload_n hx hb d_Model_reach_29 rfl (lv_at hl 0 rfl) ?_
      refine pl_get X fw_Model_16 hK hP 0 rfl (v := .ref o3) rfl d_Model_reach_30 ?_
      refine lv_iload_n hx hb d_Model_reach_33 rfl (lv_at hl 1 rfl) ?_
      refine lv_iload_n hx hb d_Model_reach_34 rfl (lv_at hl 2 rfl) ?_
      refine pl_iast X hK hP hD hS 1 0 rfl rfl i (by omega) (by decide) d_Model_reach_35 (ws' := [(m0, .inr (6, [.int (nI co), .int (nI np), .ref o1, .ref o2, .ref o3, .int (nI n), .ref o4, .ref o5, .ref o6, .ref o7, .int fo1, .int fk1, .int (nI stat), .int (nI how), .int (nI pl), .int (nI la), .int (nI stt), .int (nI q), .ref o8, .ref o9, .int (nI dn), .ref o10, .ref o11])), (o3, .inl (cI, 24, .inl (upd Hm i (nI h))))]) rfl (fun H locs hP hD hS => ?_)
      refine lv_iconst (v := nI 1) hx hb d_Model_reach_36 (by decide) ?_
      exact pl_iret X hr hlk hK rfl () rfl hP hD hS d_Model_reach_37
    · skip
      exact absurd rfl g24

set_option maxHeartbeats 4000000 in
set_option maxRecDepth 100000 in
theorem c_Model_reach_oth (l : Launch) (D : va_G) (cI cZ cL : ClassId) (m0 o1 o2 o3 o4 o5 o6 o7 o8 o9 o10 o11 : Nat) (P K Hm ru lo hi tm sa ca ta tn : Nat → Int32) (fo1 fk1 : Int32) (co np n stat how pl la stt q dn : Nat) (i h : Nat) (h2 : Nat) (hnp : np ≤ 24) (hilt : i < np) (hh : h < 2 ^ 31) (hh2 : h2 < 2 ^ 31) (hF : Hm i = nI h2) (hne : ¬ h2 = h) : pl_I l y_Model_reach b_Model_reach 3 .boolean ({ frames := 1, cells := 0, slots := 0, locals := 21 } : Room) pl_E0 D classes (TY cI cZ cL) [.ref m0, .int (nI i), .int (nI h)] [(m0, .inr (6, [.int (nI co), .int (nI np), .ref o1, .ref o2, .ref o3, .int (nI n), .ref o4, .ref o5, .ref o6, .ref o7, .int fo1, .int fk1, .int (nI stat), .int (nI how), .int (nI pl), .int (nI la), .int (nI stt), .int (nI q), .ref o8, .ref o9, .int (nI dn), .ref o10, .ref o11])), (o3, .inl (cI, 24, .inl Hm))] (fun (r : Int32) (_ : Unit) => r = nI 0) (fun (_ : Unit) => [(m0, .inr (6, [.int (nI co), .int (nI np), .ref o1, .ref o2, .ref o3, .int (nI n), .ref o4, .ref o5, .ref o6, .ref o7, .int fo1, .int fk1, .int (nI stat), .int (nI how), .int (nI pl), .int (nI la), .int (nI stt), .int (nI q), .ref o8, .ref o9, .int (nI dn), .ref o10, .ref o11])), (o3, .inl (cI, 24, .inl Hm))]) := by
  refine pl_startI (by decide) (Nat.le_of_ble_eq_true rfl) ?_
  intro p e s m args below meth c A ls X hr hlk hin hK hP hD hS hA hE hl
  have X : CallFix p m c b_Model_reach 3 s args TG R_Model := X
  have hx := X.1
  have hb := X.2.1
  have hl : lv_has ls 3 [(0, .ref m0), (1, .int (nI i)), (2, .int (nI h))] := hl
  refine lv_aload_n hx hb d_Model_reach_0 rfl (lv_at hl 0 rfl) ?_
  refine lv_iload_n hx hb d_Model_reach_1 rfl (lv_at hl 1 rfl) ?_
  refine pl_callVI X (rest := []) (As := [.int (nI i)]) (b := m0) (c_Model_isPlace l D cI cZ cL m0 o1 o2 o3 o4 o5 o6 o7 o8 o9 o10 o11 P K Hm ru lo hi tm sa ca ta tn fo1 fk1 co np n stat how pl la stt q dn (nI i) (by omega)) ck_Model_65 pl_E0_ok trivial hK hP hD hS hA (T := F_Model) (N := N_Model) (ci := 6) rfl 0 rfl [0] [1] [1, 0] rfl (by decide) (wr := [(o3, .inl (cI, 24, .inl Hm))]) rfl (by decide) (by decide) (wf := fun _ => [(m0, .inr (6, [.int (nI co), .int (nI np), .ref o1, .ref o2, .ref o3, .int (nI n), .ref o4, .ref o5, .ref o6, .ref o7, .int fo1, .int fk1, .int (nI stat), .int (nI how), .int (nI pl), .int (nI la), .int (nI stt), .int (nI q), .ref o8, .ref o9, .int (nI dn), .ref o10, .ref o11])), (o3, .inl (cI, 24, .inl Hm))]) (fun _ => rfl) (by decide) rfl hl.1 rfl (Nat.le_of_ble_eq_true rfl) (by decide) (by decide) d_Model_reach_2 (fun r u0 H locs hcq hP hD hS => ?_)
  subst hcq
  refine pl_ifB_eq X d_Model_reach_5 rfl (fun g5 => ?_) (fun g5 => ?_)
  · skip
    exact absurd g5 (by rw [inB_nI (by omega), decide_eq_true hilt]; decide)
  · skip
    refine lv_aload_n hx hb d_Model_reach_8 rfl (lv_at hl 0 rfl) ?_
    refine pl_get X fw_Model_16 hK hP 0 rfl (v := .ref o3) rfl d_Model_reach_9 ?_
    refine lv_iload_n hx hb d_Model_reach_12 rfl (lv_at hl 1 rfl) ?_
    refine pl_iald X hK hP 1 0 rfl rfl i (by omega) (by decide) (z := nI h2) hF d_Model_reach_13 ?_
    refine pl_if_lt X (by omega) d_Model_reach_14 rfl ?_
    refine lv_aload_n hx hb d_Model_reach_17 rfl (lv_at hl 0 rfl) ?_
    refine pl_get X fw_Model_16 hK hP 0 rfl (v := .ref o3) rfl d_Model_reach_18 ?_
    refine lv_iload_n hx hb d_Model_reach_21 rfl (lv_at hl 1 rfl) ?_
    refine pl_iald X hK hP 1 0 rfl rfl i (by omega) (by decide) (z := nI h2) hF d_Model_reach_22 ?_
    refine lv_iload_n hx hb d_Model_reach_23 rfl (lv_at hl 2 rfl) ?_
    refine pl_icmp_eq X (by omega) (by omega) d_Model_reach_24 rfl (fun g24 => ?_) (fun g24 => ?_)
    · skip
      exact absurd g24 hne
    · skip
      refine lv_iconst (v := nI 0) hx hb d_Model_reach_27 (by decide) ?_
      exact pl_iret X hr hlk hK rfl () rfl hP hD hS d_Model_reach_28

set_option maxHeartbeats 4000000 in
set_option maxRecDepth 100000 in
theorem c_Model_reach_out (l : Launch) (D : va_G) (cI cZ cL : ClassId) (m0 o1 o2 o3 o4 o5 o6 o7 o8 o9 o10 o11 : Nat) (P K Hm ru lo hi tm sa ca ta tn : Nat → Int32) (fo1 fk1 : Int32) (co np n stat how pl la stt q dn : Nat) (i h : Nat) (hnp : np ≤ 24) (hile : np ≤ i) (hi2 : i < 2 ^ 31) : pl_I l y_Model_reach b_Model_reach 3 .boolean ({ frames := 1, cells := 0, slots := 0, locals := 21 } : Room) pl_E0 D classes (TY cI cZ cL) [.ref m0, .int (nI i), .int (nI h)] [(m0, .inr (6, [.int (nI co), .int (nI np), .ref o1, .ref o2, .ref o3, .int (nI n), .ref o4, .ref o5, .ref o6, .ref o7, .int fo1, .int fk1, .int (nI stat), .int (nI how), .int (nI pl), .int (nI la), .int (nI stt), .int (nI q), .ref o8, .ref o9, .int (nI dn), .ref o10, .ref o11])), (o3, .inl (cI, 24, .inl Hm))] (fun (r : Int32) (_ : Unit) => r = nI 0) (fun (_ : Unit) => [(m0, .inr (6, [.int (nI co), .int (nI np), .ref o1, .ref o2, .ref o3, .int (nI n), .ref o4, .ref o5, .ref o6, .ref o7, .int fo1, .int fk1, .int (nI stat), .int (nI how), .int (nI pl), .int (nI la), .int (nI stt), .int (nI q), .ref o8, .ref o9, .int (nI dn), .ref o10, .ref o11])), (o3, .inl (cI, 24, .inl Hm))]) := by
  refine pl_startI (by decide) (Nat.le_of_ble_eq_true rfl) ?_
  intro p e s m args below meth c A ls X hr hlk hin hK hP hD hS hA hE hl
  have X : CallFix p m c b_Model_reach 3 s args TG R_Model := X
  have hx := X.1
  have hb := X.2.1
  have hl : lv_has ls 3 [(0, .ref m0), (1, .int (nI i)), (2, .int (nI h))] := hl
  refine lv_aload_n hx hb d_Model_reach_0 rfl (lv_at hl 0 rfl) ?_
  refine lv_iload_n hx hb d_Model_reach_1 rfl (lv_at hl 1 rfl) ?_
  refine pl_callVI X (rest := []) (As := [.int (nI i)]) (b := m0) (c_Model_isPlace l D cI cZ cL m0 o1 o2 o3 o4 o5 o6 o7 o8 o9 o10 o11 P K Hm ru lo hi tm sa ca ta tn fo1 fk1 co np n stat how pl la stt q dn (nI i) (by omega)) ck_Model_65 pl_E0_ok trivial hK hP hD hS hA (T := F_Model) (N := N_Model) (ci := 6) rfl 0 rfl [0] [1] [1, 0] rfl (by decide) (wr := [(o3, .inl (cI, 24, .inl Hm))]) rfl (by decide) (by decide) (wf := fun _ => [(m0, .inr (6, [.int (nI co), .int (nI np), .ref o1, .ref o2, .ref o3, .int (nI n), .ref o4, .ref o5, .ref o6, .ref o7, .int fo1, .int fk1, .int (nI stat), .int (nI how), .int (nI pl), .int (nI la), .int (nI stt), .int (nI q), .ref o8, .ref o9, .int (nI dn), .ref o10, .ref o11])), (o3, .inl (cI, 24, .inl Hm))]) (fun _ => rfl) (by decide) rfl hl.1 rfl (Nat.le_of_ble_eq_true rfl) (by decide) (by decide) d_Model_reach_2 (fun r u0 H locs hcq hP hD hS => ?_)
  subst hcq
  refine pl_ifB_eq X d_Model_reach_5 rfl (fun g5 => ?_) (fun g5 => ?_)
  · skip
    refine lv_iconst (v := nI 0) hx hb d_Model_reach_27 (by decide) ?_
    exact pl_iret X hr hlk hK rfl () rfl hP hD hS d_Model_reach_28
  · skip
    exact absurd g5 (by rw [inB_nI hi2, decide_eq_false (Nat.not_lt.mpr hile)]; decide)
