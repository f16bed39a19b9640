/-! Decode rows of constructors. -/
theorem d_Listing_init_0 : decode b_Listing_init 0 = .ok (.aload_n 0, 1) := by decide +kernel
theorem d_Listing_init_1 : decode b_Listing_init 1 = .ok (.invokespecial 1, 3) := by decide +kernel
theorem d_Listing_init_4 : decode b_Listing_init 4 = .ok (.aload_n 0, 1) := by decide +kernel
theorem d_Listing_init_5 : decode b_Listing_init 5 = .ok (.iload_n 1, 1) := by decide +kernel
theorem d_Listing_init_6 : decode b_Listing_init 6 = .ok (.newarray .int, 2) := by decide +kernel
theorem d_Listing_init_8 : decode b_Listing_init 8 = .ok (.putfield 7, 3) := by decide +kernel
theorem d_Listing_init_11 : decode b_Listing_init 11 = .ok (.aload_n 0, 1) := by decide +kernel
theorem d_Listing_init_12 : decode b_Listing_init 12 = .ok (.iload_n 1, 1) := by decide +kernel
theorem d_Listing_init_13 : decode b_Listing_init 13 = .ok (.newarray .int, 2) := by decide +kernel
theorem d_Listing_init_15 : decode b_Listing_init 15 = .ok (.putfield 13, 3) := by decide +kernel
theorem d_Listing_init_18 : decode b_Listing_init 18 = .ok (.aload_n 0, 1) := by decide +kernel
theorem d_Listing_init_19 : decode b_Listing_init 19 = .ok (.iconst 0, 1) := by decide +kernel
theorem d_Listing_init_20 : decode b_Listing_init 20 = .ok (.putfield 16, 3) := by decide +kernel
theorem d_Listing_init_23 : decode b_Listing_init 23 = .ok (.return_, 1) := by decide +kernel
theorem d_Automaton_init_0 : decode b_Automaton_init 0 = .ok (.aload_n 0, 1) := by decide +kernel
theorem d_Automaton_init_1 : decode b_Automaton_init 1 = .ok (.invokespecial 3, 3) := by decide +kernel
theorem d_Automaton_init_4 : decode b_Automaton_init 4 = .ok (.aload_n 0, 1) := by decide +kernel
theorem d_Automaton_init_5 : decode b_Automaton_init 5 = .ok (.bipush 32, 2) := by decide +kernel
theorem d_Automaton_init_7 : decode b_Automaton_init 7 = .ok (.newarray .int, 2) := by decide +kernel
theorem d_Automaton_init_9 : decode b_Automaton_init 9 = .ok (.putfield 9, 3) := by decide +kernel
theorem d_Automaton_init_12 : decode b_Automaton_init 12 = .ok (.aload_n 0, 1) := by decide +kernel
theorem d_Automaton_init_13 : decode b_Automaton_init 13 = .ok (.bipush 32, 2) := by decide +kernel
theorem d_Automaton_init_15 : decode b_Automaton_init 15 = .ok (.newarray .int, 2) := by decide +kernel
theorem d_Automaton_init_17 : decode b_Automaton_init 17 = .ok (.putfield 15, 3) := by decide +kernel
theorem d_Automaton_init_20 : decode b_Automaton_init 20 = .ok (.aload_n 0, 1) := by decide +kernel
theorem d_Automaton_init_21 : decode b_Automaton_init 21 = .ok (.bipush 32, 2) := by decide +kernel
theorem d_Automaton_init_23 : decode b_Automaton_init 23 = .ok (.newarray .int, 2) := by decide +kernel
theorem d_Automaton_init_25 : decode b_Automaton_init 25 = .ok (.putfield 18, 3) := by decide +kernel
theorem d_Automaton_init_28 : decode b_Automaton_init 28 = .ok (.aload_n 0, 1) := by decide +kernel
theorem d_Automaton_init_29 : decode b_Automaton_init 29 = .ok (.iconst 1, 1) := by decide +kernel
theorem d_Automaton_init_30 : decode b_Automaton_init 30 = .ok (.invokevirtual 21, 3) := by decide +kernel
theorem d_Automaton_init_33 : decode b_Automaton_init 33 = .ok (.return_, 1) := by decide +kernel
theorem d_Heights_init_0 : decode b_Heights_init 0 = .ok (.aload_n 0, 1) := by decide +kernel
theorem d_Heights_init_1 : decode b_Heights_init 1 = .ok (.invokespecial 3, 3) := by decide +kernel
theorem d_Heights_init_4 : decode b_Heights_init 4 = .ok (.aload_n 0, 1) := by decide +kernel
theorem d_Heights_init_5 : decode b_Heights_init 5 = .ok (.bipush 24, 2) := by decide +kernel
theorem d_Heights_init_7 : decode b_Heights_init 7 = .ok (.newarray .int, 2) := by decide +kernel
theorem d_Heights_init_9 : decode b_Heights_init 9 = .ok (.putfield 9, 3) := by decide +kernel
theorem d_Heights_init_12 : decode b_Heights_init 12 = .ok (.aload_n 0, 1) := by decide +kernel
theorem d_Heights_init_13 : decode b_Heights_init 13 = .ok (.bipush 24, 2) := by decide +kernel
theorem d_Heights_init_15 : decode b_Heights_init 15 = .ok (.newarray .int, 2) := by decide +kernel
theorem d_Heights_init_17 : decode b_Heights_init 17 = .ok (.putfield 15, 3) := by decide +kernel
theorem d_Heights_init_20 : decode b_Heights_init 20 = .ok (.aload_n 0, 1) := by decide +kernel
theorem d_Heights_init_21 : decode b_Heights_init 21 = .ok (.iconst 0, 1) := by decide +kernel
theorem d_Heights_init_22 : decode b_Heights_init 22 = .ok (.putfield 18, 3) := by decide +kernel
theorem d_Heights_init_25 : decode b_Heights_init 25 = .ok (.aload_n 0, 1) := by decide +kernel
theorem d_Heights_init_26 : decode b_Heights_init 26 = .ok (.iconst 0, 1) := by decide +kernel
theorem d_Heights_init_27 : decode b_Heights_init 27 = .ok (.putfield 22, 3) := by decide +kernel
theorem d_Heights_init_30 : decode b_Heights_init 30 = .ok (.return_, 1) := by decide +kernel
theorem d_Run_init_0 : decode b_Run_init 0 = .ok (.aload_n 0, 1) := by decide +kernel
theorem d_Run_init_1 : decode b_Run_init 1 = .ok (.invokespecial 3, 3) := by decide +kernel
theorem d_Run_init_4 : decode b_Run_init 4 = .ok (.aload_n 0, 1) := by decide +kernel
theorem d_Run_init_5 : decode b_Run_init 5 = .ok (.bipush 14, 2) := by decide +kernel
theorem d_Run_init_7 : decode b_Run_init 7 = .ok (.newarray .int, 2) := by decide +kernel
theorem d_Run_init_9 : decode b_Run_init 9 = .ok (.putfield 9, 3) := by decide +kernel
theorem d_Run_init_12 : decode b_Run_init 12 = .ok (.aload_n 0, 1) := by decide +kernel
theorem d_Run_init_13 : decode b_Run_init 13 = .ok (.bipush 8, 2) := by decide +kernel
theorem d_Run_init_15 : decode b_Run_init 15 = .ok (.newarray .int, 2) := by decide +kernel
theorem d_Run_init_17 : decode b_Run_init 17 = .ok (.putfield 15, 3) := by decide +kernel
theorem d_Run_init_20 : decode b_Run_init 20 = .ok (.aload_n 0, 1) := by decide +kernel
theorem d_Run_init_21 : decode b_Run_init 21 = .ok (.bipush 60, 2) := by decide +kernel
theorem d_Run_init_23 : decode b_Run_init 23 = .ok (.newarray .int, 2) := by decide +kernel
theorem d_Run_init_25 : decode b_Run_init 25 = .ok (.putfield 18, 3) := by decide +kernel
theorem d_Run_init_28 : decode b_Run_init 28 = .ok (.aload_n 0, 1) := by decide +kernel
theorem d_Run_init_29 : decode b_Run_init 29 = .ok (.bipush 60, 2) := by decide +kernel
theorem d_Run_init_31 : decode b_Run_init 31 = .ok (.newarray .int, 2) := by decide +kernel
theorem d_Run_init_33 : decode b_Run_init 33 = .ok (.putfield 21, 3) := by decide +kernel
theorem d_Run_init_36 : decode b_Run_init 36 = .ok (.aload_n 0, 1) := by decide +kernel
theorem d_Run_init_37 : decode b_Run_init 37 = .ok (.iconst 0, 1) := by decide +kernel
theorem d_Run_init_38 : decode b_Run_init 38 = .ok (.putfield 24, 3) := by decide +kernel
theorem d_Run_init_41 : decode b_Run_init 41 = .ok (.return_, 1) := by decide +kernel
theorem d_Weaver_init_0 : decode b_Weaver_init 0 = .ok (.aload_n 0, 1) := by decide +kernel
theorem d_Weaver_init_1 : decode b_Weaver_init 1 = .ok (.invokespecial 3, 3) := by decide +kernel
theorem d_Weaver_init_4 : decode b_Weaver_init 4 = .ok (.aload_n 0, 1) := by decide +kernel
theorem d_Weaver_init_5 : decode b_Weaver_init 5 = .ok (.new 9, 3) := by decide +kernel
theorem d_Weaver_init_8 : decode b_Weaver_init 8 = .ok (.dup, 1) := by decide +kernel
theorem d_Weaver_init_9 : decode b_Weaver_init 9 = .ok (.sipush 1584, 3) := by decide +kernel
theorem d_Weaver_init_12 : decode b_Weaver_init 12 = .ok (.invokespecial 11, 3) := by decide +kernel
theorem d_Weaver_init_15 : decode b_Weaver_init 15 = .ok (.putfield 14, 3) := by decide +kernel
theorem d_Weaver_init_18 : decode b_Weaver_init 18 = .ok (.aload_n 0, 1) := by decide +kernel
theorem d_Weaver_init_19 : decode b_Weaver_init 19 = .ok (.bipush 24, 2) := by decide +kernel
theorem d_Weaver_init_21 : decode b_Weaver_init 21 = .ok (.newarray .int, 2) := by decide +kernel
theorem d_Weaver_init_23 : decode b_Weaver_init 23 = .ok (.putfield 20, 3) := by decide +kernel
theorem d_Weaver_init_26 : decode b_Weaver_init 26 = .ok (.return_, 1) := by decide +kernel
theorem d_Loom_init_0 : decode b_Loom_init 0 = .ok (.aload_n 0, 1) := by decide +kernel
theorem d_Loom_init_1 : decode b_Loom_init 1 = .ok (.invokespecial 3, 3) := by decide +kernel
theorem d_Loom_init_4 : decode b_Loom_init 4 = .ok (.aload_n 0, 1) := by decide +kernel
theorem d_Loom_init_5 : decode b_Loom_init 5 = .ok (.new 9, 3) := by decide +kernel
theorem d_Loom_init_8 : decode b_Loom_init 8 = .ok (.dup, 1) := by decide +kernel
theorem d_Loom_init_9 : decode b_Loom_init 9 = .ok (.bipush 24, 2) := by decide +kernel
theorem d_Loom_init_11 : decode b_Loom_init 11 = .ok (.invokespecial 11, 3) := by decide +kernel
theorem d_Loom_init_14 : decode b_Loom_init 14 = .ok (.putfield 14, 3) := by decide +kernel
theorem d_Loom_init_17 : decode b_Loom_init 17 = .ok (.aload_n 0, 1) := by decide +kernel
theorem d_Loom_init_18 : decode b_Loom_init 18 = .ok (.new 18, 3) := by decide +kernel
theorem d_Loom_init_21 : decode b_Loom_init 21 = .ok (.dup, 1) := by decide +kernel
theorem d_Loom_init_22 : decode b_Loom_init 22 = .ok (.invokespecial 20, 3) := by decide +kernel
theorem d_Loom_init_25 : decode b_Loom_init 25 = .ok (.putfield 21, 3) := by decide +kernel
theorem d_Loom_init_28 : decode b_Loom_init 28 = .ok (.aload_n 0, 1) := by decide +kernel
theorem d_Loom_init_29 : decode b_Loom_init 29 = .ok (.new 25, 3) := by decide +kernel
theorem d_Loom_init_32 : decode b_Loom_init 32 = .ok (.dup, 1) := by decide +kernel
theorem d_Loom_init_33 : decode b_Loom_init 33 = .ok (.invokespecial 27, 3) := by decide +kernel
theorem d_Loom_init_36 : decode b_Loom_init 36 = .ok (.putfield 28, 3) := by decide +kernel
theorem d_Loom_init_39 : decode b_Loom_init 39 = .ok (.aload_n 0, 1) := by decide +kernel
theorem d_Loom_init_40 : decode b_Loom_init 40 = .ok (.new 32, 3) := by decide +kernel
theorem d_Loom_init_43 : decode b_Loom_init 43 = .ok (.dup, 1) := by decide +kernel
theorem d_Loom_init_44 : decode b_Loom_init 44 = .ok (.invokespecial 34, 3) := by decide +kernel
theorem d_Loom_init_47 : decode b_Loom_init 47 = .ok (.putfield 35, 3) := by decide +kernel
theorem d_Loom_init_50 : decode b_Loom_init 50 = .ok (.aload_n 0, 1) := by decide +kernel
theorem d_Loom_init_51 : decode b_Loom_init 51 = .ok (.new 39, 3) := by decide +kernel
theorem d_Loom_init_54 : decode b_Loom_init 54 = .ok (.dup, 1) := by decide +kernel
theorem d_Loom_init_55 : decode b_Loom_init 55 = .ok (.invokespecial 41, 3) := by decide +kernel
theorem d_Loom_init_58 : decode b_Loom_init 58 = .ok (.putfield 42, 3) := by decide +kernel
theorem d_Loom_init_61 : decode b_Loom_init 61 = .ok (.aload_n 0, 1) := by decide +kernel
theorem d_Loom_init_62 : decode b_Loom_init 62 = .ok (.iconst 0, 1) := by decide +kernel
theorem d_Loom_init_63 : decode b_Loom_init 63 = .ok (.putfield 46, 3) := by decide +kernel
theorem d_Loom_init_66 : decode b_Loom_init 66 = .ok (.aload_n 0, 1) := by decide +kernel
theorem d_Loom_init_67 : decode b_Loom_init 67 = .ok (.iconst 0, 1) := by decide +kernel
theorem d_Loom_init_68 : decode b_Loom_init 68 = .ok (.putfield 50, 3) := by decide +kernel
theorem d_Loom_init_71 : decode b_Loom_init 71 = .ok (.return_, 1) := by decide +kernel
theorem d_Model_init_0 : decode b_Model_init 0 = .ok (.aload_n 0, 1) := by decide +kernel
theorem d_Model_init_1 : decode b_Model_init 1 = .ok (.invokespecial 1, 3) := by decide +kernel
theorem d_Model_init_4 : decode b_Model_init 4 = .ok (.aload_n 0, 1) := by decide +kernel
theorem d_Model_init_5 : decode b_Model_init 5 = .ok (.bipush 24, 2) := by decide +kernel
theorem d_Model_init_7 : decode b_Model_init 7 = .ok (.newarray .int, 2) := by decide +kernel
theorem d_Model_init_9 : decode b_Model_init 9 = .ok (.putfield 7, 3) := by decide +kernel
theorem d_Model_init_12 : decode b_Model_init 12 = .ok (.aload_n 0, 1) := by decide +kernel
theorem d_Model_init_13 : decode b_Model_init 13 = .ok (.bipush 24, 2) := by decide +kernel
theorem d_Model_init_15 : decode b_Model_init 15 = .ok (.newarray .int, 2) := by decide +kernel
theorem d_Model_init_17 : decode b_Model_init 17 = .ok (.putfield 13, 3) := by decide +kernel
theorem d_Model_init_20 : decode b_Model_init 20 = .ok (.aload_n 0, 1) := by decide +kernel
theorem d_Model_init_21 : decode b_Model_init 21 = .ok (.bipush 24, 2) := by decide +kernel
theorem d_Model_init_23 : decode b_Model_init 23 = .ok (.newarray .int, 2) := by decide +kernel
theorem d_Model_init_25 : decode b_Model_init 25 = .ok (.putfield 16, 3) := by decide +kernel
theorem d_Model_init_28 : decode b_Model_init 28 = .ok (.aload_n 0, 1) := by decide +kernel
theorem d_Model_init_29 : decode b_Model_init 29 = .ok (.iconst 1, 1) := by decide +kernel
theorem d_Model_init_30 : decode b_Model_init 30 = .ok (.putfield 19, 3) := by decide +kernel
theorem d_Model_init_33 : decode b_Model_init 33 = .ok (.aload_n 0, 1) := by decide +kernel
theorem d_Model_init_34 : decode b_Model_init 34 = .ok (.bipush 32, 2) := by decide +kernel
theorem d_Model_init_36 : decode b_Model_init 36 = .ok (.newarray .boolean, 2) := by decide +kernel
theorem d_Model_init_38 : decode b_Model_init 38 = .ok (.putfield 23, 3) := by decide +kernel
theorem d_Model_init_41 : decode b_Model_init 41 = .ok (.aload_n 0, 1) := by decide +kernel
theorem d_Model_init_42 : decode b_Model_init 42 = .ok (.bipush 32, 2) := by decide +kernel
theorem d_Model_init_44 : decode b_Model_init 44 = .ok (.newarray .int, 2) := by decide +kernel
theorem d_Model_init_46 : decode b_Model_init 46 = .ok (.putfield 27, 3) := by decide +kernel
theorem d_Model_init_49 : decode b_Model_init 49 = .ok (.aload_n 0, 1) := by decide +kernel
theorem d_Model_init_50 : decode b_Model_init 50 = .ok (.bipush 32, 2) := by decide +kernel
theorem d_Model_init_52 : decode b_Model_init 52 = .ok (.newarray .int, 2) := by decide +kernel
theorem d_Model_init_54 : decode b_Model_init 54 = .ok (.putfield 30, 3) := by decide +kernel
theorem d_Model_init_57 : decode b_Model_init 57 = .ok (.aload_n 0, 1) := by decide +kernel
theorem d_Model_init_58 : decode b_Model_init 58 = .ok (.bipush 32, 2) := by decide +kernel
theorem d_Model_init_60 : decode b_Model_init 60 = .ok (.newarray .int, 2) := by decide +kernel
theorem d_Model_init_62 : decode b_Model_init 62 = .ok (.putfield 33, 3) := by decide +kernel
theorem d_Model_init_65 : decode b_Model_init 65 = .ok (.aload_n 0, 1) := by decide +kernel
theorem d_Model_init_66 : decode b_Model_init 66 = .ok (.bipush 20, 2) := by decide +kernel
theorem d_Model_init_68 : decode b_Model_init 68 = .ok (.newarray .int, 2) := by decide +kernel
theorem d_Model_init_70 : decode b_Model_init 70 = .ok (.putfield 36, 3) := by decide +kernel
theorem d_Model_init_73 : decode b_Model_init 73 = .ok (.aload_n 0, 1) := by decide +kernel
theorem d_Model_init_74 : decode b_Model_init 74 = .ok (.bipush 8, 2) := by decide +kernel
theorem d_Model_init_76 : decode b_Model_init 76 = .ok (.newarray .int, 2) := by decide +kernel
theorem d_Model_init_78 : decode b_Model_init 78 = .ok (.putfield 39, 3) := by decide +kernel
theorem d_Model_init_81 : decode b_Model_init 81 = .ok (.aload_n 0, 1) := by decide +kernel
theorem d_Model_init_82 : decode b_Model_init 82 = .ok (.bipush 60, 2) := by decide +kernel
theorem d_Model_init_84 : decode b_Model_init 84 = .ok (.newarray .int, 2) := by decide +kernel
theorem d_Model_init_86 : decode b_Model_init 86 = .ok (.putfield 42, 3) := by decide +kernel
theorem d_Model_init_89 : decode b_Model_init 89 = .ok (.aload_n 0, 1) := by decide +kernel
theorem d_Model_init_90 : decode b_Model_init 90 = .ok (.bipush 60, 2) := by decide +kernel
theorem d_Model_init_92 : decode b_Model_init 92 = .ok (.newarray .int, 2) := by decide +kernel
theorem d_Model_init_94 : decode b_Model_init 94 = .ok (.putfield 45, 3) := by decide +kernel
theorem d_Model_init_97 : decode b_Model_init 97 = .ok (.return_, 1) := by decide +kernel
set_option maxHeartbeats 4000000 in
set_option maxRecDepth 100000 in
theorem c_Listing_init_24 (l : Launch) (D : va_G) (cI cZ cL : ClassId) (h : Nat)  : pl_V l y_Listing_init b_Listing_init 2 ({ frames := 1, cells := 2, slots := 48, locals := 12 } : Room) pl_E0 D classes (TY cI cZ cL) [.ref h, .int (nI 24)] [(h, .inr (0, [.null, .null, .int (nI 0)]))] (fun (_ : Nat → Nat) => True) (fun (u : (Nat → Nat)) => [(h, .inr (0, [.ref (u 0), .ref (u 1), .int (nI 0)])), (u 0, .inl (cI, 24, .inl (fun _ => nI 0))), (u 1, .inl (cI, 24, .inl (fun _ => nI 0)))]) := by
  refine pl_startV (by decide) (Nat.le_of_ble_eq_true rfl) ?_
  intro p e s m args below meth c A ls X hr hlk hin hK hP hD hS hA hE hl
  have X : CallFix p m c b_Listing_init 2 s args TG R_Listing := X
  have hx := X.1
  have hb := X.2.1
  have hl : lv_has ls 2 [(0, .ref h), (1, .int (nI 24))] := hl
  refine lv_aload_n hx hb d_Listing_init_0 rfl (lv_at hl 0 rfl) ?_
  refine pl_objInit X ob_Listing_1 (by rw [X.2.2.1]; exact hl.1) (by decide) (by decide) d_Listing_init_1 ?_
  refine lv_aload_n hx hb d_Listing_init_4 rfl (lv_at hl 0 rfl) ?_
  refine lv_iload_n hx hb d_Listing_init_5 rfl (lv_at hl 1 rfl) ?_
  refine pl_newaI X ar_I hK 0 rfl hP hD hS hA (by decide) (by decide) (by decide) d_Listing_init_6 (ws' := fun n6 => [(h, .inr (0, [.null, .null, .int (nI 0)])), (n6, .inl (cI, 24, .inl (fun _ => nI 0)))]) (fun _ => rfl) (fun n6 H hP hD hS => ?_)
  refine pl_putF X fw_Listing_7 fp_Listing rfl hin rfl hK hP hD hS 0 rfl (v := .ref n6) rfl rfl (Nat.le_of_ble_eq_true rfl) d_Listing_init_8 (ws' := [(h, .inr (0, [.ref n6, .null, .int (nI 0)])), (n6, .inl (cI, 24, .inl (fun _ => nI 0)))]) rfl (fun H locs hP hD hS => ?_)
  refine lv_aload_n hx hb d_Listing_init_11 rfl (lv_at hl 0 rfl) ?_
  refine lv_iload_n hx hb d_Listing_init_12 rfl (lv_at hl 1 rfl) ?_
  refine pl_newaI X ar_I hK 0 rfl hP hD hS hA (by decide) (by decide) (by decide) d_Listing_init_13 (ws' := fun n13 => [(h, .inr (0, [.ref n6, .null, .int (nI 0)])), (n6, .inl (cI, 24, .inl (fun _ => nI 0))), (n13, .inl (cI, 24, .inl (fun _ => nI 0)))]) (fun _ => rfl) (fun n13 H hP hD hS => ?_)
  refine pl_putF X fw_Listing_13 fp_Listing rfl hin rfl hK hP hD hS 0 rfl (v := .ref n13) rfl rfl (Nat.le_of_ble_eq_true rfl) d_Listing_init_15 (ws' := [(h, .inr (0, [.ref n6, .ref n13, .int (nI 0)])), (n6, .inl (cI, 24, .inl (fun _ => nI 0))), (n13, .inl (cI, 24, .inl (fun _ => nI 0)))]) rfl (fun H locs hP hD hS => ?_)
  refine lv_aload_n hx hb d_Listing_init_18 rfl (lv_at hl 0 rfl) ?_
  refine lv_iconst (v := nI 0) hx hb d_Listing_init_19 (by decide) ?_
  refine pl_put X fw_Listing_16 fp_Listing rfl hK hP hD hS 0 rfl (v := .int (nI 0)) rfl rfl (Nat.le_of_ble_eq_true rfl) d_Listing_init_20 (ws' := [(h, .inr (0, [.ref n6, .ref n13, .int (nI 0)])), (n6, .inl (cI, 24, .inl (fun _ => nI 0))), (n13, .inl (cI, 24, .inl (fun _ => nI 0)))]) rfl (fun H locs hP hD hS => ?_)
  exact pl_vret X hr hlk hK (fun k => [n6, n13].getD k 0) trivial hP hD hS d_Listing_init_23

set_option maxHeartbeats 4000000 in
set_option maxRecDepth 100000 in
theorem c_Listing_init_1584 (l : Launch) (D : va_G) (cI cZ cL : ClassId) (h : Nat)  : pl_V l y_Listing_init b_Listing_init 2 ({ frames := 1, cells := 2, slots := 3168, locals := 12 } : Room) pl_E0 D classes (TY cI cZ cL) [.ref h, .int (nI 1584)] [(h, .inr (0, [.null, .null, .int (nI 0)]))] (fun (_ : Nat → Nat) => True) (fun (u : (Nat → Nat)) => [(h, .inr (0, [.ref (u 0), .ref (u 1), .int (nI 0)])), (u 0, .inl (cI, 1584, .inl (fun _ => nI 0))), (u 1, .inl (cI, 1584, .inl (fun _ => nI 0)))]) := by
  refine pl_startV (by decide) (Nat.le_of_ble_eq_true rfl) ?_
  intro p e s m args below meth c A ls X hr hlk hin hK hP hD hS hA hE hl
  have X : CallFix p m c b_Listing_init 2 s args TG R_Listing := X
  have hx := X.1
  have hb := X.2.1
  have hl : lv_has ls 2 [(0, .ref h), (1, .int (nI 1584))] := hl
  refine lv_aload_n hx hb d_Listing_init_0 rfl (lv_at hl 0 rfl) ?_
  refine pl_objInit X ob_Listing_1 (by rw [X.2.2.1]; exact hl.1) (by decide) (by decide) d_Listing_init_1 ?_
  refine lv_aload_n hx hb d_Listing_init_4 rfl (lv_at hl 0 rfl) ?_
  refine lv_iload_n hx hb d_Listing_init_5 rfl (lv_at hl 1 rfl) ?_
  refine pl_newaI X ar_I hK 0 rfl hP hD hS hA (by decide) (by decide) (by decide) d_Listing_init_6 (ws' := fun n6 => [(h, .inr (0, [.null, .null, .int (nI 0)])), (n6, .inl (cI, 1584, .inl (fun _ => nI 0)))]) (fun _ => rfl) (fun n6 H hP hD hS => ?_)
  refine pl_putF X fw_Listing_7 fp_Listing rfl hin rfl hK hP hD hS 0 rfl (v := .ref n6) rfl rfl (Nat.le_of_ble_eq_true rfl) d_Listing_init_8 (ws' := [(h, .inr (0, [.ref n6, .null, .int (nI 0)])), (n6, .inl (cI, 1584, .inl (fun _ => nI 0)))]) rfl (fun H locs hP hD hS => ?_)
  refine lv_aload_n hx hb d_Listing_init_11 rfl (lv_at hl 0 rfl) ?_
  refine lv_iload_n hx hb d_Listing_init_12 rfl (lv_at hl 1 rfl) ?_
  refine pl_newaI X ar_I hK 0 rfl hP hD hS hA (by decide) (by decide) (by decide) d_Listing_init_13 (ws' := fun n13 => [(h, .inr (0, [.ref n6, .null, .int (nI 0)])), (n6, .inl (cI, 1584, .inl (fun _ => nI 0))), (n13, .inl (cI, 1584, .inl (fun _ => nI 0)))]) (fun _ => rfl) (fun n13 H hP hD hS => ?_)
  refine pl_putF X fw_Listing_13 fp_Listing rfl hin rfl hK hP hD hS 0 rfl (v := .ref n13) rfl rfl (Nat.le_of_ble_eq_true rfl) d_Listing_init_15 (ws' := [(h, .inr (0, [.ref n6, .ref n13, .int (nI 0)])), (n6, .inl (cI, 1584, .inl (fun _ => nI 0))), (n13, .inl (cI, 1584, .inl (fun _ => nI 0)))]) rfl (fun H locs hP hD hS => ?_)
  refine lv_aload_n hx hb d_Listing_init_18 rfl (lv_at hl 0 rfl) ?_
  refine lv_iconst (v := nI 0) hx hb d_Listing_init_19 (by decide) ?_
  refine pl_put X fw_Listing_16 fp_Listing rfl hK hP hD hS 0 rfl (v := .int (nI 0)) rfl rfl (Nat.le_of_ble_eq_true rfl) d_Listing_init_20 (ws' := [(h, .inr (0, [.ref n6, .ref n13, .int (nI 0)])), (n6, .inl (cI, 1584, .inl (fun _ => nI 0))), (n13, .inl (cI, 1584, .inl (fun _ => nI 0)))]) rfl (fun H locs hP hD hS => ?_)
  exact pl_vret X hr hlk hK (fun k => [n6, n13].getD k 0) trivial hP hD hS d_Listing_init_23

set_option maxHeartbeats 4000000 in
set_option maxRecDepth 100000 in
theorem c_Automaton_init (l : Launch) (D : va_G) (cI cZ cL : ClassId) (h : Nat)  : pl_V l y_Automaton_init b_Automaton_init 1 ({ frames := 1, cells := 3, slots := 96, locals := 22 } : Room) pl_E0 D classes (TY cI cZ cL) [.ref h] [(h, .inr (1, [.null, .null, .null, .int (nI 0)]))] (fun (_ : Nat → Nat) => True) (fun (u : (Nat → Nat)) => [(h, .inr (1, [.ref (u 0), .ref (u 1), .ref (u 2), .int (nI 1)])), (u 0, .inl (cI, 32, .inl (fun _ => nI 0))), (u 1, .inl (cI, 32, .inl (fun _ => nI 0))), (u 2, .inl (cI, 32, .inl (fun _ => -1)))]) := by
  refine pl_startV (by decide) (Nat.le_of_ble_eq_true rfl) ?_
  intro p e s m args below meth c A ls X hr hlk hin hK hP hD hS hA hE hl
  have X : CallFix p m c b_Automaton_init 1 s args TG R_Automaton := X
  have hx := X.1
  have hb := X.2.1
  have hl : lv_has ls 1 [(0, .ref h)] := hl
  refine lv_aload_n hx hb d_Automaton_init_0 rfl (lv_at hl 0 rfl) ?_
  refine pl_objInit X ob_Automaton_3 (by rw [X.2.2.1]; exact hl.1) (by decide) (by decide) d_Automaton_init_1 ?_
  refine lv_aload_n hx hb d_Automaton_init_4 rfl (lv_at hl 0 rfl) ?_
  refine lv_bipush (v := nI 32) hx hb d_Automaton_init_5 (by decide) ?_
  refine pl_newaI X ar_I hK 0 rfl hP hD hS hA (by decide) (by decide) (by decide) d_Automaton_init_7 (ws' := fun n7 => [(h, .inr (1, [.null, .null, .null, .int (nI 0)])), (n7, .inl (cI, 32, .inl (fun _ => nI 0)))]) (fun _ => rfl) (fun n7 H hP hD hS => ?_)
  refine pl_putF X fw_Automaton_9 fp_Automaton rfl hin rfl hK hP hD hS 0 rfl (v := .ref n7) rfl rfl (Nat.le_of_ble_eq_true rfl) d_Automaton_init_9 (ws' := [(h, .inr (1, [.ref n7, .null, .null, .int (nI 0)])), (n7, .inl (cI, 32, .inl (fun _ => nI 0)))]) rfl (fun H locs hP hD hS => ?_)
  refine lv_aload_n hx hb d_Automaton_init_12 rfl (lv_at hl 0 rfl) ?_
  refine lv_bipush (v := nI 32) hx hb d_Automaton_init_13 (by decide) ?_
  refine pl_newaI X ar_I hK 0 rfl hP hD hS hA (by decide) (by decide) (by decide) d_Automaton_init_15 (ws' := fun n15 => [(h, .inr (1, [.ref n7, .null, .null, .int (nI 0)])), (n7, .inl (cI, 32, .inl (fun _ => nI 0))), (n15, .inl (cI, 32, .inl (fun _ => nI 0)))]) (fun _ => rfl) (fun n15 H hP hD hS => ?_)
  refine pl_putF X fw_Automaton_15 fp_Automaton rfl hin rfl hK hP hD hS 0 rfl (v := .ref n15) rfl rfl (Nat.le_of_ble_eq_true rfl) d_Automaton_init_17 (ws' := [(h, .inr (1, [.ref n7, .ref n15, .null, .int (nI 0)])), (n7, .inl (cI, 32, .inl (fun _ => nI 0))), (n15, .inl (cI, 32, .inl (fun _ => nI 0)))]) rfl (fun H locs hP hD hS => ?_)
  refine lv_aload_n hx hb d_Automaton_init_20 rfl (lv_at hl 0 rfl) ?_
  refine lv_bipush (v := nI 32) hx hb d_Automaton_init_21 (by decide) ?_
  refine pl_newaI X ar_I hK 0 rfl hP hD hS hA (by decide) (by decide) (by decide) d_Automaton_init_23 (ws' := fun n23 => [(h, .inr (1, [.ref n7, .ref n15, .null, .int (nI 0)])), (n7, .inl (cI, 32, .inl (fun _ => nI 0))), (n15, .inl (cI, 32, .inl (fun _ => nI 0))), (n23, .inl (cI, 32, .inl (fun _ => nI 0)))]) (fun _ => rfl) (fun n23 H hP hD hS => ?_)
  refine pl_putF X fw_Automaton_18 fp_Automaton rfl hin rfl hK hP hD hS 0 rfl (v := .ref n23) rfl rfl (Nat.le_of_ble_eq_true rfl) d_Automaton_init_25 (ws' := [(h, .inr (1, [.ref n7, .ref n15, .ref n23, .int (nI 0)])), (n7, .inl (cI, 32, .inl (fun _ => nI 0))), (n15, .inl (cI, 32, .inl (fun _ => nI 0))), (n23, .inl (cI, 32, .inl (fun _ => nI 0)))]) rfl (fun H locs hP hD hS => ?_)
  refine lv_aload_n hx hb d_Automaton_init_28 rfl (lv_at hl 0 rfl) ?_
  refine lv_iconst (v := nI 1) hx hb d_Automaton_init_29 (by decide) ?_
  refine pl_callVV X (rest := []) (As := [.int (nI 1)]) (b := h) (c_Automaton_reset l D cI cZ cL h n7 n15 n23 0 (fun _ => nI 0) (fun _ => nI 0) (fun _ => nI 0) 1) ck_Automaton_21 pl_E0_ok trivial hK hP hD hS hA (T := F_Automaton) (N := N_Automaton) (ci := 1) rfl 0 rfl [0, 1, 2, 3] [] [0, 1, 2, 3] rfl (by decide) (wr := []) rfl (by decide) (by decide) (wf := fun _ => [(h, .inr (1, [.ref n7, .ref n15, .ref n23, .int (nI 1)])), (n7, .inl (cI, 32, .inl (fun _ => nI 0))), (n15, .inl (cI, 32, .inl (fun _ => nI 0))), (n23, .inl (cI, 32, .inl (fun _ => -1)))]) (fun _ => rfl) (by decide) rfl hl.1 rfl (Nat.le_of_ble_eq_true rfl) (by decide) (by decide) d_Automaton_init_30 (fun u0 H locs hcq hP hD hS => ?_)
  exact pl_vret X hr hlk hK (fun k => [n7, n15, n23].getD k 0) trivial hP hD hS d_Automaton_init_33

set_option maxHeartbeats 4000000 in
set_option maxRecDepth 100000 in
theorem c_Heights_init (l : Launch) (D : va_G) (cI cZ cL : ClassId) (h : Nat)  : pl_V l y_Heights_init b_Heights_init 1 ({ frames := 1, cells := 2, slots := 48, locals := 12 } : Room) pl_E0 D classes (TY cI cZ cL) [.ref h] [(h, .inr (2, [.null, .null, .int (nI 0), .int (nI 0)]))] (fun (_ : Nat → Nat) => True) (fun (u : (Nat → Nat)) => [(h, .inr (2, [.ref (u 0), .ref (u 1), .int (nI 0), .int (bI (false))])), (u 0, .inl (cI, 24, .inl (fun _ => nI 0))), (u 1, .inl (cI, 24, .inl (fun _ => nI 0)))]) := by
  refine pl_startV (by decide) (Nat.le_of_ble_eq_true rfl) ?_
  intro p e s m args below meth c A ls X hr hlk hin hK hP hD hS hA hE hl
  have X : CallFix p m c b_Heights_init 1 s args TG R_Heights := X
  have hx := X.1
  have hb := X.2.1
  have hl : lv_has ls 1 [(0, .ref h)] := hl
  refine lv_aload_n hx hb d_Heights_init_0 rfl (lv_at hl 0 rfl) ?_
  refine pl_objInit X ob_Heights_3 (by rw [X.2.2.1]; exact hl.1) (by decide) (by decide) d_Heights_init_1 ?_
  refine lv_aload_n hx hb d_Heights_init_4 rfl (lv_at hl 0 rfl) ?_
  refine lv_bipush (v := nI 24) hx hb d_Heights_init_5 (by decide) ?_
  refine pl_newaI X ar_I hK 0 rfl hP hD hS hA (by decide) (by decide) (by decide) d_Heights_init_7 (ws' := fun n7 => [(h, .inr (2, [.null, .null, .int (nI 0), .int (nI 0)])), (n7, .inl (cI, 24, .inl (fun _ => nI 0)))]) (fun _ => rfl) (fun n7 H hP hD hS => ?_)
  refine pl_putF X fw_Heights_9 fp_Heights rfl hin rfl hK hP hD hS 0 rfl (v := .ref n7) rfl rfl (Nat.le_of_ble_eq_true rfl) d_Heights_init_9 (ws' := [(h, .inr (2, [.ref n7, .null, .int (nI 0), .int (nI 0)])), (n7, .inl (cI, 24, .inl (fun _ => nI 0)))]) rfl (fun H locs hP hD hS => ?_)
  refine lv_aload_n hx hb d_Heights_init_12 rfl (lv_at hl 0 rfl) ?_
  refine lv_bipush (v := nI 24) hx hb d_Heights_init_13 (by decide) ?_
  refine pl_newaI X ar_I hK 0 rfl hP hD hS hA (by decide) (by decide) (by decide) d_Heights_init_15 (ws' := fun n15 => [(h, .inr (2, [.ref n7, .null, .int (nI 0), .int (nI 0)])), (n7, .inl (cI, 24, .inl (fun _ => nI 0))), (n15, .inl (cI, 24, .inl (fun _ => nI 0)))]) (fun _ => rfl) (fun n15 H hP hD hS => ?_)
  refine pl_putF X fw_Heights_15 fp_Heights rfl hin rfl hK hP hD hS 0 rfl (v := .ref n15) rfl rfl (Nat.le_of_ble_eq_true rfl) d_Heights_init_17 (ws' := [(h, .inr (2, [.ref n7, .ref n15, .int (nI 0), .int (nI 0)])), (n7, .inl (cI, 24, .inl (fun _ => nI 0))), (n15, .inl (cI, 24, .inl (fun _ => nI 0)))]) rfl (fun H locs hP hD hS => ?_)
  refine lv_aload_n hx hb d_Heights_init_20 rfl (lv_at hl 0 rfl) ?_
  refine lv_iconst (v := nI 0) hx hb d_Heights_init_21 (by decide) ?_
  refine pl_put X fw_Heights_18 fp_Heights rfl hK hP hD hS 0 rfl (v := .int (nI 0)) rfl rfl (Nat.le_of_ble_eq_true rfl) d_Heights_init_22 (ws' := [(h, .inr (2, [.ref n7, .ref n15, .int (nI 0), .int (nI 0)])), (n7, .inl (cI, 24, .inl (fun _ => nI 0))), (n15, .inl (cI, 24, .inl (fun _ => nI 0)))]) rfl (fun H locs hP hD hS => ?_)
  refine lv_aload_n hx hb d_Heights_init_25 rfl (lv_at hl 0 rfl) ?_
  refine lv_iconst (v := nI 0) hx hb d_Heights_init_26 (by decide) ?_
  refine pl_put X fw_Heights_22 fp_Heights rfl hK hP hD hS 0 rfl (v := .int (nI 0)) rfl rfl (Nat.le_of_ble_eq_true rfl) d_Heights_init_27 (ws' := [(h, .inr (2, [.ref n7, .ref n15, .int (nI 0), .int (nI 0)])), (n7, .inl (cI, 24, .inl (fun _ => nI 0))), (n15, .inl (cI, 24, .inl (fun _ => nI 0)))]) rfl (fun H locs hP hD hS => ?_)
  exact pl_vret X hr hlk hK (fun k => [n7, n15].getD k 0) trivial hP hD hS d_Heights_init_30

set_option maxHeartbeats 4000000 in
set_option maxRecDepth 100000 in
theorem c_Run_init (l : Launch) (D : va_G) (cI cZ cL : ClassId) (h : Nat)  : pl_V l y_Run_init b_Run_init 1 ({ frames := 1, cells := 4, slots := 142, locals := 12 } : Room) pl_E0 D classes (TY cI cZ cL) [.ref h] [(h, .inr (4, [.null, .null, .null, .null, .int (nI 0), .int (nI 0), .int (nI 0), .int (nI 0), .int (nI 0), .int (nI 0)]))] (fun (_ : Nat → Nat) => True) (fun (u : (Nat → Nat)) => [(h, .inr (4, [.ref (u 0), .ref (u 1), .ref (u 2), .ref (u 3), .int (nI 0), .int (nI 0), .int (nI 0), .int (nI 0), .int (nI 0), .int (nI 0)])), (u 0, .inl (cI, 14, .inl (fun _ => nI 0))), (u 1, .inl (cI, 8, .inl (fun _ => nI 0))), (u 2, .inl (cI, 60, .inl (fun _ => nI 0))), (u 3, .inl (cI, 60, .inl (fun _ => nI 0)))]) := by
  refine pl_startV (by decide) (Nat.le_of_ble_eq_true rfl) ?_
  intro p e s m args below meth c A ls X hr hlk hin hK hP hD hS hA hE hl
  have X : CallFix p m c b_Run_init 1 s args TG R_Run := X
  have hx := X.1
  have hb := X.2.1
  have hl : lv_has ls 1 [(0, .ref h)] := hl
  refine lv_aload_n hx hb d_Run_init_0 rfl (lv_at hl 0 rfl) ?_
  refine pl_objInit X ob_Run_3 (by rw [X.2.2.1]; exact hl.1) (by decide) (by decide) d_Run_init_1 ?_
  refine lv_aload_n hx hb d_Run_init_4 rfl (lv_at hl 0 rfl) ?_
  refine lv_bipush (v := nI 14) hx hb d_Run_init_5 (by decide) ?_
  refine pl_newaI X ar_I hK 0 rfl hP hD hS hA (by decide) (by decide) (by decide) d_Run_init_7 (ws' := fun n7 => [(h, .inr (4, [.null, .null, .null, .null, .int (nI 0), .int (nI 0), .int (nI 0), .int (nI 0), .int (nI 0), .int (nI 0)])), (n7, .inl (cI, 14, .inl (fun _ => nI 0)))]) (fun _ => rfl) (fun n7 H hP hD hS => ?_)
  refine pl_putF X fw_Run_9 fp_Run rfl hin rfl hK hP hD hS 0 rfl (v := .ref n7) rfl rfl (Nat.le_of_ble_eq_true rfl) d_Run_init_9 (ws' := [(h, .inr (4, [.ref n7, .null, .null, .null, .int (nI 0), .int (nI 0), .int (nI 0), .int (nI 0), .int (nI 0), .int (nI 0)])), (n7, .inl (cI, 14, .inl (fun _ => nI 0)))]) rfl (fun H locs hP hD hS => ?_)
  refine lv_aload_n hx hb d_Run_init_12 rfl (lv_at hl 0 rfl) ?_
  refine lv_bipush (v := nI 8) hx hb d_Run_init_13 (by decide) ?_
  refine pl_newaI X ar_I hK 0 rfl hP hD hS hA (by decide) (by decide) (by decide) d_Run_init_15 (ws' := fun n15 => [(h, .inr (4, [.ref n7, .null, .null, .null, .int (nI 0), .int (nI 0), .int (nI 0), .int (nI 0), .int (nI 0), .int (nI 0)])), (n7, .inl (cI, 14, .inl (fun _ => nI 0))), (n15, .inl (cI, 8, .inl (fun _ => nI 0)))]) (fun _ => rfl) (fun n15 H hP hD hS => ?_)
  refine pl_putF X fw_Run_15 fp_Run rfl hin rfl hK hP hD hS 0 rfl (v := .ref n15) rfl rfl (Nat.le_of_ble_eq_true rfl) d_Run_init_17 (ws' := [(h, .inr (4, [.ref n7, .ref n15, .null, .null, .int (nI 0), .int (nI 0), .int (nI 0), .int (nI 0), .int (nI 0), .int (nI 0)])), (n7, .inl (cI, 14, .inl (fun _ => nI 0))), (n15, .inl (cI, 8, .inl (fun _ => nI 0)))]) rfl (fun H locs hP hD hS => ?_)
  refine lv_aload_n hx hb d_Run_init_20 rfl (lv_at hl 0 rfl) ?_
  refine lv_bipush (v := nI 60) hx hb d_Run_init_21 (by decide) ?_
  refine pl_newaI X ar_I hK 0 rfl hP hD hS hA (by decide) (by decide) (by decide) d_Run_init_23 (ws' := fun n23 => [(h, .inr (4, [.ref n7, .ref n15, .null, .null, .int (nI 0), .int (nI 0), .int (nI 0), .int (nI 0), .int (nI 0), .int (nI 0)])), (n7, .inl (cI, 14, .inl (fun _ => nI 0))), (n15, .inl (cI, 8, .inl (fun _ => nI 0))), (n23, .inl (cI, 60, .inl (fun _ => nI 0)))]) (fun _ => rfl) (fun n23 H hP hD hS => ?_)
  refine pl_putF X fw_Run_18 fp_Run rfl hin rfl hK hP hD hS 0 rfl (v := .ref n23) rfl rfl (Nat.le_of_ble_eq_true rfl) d_Run_init_25 (ws' := [(h, .inr (4, [.ref n7, .ref n15, .ref n23, .null, .int (nI 0), .int (nI 0), .int (nI 0), .int (nI 0), .int (nI 0), .int (nI 0)])), (n7, .inl (cI, 14, .inl (fun _ => nI 0))), (n15, .inl (cI, 8, .inl (fun _ => nI 0))), (n23, .inl (cI, 60, .inl (fun _ => nI 0)))]) rfl (fun H locs hP hD hS => ?_)
  refine lv_aload_n hx hb d_Run_init_28 rfl (lv_at hl 0 rfl) ?_
  refine lv_bipush (v := nI 60) hx hb d_Run_init_29 (by decide) ?_
  refine pl_newaI X ar_I hK 0 rfl hP hD hS hA (by decide) (by decide) (by decide) d_Run_init_31 (ws' := fun n31 => [(h, .inr (4, [.ref n7, .ref n15, .ref n23, .null, .int (nI 0), .int (nI 0), .int (nI 0), .int (nI 0), .int (nI 0), .int (nI 0)])), (n7, .inl (cI, 14, .inl (fun _ => nI 0))), (n15, .inl (cI, 8, .inl (fun _ => nI 0))), (n23, .inl (cI, 60, .inl (fun _ => nI 0))), (n31, .inl (cI, 60, .inl (fun _ => nI 0)))]) (fun _ => rfl) (fun n31 H hP hD hS => ?_)
  refine pl_putF X fw_Run_21 fp_Run rfl hin rfl hK hP hD hS 0 rfl (v := .ref n31) rfl rfl (Nat.le_of_ble_eq_true rfl) d_Run_init_33 (ws' := [(h, .inr (4, [.ref n7, .ref n15, .ref n23, .ref n31, .int (nI 0), .int (nI 0), .int (nI 0), .int (nI 0), .int (nI 0), .int (nI 0)])), (n7, .inl (cI, 14, .inl (fun _ => nI 0))), (n15, .inl (cI, 8, .inl (fun _ => nI 0))), (n23, .inl (cI, 60, .inl (fun _ => nI 0))), (n31, .inl (cI, 60, .inl (fun _ => nI 0)))]) rfl (fun H locs hP hD hS => ?_)
  refine lv_aload_n hx hb d_Run_init_36 rfl (lv_at hl 0 rfl) ?_
  refine lv_iconst (v := nI 0) hx hb d_Run_init_37 (by decide) ?_
  refine pl_put X fw_Run_24 fp_Run rfl hK hP hD hS 0 rfl (v := .int (nI 0)) rfl rfl (Nat.le_of_ble_eq_true rfl) d_Run_init_38 (ws' := [(h, .inr (4, [.ref n7, .ref n15, .ref n23, .ref n31, .int (nI 0), .int (nI 0), .int (nI 0), .int (nI 0), .int (nI 0), .int (nI 0)])), (n7, .inl (cI, 14, .inl (fun _ => nI 0))), (n15, .inl (cI, 8, .inl (fun _ => nI 0))), (n23, .inl (cI, 60, .inl (fun _ => nI 0))), (n31, .inl (cI, 60, .inl (fun _ => nI 0)))]) rfl (fun H locs hP hD hS => ?_)
  exact pl_vret X hr hlk hK (fun k => [n7, n15, n23, n31].getD k 0) trivial hP hD hS d_Run_init_41

set_option maxHeartbeats 4000000 in
set_option maxRecDepth 100000 in
theorem c_Weaver_init (l : Launch) (D : va_G) (cI cZ cL : ClassId) (h : Nat)  : pl_V l y_Weaver_init b_Weaver_init 1 ({ frames := 2, cells := 4, slots := 3195, locals := 33 } : Room) pl_E0 D classes (TY cI cZ cL) [.ref h] [(h, .inr (3, [.null, .null]))] (fun (_ : Nat → Nat) => True) (fun (u : (Nat → Nat)) => [(h, .inr (3, [.ref (u 0), .ref (u 3)])), (u 0, .inr (0, [.ref (u 1), .ref (u 2), .int (nI 0)])), (u 1, .inl (cI, 1584, .inl (fun _ => nI 0))), (u 2, .inl (cI, 1584, .inl (fun _ => nI 0))), (u 3, .inl (cI, 24, .inl (fun _ => nI 0)))]) := by
  refine pl_startV (by decide) (Nat.le_of_ble_eq_true rfl) ?_
  intro p e s m args below meth c A ls X hr hlk hin hK hP hD hS hA hE hl
  have X : CallFix p m c b_Weaver_init 1 s args TG R_Weaver := X
  have hx := X.1
  have hb := X.2.1
  have hl : lv_has ls 1 [(0, .ref h)] := hl
  refine lv_aload_n hx hb d_Weaver_init_0 rfl (lv_at hl 0 rfl) ?_
  refine pl_objInit X ob_Weaver_3 (by rw [X.2.2.1]; exact hl.1) (by decide) (by decide) d_Weaver_init_1 ?_
  refine lv_aload_n hx hb d_Weaver_init_4 rfl (lv_at hl 0 rfl) ?_
  refine pl_new X cn_Weaver_9 hK hP hD hS hA (fs := [.null, .null, .int (nI 0)]) (fun j hj => by rcases (show j = 0 ∨ j = 1 ∨ j = 2 by omega) with rfl | rfl | rfl <;> rfl) (by decide) (by decide) d_Weaver_init_5 (ws' := fun n5 => [(h, .inr (3, [.null, .null])), (n5, .inr (0, [.null, .null, .int (nI 0)]))]) (fun _ => rfl) (fun n5 H hP hD hS => ?_)
  refine lv_dup hx hb d_Weaver_init_8 rfl ?_
  refine lv_sipush (v := nI 1584) hx hb d_Weaver_init_9 (by decide) ?_
  refine pl_callIV X (rest := [.ref n5, .ref h]) (As := [.int (nI 1584)]) (b := n5) (c_Listing_init_1584 l D cI cZ cL n5) ck_Weaver_11 pl_E0_ok trivial hK hP hD hS hA [1] [0] [0, 1, 2, 3] rfl (by decide) (wr := [(h, .inr (3, [.null, .null]))]) rfl (by decide) (by decide) (wf := fun (ul : Nat → Nat) => [(h, .inr (3, [.null, .null])), (n5, .inr (0, [.ref (ul 0), .ref (ul 1), .int (nI 0)])), (ul 0, .inl (cI, 1584, .inl (fun _ => nI 0))), (ul 1, .inl (cI, 1584, .inl (fun _ => nI 0)))]) (fun _ => rfl) (by decide) rfl hl.1 rfl (Nat.le_of_ble_eq_true rfl) (by decide) (by decide) d_Weaver_init_12 (fun ul H locs hcq hP hD hS => ?_)
  refine pl_putF X fw_Weaver_14 fp_Weaver rfl hin rfl hK hP hD hS 0 rfl (v := .ref n5) rfl rfl (Nat.le_of_ble_eq_true rfl) d_Weaver_init_15 (ws' := [(h, .inr (3, [.ref n5, .null])), (n5, .inr (0, [.ref (ul 0), .ref (ul 1), .int (nI 0)])), (ul 0, .inl (cI, 1584, .inl (fun _ => nI 0))), (ul 1, .inl (cI, 1584, .inl (fun _ => nI 0)))]) rfl (fun H locs hP hD hS => ?_)
  refine lv_aload_n hx hb d_Weaver_init_18 rfl (lv_at hl 0 rfl) ?_
  refine lv_bipush (v := nI 24) hx hb d_Weaver_init_19 (by decide) ?_
  refine pl_newaI X ar_I hK 0 rfl hP hD hS hA (by decide) (by decide) (by decide) d_Weaver_init_21 (ws' := fun n21 => [(h, .inr (3, [.ref n5, .null])), (n5, .inr (0, [.ref (ul 0), .ref (ul 1), .int (nI 0)])), (ul 0, .inl (cI, 1584, .inl (fun _ => nI 0))), (ul 1, .inl (cI, 1584, .inl (fun _ => nI 0))), (n21, .inl (cI, 24, .inl (fun _ => nI 0)))]) (fun _ => rfl) (fun n21 H hP hD hS => ?_)
  refine pl_putF X fw_Weaver_20 fp_Weaver rfl hin rfl hK hP hD hS 0 rfl (v := .ref n21) rfl rfl (Nat.le_of_ble_eq_true rfl) d_Weaver_init_23 (ws' := [(h, .inr (3, [.ref n5, .ref n21])), (n5, .inr (0, [.ref (ul 0), .ref (ul 1), .int (nI 0)])), (ul 0, .inl (cI, 1584, .inl (fun _ => nI 0))), (ul 1, .inl (cI, 1584, .inl (fun _ => nI 0))), (n21, .inl (cI, 24, .inl (fun _ => nI 0)))]) rfl (fun H locs hP hD hS => ?_)
  exact pl_vret X hr hlk hK (fun k => [n5, ul 0, ul 1, n21].getD k 0) trivial hP hD hS d_Weaver_init_26

set_option maxHeartbeats 4000000 in
set_option maxRecDepth 100000 in
theorem c_Loom_init (l : Launch) (D : va_G) (cI cZ cL : ClassId) (x0 : Nat)  : pl_V l y_Loom_init b_Loom_init 1 ({ frames := 3, cells := 20, slots := 3552, locals := 53 } : Room) pl_E0 D classes (TY cI cZ cL) [.ref x0] [(x0, .inr (5, [.null, .null, .null, .null, .null, .int (nI 0), .int (nI 0)]))] (fun (_ : Nat → Nat) => True) (fun (u : (Nat → Nat)) => [(x0, .inr (5, [.ref (u 0), .ref (u 3), .ref (u 7), .ref (u 10), .ref (u 15), .int (bI (false)), .int (bI (false))])), (u 0, .inr (0, [.ref (u 1), .ref (u 2), .int (nI 0)])), (u 1, .inl (cI, 24, .inl (fun _ => nI 0))), (u 2, .inl (cI, 24, .inl (fun _ => nI 0))), (u 3, .inr (1, [.ref (u 4), .ref (u 5), .ref (u 6), .int (nI 1)])), (u 4, .inl (cI, 32, .inl (fun _ => nI 0))), (u 5, .inl (cI, 32, .inl (fun _ => nI 0))), (u 6, .inl (cI, 32, .inl (fun _ => -1))), (u 7, .inr (2, [.ref (u 8), .ref (u 9), .int (nI 0), .int (bI (false))])), (u 8, .inl (cI, 24, .inl (fun _ => nI 0))), (u 9, .inl (cI, 24, .inl (fun _ => nI 0))), (u 10, .inr (3, [.ref (u 12), .ref (u 11)])), (u 11, .inl (cI, 24, .inl (fun _ => nI 0))), (u 12, .inr (0, [.ref (u 13), .ref (u 14), .int (nI 0)])), (u 13, .inl (cI, 1584, .inl (fun _ => nI 0))), (u 14, .inl (cI, 1584, .inl (fun _ => nI 0))), (u 15, .inr (4, [.ref (u 16), .ref (u 17), .ref (u 18), .ref (u 19), .int (nI 0), .int (nI 0), .int (nI 0), .int (nI 0), .int (nI 0), .int (nI 0)])), (u 16, .inl (cI, 14, .inl (fun _ => nI 0))), (u 17, .inl (cI, 8, .inl (fun _ => nI 0))), (u 18, .inl (cI, 60, .inl (fun _ => nI 0))), (u 19, .inl (cI, 60, .inl (fun _ => nI 0)))]) := by
  refine pl_startV (by decide) (Nat.le_of_ble_eq_true rfl) ?_
  intro p e s m args below meth c A ls X hr hlk hin hK hP hD hS hA hE hl
  have X : CallFix p m c b_Loom_init 1 s args TG R_Loom := X
  have hx := X.1
  have hb := X.2.1
  have hl : lv_has ls 1 [(0, .ref x0)] := hl
  refine lv_aload_n hx hb d_Loom_init_0 rfl (lv_at hl 0 rfl) ?_
  refine pl_objInit X ob_Loom_3 (by rw [X.2.2.1]; exact hl.1) (by decide) (by decide) d_Loom_init_1 ?_
  refine lv_aload_n hx hb d_Loom_init_4 rfl (lv_at hl 0 rfl) ?_
  refine pl_new X cn_Loom_9 hK hP hD hS hA (fs := [.null, .null, .int (nI 0)]) (fun j hj => by rcases (show j = 0 ∨ j = 1 ∨ j = 2 by omega) with rfl | rfl | rfl <;> rfl) (by decide) (by decide) d_Loom_init_5 (ws' := fun n5 => [(x0, .inr (5, [.null, .null, .null, .null, .null, .int (nI 0), .int (nI 0)])), (n5, .inr (0, [.null, .null, .int (nI 0)]))]) (fun _ => rfl) (fun n5 H hP hD hS => ?_)
  refine lv_dup hx hb d_Loom_init_8 rfl ?_
  refine lv_bipush (v := nI 24) hx hb d_Loom_init_9 (by decide) ?_
  refine pl_callIV X (rest := [.ref n5, .ref x0]) (As := [.int (nI 24)]) (b := n5) (c_Listing_init_24 l D cI cZ cL n5) ck_Loom_11 pl_E0_ok trivial hK hP hD hS hA [1] [0] [0, 1, 2, 3] rfl (by decide) (wr := [(x0, .inr (5, [.null, .null, .null, .null, .null, .int (nI 0), .int (nI 0)]))]) rfl (by decide) (by decide) (wf := fun (u1 : Nat → Nat) => [(x0, .inr (5, [.null, .null, .null, .null, .null, .int (nI 0), .int (nI 0)])), (n5, .inr (0, [.ref (u1 0), .ref (u1 1), .int (nI 0)])), (u1 0, .inl (cI, 24, .inl (fun _ => nI 0))), (u1 1, .inl (cI, 24, .inl (fun _ => nI 0)))]) (fun _ => rfl) (by decide) rfl hl.1 rfl (Nat.le_of_ble_eq_true rfl) (by decide) (by decide) d_Loom_init_11 (fun u1 H locs hcq hP hD hS => ?_)
  refine pl_putF X fw_Loom_14 fp_Loom rfl hin rfl hK hP hD hS 0 rfl (v := .ref n5) rfl rfl (Nat.le_of_ble_eq_true rfl) d_Loom_init_14 (ws' := [(x0, .inr (5, [.ref n5, .null, .null, .null, .null, .int (nI 0), .int (nI 0)])), (n5, .inr (0, [.ref (u1 0), .ref (u1 1), .int (nI 0)])), (u1 0, .inl (cI, 24, .inl (fun _ => nI 0))), (u1 1, .inl (cI, 24, .inl (fun _ => nI 0)))]) rfl (fun H locs hP hD hS => ?_)
  refine lv_aload_n hx hb d_Loom_init_17 rfl (lv_at hl 0 rfl) ?_
  refine pl_new X cn_Loom_18 hK hP hD hS hA (fs := [.null, .null, .null, .int (nI 0)]) (fun j hj => by rcases (show j = 0 ∨ j = 1 ∨ j = 2 ∨ j = 3 by omega) with rfl | rfl | rfl | rfl <;> rfl) (by decide) (by decide) d_Loom_init_18 (ws' := fun n18 => [(x0, .inr (5, [.ref n5, .null, .null, .null, .null, .int (nI 0), .int (nI 0)])), (n5, .inr (0, [.ref (u1 0), .ref (u1 1), .int (nI 0)])), (u1 0, .inl (cI, 24, .inl (fun _ => nI 0))), (u1 1, .inl (cI, 24, .inl (fun _ => nI 0))), (n18, .inr (1, [.null, .null, .null, .int (nI 0)]))]) (fun _ => rfl) (fun n18 H hP hD hS => ?_)
  refine lv_dup hx hb d_Loom_init_21 rfl ?_
  refine pl_callIV X (rest := [.ref n18, .ref x0]) (As := []) (b := n18) (c_Automaton_init l D cI cZ cL n18) ck_Loom_20 pl_E0_ok trivial hK hP hD hS hA [4] [0, 1, 2, 3] [0, 1, 2, 3, 4, 5, 6, 7] rfl (by decide) (wr := [(x0, .inr (5, [.ref n5, .null, .null, .null, .null, .int (nI 0), .int (nI 0)])), (n5, .inr (0, [.ref (u1 0), .ref (u1 1), .int (nI 0)])), (u1 0, .inl (cI, 24, .inl (fun _ => nI 0))), (u1 1, .inl (cI, 24, .inl (fun _ => nI 0)))]) rfl (by decide) (by decide) (wf := fun (u2 : Nat → Nat) => [(x0, .inr (5, [.ref n5, .null, .null, .null, .null, .int (nI 0), .int (nI 0)])), (n5, .inr (0, [.ref (u1 0), .ref (u1 1), .int (nI 0)])), (u1 0, .inl (cI, 24, .inl (fun _ => nI 0))), (u1 1, .inl (cI, 24, .inl (fun _ => nI 0))), (n18, .inr (1, [.ref (u2 0), .ref (u2 1), .ref (u2 2), .int (nI 1)])), (u2 0, .inl (cI, 32, .inl (fun _ => nI 0))), (u2 1, .inl (cI, 32, .inl (fun _ => nI 0))), (u2 2, .inl (cI, 32, .inl (fun _ => -1)))]) (fun _ => rfl) (by decide) rfl hl.1 rfl (Nat.le_of_ble_eq_true rfl) (by decide) (by decide) d_Loom_init_22 (fun u2 H locs hcq hP hD hS => ?_)
  refine pl_putF X fw_Loom_21 fp_Loom rfl hin rfl hK hP hD hS 0 rfl (v := .ref n18) rfl rfl (Nat.le_of_ble_eq_true rfl) d_Loom_init_25 (ws' := [(x0, .inr (5, [.ref n5, .ref n18, .null, .null, .null, .int (nI 0), .int (nI 0)])), (n5, .inr (0, [.ref (u1 0), .ref (u1 1), .int (nI 0)])), (u1 0, .inl (cI, 24, .inl (fun _ => nI 0))), (u1 1, .inl (cI, 24, .inl (fun _ => nI 0))), (n18, .inr (1, [.ref (u2 0), .ref (u2 1), .ref (u2 2), .int (nI 1)])), (u2 0, .inl (cI, 32, .inl (fun _ => nI 0))), (u2 1, .inl (cI, 32, .inl (fun _ => nI 0))), (u2 2, .inl (cI, 32, .inl (fun _ => -1)))]) rfl (fun H locs hP hD hS => ?_)
  refine lv_aload_n hx hb d_Loom_init_28 rfl (lv_at hl 0 rfl) ?_
  refine pl_new X cn_Loom_25 hK hP hD hS hA (fs := [.null, .null, .int (nI 0), .int (nI 0)]) (fun j hj => by rcases (show j = 0 ∨ j = 1 ∨ j = 2 ∨ j = 3 by omega) with rfl | rfl | rfl | rfl <;> rfl) (by decide) (by decide) d_Loom_init_29 (ws' := fun n29 => [(x0, .inr (5, [.ref n5, .ref n18, .null, .null, .null, .int (nI 0), .int (nI 0)])), (n5, .inr (0, [.ref (u1 0), .ref (u1 1), .int (nI 0)])), (u1 0, .inl (cI, 24, .inl (fun _ => nI 0))), (u1 1, .inl (cI, 24, .inl (fun _ => nI 0))), (n18, .inr (1, [.ref (u2 0), .ref (u2 1), .ref (u2 2), .int (nI 1)])), (u2 0, .inl (cI, 32, .inl (fun _ => nI 0))), (u2 1, .inl (cI, 32, .inl (fun _ => nI 0))), (u2 2, .inl (cI, 32, .inl (fun _ => -1))), (n29, .inr (2, [.null, .null, .int (nI 0), .int (nI 0)]))]) (fun _ => rfl) (fun n29 H hP hD hS => ?_)
  refine lv_dup hx hb d_Loom_init_32 rfl ?_
  refine pl_callIV X (rest := [.ref n29, .ref x0]) (As := []) (b := n29) (c_Heights_init l D cI cZ cL n29) ck_Loom_27 pl_E0_ok trivial hK hP hD hS hA [8] [0, 1, 2, 3, 4, 5, 6, 7] [0, 1, 2, 3, 4, 5, 6, 7, 8, 9, 10] rfl (by decide) (wr := [(x0, .inr (5, [.ref n5, .ref n18, .null, .null, .null, .int (nI 0), .int (nI 0)])), (n5, .inr (0, [.ref (u1 0), .ref (u1 1), .int (nI 0)])), (u1 0, .inl (cI, 24, .inl (fun _ => nI 0))), (u1 1, .inl (cI, 24, .inl (fun _ => nI 0))), (n18, .inr (1, [.ref (u2 0), .ref (u2 1), .ref (u2 2), .int (nI 1)])), (u2 0, .inl (cI, 32, .inl (fun _ => nI 0))), (u2 1, .inl (cI, 32, .inl (fun _ => nI 0))), (u2 2, .inl (cI, 32, .inl (fun _ => -1)))]) rfl (by decide) (by decide) (wf := fun (u3 : Nat → Nat) => [(x0, .inr (5, [.ref n5, .ref n18, .null, .null, .null, .int (nI 0), .int (nI 0)])), (n5, .inr (0, [.ref (u1 0), .ref (u1 1), .int (nI 0)])), (u1 0, .inl (cI, 24, .inl (fun _ => nI 0))), (u1 1, .inl (cI, 24, .inl (fun _ => nI 0))), (n18, .inr (1, [.ref (u2 0), .ref (u2 1), .ref (u2 2), .int (nI 1)])), (u2 0, .inl (cI, 32, .inl (fun _ => nI 0))), (u2 1, .inl (cI, 32, .inl (fun _ => nI 0))), (u2 2, .inl (cI, 32, .inl (fun _ => -1))), (n29, .inr (2, [.ref (u3 0), .ref (u3 1), .int (nI 0), .int (bI (false))])), (u3 0, .inl (cI, 24, .inl (fun _ => nI 0))), (u3 1, .inl (cI, 24, .inl (fun _ => nI 0)))]) (fun _ => rfl) (by decide) rfl hl.1 rfl (Nat.le_of_ble_eq_true rfl) (by decide) (by decide) d_Loom_init_33 (fun u3 H locs hcq hP hD hS => ?_)
  refine pl_putF X fw_Loom_28 fp_Loom rfl hin rfl hK hP hD hS 0 rfl (v := .ref n29) rfl rfl (Nat.le_of_ble_eq_true rfl) d_Loom_init_36 (ws' := [(x0, .inr (5, [.ref n5, .ref n18, .ref n29, .null, .null, .int (nI 0), .int (nI 0)])), (n5, .inr (0, [.ref (u1 0), .ref (u1 1), .int (nI 0)])), (u1 0, .inl (cI, 24, .inl (fun _ => nI 0))), (u1 1, .inl (cI, 24, .inl (fun _ => nI 0))), (n18, .inr (1, [.ref (u2 0), .ref (u2 1), .ref (u2 2), .int (nI 1)])), (u2 0, .inl (cI, 32, .inl (fun _ => nI 0))), (u2 1, .inl (cI, 32, .inl (fun _ => nI 0))), (u2 2, .inl (cI, 32, .inl (fun _ => -1))), (n29, .inr (2, [.ref (u3 0), .ref (u3 1), .int (nI 0), .int (bI (false))])), (u3 0, .inl (cI, 24, .inl (fun _ => nI 0))), (u3 1, .inl (cI, 24, .inl (fun _ => nI 0)))]) rfl (fun H locs hP hD hS => ?_)
  refine lv_aload_n hx hb d_Loom_init_39 rfl (lv_at hl 0 rfl) ?_
  refine pl_new X cn_Loom_32 hK hP hD hS hA (fs := [.null, .null]) (fun j hj => by rcases (show j = 0 ∨ j = 1 by omega) with rfl | rfl <;> rfl) (by decide) (by decide) d_Loom_init_40 (ws' := fun n40 => [(x0, .inr (5, [.ref n5, .ref n18, .ref n29, .null, .null, .int (nI 0), .int (nI 0)])), (n5, .inr (0, [.ref (u1 0), .ref (u1 1), .int (nI 0)])), (u1 0, .inl (cI, 24, .inl (fun _ => nI 0))), (u1 1, .inl (cI, 24, .inl (fun _ => nI 0))), (n18, .inr (1, [.ref (u2 0), .ref (u2 1), .ref (u2 2), .int (nI 1)])), (u2 0, .inl (cI, 32, .inl (fun _ => nI 0))), (u2 1, .inl (cI, 32, .inl (fun _ => nI 0))), (u2 2, .inl (cI, 32, .inl (fun _ => -1))), (n29, .inr (2, [.ref (u3 0), .ref (u3 1), .int (nI 0), .int (bI (false))])), (u3 0, .inl (cI, 24, .inl (fun _ => nI 0))), (u3 1, .inl (cI, 24, .inl (fun _ => nI 0))), (n40, .inr (3, [.null, .null]))]) (fun _ => rfl) (fun n40 H hP hD hS => ?_)
  refine lv_dup hx hb d_Loom_init_43 rfl ?_
  refine pl_callIV X (rest := [.ref n40, .ref x0]) (As := []) (b := n40) (c_Weaver_init l D cI cZ cL n40) ck_Loom_34 pl_E0_ok trivial hK hP hD hS hA [11] [0, 1, 2, 3, 4, 5, 6, 7, 8, 9, 10] [0, 1, 2, 3, 4, 5, 6, 7, 8, 9, 10, 11, 12, 13, 14, 15] rfl (by decide) (wr := [(x0, .inr (5, [.ref n5, .ref n18, .ref n29, .null, .null, .int (nI 0), .int (nI 0)])), (n5, .inr (0, [.ref (u1 0), .ref (u1 1), .int (nI 0)])), (u1 0, .inl (cI, 24, .inl (fun _ => nI 0))), (u1 1, .inl (cI, 24, .inl (fun _ => nI 0))), (n18, .inr (1, [.ref (u2 0), .ref (u2 1), .ref (u2 2), .int (nI 1)])), (u2 0, .inl (cI, 32, .inl (fun _ => nI 0))), (u2 1, .inl (cI, 32, .inl (fun _ => nI 0))), (u2 2, .inl (cI, 32, .inl (fun _ => -1))), (n29, .inr (2, [.ref (u3 0), .ref (u3 1), .int (nI 0), .int (bI (false))])), (u3 0, .inl (cI, 24, .inl (fun _ => nI 0))), (u3 1, .inl (cI, 24, .inl (fun _ => nI 0)))]) rfl (by decide) (by decide) (wf := fun (u4 : Nat → Nat) => [(x0, .inr (5, [.ref n5, .ref n18, .ref n29, .null, .null, .int (nI 0), .int (nI 0)])), (n5, .inr (0, [.ref (u1 0), .ref (u1 1), .int (nI 0)])), (u1 0, .inl (cI, 24, .inl (fun _ => nI 0))), (u1 1, .inl (cI, 24, .inl (fun _ => nI 0))), (n18, .inr (1, [.ref (u2 0), .ref (u2 1), .ref (u2 2), .int (nI 1)])), (u2 0, .inl (cI, 32, .inl (fun _ => nI 0))), (u2 1, .inl (cI, 32, .inl (fun _ => nI 0))), (u2 2, .inl (cI, 32, .inl (fun _ => -1))), (n29, .inr (2, [.ref (u3 0), .ref (u3 1), .int (nI 0), .int (bI (false))])), (u3 0, .inl (cI, 24, .inl (fun _ => nI 0))), (u3 1, .inl (cI, 24, .inl (fun _ => nI 0))), (n40, .inr (3, [.ref (u4 0), .ref (u4 3)])), (u4 0, .inr (0, [.ref (u4 1), .ref (u4 2), .int (nI 0)])), (u4 1, .inl (cI, 1584, .inl (fun _ => nI 0))), (u4 2, .inl (cI, 1584, .inl (fun _ => nI 0))), (u4 3, .inl (cI, 24, .inl (fun _ => nI 0)))]) (fun _ => rfl) (by decide) rfl hl.1 rfl (Nat.le_of_ble_eq_true rfl) (by decide) (by decide) d_Loom_init_44 (fun u4 H locs hcq hP hD hS => ?_)
  refine pl_putF X fw_Loom_35 fp_Loom rfl hin rfl hK hP hD hS 0 rfl (v := .ref n40) rfl rfl (Nat.le_of_ble_eq_true rfl) d_Loom_init_47 (ws' := [(x0, .inr (5, [.ref n5, .ref n18, .ref n29, .ref n40, .null, .int (nI 0), .int (nI 0)])), (n5, .inr (0, [.ref (u1 0), .ref (u1 1), .int (nI 0)])), (u1 0, .inl (cI, 24, .inl (fun _ => nI 0))), (u1 1, .inl (cI, 24, .inl (fun _ => nI 0))), (n18, .inr (1, [.ref (u2 0), .ref (u2 1), .ref (u2 2), .int (nI 1)])), (u2 0, .inl (cI, 32, .inl (fun _ => nI 0))), (u2 1, .inl (cI, 32, .inl (fun _ => nI 0))), (u2 2, .inl (cI, 32, .inl (fun _ => -1))), (n29, .inr (2, [.ref (u3 0), .ref (u3 1), .int (nI 0), .int (bI (false))])), (u3 0, .inl (cI, 24, .inl (fun _ => nI 0))), (u3 1, .inl (cI, 24, .inl (fun _ => nI 0))), (n40, .inr (3, [.ref (u4 0), .ref (u4 3)])), (u4 0, .inr (0, [.ref (u4 1), .ref (u4 2), .int (nI 0)])), (u4 1, .inl (cI, 1584, .inl (fun _ => nI 0))), (u4 2, .inl (cI, 1584, .inl (fun _ => nI 0))), (u4 3, .inl (cI, 24, .inl (fun _ => nI 0)))]) rfl (fun H locs hP hD hS => ?_)
  refine lv_aload_n hx hb d_Loom_init_50 rfl (lv_at hl 0 rfl) ?_
  refine pl_new X cn_Loom_39 hK hP hD hS hA (fs := [.null, .null, .null, .null, .int (nI 0), .int (nI 0), .int (nI 0), .int (nI 0), .int (nI 0), .int (nI 0)]) (fun j hj => by rcases (show j = 0 ∨ j = 1 ∨ j = 2 ∨ j = 3 ∨ j = 4 ∨ j = 5 ∨ j = 6 ∨ j = 7 ∨ j = 8 ∨ j = 9 by omega) with rfl | rfl | rfl | rfl | rfl | rfl | rfl | rfl | rfl | rfl <;> rfl) (by decide) (by decide) d_Loom_init_51 (ws' := fun n51 => [(x0, .inr (5, [.ref n5, .ref n18, .ref n29, .ref n40, .null, .int (nI 0), .int (nI 0)])), (n5, .inr (0, [.ref (u1 0), .ref (u1 1), .int (nI 0)])), (u1 0, .inl (cI, 24, .inl (fun _ => nI 0))), (u1 1, .inl (cI, 24, .inl (fun _ => nI 0))), (n18, .inr (1, [.ref (u2 0), .ref (u2 1), .ref (u2 2), .int (nI 1)])), (u2 0, .inl (cI, 32, .inl (fun _ => nI 0))), (u2 1, .inl (cI, 32, .inl (fun _ => nI 0))), (u2 2, .inl (cI, 32, .inl (fun _ => -1))), (n29, .inr (2, [.ref (u3 0), .ref (u3 1), .int (nI 0), .int (bI (false))])), (u3 0, .inl (cI, 24, .inl (fun _ => nI 0))), (u3 1, .inl (cI, 24, .inl (fun _ => nI 0))), (n40, .inr (3, [.ref (u4 0), .ref (u4 3)])), (u4 0, .inr (0, [.ref (u4 1), .ref (u4 2), .int (nI 0)])), (u4 1, .inl (cI, 1584, .inl (fun _ => nI 0))), (u4 2, .inl (cI, 1584, .inl (fun _ => nI 0))), (u4 3, .inl (cI, 24, .inl (fun _ => nI 0))), (n51, .inr (4, [.null, .null, .null, .null, .int (nI 0), .int (nI 0), .int (nI 0), .int (nI 0), .int (nI 0), .int (nI 0)]))]) (fun _ => rfl) (fun n51 H hP hD hS => ?_)
  refine lv_dup hx hb d_Loom_init_54 rfl ?_
  refine pl_callIV X (rest := [.ref n51, .ref x0]) (As := []) (b := n51) (c_Run_init l D cI cZ cL n51) ck_Loom_41 pl_E0_ok trivial hK hP hD hS hA [16] [0, 1, 2, 3, 4, 5, 6, 7, 8, 9, 10, 11, 12, 13, 14, 15] [0, 1, 2, 3, 4, 5, 6, 7, 8, 9, 10, 11, 12, 13, 14, 15, 16, 17, 18, 19, 20] rfl (by decide) (wr := [(x0, .inr (5, [.ref n5, .ref n18, .ref n29, .ref n40, .null, .int (nI 0), .int (nI 0)])), (n5, .inr (0, [.ref (u1 0), .ref (u1 1), .int (nI 0)])), (u1 0, .inl (cI, 24, .inl (fun _ => nI 0))), (u1 1, .inl (cI, 24, .inl (fun _ => nI 0))), (n18, .inr (1, [.ref (u2 0), .ref (u2 1), .ref (u2 2), .int (nI 1)])), (u2 0, .inl (cI, 32, .inl (fun _ => nI 0))), (u2 1, .inl (cI, 32, .inl (fun _ => nI 0))), (u2 2, .inl (cI, 32, .inl (fun _ => -1))), (n29, .inr (2, [.ref (u3 0), .ref (u3 1), .int (nI 0), .int (bI (false))])), (u3 0, .inl (cI, 24, .inl (fun _ => nI 0))), (u3 1, .inl (cI, 24, .inl (fun _ => nI 0))), (n40, .inr (3, [.ref (u4 0), .ref (u4 3)])), (u4 0, .inr (0, [.ref (u4 1), .ref (u4 2), .int (nI 0)])), (u4 1, .inl (cI, 1584, .inl (fun _ => nI 0))), (u4 2, .inl (cI, 1584, .inl (fun _ => nI 0))), (u4 3, .inl (cI, 24, .inl (fun _ => nI 0)))]) rfl (by decide) (by decide) (wf := fun (u5 : Nat → Nat) => [(x0, .inr (5, [.ref n5, .ref n18, .ref n29, .ref n40, .null, .int (nI 0), .int (nI 0)])), (n5, .inr (0, [.ref (u1 0), .ref (u1 1), .int (nI 0)])), (u1 0, .inl (cI, 24, .inl (fun _ => nI 0))), (u1 1, .inl (cI, 24, .inl (fun _ => nI 0))), (n18, .inr (1, [.ref (u2 0), .ref (u2 1), .ref (u2 2), .int (nI 1)])), (u2 0, .inl (cI, 32, .inl (fun _ => nI 0))), (u2 1, .inl (cI, 32, .inl (fun _ => nI 0))), (u2 2, .inl (cI, 32, .inl (fun _ => -1))), (n29, .inr (2, [.ref (u3 0), .ref (u3 1), .int (nI 0), .int (bI (false))])), (u3 0, .inl (cI, 24, .inl (fun _ => nI 0))), (u3 1, .inl (cI, 24, .inl (fun _ => nI 0))), (n40, .inr (3, [.ref (u4 0), .ref (u4 3)])), (u4 0, .inr (0, [.ref (u4 1), .ref (u4 2), .int (nI 0)])), (u4 1, .inl (cI, 1584, .inl (fun _ => nI 0))), (u4 2, .inl (cI, 1584, .inl (fun _ => nI 0))), (u4 3, .inl (cI, 24, .inl (fun _ => nI 0))), (n51, .inr (4, [.ref (u5 0), .ref (u5 1), .ref (u5 2), .ref (u5 3), .int (nI 0), .int (nI 0), .int (nI 0), .int (nI 0), .int (nI 0), .int (nI 0)])), (u5 0, .inl (cI, 14, .inl (fun _ => nI 0))), (u5 1, .inl (cI, 8, .inl (fun _ => nI 0))), (u5 2, .inl (cI, 60, .inl (fun _ => nI 0))), (u5 3, .inl (cI, 60, .inl (fun _ => nI 0)))]) (fun _ => rfl) (by decide) rfl hl.1 rfl (Nat.le_of_ble_eq_true rfl) (by decide) (by decide) d_Loom_init_55 (fun u5 H locs hcq hP hD hS => ?_)
  refine pl_putF X fw_Loom_42 fp_Loom rfl hin rfl hK hP hD hS 0 rfl (v := .ref n51) rfl rfl (Nat.le_of_ble_eq_true rfl) d_Loom_init_58 (ws' := [(x0, .inr (5, [.ref n5, .ref n18, .ref n29, .ref n40, .ref n51, .int (nI 0), .int (nI 0)])), (n5, .inr (0, [.ref (u1 0), .ref (u1 1), .int (nI 0)])), (u1 0, .inl (cI, 24, .inl (fun _ => nI 0))), (u1 1, .inl (cI, 24, .inl (fun _ => nI 0))), (n18, .inr (1, [.ref (u2 0), .ref (u2 1), .ref (u2 2), .int (nI 1)])), (u2 0, .inl (cI, 32, .inl (fun _ => nI 0))), (u2 1, .inl (cI, 32, .inl (fun _ => nI 0))), (u2 2, .inl (cI, 32, .inl (fun _ => -1))), (n29, .inr (2, [.ref (u3 0), .ref (u3 1), .int (nI 0), .int (bI (false))])), (u3 0, .inl (cI, 24, .inl (fun _ => nI 0))), (u3 1, .inl (cI, 24, .inl (fun _ => nI 0))), (n40, .inr (3, [.ref (u4 0), .ref (u4 3)])), (u4 0, .inr (0, [.ref (u4 1), .ref (u4 2), .int (nI 0)])), (u4 1, .inl (cI, 1584, .inl (fun _ => nI 0))), (u4 2, .inl (cI, 1584, .inl (fun _ => nI 0))), (u4 3, .inl (cI, 24, .inl (fun _ => nI 0))), (n51, .inr (4, [.ref (u5 0), .ref (u5 1), .ref (u5 2), .ref (u5 3), .int (nI 0), .int (nI 0), .int (nI 0), .int (nI 0), .int (nI 0), .int (nI 0)])), (u5 0, .inl (cI, 14, .inl (fun _ => nI 0))), (u5 1, .inl (cI, 8, .inl (fun _ => nI 0))), (u5 2, .inl (cI, 60, .inl (fun _ => nI 0))), (u5 3, .inl (cI, 60, .inl (fun _ => nI 0)))]) rfl (fun H locs hP hD hS => ?_)
  refine lv_aload_n hx hb d_Loom_init_61 rfl (lv_at hl 0 rfl) ?_
  refine lv_iconst (v := nI 0) hx hb d_Loom_init_62 (by decide) ?_
  refine pl_put X fw_Loom_46 fp_Loom rfl hK hP hD hS 0 rfl (v := .int (nI 0)) rfl rfl (Nat.le_of_ble_eq_true rfl) d_Loom_init_63 (ws' := [(x0, .inr (5, [.ref n5, .ref n18, .ref n29, .ref n40, .ref n51, .int (nI 0), .int (nI 0)])), (n5, .inr (0, [.ref (u1 0), .ref (u1 1), .int (nI 0)])), (u1 0, .inl (cI, 24, .inl (fun _ => nI 0))), (u1 1, .inl (cI, 24, .inl (fun _ => nI 0))), (n18, .inr (1, [.ref (u2 0), .ref (u2 1), .ref (u2 2), .int (nI 1)])), (u2 0, .inl (cI, 32, .inl (fun _ => nI 0))), (u2 1, .inl (cI, 32, .inl (fun _ => nI 0))), (u2 2, .inl (cI, 32, .inl (fun _ => -1))), (n29, .inr (2, [.ref (u3 0), .ref (u3 1), .int (nI 0), .int (bI (false))])), (u3 0, .inl (cI, 24, .inl (fun _ => nI 0))), (u3 1, .inl (cI, 24, .inl (fun _ => nI 0))), (n40, .inr (3, [.ref (u4 0), .ref (u4 3)])), (u4 0, .inr (0, [.ref (u4 1), .ref (u4 2), .int (nI 0)])), (u4 1, .inl (cI, 1584, .inl (fun _ => nI 0))), (u4 2, .inl (cI, 1584, .inl (fun _ => nI 0))), (u4 3, .inl (cI, 24, .inl (fun _ => nI 0))), (n51, .inr (4, [.ref (u5 0), .ref (u5 1), .ref (u5 2), .ref (u5 3), .int (nI 0), .int (nI 0), .int (nI 0), .int (nI 0), .int (nI 0), .int (nI 0)])), (u5 0, .inl (cI, 14, .inl (fun _ => nI 0))), (u5 1, .inl (cI, 8, .inl (fun _ => nI 0))), (u5 2, .inl (cI, 60, .inl (fun _ => nI 0))), (u5 3, .inl (cI, 60, .inl (fun _ => nI 0)))]) rfl (fun H locs hP hD hS => ?_)
  refine lv_aload_n hx hb d_Loom_init_66 rfl (lv_at hl 0 rfl) ?_
  refine lv_iconst (v := nI 0) hx hb d_Loom_init_67 (by decide) ?_
  refine pl_put X fw_Loom_50 fp_Loom rfl hK hP hD hS 0 rfl (v := .int (nI 0)) rfl rfl (Nat.le_of_ble_eq_true rfl) d_Loom_init_68 (ws' := [(x0, .inr (5, [.ref n5, .ref n18, .ref n29, .ref n40, .ref n51, .int (nI 0), .int (nI 0)])), (n5, .inr (0, [.ref (u1 0), .ref (u1 1), .int (nI 0)])), (u1 0, .inl (cI, 24, .inl (fun _ => nI 0))), (u1 1, .inl (cI, 24, .inl (fun _ => nI 0))), (n18, .inr (1, [.ref (u2 0), .ref (u2 1), .ref (u2 2), .int (nI 1)])), (u2 0, .inl (cI, 32, .inl (fun _ => nI 0))), (u2 1, .inl (cI, 32, .inl (fun _ => nI 0))), (u2 2, .inl (cI, 32, .inl (fun _ => -1))), (n29, .inr (2, [.ref (u3 0), .ref (u3 1), .int (nI 0), .int (bI (false))])), (u3 0, .inl (cI, 24, .inl (fun _ => nI 0))), (u3 1, .inl (cI, 24, .inl (fun _ => nI 0))), (n40, .inr (3, [.ref (u4 0), .ref (u4 3)])), (u4 0, .inr (0, [.ref (u4 1), .ref (u4 2), .int (nI 0)])), (u4 1, .inl (cI, 1584, .inl (fun _ => nI 0))), (u4 2, .inl (cI, 1584, .inl (fun _ => nI 0))), (u4 3, .inl (cI, 24, .inl (fun _ => nI 0))), (n51, .inr (4, [.ref (u5 0), .ref (u5 1), .ref (u5 2), .ref (u5 3), .int (nI 0), .int (nI 0), .int (nI 0), .int (nI 0), .int (nI 0), .int (nI 0)])), (u5 0, .inl (cI, 14, .inl (fun _ => nI 0))), (u5 1, .inl (cI, 8, .inl (fun _ => nI 0))), (u5 2, .inl (cI, 60, .inl (fun _ => nI 0))), (u5 3, .inl (cI, 60, .inl (fun _ => nI 0)))]) rfl (fun H locs hP hD hS => ?_)
  have hP : va_P D classes [(x0, .inr (5, [.ref n5, .ref n18, .ref n29, .ref n40, .ref n51, .int (nI 0), .int (nI 0)])), (n5, .inr (0, [.ref (u1 0), .ref (u1 1), .int (nI 0)])), (u1 0, .inl (cI, 24, .inl (fun _ => nI 0))), (u1 1, .inl (cI, 24, .inl (fun _ => nI 0))), (n18, .inr (1, [.ref (u2 0), .ref (u2 1), .ref (u2 2), .int (nI 1)])), (u2 0, .inl (cI, 32, .inl (fun _ => nI 0))), (u2 1, .inl (cI, 32, .inl (fun _ => nI 0))), (u2 2, .inl (cI, 32, .inl (fun _ => -1))), (n29, .inr (2, [.ref (u3 0), .ref (u3 1), .int (nI 0), .int (bI (false))])), (u3 0, .inl (cI, 24, .inl (fun _ => nI 0))), (u3 1, .inl (cI, 24, .inl (fun _ => nI 0))), (n40, .inr (3, [.ref (u4 0), .ref (u4 3)])), (u4 3, .inl (cI, 24, .inl (fun _ => nI 0))), (u4 0, .inr (0, [.ref (u4 1), .ref (u4 2), .int (nI 0)])), (u4 1, .inl (cI, 1584, .inl (fun _ => nI 0))), (u4 2, .inl (cI, 1584, .inl (fun _ => nI 0))), (n51, .inr (4, [.ref (u5 0), .ref (u5 1), .ref (u5 2), .ref (u5 3), .int (nI 0), .int (nI 0), .int (nI 0), .int (nI 0), .int (nI 0), .int (nI 0)])), (u5 0, .inl (cI, 14, .inl (fun _ => nI 0))), (u5 1, .inl (cI, 8, .inl (fun _ => nI 0))), (u5 2, .inl (cI, 60, .inl (fun _ => nI 0))), (u5 3, .inl (cI, 60, .inl (fun _ => nI 0)))] H := hP.sub [0, 1, 2, 3, 4, 5, 6, 7, 8, 9, 10, 11, 15, 12, 13, 14, 16, 17, 18, 19, 20] rfl
  have hD : va_D A [(x0, .inr (5, [.ref n5, .ref n18, .ref n29, .ref n40, .ref n51, .int (nI 0), .int (nI 0)])), (n5, .inr (0, [.ref (u1 0), .ref (u1 1), .int (nI 0)])), (u1 0, .inl (cI, 24, .inl (fun _ => nI 0))), (u1 1, .inl (cI, 24, .inl (fun _ => nI 0))), (n18, .inr (1, [.ref (u2 0), .ref (u2 1), .ref (u2 2), .int (nI 1)])), (u2 0, .inl (cI, 32, .inl (fun _ => nI 0))), (u2 1, .inl (cI, 32, .inl (fun _ => nI 0))), (u2 2, .inl (cI, 32, .inl (fun _ => -1))), (n29, .inr (2, [.ref (u3 0), .ref (u3 1), .int (nI 0), .int (bI (false))])), (u3 0, .inl (cI, 24, .inl (fun _ => nI 0))), (u3 1, .inl (cI, 24, .inl (fun _ => nI 0))), (n40, .inr (3, [.ref (u4 0), .ref (u4 3)])), (u4 3, .inl (cI, 24, .inl (fun _ => nI 0))), (u4 0, .inr (0, [.ref (u4 1), .ref (u4 2), .int (nI 0)])), (u4 1, .inl (cI, 1584, .inl (fun _ => nI 0))), (u4 2, .inl (cI, 1584, .inl (fun _ => nI 0))), (n51, .inr (4, [.ref (u5 0), .ref (u5 1), .ref (u5 2), .ref (u5 3), .int (nI 0), .int (nI 0), .int (nI 0), .int (nI 0), .int (nI 0), .int (nI 0)])), (u5 0, .inl (cI, 14, .inl (fun _ => nI 0))), (u5 1, .inl (cI, 8, .inl (fun _ => nI 0))), (u5 2, .inl (cI, 60, .inl (fun _ => nI 0))), (u5 3, .inl (cI, 60, .inl (fun _ => nI 0)))] := hD.sub [0, 1, 2, 3, 4, 5, 6, 7, 8, 9, 10, 11, 15, 12, 13, 14, 16, 17, 18, 19, 20] (by decide) rfl
  exact pl_vret X hr hlk hK (fun k => [n5, u1 0, u1 1, n18, u2 0, u2 1, u2 2, n29, u3 0, u3 1, n40, u4 3, u4 0, u4 1, u4 2, n51, u5 0, u5 1, u5 2, u5 3].getD k 0) trivial hP hD hS d_Loom_init_71

set_option maxHeartbeats 4000000 in
set_option maxRecDepth 100000 in
theorem c_Model_init (l : Launch) (D : va_G) (cI cZ cL : ClassId) (m0 : Nat)  : pl_V l y_Model_init b_Model_init 1 ({ frames := 1, cells := 11, slots := 348, locals := 12 } : Room) pl_E0 D classes (TY cI cZ cL) [.ref m0] [(m0, .inr (6, [.int (nI 0), .int (nI 0), .null, .null, .null, .int (nI 0), .null, .null, .null, .null, .int (nI 0), .int (nI 0), .int (nI 0), .int (nI 0), .int (nI 0), .int (nI 0), .int (nI 0), .int (nI 0), .null, .null, .int (nI 0), .null, .null]))] (fun (_ : Nat → Nat) => True) (fun (u : (Nat → Nat)) => [(m0, .inr (6, [.int (nI 0), .int (nI 0), .ref (u 0), .ref (u 1), .ref (u 2), .int (nI 1), .ref (u 3), .ref (u 4), .ref (u 5), .ref (u 6), .int (nI 0), .int (nI 0), .int (nI 0), .int (nI 0), .int (nI 0), .int (nI 0), .int (nI 0), .int (nI 0), .ref (u 7), .ref (u 8), .int (nI 0), .ref (u 9), .ref (u 10)])), (u 0, .inl (cI, 24, .inl (fun _ => nI 0))), (u 1, .inl (cI, 24, .inl (fun _ => nI 0))), (u 2, .inl (cI, 24, .inl (fun _ => nI 0))), (u 3, .inl (cZ, 32, .inl (fun _ => nI 0))), (u 4, .inl (cI, 32, .inl (fun _ => nI 0))), (u 5, .inl (cI, 32, .inl (fun _ => nI 0))), (u 6, .inl (cI, 32, .inl (fun _ => nI 0))), (u 7, .inl (cI, 20, .inl (fun _ => nI 0))), (u 8, .inl (cI, 8, .inl (fun _ => nI 0))), (u 9, .inl (cI, 60, .inl (fun _ => nI 0))), (u 10, .inl (cI, 60, .inl (fun _ => nI 0)))]) := by
  refine pl_startV (by decide) (Nat.le_of_ble_eq_true rfl) ?_
  intro p e s m args below meth c A ls X hr hlk hin hK hP hD hS hA hE hl
  have X : CallFix p m c b_Model_init 1 s args TG R_Model := X
  have hx := X.1
  have hb := X.2.1
  have hl : lv_has ls 1 [(0, .ref m0)] := hl
  refine lv_aload_n hx hb d_Model_init_0 rfl (lv_at hl 0 rfl) ?_
  refine pl_objInit X ob_Model_1 (by rw [X.2.2.1]; exact hl.1) (by decide) (by decide) d_Model_init_1 ?_
  refine lv_aload_n hx hb d_Model_init_4 rfl (lv_at hl 0 rfl) ?_
  refine lv_bipush (v := nI 24) hx hb d_Model_init_5 (by decide) ?_
  refine pl_newaI X ar_I hK 0 rfl hP hD hS hA (by decide) (by decide) (by decide) d_Model_init_7 (ws' := fun n7 => [(m0, .inr (6, [.int (nI 0), .int (nI 0), .null, .null, .null, .int (nI 0), .null, .null, .null, .null, .int (nI 0), .int (nI 0), .int (nI 0), .int (nI 0), .int (nI 0), .int (nI 0), .int (nI 0), .int (nI 0), .null, .null, .int (nI 0), .null, .null])), (n7, .inl (cI, 24, .inl (fun _ => nI 0)))]) (fun _ => rfl) (fun n7 H hP hD hS => ?_)
  refine pl_putF X fw_Model_7 fp_Model rfl hin rfl hK hP hD hS 0 rfl (v := .ref n7) rfl rfl (Nat.le_of_ble_eq_true rfl) d_Model_init_9 (ws' := [(m0, .inr (6, [.int (nI 0), .int (nI 0), .ref n7, .null, .null, .int (nI 0), .null, .null, .null, .null, .int (nI 0), .int (nI 0), .int (nI 0), .int (nI 0), .int (nI 0), .int (nI 0), .int (nI 0), .int (nI 0), .null, .null, .int (nI 0), .null, .null])), (n7, .inl (cI, 24, .inl (fun _ => nI 0)))]) rfl (fun H locs hP hD hS => ?_)
  refine lv_aload_n hx hb d_Model_init_12 rfl (lv_at hl 0 rfl) ?_
  refine lv_bipush (v := nI 24) hx hb d_Model_init_13 (by decide) ?_
  refine pl_newaI X ar_I hK 0 rfl hP hD hS hA (by decide) (by decide) (by decide) d_Model_init_15 (ws' := fun n15 => [(m0, .inr (6, [.int (nI 0), .int (nI 0), .ref n7, .null, .null, .int (nI 0), .null, .null, .null, .null, .int (nI 0), .int (nI 0), .int (nI 0), .int (nI 0), .int (nI 0), .int (nI 0), .int (nI 0), .int (nI 0), .null, .null, .int (nI 0), .null, .null])), (n7, .inl (cI, 24, .inl (fun _ => nI 0))), (n15, .inl (cI, 24, .inl (fun _ => nI 0)))]) (fun _ => rfl) (fun n15 H hP hD hS => ?_)
  refine pl_putF X fw_Model_13 fp_Model rfl hin rfl hK hP hD hS 0 rfl (v := .ref n15) rfl rfl (Nat.le_of_ble_eq_true rfl) d_Model_init_17 (ws' := [(m0, .inr (6, [.int (nI 0), .int (nI 0), .ref n7, .ref n15, .null, .int (nI 0), .null, .null, .null, .null, .int (nI 0), .int (nI 0), .int (nI 0), .int (nI 0), .int (nI 0), .int (nI 0), .int (nI 0), .int (nI 0), .null, .null, .int (nI 0), .null, .null])), (n7, .inl (cI, 24, .inl (fun _ => nI 0))), (n15, .inl (cI, 24, .inl (fun _ => nI 0)))]) rfl (fun H locs hP hD hS => ?_)
  refine lv_aload_n hx hb d_Model_init_20 rfl (lv_at hl 0 rfl) ?_
  refine lv_bipush (v := nI 24) hx hb d_Model_init_21 (by decide) ?_
  refine pl_newaI X ar_I hK 0 rfl hP hD hS hA (by decide) (by decide) (by decide) d_Model_init_23 (ws' := fun n23 => [(m0, .inr (6, [.int (nI 0), .int (nI 0), .ref n7, .ref n15, .null, .int (nI 0), .null, .null, .null, .null, .int (nI 0), .int (nI 0), .int (nI 0), .int (nI 0), .int (nI 0), .int (nI 0), .int (nI 0), .int (nI 0), .null, .null, .int (nI 0), .null, .null])), (n7, .inl (cI, 24, .inl (fun _ => nI 0))), (n15, .inl (cI, 24, .inl (fun _ => nI 0))), (n23, .inl (cI, 24, .inl (fun _ => nI 0)))]) (fun _ => rfl) (fun n23 H hP hD hS => ?_)
  refine pl_putF X fw_Model_16 fp_Model rfl hin rfl hK hP hD hS 0 rfl (v := .ref n23) rfl rfl (Nat.le_of_ble_eq_true rfl) d_Model_init_25 (ws' := [(m0, .inr (6, [.int (nI 0), .int (nI 0), .ref n7, .ref n15, .ref n23, .int (nI 0), .null, .null, .null, .null, .int (nI 0), .int (nI 0), .int (nI 0), .int (nI 0), .int (nI 0), .int (nI 0), .int (nI 0), .int (nI 0), .null, .null, .int (nI 0), .null, .null])), (n7, .inl (cI, 24, .inl (fun _ => nI 0))), (n15, .inl (cI, 24, .inl (fun _ => nI 0))), (n23, .inl (cI, 24, .inl (fun _ => nI 0)))]) rfl (fun H locs hP hD hS => ?_)
  refine lv_aload_n hx hb d_Model_init_28 rfl (lv_at hl 0 rfl) ?_
  refine lv_iconst (v := nI 1) hx hb d_Model_init_29 (by decide) ?_
  refine pl_put X fw_Model_19 fp_Model rfl hK hP hD hS 0 rfl (v := .int (nI 1)) rfl rfl (Nat.le_of_ble_eq_true rfl) d_Model_init_30 (ws' := [(m0, .inr (6, [.int (nI 0), .int (nI 0), .ref n7, .ref n15, .ref n23, .int (nI 1), .null, .null, .null, .null, .int (nI 0), .int (nI 0), .int (nI 0), .int (nI 0), .int (nI 0), .int (nI 0), .int (nI 0), .int (nI 0), .null, .null, .int (nI 0), .null, .null])), (n7, .inl (cI, 24, .inl (fun _ => nI 0))), (n15, .inl (cI, 24, .inl (fun _ => nI 0))), (n23, .inl (cI, 24, .inl (fun _ => nI 0)))]) rfl (fun H locs hP hD hS => ?_)
  refine lv_aload_n hx hb d_Model_init_33 rfl (lv_at hl 0 rfl) ?_
  refine lv_bipush (v := nI 32) hx hb d_Model_init_34 (by decide) ?_
  refine pl_newaZ X ar_Z hK 1 rfl hP hD hS hA (by decide) (by decide) (by decide) d_Model_init_36 (ws' := fun n36 => [(m0, .inr (6, [.int (nI 0), .int (nI 0), .ref n7, .ref n15, .ref n23, .int (nI 1), .null, .null, .null, .null, .int (nI 0), .int (nI 0), .int (nI 0), .int (nI 0), .int (nI 0), .int (nI 0), .int (nI 0), .int (nI 0), .null, .null, .int (nI 0), .null, .null])), (n7, .inl (cI, 24, .inl (fun _ => nI 0))), (n15, .inl (cI, 24, .inl (fun _ => nI 0))), (n23, .inl (cI, 24, .inl (fun _ => nI 0))), (n36, .inl (cZ, 32, .inl (fun _ => nI 0)))]) (fun _ => rfl) (fun n36 H hP hD hS => ?_)
  refine pl_putF X fw_Model_23 fp_Model rfl hin rfl hK hP hD hS 0 rfl (v := .ref n36) rfl rfl (Nat.le_of_ble_eq_true rfl) d_Model_init_38 (ws' := [(m0, .inr (6, [.int (nI 0), .int (nI 0), .ref n7, .ref n15, .ref n23, .int (nI 1), .ref n36, .null, .null, .null, .int (nI 0), .int (nI 0), .int (nI 0), .int (nI 0), .int (nI 0), .int (nI 0), .int (nI 0), .int (nI 0), .null, .null, .int (nI 0), .null, .null])), (n7, .inl (cI, 24, .inl (fun _ => nI 0))), (n15, .inl (cI, 24, .inl (fun _ => nI 0))), (n23, .inl (cI, 24, .inl (fun _ => nI 0))), (n36, .inl (cZ, 32, .inl (fun _ => nI 0)))]) rfl (fun H locs hP hD hS => ?_)
  refine lv_aload_n hx hb d_Model_init_41 rfl (lv_at hl 0 rfl) ?_
  refine lv_bipush (v := nI 32) hx hb d_Model_init_42 (by decide) ?_
  refine pl_newaI X ar_I hK 0 rfl hP hD hS hA (by decide) (by decide) (by decide) d_Model_init_44 (ws' := fun n44 => [(m0, .inr (6, [.int (nI 0), .int (nI 0), .ref n7, .ref n15, .ref n23, .int (nI 1), .ref n36, .null, .null, .null, .int (nI 0), .int (nI 0), .int (nI 0), .int (nI 0), .int (nI 0), .int (nI 0), .int (nI 0), .int (nI 0), .null, .null, .int (nI 0), .null, .null])), (n7, .inl (cI, 24, .inl (fun _ => nI 0))), (n15, .inl (cI, 24, .inl (fun _ => nI 0))), (n23, .inl (cI, 24, .inl (fun _ => nI 0))), (n36, .inl (cZ, 32, .inl (fun _ => nI 0))), (n44, .inl (cI, 32, .inl (fun _ => nI 0)))]) (fun _ => rfl) (fun n44 H hP hD hS => ?_)
  refine pl_putF X fw_Model_27 fp_Model rfl hin rfl hK hP hD hS 0 rfl (v := .ref n44) rfl rfl (Nat.le_of_ble_eq_true rfl) d_Model_init_46 (ws' := [(m0, .inr (6, [.int (nI 0), .int (nI 0), .ref n7, .ref n15, .ref n23, .int (nI 1), .ref n36, .ref n44, .null, .null, .int (nI 0), .int (nI 0), .int (nI 0), .int (nI 0), .int (nI 0), .int (nI 0), .int (nI 0), .int (nI 0), .null, .null, .int (nI 0), .null, .null])), (n7, .inl (cI, 24, .inl (fun _ => nI 0))), (n15, .inl (cI, 24, .inl (fun _ => nI 0))), (n23, .inl (cI, 24, .inl (fun _ => nI 0))), (n36, .inl (cZ, 32, .inl (fun _ => nI 0))), (n44, .inl (cI, 32, .inl (fun _ => nI 0)))]) rfl (fun H locs hP hD hS => ?_)
  refine lv_aload_n hx hb d_Model_init_49 rfl (lv_at hl 0 rfl) ?_
  refine lv_bipush (v := nI 32) hx hb d_Model_init_50 (by decide) ?_
  refine pl_newaI X ar_I hK 0 rfl hP hD hS hA (by decide) (by decide) (by decide) d_Model_init_52 (ws' := fun n52 => [(m0, .inr (6, [.int (nI 0), .int (nI 0), .ref n7, .ref n15, .ref n23, .int (nI 1), .ref n36, .ref n44, .null, .null, .int (nI 0), .int (nI 0), .int (nI 0), .int (nI 0), .int (nI 0), .int (nI 0), .int (nI 0), .int (nI 0), .null, .null, .int (nI 0), .null, .null])), (n7, .inl (cI, 24, .inl (fun _ => nI 0))), (n15, .inl (cI, 24, .inl (fun _ => nI 0))), (n23, .inl (cI, 24, .inl (fun _ => nI 0))), (n36, .inl (cZ, 32, .inl (fun _ => nI 0))), (n44, .inl (cI, 32, .inl (fun _ => nI 0))), (n52, .inl (cI, 32, .inl (fun _ => nI 0)))]) (fun _ => rfl) (fun n52 H hP hD hS => ?_)
  refine pl_putF X fw_Model_30 fp_Model rfl hin rfl hK hP hD hS 0 rfl (v := .ref n52) rfl rfl (Nat.le_of_ble_eq_true rfl) d_Model_init_54 (ws' := [(m0, .inr (6, [.int (nI 0), .int (nI 0), .ref n7, .ref n15, .ref n23, .int (nI 1), .ref n36, .ref n44, .ref n52, .null, .int (nI 0), .int (nI 0), .int (nI 0), .int (nI 0), .int (nI 0), .int (nI 0), .int (nI 0), .int (nI 0), .null, .null, .int (nI 0), .null, .null])), (n7, .inl (cI, 24, .inl (fun _ => nI 0))), (n15, .inl (cI, 24, .inl (fun _ => nI 0))), (n23, .inl (cI, 24, .inl (fun _ => nI 0))), (n36, .inl (cZ, 32, .inl (fun _ => nI 0))), (n44, .inl (cI, 32, .inl (fun _ => nI 0))), (n52, .inl (cI, 32, .inl (fun _ => nI 0)))]) rfl (fun H locs hP hD hS => ?_)
  refine lv_aload_n hx hb d_Model_init_57 rfl (lv_at hl 0 rfl) ?_
  refine lv_bipush (v := nI 32) hx hb d_Model_init_58 (by decide) ?_
  refine pl_newaI X ar_I hK 0 rfl hP hD hS hA (by decide) (by decide) (by decide) d_Model_init_60 (ws' := fun n60 => [(m0, .inr (6, [.int (nI 0), .int (nI 0), .ref n7, .ref n15, .ref n23, .int (nI 1), .ref n36, .ref n44, .ref n52, .null, .int (nI 0), .int (nI 0), .int (nI 0), .int (nI 0), .int (nI 0), .int (nI 0), .int (nI 0), .int (nI 0), .null, .null, .int (nI 0), .null, .null])), (n7, .inl (cI, 24, .inl (fun _ => nI 0))), (n15, .inl (cI, 24, .inl (fun _ => nI 0))), (n23, .inl (cI, 24, .inl (fun _ => nI 0))), (n36, .inl (cZ, 32, .inl (fun _ => nI 0))), (n44, .inl (cI, 32, .inl (fun _ => nI 0))), (n52, .inl (cI, 32, .inl (fun _ => nI 0))), (n60, .inl (cI, 32, .inl (fun _ => nI 0)))]) (fun _ => rfl) (fun n60 H hP hD hS => ?_)
  refine pl_putF X fw_Model_33 fp_Model rfl hin rfl hK hP hD hS 0 rfl (v := .ref n60) rfl rfl (Nat.le_of_ble_eq_true rfl) d_Model_init_62 (ws' := [(m0, .inr (6, [.int (nI 0), .int (nI 0), .ref n7, .ref n15, .ref n23, .int (nI 1), .ref n36, .ref n44, .ref n52, .ref n60, .int (nI 0), .int (nI 0), .int (nI 0), .int (nI 0), .int (nI 0), .int (nI 0), .int (nI 0), .int (nI 0), .null, .null, .int (nI 0), .null, .null])), (n7, .inl (cI, 24, .inl (fun _ => nI 0))), (n15, .inl (cI, 24, .inl (fun _ => nI 0))), (n23, .inl (cI, 24, .inl (fun _ => nI 0))), (n36, .inl (cZ, 32, .inl (fun _ => nI 0))), (n44, .inl (cI, 32, .inl (fun _ => nI 0))), (n52, .inl (cI, 32, .inl (fun _ => nI 0))), (n60, .inl (cI, 32, .inl (fun _ => nI 0)))]) rfl (fun H locs hP hD hS => ?_)
  refine lv_aload_n hx hb d_Model_init_65 rfl (lv_at hl 0 rfl) ?_
  refine lv_bipush (v := nI 20) hx hb d_Model_init_66 (by decide) ?_
  refine pl_newaI X ar_I hK 0 rfl hP hD hS hA (by decide) (by decide) (by decide) d_Model_init_68 (ws' := fun n68 => [(m0, .inr (6, [.int (nI 0), .int (nI 0), .ref n7, .ref n15, .ref n23, .int (nI 1), .ref n36, .ref n44, .ref n52, .ref n60, .int (nI 0), .int (nI 0), .int (nI 0), .int (nI 0), .int (nI 0), .int (nI 0), .int (nI 0), .int (nI 0), .null, .null, .int (nI 0), .null, .null])), (n7, .inl (cI, 24, .inl (fun _ => nI 0))), (n15, .inl (cI, 24, .inl (fun _ => nI 0))), (n23, .inl (cI, 24, .inl (fun _ => nI 0))), (n36, .inl (cZ, 32, .inl (fun _ => nI 0))), (n44, .inl (cI, 32, .inl (fun _ => nI 0))), (n52, .inl (cI, 32, .inl (fun _ => nI 0))), (n60, .inl (cI, 32, .inl (fun _ => nI 0))), (n68, .inl (cI, 20, .inl (fun _ => nI 0)))]) (fun _ => rfl) (fun n68 H hP hD hS => ?_)
  refine pl_putF X fw_Model_36 fp_Model rfl hin rfl hK hP hD hS 0 rfl (v := .ref n68) rfl rfl (Nat.le_of_ble_eq_true rfl) d_Model_init_70 (ws' := [(m0, .inr (6, [.int (nI 0), .int (nI 0), .ref n7, .ref n15, .ref n23, .int (nI 1), .ref n36, .ref n44, .ref n52, .ref n60, .int (nI 0), .int (nI 0), .int (nI 0), .int (nI 0), .int (nI 0), .int (nI 0), .int (nI 0), .int (nI 0), .ref n68, .null, .int (nI 0), .null, .null])), (n7, .inl (cI, 24, .inl (fun _ => nI 0))), (n15, .inl (cI, 24, .inl (fun _ => nI 0))), (n23, .inl (cI, 24, .inl (fun _ => nI 0))), (n36, .inl (cZ, 32, .inl (fun _ => nI 0))), (n44, .inl (cI, 32, .inl (fun _ => nI 0))), (n52, .inl (cI, 32, .inl (fun _ => nI 0))), (n60, .inl (cI, 32, .inl (fun _ => nI 0))), (n68, .inl (cI, 20, .inl (fun _ => nI 0)))]) rfl (fun H locs hP hD hS => ?_)
  refine lv_aload_n hx hb d_Model_init_73 rfl (lv_at hl 0 rfl) ?_
  refine lv_bipush (v := nI 8) hx hb d_Model_init_74 (by decide) ?_
  refine pl_newaI X ar_I hK 0 rfl hP hD hS hA (by decide) (by decide) (by decide) d_Model_init_76 (ws' := fun n76 => [(m0, .inr (6, [.int (nI 0), .int (nI 0), .ref n7, .ref n15, .ref n23, .int (nI 1), .ref n36, .ref n44, .ref n52, .ref n60, .int (nI 0), .int (nI 0), .int (nI 0), .int (nI 0), .int (nI 0), .int (nI 0), .int (nI 0), .int (nI 0), .ref n68, .null, .int (nI 0), .null, .null])), (n7, .inl (cI, 24, .inl (fun _ => nI 0))), (n15, .inl (cI, 24, .inl (fun _ => nI 0))), (n23, .inl (cI, 24, .inl (fun _ => nI 0))), (n36, .inl (cZ, 32, .inl (fun _ => nI 0))), (n44, .inl (cI, 32, .inl (fun _ => nI 0))), (n52, .inl (cI, 32, .inl (fun _ => nI 0))), (n60, .inl (cI, 32, .inl (fun _ => nI 0))), (n68, .inl (cI, 20, .inl (fun _ => nI 0))), (n76, .inl (cI, 8, .inl (fun _ => nI 0)))]) (fun _ => rfl) (fun n76 H hP hD hS => ?_)
  refine pl_putF X fw_Model_39 fp_Model rfl hin rfl hK hP hD hS 0 rfl (v := .ref n76) rfl rfl (Nat.le_of_ble_eq_true rfl) d_Model_init_78 (ws' := [(m0, .inr (6, [.int (nI 0), .int (nI 0), .ref n7, .ref n15, .ref n23, .int (nI 1), .ref n36, .ref n44, .ref n52, .ref n60, .int (nI 0), .int (nI 0), .int (nI 0), .int (nI 0), .int (nI 0), .int (nI 0), .int (nI 0), .int (nI 0), .ref n68, .ref n76, .int (nI 0), .null, .null])), (n7, .inl (cI, 24, .inl (fun _ => nI 0))), (n15, .inl (cI, 24, .inl (fun _ => nI 0))), (n23, .inl (cI, 24, .inl (fun _ => nI 0))), (n36, .inl (cZ, 32, .inl (fun _ => nI 0))), (n44, .inl (cI, 32, .inl (fun _ => nI 0))), (n52, .inl (cI, 32, .inl (fun _ => nI 0))), (n60, .inl (cI, 32, .inl (fun _ => nI 0))), (n68, .inl (cI, 20, .inl (fun _ => nI 0))), (n76, .inl (cI, 8, .inl (fun _ => nI 0)))]) rfl (fun H locs hP hD hS => ?_)
  refine lv_aload_n hx hb d_Model_init_81 rfl (lv_at hl 0 rfl) ?_
  refine lv_bipush (v := nI 60) hx hb d_Model_init_82 (by decide) ?_
  refine pl_newaI X ar_I hK 0 rfl hP hD hS hA (by decide) (by decide) (by decide) d_Model_init_84 (ws' := fun n84 => [(m0, .inr (6, [.int (nI 0), .int (nI 0), .ref n7, .ref n15, .ref n23, .int (nI 1), .ref n36, .ref n44, .ref n52, .ref n60, .int (nI 0), .int (nI 0), .int (nI 0), .int (nI 0), .int (nI 0), .int (nI 0), .int (nI 0), .int (nI 0), .ref n68, .ref n76, .int (nI 0), .null, .null])), (n7, .inl (cI, 24, .inl (fun _ => nI 0))), (n15, .inl (cI, 24, .inl (fun _ => nI 0))), (n23, .inl (cI, 24, .inl (fun _ => nI 0))), (n36, .inl (cZ, 32, .inl (fun _ => nI 0))), (n44, .inl (cI, 32, .inl (fun _ => nI 0))), (n52, .inl (cI, 32, .inl (fun _ => nI 0))), (n60, .inl (cI, 32, .inl (fun _ => nI 0))), (n68, .inl (cI, 20, .inl (fun _ => nI 0))), (n76, .inl (cI, 8, .inl (fun _ => nI 0))), (n84, .inl (cI, 60, .inl (fun _ => nI 0)))]) (fun _ => rfl) (fun n84 H hP hD hS => ?_)
  refine pl_putF X fw_Model_42 fp_Model rfl hin rfl hK hP hD hS 0 rfl (v := .ref n84) rfl rfl (Nat.le_of_ble_eq_true rfl) d_Model_init_86 (ws' := [(m0, .inr (6, [.int (nI 0), .int (nI 0), .ref n7, .ref n15, .ref n23, .int (nI 1), .ref n36, .ref n44, .ref n52, .ref n60, .int (nI 0), .int (nI 0), .int (nI 0), .int (nI 0), .int (nI 0), .int (nI 0), .int (nI 0), .int (nI 0), .ref n68, .ref n76, .int (nI 0), .ref n84, .null])), (n7, .inl (cI, 24, .inl (fun _ => nI 0))), (n15, .inl (cI, 24, .inl (fun _ => nI 0))), (n23, .inl (cI, 24, .inl (fun _ => nI 0))), (n36, .inl (cZ, 32, .inl (fun _ => nI 0))), (n44, .inl (cI, 32, .inl (fun _ => nI 0))), (n52, .inl (cI, 32, .inl (fun _ => nI 0))), (n60, .inl (cI, 32, .inl (fun _ => nI 0))), (n68, .inl (cI, 20, .inl (fun _ => nI 0))), (n76, .inl (cI, 8, .inl (fun _ => nI 0))), (n84, .inl (cI, 60, .inl (fun _ => nI 0)))]) rfl (fun H locs hP hD hS => ?_)
  refine lv_aload_n hx hb d_Model_init_89 rfl (lv_at hl 0 rfl) ?_
  refine lv_bipush (v := nI 60) hx hb d_Model_init_90 (by decide) ?_
  refine pl_newaI X ar_I hK 0 rfl hP hD hS hA (by decide) (by decide) (by decide) d_Model_init_92 (ws' := fun n92 => [(m0, .inr (6, [.int (nI 0), .int (nI 0), .ref n7, .ref n15, .ref n23, .int (nI 1), .ref n36, .ref n44, .ref n52, .ref n60, .int (nI 0), .int (nI 0), .int (nI 0), .int (nI 0), .int (nI 0), .int (nI 0), .int (nI 0), .int (nI 0), .ref n68, .ref n76, .int (nI 0), .ref n84, .null])), (n7, .inl (cI, 24, .inl (fun _ => nI 0))), (n15, .inl (cI, 24, .inl (fun _ => nI 0))), (n23, .inl (cI, 24, .inl (fun _ => nI 0))), (n36, .inl (cZ, 32, .inl (fun _ => nI 0))), (n44, .inl (cI, 32, .inl (fun _ => nI 0))), (n52, .inl (cI, 32, .inl (fun _ => nI 0))), (n60, .inl (cI, 32, .inl (fun _ => nI 0))), (n68, .inl (cI, 20, .inl (fun _ => nI 0))), (n76, .inl (cI, 8, .inl (fun _ => nI 0))), (n84, .inl (cI, 60, .inl (fun _ => nI 0))), (n92, .inl (cI, 60, .inl (fun _ => nI 0)))]) (fun _ => rfl) (fun n92 H hP hD hS => ?_)
  refine pl_putF X fw_Model_45 fp_Model rfl hin rfl hK hP hD hS 0 rfl (v := .ref n92) rfl rfl (Nat.le_of_ble_eq_true rfl) d_Model_init_94 (ws' := [(m0, .inr (6, [.int (nI 0), .int (nI 0), .ref n7, .ref n15, .ref n23, .int (nI 1), .ref n36, .ref n44, .ref n52, .ref n60, .int (nI 0), .int (nI 0), .int (nI 0), .int (nI 0), .int (nI 0), .int (nI 0), .int (nI 0), .int (nI 0), .ref n68, .ref n76, .int (nI 0), .ref n84, .ref n92])), (n7, .inl (cI, 24, .inl (fun _ => nI 0))), (n15, .inl (cI, 24, .inl (fun _ => nI 0))), (n23, .inl (cI, 24, .inl (fun _ => nI 0))), (n36, .inl (cZ, 32, .inl (fun _ => nI 0))), (n44, .inl (cI, 32, .inl (fun _ => nI 0))), (n52, .inl (cI, 32, .inl (fun _ => nI 0))), (n60, .inl (cI, 32, .inl (fun _ => nI 0))), (n68, .inl (cI, 20, .inl (fun _ => nI 0))), (n76, .inl (cI, 8, .inl (fun _ => nI 0))), (n84, .inl (cI, 60, .inl (fun _ => nI 0))), (n92, .inl (cI, 60, .inl (fun _ => nI 0)))]) rfl (fun H locs hP hD hS => ?_)
  exact pl_vret X hr hlk hK (fun k => [n7, n15, n23, n36, n44, n52, n60, n68, n76, n84, n92].getD k 0) trivial hP hD hS d_Model_init_97
