/-! Decode rows of PolicyLoom. -/
theorem d_Loom_code_0 : decode b_Loom_code 0 = .ok (.iload_n 1, 1) := by decide +kernel
theorem d_Loom_code_1 : decode b_Loom_code 1 = .ok (.ifCond .lt 9, 3) := by decide +kernel
theorem d_Loom_code_4 : decode b_Loom_code 4 = .ok (.iload_n 1, 1) := by decide +kernel
theorem d_Loom_code_5 : decode b_Loom_code 5 = .ok (.bipush 12, 2) := by decide +kernel
theorem d_Loom_code_7 : decode b_Loom_code 7 = .ok (.if_icmp .le 13, 3) := by decide +kernel
theorem d_Loom_code_10 : decode b_Loom_code 10 = .ok (.new 53, 3) := by decide +kernel
theorem d_Loom_code_13 : decode b_Loom_code 13 = .ok (.dup, 1) := by decide +kernel
theorem d_Loom_code_14 : decode b_Loom_code 14 = .ok (.ldc 55, 2) := by decide +kernel
theorem d_Loom_code_16 : decode b_Loom_code 16 = .ok (.invokespecial 57, 3) := by decide +kernel
theorem d_Loom_code_19 : decode b_Loom_code 19 = .ok (.athrow, 1) := by decide +kernel
theorem d_Loom_code_20 : decode b_Loom_code 20 = .ok (.aload_n 0, 1) := by decide +kernel
theorem d_Loom_code_21 : decode b_Loom_code 21 = .ok (.getfield 14, 3) := by decide +kernel
theorem d_Loom_code_24 : decode b_Loom_code 24 = .ok (.getfield 60, 3) := by decide +kernel
theorem d_Loom_code_27 : decode b_Loom_code 27 = .ok (.bipush 24, 2) := by decide +kernel
theorem d_Loom_code_29 : decode b_Loom_code 29 = .ok (.if_icmp .lt 13, 3) := by decide +kernel
theorem d_Loom_code_32 : decode b_Loom_code 32 = .ok (.new 64, 3) := by decide +kernel
theorem d_Loom_code_35 : decode b_Loom_code 35 = .ok (.dup, 1) := by decide +kernel
theorem d_Loom_code_36 : decode b_Loom_code 36 = .ok (.ldc 66, 2) := by decide +kernel
theorem d_Loom_code_38 : decode b_Loom_code 38 = .ok (.invokespecial 68, 3) := by decide +kernel
theorem d_Loom_code_41 : decode b_Loom_code 41 = .ok (.athrow, 1) := by decide +kernel
theorem d_Loom_code_42 : decode b_Loom_code 42 = .ok (.aload_n 0, 1) := by decide +kernel
theorem d_Loom_code_43 : decode b_Loom_code 43 = .ok (.invokevirtual 69, 3) := by decide +kernel
theorem d_Loom_code_46 : decode b_Loom_code 46 = .ok (.aload_n 0, 1) := by decide +kernel
theorem d_Loom_code_47 : decode b_Loom_code 47 = .ok (.getfield 14, 3) := by decide +kernel
theorem d_Loom_code_50 : decode b_Loom_code 50 = .ok (.iload_n 1, 1) := by decide +kernel
theorem d_Loom_code_51 : decode b_Loom_code 51 = .ok (.iload_n 2, 1) := by decide +kernel
theorem d_Loom_code_52 : decode b_Loom_code 52 = .ok (.invokevirtual 72, 3) := by decide +kernel
theorem d_Loom_code_55 : decode b_Loom_code 55 = .ok (.aload_n 0, 1) := by decide +kernel
theorem d_Loom_code_56 : decode b_Loom_code 56 = .ok (.getfield 14, 3) := by decide +kernel
theorem d_Loom_code_59 : decode b_Loom_code 59 = .ok (.getfield 60, 3) := by decide +kernel
theorem d_Loom_code_62 : decode b_Loom_code 62 = .ok (.iconst 1, 1) := by decide +kernel
theorem d_Loom_code_63 : decode b_Loom_code 63 = .ok (.isub, 1) := by decide +kernel
theorem d_Loom_code_64 : decode b_Loom_code 64 = .ok (.ireturn, 1) := by decide +kernel
theorem d_Loom_states_0 : decode b_Loom_states 0 = .ok (.iload_n 1, 1) := by decide +kernel
theorem d_Loom_states_1 : decode b_Loom_states 1 = .ok (.iconst 1, 1) := by decide +kernel
theorem d_Loom_states_2 : decode b_Loom_states 2 = .ok (.if_icmp .lt 8, 3) := by decide +kernel
theorem d_Loom_states_5 : decode b_Loom_states 5 = .ok (.iload_n 1, 1) := by decide +kernel
theorem d_Loom_states_6 : decode b_Loom_states 6 = .ok (.iconst 4, 1) := by decide +kernel
theorem d_Loom_states_7 : decode b_Loom_states 7 = .ok (.if_icmp .le 13, 3) := by decide +kernel
theorem d_Loom_states_10 : decode b_Loom_states 10 = .ok (.new 53, 3) := by decide +kernel
theorem d_Loom_states_13 : decode b_Loom_states 13 = .ok (.dup, 1) := by decide +kernel
theorem d_Loom_states_14 : decode b_Loom_states 14 = .ok (.ldc 76, 2) := by decide +kernel
theorem d_Loom_states_16 : decode b_Loom_states 16 = .ok (.invokespecial 57, 3) := by decide +kernel
theorem d_Loom_states_19 : decode b_Loom_states 19 = .ok (.athrow, 1) := by decide +kernel
theorem d_Loom_states_20 : decode b_Loom_states 20 = .ok (.aload_n 0, 1) := by decide +kernel
theorem d_Loom_states_21 : decode b_Loom_states 21 = .ok (.invokevirtual 78, 3) := by decide +kernel
theorem d_Loom_states_24 : decode b_Loom_states 24 = .ok (.aload_n 0, 1) := by decide +kernel
theorem d_Loom_states_25 : decode b_Loom_states 25 = .ok (.getfield 21, 3) := by decide +kernel
theorem d_Loom_states_28 : decode b_Loom_states 28 = .ok (.iload_n 1, 1) := by decide +kernel
theorem d_Loom_states_29 : decode b_Loom_states 29 = .ok (.invokevirtual 81, 3) := by decide +kernel
theorem d_Loom_states_32 : decode b_Loom_states 32 = .ok (.return_, 1) := by decide +kernel
theorem d_Loom_rule_0 : decode b_Loom_rule 0 = .ok (.aload_n 0, 1) := by decide +kernel
theorem d_Loom_rule_1 : decode b_Loom_rule 1 = .ok (.getfield 21, 3) := by decide +kernel
theorem d_Loom_rule_4 : decode b_Loom_rule 4 = .ok (.iload_n 1, 1) := by decide +kernel
theorem d_Loom_rule_5 : decode b_Loom_rule 5 = .ok (.invokevirtual 84, 3) := by decide +kernel
theorem d_Loom_rule_8 : decode b_Loom_rule 8 = .ok (.ifCond .eq 15, 3) := by decide +kernel
theorem d_Loom_rule_11 : decode b_Loom_rule 11 = .ok (.aload_n 0, 1) := by decide +kernel
theorem d_Loom_rule_12 : decode b_Loom_rule 12 = .ok (.getfield 21, 3) := by decide +kernel
theorem d_Loom_rule_15 : decode b_Loom_rule 15 = .ok (.iload 5, 2) := by decide +kernel
theorem d_Loom_rule_17 : decode b_Loom_rule 17 = .ok (.invokevirtual 84, 3) := by decide +kernel
theorem d_Loom_rule_20 : decode b_Loom_rule 20 = .ok (.ifCond .ne 13, 3) := by decide +kernel
theorem d_Loom_rule_23 : decode b_Loom_rule 23 = .ok (.new 53, 3) := by decide +kernel
theorem d_Loom_rule_26 : decode b_Loom_rule 26 = .ok (.dup, 1) := by decide +kernel
theorem d_Loom_rule_27 : decode b_Loom_rule 27 = .ok (.ldc 88, 2) := by decide +kernel
theorem d_Loom_rule_29 : decode b_Loom_rule 29 = .ok (.invokespecial 57, 3) := by decide +kernel
theorem d_Loom_rule_32 : decode b_Loom_rule 32 = .ok (.athrow, 1) := by decide +kernel
theorem d_Loom_rule_33 : decode b_Loom_rule 33 = .ok (.iload_n 2, 1) := by decide +kernel
theorem d_Loom_rule_34 : decode b_Loom_rule 34 = .ok (.ifCond .lt 9, 3) := by decide +kernel
theorem d_Loom_rule_37 : decode b_Loom_rule 37 = .ok (.iload_n 2, 1) := by decide +kernel
theorem d_Loom_rule_38 : decode b_Loom_rule 38 = .ok (.bipush 8, 2) := by decide +kernel
theorem d_Loom_rule_40 : decode b_Loom_rule 40 = .ok (.if_icmp .lt 13, 3) := by decide +kernel
theorem d_Loom_rule_43 : decode b_Loom_rule 43 = .ok (.new 53, 3) := by decide +kernel
theorem d_Loom_rule_46 : decode b_Loom_rule 46 = .ok (.dup, 1) := by decide +kernel
theorem d_Loom_rule_47 : decode b_Loom_rule 47 = .ok (.ldc 90, 2) := by decide +kernel
theorem d_Loom_rule_49 : decode b_Loom_rule 49 = .ok (.invokespecial 57, 3) := by decide +kernel
theorem d_Loom_rule_52 : decode b_Loom_rule 52 = .ok (.athrow, 1) := by decide +kernel
theorem d_Loom_rule_53 : decode b_Loom_rule 53 = .ok (.iload 4, 2) := by decide +kernel
theorem d_Loom_rule_55 : decode b_Loom_rule 55 = .ok (.iload_n 3, 1) := by decide +kernel
theorem d_Loom_rule_56 : decode b_Loom_rule 56 = .ok (.if_icmp .ge 13, 3) := by decide +kernel
theorem d_Loom_rule_59 : decode b_Loom_rule 59 = .ok (.new 53, 3) := by decide +kernel
theorem d_Loom_rule_62 : decode b_Loom_rule 62 = .ok (.dup, 1) := by decide +kernel
theorem d_Loom_rule_63 : decode b_Loom_rule 63 = .ok (.ldc 92, 2) := by decide +kernel
theorem d_Loom_rule_65 : decode b_Loom_rule 65 = .ok (.invokespecial 57, 3) := by decide +kernel
theorem d_Loom_rule_68 : decode b_Loom_rule 68 = .ok (.athrow, 1) := by decide +kernel
theorem d_Loom_rule_69 : decode b_Loom_rule 69 = .ok (.aload_n 0, 1) := by decide +kernel
theorem d_Loom_rule_70 : decode b_Loom_rule 70 = .ok (.invokevirtual 78, 3) := by decide +kernel
theorem d_Loom_rule_73 : decode b_Loom_rule 73 = .ok (.aload_n 0, 1) := by decide +kernel
theorem d_Loom_rule_74 : decode b_Loom_rule 74 = .ok (.getfield 21, 3) := by decide +kernel
theorem d_Loom_rule_77 : decode b_Loom_rule 77 = .ok (.iload_n 1, 1) := by decide +kernel
theorem d_Loom_rule_78 : decode b_Loom_rule 78 = .ok (.iload_n 2, 1) := by decide +kernel
theorem d_Loom_rule_79 : decode b_Loom_rule 79 = .ok (.invokestatic 94, 3) := by decide +kernel
theorem d_Loom_rule_82 : decode b_Loom_rule 82 = .ok (.iload_n 3, 1) := by decide +kernel
theorem d_Loom_rule_83 : decode b_Loom_rule 83 = .ok (.iload 4, 2) := by decide +kernel
theorem d_Loom_rule_85 : decode b_Loom_rule 85 = .ok (.iload 5, 2) := by decide +kernel
theorem d_Loom_rule_87 : decode b_Loom_rule 87 = .ok (.invokevirtual 98, 3) := by decide +kernel
theorem d_Loom_rule_90 : decode b_Loom_rule 90 = .ok (.return_, 1) := by decide +kernel
theorem d_Loom_start_0 : decode b_Loom_start 0 = .ok (.aload_n 0, 1) := by decide +kernel
theorem d_Loom_start_1 : decode b_Loom_start 1 = .ok (.invokevirtual 106, 3) := by decide +kernel
theorem d_Loom_start_4 : decode b_Loom_start 4 = .ok (.iload_n 1, 1) := by decide +kernel
theorem d_Loom_start_5 : decode b_Loom_start 5 = .ok (.ifCond .lt 8, 3) := by decide +kernel
theorem d_Loom_start_8 : decode b_Loom_start 8 = .ok (.iload_n 1, 1) := by decide +kernel
theorem d_Loom_start_9 : decode b_Loom_start 9 = .ok (.iconst 2, 1) := by decide +kernel
theorem d_Loom_start_10 : decode b_Loom_start 10 = .ok (.if_icmp .le 13, 3) := by decide +kernel
theorem d_Loom_start_13 : decode b_Loom_start 13 = .ok (.new 53, 3) := by decide +kernel
theorem d_Loom_start_16 : decode b_Loom_start 16 = .ok (.dup, 1) := by decide +kernel
theorem d_Loom_start_17 : decode b_Loom_start 17 = .ok (.ldc 125, 2) := by decide +kernel
theorem d_Loom_start_19 : decode b_Loom_start 19 = .ok (.invokespecial 57, 3) := by decide +kernel
theorem d_Loom_start_22 : decode b_Loom_start 22 = .ok (.athrow, 1) := by decide +kernel
theorem d_Loom_start_23 : decode b_Loom_start 23 = .ok (.aload_n 0, 1) := by decide +kernel
theorem d_Loom_start_24 : decode b_Loom_start 24 = .ok (.getfield 42, 3) := by decide +kernel
theorem d_Loom_start_27 : decode b_Loom_start 27 = .ok (.iload_n 1, 1) := by decide +kernel
theorem d_Loom_start_28 : decode b_Loom_start 28 = .ok (.iload_n 2, 1) := by decide +kernel
theorem d_Loom_start_29 : decode b_Loom_start 29 = .ok (.invokevirtual 127, 3) := by decide +kernel
theorem d_Loom_start_32 : decode b_Loom_start 32 = .ok (.return_, 1) := by decide +kernel
theorem d_Loom_look_0 : decode b_Loom_look 0 = .ok (.iload_n 1, 1) := by decide +kernel
theorem d_Loom_look_1 : decode b_Loom_look 1 = .ok (.ifCond .lt 8, 3) := by decide +kernel
theorem d_Loom_look_4 : decode b_Loom_look 4 = .ok (.iload_n 1, 1) := by decide +kernel
theorem d_Loom_look_5 : decode b_Loom_look 5 = .ok (.iconst 4, 1) := by decide +kernel
theorem d_Loom_look_6 : decode b_Loom_look 6 = .ok (.if_icmp .le 13, 3) := by decide +kernel
theorem d_Loom_look_9 : decode b_Loom_look 9 = .ok (.new 53, 3) := by decide +kernel
theorem d_Loom_look_12 : decode b_Loom_look 12 = .ok (.dup, 1) := by decide +kernel
theorem d_Loom_look_13 : decode b_Loom_look 13 = .ok (.ldc 147, 2) := by decide +kernel
theorem d_Loom_look_15 : decode b_Loom_look 15 = .ok (.invokespecial 57, 3) := by decide +kernel
theorem d_Loom_look_18 : decode b_Loom_look 18 = .ok (.athrow, 1) := by decide +kernel
theorem d_Loom_look_19 : decode b_Loom_look 19 = .ok (.aload_n 0, 1) := by decide +kernel
theorem d_Loom_look_20 : decode b_Loom_look 20 = .ok (.getfield 42, 3) := by decide +kernel
theorem d_Loom_look_23 : decode b_Loom_look 23 = .ok (.getfield 130, 3) := by decide +kernel
theorem d_Loom_look_26 : decode b_Loom_look 26 = .ok (.ifCond .ne 5, 3) := by decide +kernel
theorem d_Loom_look_29 : decode b_Loom_look 29 = .ok (.iconst 0, 1) := by decide +kernel
theorem d_Loom_look_30 : decode b_Loom_look 30 = .ok (.ireturn, 1) := by decide +kernel
theorem d_Loom_look_31 : decode b_Loom_look 31 = .ok (.iload_n 1, 1) := by decide +kernel
theorem d_Loom_look_32 : decode b_Loom_look 32 = .ok (.tableswitch 64 0 3 #[32, 40, 48, 56], 32) := by decide +kernel
theorem d_Loom_look_64 : decode b_Loom_look 64 = .ok (.aload_n 0, 1) := by decide +kernel
theorem d_Loom_look_65 : decode b_Loom_look 65 = .ok (.getfield 42, 3) := by decide +kernel
theorem d_Loom_look_68 : decode b_Loom_look 68 = .ok (.getfield 130, 3) := by decide +kernel
theorem d_Loom_look_71 : decode b_Loom_look 71 = .ok (.ireturn, 1) := by decide +kernel
theorem d_Loom_look_72 : decode b_Loom_look 72 = .ok (.aload_n 0, 1) := by decide +kernel
theorem d_Loom_look_73 : decode b_Loom_look 73 = .ok (.getfield 42, 3) := by decide +kernel
theorem d_Loom_look_76 : decode b_Loom_look 76 = .ok (.getfield 149, 3) := by decide +kernel
theorem d_Loom_look_79 : decode b_Loom_look 79 = .ok (.ireturn, 1) := by decide +kernel
theorem d_Loom_look_80 : decode b_Loom_look 80 = .ok (.aload_n 0, 1) := by decide +kernel
theorem d_Loom_look_81 : decode b_Loom_look 81 = .ok (.getfield 42, 3) := by decide +kernel
theorem d_Loom_look_84 : decode b_Loom_look 84 = .ok (.getfield 151, 3) := by decide +kernel
theorem d_Loom_look_87 : decode b_Loom_look 87 = .ok (.ireturn, 1) := by decide +kernel
theorem d_Loom_look_88 : decode b_Loom_look 88 = .ok (.aload_n 0, 1) := by decide +kernel
theorem d_Loom_look_89 : decode b_Loom_look 89 = .ok (.getfield 42, 3) := by decide +kernel
theorem d_Loom_look_92 : decode b_Loom_look 92 = .ok (.invokevirtual 154, 3) := by decide +kernel
theorem d_Loom_look_95 : decode b_Loom_look 95 = .ok (.ireturn, 1) := by decide +kernel
theorem d_Loom_look_96 : decode b_Loom_look 96 = .ok (.aload_n 0, 1) := by decide +kernel
theorem d_Loom_look_97 : decode b_Loom_look 97 = .ok (.getfield 42, 3) := by decide +kernel
theorem d_Loom_look_100 : decode b_Loom_look 100 = .ok (.getfield 158, 3) := by decide +kernel
theorem d_Loom_look_103 : decode b_Loom_look 103 = .ok (.ireturn, 1) := by decide +kernel
theorem d_Loom_act_0 : decode b_Loom_act 0 = .ok (.aload_n 0, 1) := by decide +kernel
theorem d_Loom_act_1 : decode b_Loom_act 1 = .ok (.getfield 42, 3) := by decide +kernel
theorem d_Loom_act_4 : decode b_Loom_act 4 = .ok (.getfield 130, 3) := by decide +kernel
theorem d_Loom_act_7 : decode b_Loom_act 7 = .ok (.ifCond .eq 18, 3) := by decide +kernel
theorem d_Loom_act_10 : decode b_Loom_act 10 = .ok (.iload_n 1, 1) := by decide +kernel
theorem d_Loom_act_11 : decode b_Loom_act 11 = .ok (.ifCond .lt 14, 3) := by decide +kernel
theorem d_Loom_act_14 : decode b_Loom_act 14 = .ok (.iload_n 1, 1) := by decide +kernel
theorem d_Loom_act_15 : decode b_Loom_act 15 = .ok (.aload_n 0, 1) := by decide +kernel
theorem d_Loom_act_16 : decode b_Loom_act 16 = .ok (.getfield 42, 3) := by decide +kernel
theorem d_Loom_act_19 : decode b_Loom_act 19 = .ok (.getfield 158, 3) := by decide +kernel
theorem d_Loom_act_22 : decode b_Loom_act 22 = .ok (.if_icmp .lt 13, 3) := by decide +kernel
theorem d_Loom_act_25 : decode b_Loom_act 25 = .ok (.new 64, 3) := by decide +kernel
theorem d_Loom_act_28 : decode b_Loom_act 28 = .ok (.dup, 1) := by decide +kernel
theorem d_Loom_act_29 : decode b_Loom_act 29 = .ok (.ldc 161, 2) := by decide +kernel
theorem d_Loom_act_31 : decode b_Loom_act 31 = .ok (.invokespecial 68, 3) := by decide +kernel
theorem d_Loom_act_34 : decode b_Loom_act 34 = .ok (.athrow, 1) := by decide +kernel
theorem d_Loom_act_35 : decode b_Loom_act 35 = .ok (.iload_n 2, 1) := by decide +kernel
theorem d_Loom_act_36 : decode b_Loom_act 36 = .ok (.ifCond .eq 15, 3) := by decide +kernel
theorem d_Loom_act_39 : decode b_Loom_act 39 = .ok (.aload_n 0, 1) := by decide +kernel
theorem d_Loom_act_40 : decode b_Loom_act 40 = .ok (.getfield 42, 3) := by decide +kernel
theorem d_Loom_act_43 : decode b_Loom_act 43 = .ok (.getfield 163, 3) := by decide +kernel
theorem d_Loom_act_46 : decode b_Loom_act 46 = .ok (.iload_n 1, 1) := by decide +kernel
theorem d_Loom_act_47 : decode b_Loom_act 47 = .ok (.iaload, 1) := by decide +kernel
theorem d_Loom_act_48 : decode b_Loom_act 48 = .ok (.goto 12, 3) := by decide +kernel
theorem d_Loom_act_51 : decode b_Loom_act 51 = .ok (.aload_n 0, 1) := by decide +kernel
theorem d_Loom_act_52 : decode b_Loom_act 52 = .ok (.getfield 42, 3) := by decide +kernel
theorem d_Loom_act_55 : decode b_Loom_act 55 = .ok (.getfield 166, 3) := by decide +kernel
theorem d_Loom_act_58 : decode b_Loom_act 58 = .ok (.iload_n 1, 1) := by decide +kernel
theorem d_Loom_act_59 : decode b_Loom_act 59 = .ok (.iaload, 1) := by decide +kernel
theorem d_Loom_act_60 : decode b_Loom_act 60 = .ok (.ireturn, 1) := by decide +kernel
theorem d_Loom_cell_0 : decode b_Loom_cell 0 = .ok (.iload_n 1, 1) := by decide +kernel
theorem d_Loom_cell_1 : decode b_Loom_cell 1 = .ok (.ifCond .lt 9, 3) := by decide +kernel
theorem d_Loom_cell_4 : decode b_Loom_cell 4 = .ok (.iload_n 1, 1) := by decide +kernel
theorem d_Loom_cell_5 : decode b_Loom_cell 5 = .ok (.bipush 8, 2) := by decide +kernel
theorem d_Loom_cell_7 : decode b_Loom_cell 7 = .ok (.if_icmp .lt 13, 3) := by decide +kernel
theorem d_Loom_cell_10 : decode b_Loom_cell 10 = .ok (.new 64, 3) := by decide +kernel
theorem d_Loom_cell_13 : decode b_Loom_cell 13 = .ok (.dup, 1) := by decide +kernel
theorem d_Loom_cell_14 : decode b_Loom_cell 14 = .ok (.ldc 169, 2) := by decide +kernel
theorem d_Loom_cell_16 : decode b_Loom_cell 16 = .ok (.invokespecial 68, 3) := by decide +kernel
theorem d_Loom_cell_19 : decode b_Loom_cell 19 = .ok (.athrow, 1) := by decide +kernel
theorem d_Loom_cell_20 : decode b_Loom_cell 20 = .ok (.aload_n 0, 1) := by decide +kernel
theorem d_Loom_cell_21 : decode b_Loom_cell 21 = .ok (.getfield 42, 3) := by decide +kernel
theorem d_Loom_cell_24 : decode b_Loom_cell 24 = .ok (.getfield 130, 3) := by decide +kernel
theorem d_Loom_cell_27 : decode b_Loom_cell 27 = .ok (.ifCond .ne 7, 3) := by decide +kernel
theorem d_Loom_cell_30 : decode b_Loom_cell 30 = .ok (.iconst 0, 1) := by decide +kernel
theorem d_Loom_cell_31 : decode b_Loom_cell 31 = .ok (.goto 12, 3) := by decide +kernel
theorem d_Loom_cell_34 : decode b_Loom_cell 34 = .ok (.aload_n 0, 1) := by decide +kernel
theorem d_Loom_cell_35 : decode b_Loom_cell 35 = .ok (.getfield 42, 3) := by decide +kernel
theorem d_Loom_cell_38 : decode b_Loom_cell 38 = .ok (.getfield 171, 3) := by decide +kernel
theorem d_Loom_cell_41 : decode b_Loom_cell 41 = .ok (.iload_n 1, 1) := by decide +kernel
theorem d_Loom_cell_42 : decode b_Loom_cell 42 = .ok (.iaload, 1) := by decide +kernel
theorem d_Loom_cell_43 : decode b_Loom_cell 43 = .ok (.ireturn, 1) := by decide +kernel
