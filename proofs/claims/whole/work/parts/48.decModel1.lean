/-! Decode rows of reference. -/
theorem d_Model_thrown_0 : decode b_Model_thrown 0 = .ok (.aload_n 0, 1) := by decide +kernel
theorem d_Model_thrown_1 : decode b_Model_thrown 1 = .ok (.getfield 48, 3) := by decide +kernel
theorem d_Model_thrown_4 : decode b_Model_thrown 4 = .ok (.ireturn, 1) := by decide +kernel
theorem d_Model_refuse_0 : decode b_Model_refuse 0 = .ok (.aload_n 0, 1) := by decide +kernel
theorem d_Model_refuse_1 : decode b_Model_refuse 1 = .ok (.iload_n 1, 1) := by decide +kernel
theorem d_Model_refuse_2 : decode b_Model_refuse 2 = .ok (.putfield 48, 3) := by decide +kernel
theorem d_Model_refuse_5 : decode b_Model_refuse 5 = .ok (.iconst 0, 1) := by decide +kernel
theorem d_Model_refuse_6 : decode b_Model_refuse 6 = .ok (.ireturn, 1) := by decide +kernel
theorem d_Model_code_0 : decode b_Model_code 0 = .ok (.aload_n 0, 1) := by decide +kernel
theorem d_Model_code_1 : decode b_Model_code 1 = .ok (.iconst 0, 1) := by decide +kernel
theorem d_Model_code_2 : decode b_Model_code 2 = .ok (.putfield 48, 3) := by decide +kernel
theorem d_Model_code_5 : decode b_Model_code 5 = .ok (.iload_n 1, 1) := by decide +kernel
theorem d_Model_code_6 : decode b_Model_code 6 = .ok (.ifCond .lt 9, 3) := by decide +kernel
theorem d_Model_code_9 : decode b_Model_code 9 = .ok (.iload_n 1, 1) := by decide +kernel
theorem d_Model_code_10 : decode b_Model_code 10 = .ok (.bipush 12, 2) := by decide +kernel
theorem d_Model_code_12 : decode b_Model_code 12 = .ok (.if_icmp .le 9, 3) := by decide +kernel
theorem d_Model_code_15 : decode b_Model_code 15 = .ok (.aload_n 0, 1) := by decide +kernel
theorem d_Model_code_16 : decode b_Model_code 16 = .ok (.iconst 1, 1) := by decide +kernel
theorem d_Model_code_17 : decode b_Model_code 17 = .ok (.invokevirtual 51, 3) := by decide +kernel
theorem d_Model_code_20 : decode b_Model_code 20 = .ok (.ireturn, 1) := by decide +kernel
theorem d_Model_code_21 : decode b_Model_code 21 = .ok (.aload_n 0, 1) := by decide +kernel
theorem d_Model_code_22 : decode b_Model_code 22 = .ok (.getfield 55, 3) := by decide +kernel
theorem d_Model_code_25 : decode b_Model_code 25 = .ok (.bipush 24, 2) := by decide +kernel
theorem d_Model_code_27 : decode b_Model_code 27 = .ok (.if_icmp .ne 9, 3) := by decide +kernel
theorem d_Model_code_30 : decode b_Model_code 30 = .ok (.aload_n 0, 1) := by decide +kernel
theorem d_Model_code_31 : decode b_Model_code 31 = .ok (.iconst 2, 1) := by decide +kernel
theorem d_Model_code_32 : decode b_Model_code 32 = .ok (.invokevirtual 51, 3) := by decide +kernel
theorem d_Model_code_35 : decode b_Model_code 35 = .ok (.ireturn, 1) := by decide +kernel
theorem d_Model_code_36 : decode b_Model_code 36 = .ok (.aload_n 0, 1) := by decide +kernel
theorem d_Model_code_37 : decode b_Model_code 37 = .ok (.getfield 7, 3) := by decide +kernel
theorem d_Model_code_40 : decode b_Model_code 40 = .ok (.aload_n 0, 1) := by decide +kernel
theorem d_Model_code_41 : decode b_Model_code 41 = .ok (.getfield 55, 3) := by decide +kernel
theorem d_Model_code_44 : decode b_Model_code 44 = .ok (.iload_n 1, 1) := by decide +kernel
theorem d_Model_code_45 : decode b_Model_code 45 = .ok (.iastore, 1) := by decide +kernel
theorem d_Model_code_46 : decode b_Model_code 46 = .ok (.aload_n 0, 1) := by decide +kernel
theorem d_Model_code_47 : decode b_Model_code 47 = .ok (.getfield 13, 3) := by decide +kernel
theorem d_Model_code_50 : decode b_Model_code 50 = .ok (.aload_n 0, 1) := by decide +kernel
theorem d_Model_code_51 : decode b_Model_code 51 = .ok (.getfield 55, 3) := by decide +kernel
theorem d_Model_code_54 : decode b_Model_code 54 = .ok (.iload_n 2, 1) := by decide +kernel
theorem d_Model_code_55 : decode b_Model_code 55 = .ok (.iastore, 1) := by decide +kernel
theorem d_Model_code_56 : decode b_Model_code 56 = .ok (.aload_n 0, 1) := by decide +kernel
theorem d_Model_code_57 : decode b_Model_code 57 = .ok (.dup, 1) := by decide +kernel
theorem d_Model_code_58 : decode b_Model_code 58 = .ok (.getfield 55, 3) := by decide +kernel
theorem d_Model_code_61 : decode b_Model_code 61 = .ok (.iconst 1, 1) := by decide +kernel
theorem d_Model_code_62 : decode b_Model_code 62 = .ok (.iadd, 1) := by decide +kernel
theorem d_Model_code_63 : decode b_Model_code 63 = .ok (.putfield 55, 3) := by decide +kernel
theorem d_Model_code_66 : decode b_Model_code 66 = .ok (.aload_n 0, 1) := by decide +kernel
theorem d_Model_code_67 : decode b_Model_code 67 = .ok (.iconst 0, 1) := by decide +kernel
theorem d_Model_code_68 : decode b_Model_code 68 = .ok (.putfield 58, 3) := by decide +kernel
theorem d_Model_code_71 : decode b_Model_code 71 = .ok (.aload_n 0, 1) := by decide +kernel
theorem d_Model_code_72 : decode b_Model_code 72 = .ok (.getfield 55, 3) := by decide +kernel
theorem d_Model_code_75 : decode b_Model_code 75 = .ok (.iconst 1, 1) := by decide +kernel
theorem d_Model_code_76 : decode b_Model_code 76 = .ok (.isub, 1) := by decide +kernel
theorem d_Model_code_77 : decode b_Model_code 77 = .ok (.ireturn, 1) := by decide +kernel
theorem d_Model_clear_0 : decode b_Model_clear 0 = .ok (.aload_n 0, 1) := by decide +kernel
theorem d_Model_clear_1 : decode b_Model_clear 1 = .ok (.iconst 0, 1) := by decide +kernel
theorem d_Model_clear_2 : decode b_Model_clear 2 = .ok (.putfield 48, 3) := by decide +kernel
theorem d_Model_clear_5 : decode b_Model_clear 5 = .ok (.aload_n 0, 1) := by decide +kernel
theorem d_Model_clear_6 : decode b_Model_clear 6 = .ok (.iconst 0, 1) := by decide +kernel
theorem d_Model_clear_7 : decode b_Model_clear 7 = .ok (.putfield 55, 3) := by decide +kernel
theorem d_Model_clear_10 : decode b_Model_clear 10 = .ok (.aload_n 0, 1) := by decide +kernel
theorem d_Model_clear_11 : decode b_Model_clear 11 = .ok (.iconst 0, 1) := by decide +kernel
theorem d_Model_clear_12 : decode b_Model_clear 12 = .ok (.putfield 58, 3) := by decide +kernel
theorem d_Model_clear_15 : decode b_Model_clear 15 = .ok (.return_, 1) := by decide +kernel
theorem d_Model_states_0 : decode b_Model_states 0 = .ok (.aload_n 0, 1) := by decide +kernel
theorem d_Model_states_1 : decode b_Model_states 1 = .ok (.iload_n 1, 1) := by decide +kernel
theorem d_Model_states_2 : decode b_Model_states 2 = .ok (.iconst 1, 1) := by decide +kernel
theorem d_Model_states_3 : decode b_Model_states 3 = .ok (.if_icmp .lt 8, 3) := by decide +kernel
theorem d_Model_states_6 : decode b_Model_states 6 = .ok (.iload_n 1, 1) := by decide +kernel
theorem d_Model_states_7 : decode b_Model_states 7 = .ok (.iconst 4, 1) := by decide +kernel
theorem d_Model_states_8 : decode b_Model_states 8 = .ok (.if_icmp .le 7, 3) := by decide +kernel
theorem d_Model_states_11 : decode b_Model_states 11 = .ok (.iconst 1, 1) := by decide +kernel
theorem d_Model_states_12 : decode b_Model_states 12 = .ok (.goto 4, 3) := by decide +kernel
theorem d_Model_states_15 : decode b_Model_states 15 = .ok (.iconst 0, 1) := by decide +kernel
theorem d_Model_states_16 : decode b_Model_states 16 = .ok (.putfield 48, 3) := by decide +kernel
theorem d_Model_states_19 : decode b_Model_states 19 = .ok (.aload_n 0, 1) := by decide +kernel
theorem d_Model_states_20 : decode b_Model_states 20 = .ok (.getfield 48, 3) := by decide +kernel
theorem d_Model_states_23 : decode b_Model_states 23 = .ok (.ifCond .le 4, 3) := by decide +kernel
theorem d_Model_states_26 : decode b_Model_states 26 = .ok (.return_, 1) := by decide +kernel
theorem d_Model_states_27 : decode b_Model_states 27 = .ok (.aload_n 0, 1) := by decide +kernel
theorem d_Model_states_28 : decode b_Model_states 28 = .ok (.iload_n 1, 1) := by decide +kernel
theorem d_Model_states_29 : decode b_Model_states 29 = .ok (.putfield 19, 3) := by decide +kernel
theorem d_Model_states_32 : decode b_Model_states 32 = .ok (.iconst 0, 1) := by decide +kernel
theorem d_Model_states_33 : decode b_Model_states 33 = .ok (.istore_n 2, 1) := by decide +kernel
theorem d_Model_states_34 : decode b_Model_states 34 = .ok (.iload_n 2, 1) := by decide +kernel
theorem d_Model_states_35 : decode b_Model_states 35 = .ok (.bipush 32, 2) := by decide +kernel
theorem d_Model_states_37 : decode b_Model_states 37 = .ok (.if_icmp .ge 16, 3) := by decide +kernel
theorem d_Model_states_40 : decode b_Model_states 40 = .ok (.aload_n 0, 1) := by decide +kernel
theorem d_Model_states_41 : decode b_Model_states 41 = .ok (.getfield 23, 3) := by decide +kernel
theorem d_Model_states_44 : decode b_Model_states 44 = .ok (.iload_n 2, 1) := by decide +kernel
theorem d_Model_states_45 : decode b_Model_states 45 = .ok (.iconst 0, 1) := by decide +kernel
theorem d_Model_states_46 : decode b_Model_states 46 = .ok (.bastore, 1) := by decide +kernel
theorem d_Model_states_47 : decode b_Model_states 47 = .ok (.iinc 2 1, 3) := by decide +kernel
theorem d_Model_states_50 : decode b_Model_states 50 = .ok (.goto (-16), 3) := by decide +kernel
theorem d_Model_states_53 : decode b_Model_states 53 = .ok (.aload_n 0, 1) := by decide +kernel
theorem d_Model_states_54 : decode b_Model_states 54 = .ok (.iconst 0, 1) := by decide +kernel
theorem d_Model_states_55 : decode b_Model_states 55 = .ok (.putfield 58, 3) := by decide +kernel
theorem d_Model_states_58 : decode b_Model_states 58 = .ok (.return_, 1) := by decide +kernel
theorem d_Model_isState_0 : decode b_Model_isState 0 = .ok (.iload_n 1, 1) := by decide +kernel
theorem d_Model_isState_1 : decode b_Model_isState 1 = .ok (.ifCond .lt 15, 3) := by decide +kernel
theorem d_Model_isState_4 : decode b_Model_isState 4 = .ok (.iload_n 1, 1) := by decide +kernel
theorem d_Model_isState_5 : decode b_Model_isState 5 = .ok (.aload_n 0, 1) := by decide +kernel
theorem d_Model_isState_6 : decode b_Model_isState 6 = .ok (.getfield 19, 3) := by decide +kernel
theorem d_Model_isState_9 : decode b_Model_isState 9 = .ok (.if_icmp .ge 7, 3) := by decide +kernel
theorem d_Model_isState_12 : decode b_Model_isState 12 = .ok (.iconst 1, 1) := by decide +kernel
theorem d_Model_isState_13 : decode b_Model_isState 13 = .ok (.goto 4, 3) := by decide +kernel
theorem d_Model_isState_16 : decode b_Model_isState 16 = .ok (.iconst 0, 1) := by decide +kernel
theorem d_Model_isState_17 : decode b_Model_isState 17 = .ok (.ireturn, 1) := by decide +kernel
theorem d_Model_isPlace_0 : decode b_Model_isPlace 0 = .ok (.iload_n 1, 1) := by decide +kernel
theorem d_Model_isPlace_1 : decode b_Model_isPlace 1 = .ok (.ifCond .lt 15, 3) := by decide +kernel
theorem d_Model_isPlace_4 : decode b_Model_isPlace 4 = .ok (.iload_n 1, 1) := by decide +kernel
theorem d_Model_isPlace_5 : decode b_Model_isPlace 5 = .ok (.aload_n 0, 1) := by decide +kernel
theorem d_Model_isPlace_6 : decode b_Model_isPlace 6 = .ok (.getfield 55, 3) := by decide +kernel
theorem d_Model_isPlace_9 : decode b_Model_isPlace 9 = .ok (.if_icmp .ge 7, 3) := by decide +kernel
theorem d_Model_isPlace_12 : decode b_Model_isPlace 12 = .ok (.iconst 1, 1) := by decide +kernel
theorem d_Model_isPlace_13 : decode b_Model_isPlace 13 = .ok (.goto 4, 3) := by decide +kernel
theorem d_Model_isPlace_16 : decode b_Model_isPlace 16 = .ok (.iconst 0, 1) := by decide +kernel
theorem d_Model_isPlace_17 : decode b_Model_isPlace 17 = .ok (.ireturn, 1) := by decide +kernel
theorem d_Model_rule_0 : decode b_Model_rule 0 = .ok (.aload_n 0, 1) := by decide +kernel
theorem d_Model_rule_1 : decode b_Model_rule 1 = .ok (.aload_n 0, 1) := by decide +kernel
theorem d_Model_rule_2 : decode b_Model_rule 2 = .ok (.iload_n 1, 1) := by decide +kernel
theorem d_Model_rule_3 : decode b_Model_rule 3 = .ok (.invokevirtual 61, 3) := by decide +kernel
theorem d_Model_rule_6 : decode b_Model_rule 6 = .ok (.ifCond .eq 28, 3) := by decide +kernel
theorem d_Model_rule_9 : decode b_Model_rule 9 = .ok (.aload_n 0, 1) := by decide +kernel
theorem d_Model_rule_10 : decode b_Model_rule 10 = .ok (.iload 5, 2) := by decide +kernel
theorem d_Model_rule_12 : decode b_Model_rule 12 = .ok (.invokevirtual 61, 3) := by decide +kernel
theorem d_Model_rule_15 : decode b_Model_rule 15 = .ok (.ifCond .eq 19, 3) := by decide +kernel
theorem d_Model_rule_18 : decode b_Model_rule 18 = .ok (.iload_n 2, 1) := by decide +kernel
theorem d_Model_rule_19 : decode b_Model_rule 19 = .ok (.ifCond .lt 15, 3) := by decide +kernel
theorem d_Model_rule_22 : decode b_Model_rule 22 = .ok (.iload_n 2, 1) := by decide +kernel
theorem d_Model_rule_23 : decode b_Model_rule 23 = .ok (.bipush 7, 2) := by decide +kernel
theorem d_Model_rule_25 : decode b_Model_rule 25 = .ok (.if_icmp .gt 9, 3) := by decide +kernel
theorem d_Model_rule_28 : decode b_Model_rule 28 = .ok (.iload 4, 2) := by decide +kernel
theorem d_Model_rule_30 : decode b_Model_rule 30 = .ok (.iload_n 3, 1) := by decide +kernel
theorem d_Model_rule_31 : decode b_Model_rule 31 = .ok (.if_icmp .ge 7, 3) := by decide +kernel
theorem d_Model_rule_34 : decode b_Model_rule 34 = .ok (.iconst 1, 1) := by decide +kernel
theorem d_Model_rule_35 : decode b_Model_rule 35 = .ok (.goto 4, 3) := by decide +kernel
theorem d_Model_rule_38 : decode b_Model_rule 38 = .ok (.iconst 0, 1) := by decide +kernel
theorem d_Model_rule_39 : decode b_Model_rule 39 = .ok (.putfield 48, 3) := by decide +kernel
theorem d_Model_rule_42 : decode b_Model_rule 42 = .ok (.aload_n 0, 1) := by decide +kernel
theorem d_Model_rule_43 : decode b_Model_rule 43 = .ok (.getfield 48, 3) := by decide +kernel
theorem d_Model_rule_46 : decode b_Model_rule 46 = .ok (.ifCond .le 4, 3) := by decide +kernel
theorem d_Model_rule_49 : decode b_Model_rule 49 = .ok (.return_, 1) := by decide +kernel
theorem d_Model_rule_50 : decode b_Model_rule 50 = .ok (.bipush 8, 2) := by decide +kernel
theorem d_Model_rule_52 : decode b_Model_rule 52 = .ok (.iload_n 1, 1) := by decide +kernel
theorem d_Model_rule_53 : decode b_Model_rule 53 = .ok (.imul, 1) := by decide +kernel
theorem d_Model_rule_54 : decode b_Model_rule 54 = .ok (.iload_n 2, 1) := by decide +kernel
theorem d_Model_rule_55 : decode b_Model_rule 55 = .ok (.iadd, 1) := by decide +kernel
theorem d_Model_rule_56 : decode b_Model_rule 56 = .ok (.istore 6, 2) := by decide +kernel
theorem d_Model_rule_58 : decode b_Model_rule 58 = .ok (.aload_n 0, 1) := by decide +kernel
theorem d_Model_rule_59 : decode b_Model_rule 59 = .ok (.getfield 23, 3) := by decide +kernel
theorem d_Model_rule_62 : decode b_Model_rule 62 = .ok (.iload 6, 2) := by decide +kernel
theorem d_Model_rule_64 : decode b_Model_rule 64 = .ok (.iconst 1, 1) := by decide +kernel
theorem d_Model_rule_65 : decode b_Model_rule 65 = .ok (.bastore, 1) := by decide +kernel
theorem d_Model_rule_66 : decode b_Model_rule 66 = .ok (.aload_n 0, 1) := by decide +kernel
theorem d_Model_rule_67 : decode b_Model_rule 67 = .ok (.getfield 27, 3) := by decide +kernel
theorem d_Model_rule_70 : decode b_Model_rule 70 = .ok (.iload 6, 2) := by decide +kernel
theorem d_Model_rule_72 : decode b_Model_rule 72 = .ok (.iload_n 3, 1) := by decide +kernel
theorem d_Model_rule_73 : decode b_Model_rule 73 = .ok (.iastore, 1) := by decide +kernel
theorem d_Model_rule_74 : decode b_Model_rule 74 = .ok (.aload_n 0, 1) := by decide +kernel
theorem d_Model_rule_75 : decode b_Model_rule 75 = .ok (.getfield 30, 3) := by decide +kernel
theorem d_Model_rule_78 : decode b_Model_rule 78 = .ok (.iload 6, 2) := by decide +kernel
theorem d_Model_rule_80 : decode b_Model_rule 80 = .ok (.iload 4, 2) := by decide +kernel
theorem d_Model_rule_82 : decode b_Model_rule 82 = .ok (.iastore, 1) := by decide +kernel
theorem d_Model_rule_83 : decode b_Model_rule 83 = .ok (.aload_n 0, 1) := by decide +kernel
theorem d_Model_rule_84 : decode b_Model_rule 84 = .ok (.getfield 33, 3) := by decide +kernel
theorem d_Model_rule_87 : decode b_Model_rule 87 = .ok (.iload 6, 2) := by decide +kernel
theorem d_Model_rule_89 : decode b_Model_rule 89 = .ok (.iload 5, 2) := by decide +kernel
theorem d_Model_rule_91 : decode b_Model_rule 91 = .ok (.iastore, 1) := by decide +kernel
theorem d_Model_rule_92 : decode b_Model_rule 92 = .ok (.aload_n 0, 1) := by decide +kernel
theorem d_Model_rule_93 : decode b_Model_rule 93 = .ok (.iconst 0, 1) := by decide +kernel
theorem d_Model_rule_94 : decode b_Model_rule 94 = .ok (.putfield 58, 3) := by decide +kernel
theorem d_Model_rule_97 : decode b_Model_rule 97 = .ok (.return_, 1) := by decide +kernel
theorem d_Model_takes_0 : decode b_Model_takes 0 = .ok (.iload_n 0, 1) := by decide +kernel
theorem d_Model_takes_1 : decode b_Model_takes 1 = .ok (.iconst 2, 1) := by decide +kernel
theorem d_Model_takes_2 : decode b_Model_takes 2 = .ok (.if_icmp .eq 19, 3) := by decide +kernel
theorem d_Model_takes_5 : decode b_Model_takes 5 = .ok (.iload_n 0, 1) := by decide +kernel
theorem d_Model_takes_6 : decode b_Model_takes 6 = .ok (.iconst 3, 1) := by decide +kernel
theorem d_Model_takes_7 : decode b_Model_takes 7 = .ok (.if_icmp .eq 14, 3) := by decide +kernel
theorem d_Model_takes_10 : decode b_Model_takes 10 = .ok (.iload_n 0, 1) := by decide +kernel
theorem d_Model_takes_11 : decode b_Model_takes 11 = .ok (.iconst 4, 1) := by decide +kernel
theorem d_Model_takes_12 : decode b_Model_takes 12 = .ok (.if_icmp .eq 9, 3) := by decide +kernel
theorem d_Model_takes_15 : decode b_Model_takes 15 = .ok (.iload_n 0, 1) := by decide +kernel
theorem d_Model_takes_16 : decode b_Model_takes 16 = .ok (.bipush 10, 2) := by decide +kernel
theorem d_Model_takes_18 : decode b_Model_takes 18 = .ok (.if_icmp .ne 7, 3) := by decide +kernel
theorem d_Model_takes_21 : decode b_Model_takes 21 = .ok (.iconst 2, 1) := by decide +kernel
theorem d_Model_takes_22 : decode b_Model_takes 22 = .ok (.goto 37, 3) := by decide +kernel
theorem d_Model_takes_25 : decode b_Model_takes 25 = .ok (.iload_n 0, 1) := by decide +kernel
theorem d_Model_takes_26 : decode b_Model_takes 26 = .ok (.iconst 1, 1) := by decide +kernel
theorem d_Model_takes_27 : decode b_Model_takes 27 = .ok (.if_icmp .eq 27, 3) := by decide +kernel
theorem d_Model_takes_30 : decode b_Model_takes 30 = .ok (.iload_n 0, 1) := by decide +kernel
theorem d_Model_takes_31 : decode b_Model_takes 31 = .ok (.bipush 6, 2) := by decide +kernel
theorem d_Model_takes_33 : decode b_Model_takes 33 = .ok (.if_icmp .eq 21, 3) := by decide +kernel
theorem d_Model_takes_36 : decode b_Model_takes 36 = .ok (.iload_n 0, 1) := by decide +kernel
theorem d_Model_takes_37 : decode b_Model_takes 37 = .ok (.bipush 8, 2) := by decide +kernel
theorem d_Model_takes_39 : decode b_Model_takes 39 = .ok (.if_icmp .eq 15, 3) := by decide +kernel
theorem d_Model_takes_42 : decode b_Model_takes 42 = .ok (.iload_n 0, 1) := by decide +kernel
theorem d_Model_takes_43 : decode b_Model_takes 43 = .ok (.bipush 9, 2) := by decide +kernel
theorem d_Model_takes_45 : decode b_Model_takes 45 = .ok (.if_icmp .eq 9, 3) := by decide +kernel
theorem d_Model_takes_48 : decode b_Model_takes 48 = .ok (.iload_n 0, 1) := by decide +kernel
theorem d_Model_takes_49 : decode b_Model_takes 49 = .ok (.bipush 11, 2) := by decide +kernel
theorem d_Model_takes_51 : decode b_Model_takes 51 = .ok (.if_icmp .ne 7, 3) := by decide +kernel
theorem d_Model_takes_54 : decode b_Model_takes 54 = .ok (.iconst 1, 1) := by decide +kernel
theorem d_Model_takes_55 : decode b_Model_takes 55 = .ok (.goto 4, 3) := by decide +kernel
theorem d_Model_takes_58 : decode b_Model_takes 58 = .ok (.iconst 0, 1) := by decide +kernel
theorem d_Model_takes_59 : decode b_Model_takes 59 = .ok (.ireturn, 1) := by decide +kernel
theorem d_Model_gives_0 : decode b_Model_gives 0 = .ok (.iload_n 0, 1) := by decide +kernel
theorem d_Model_gives_1 : decode b_Model_gives 1 = .ok (.bipush 10, 2) := by decide +kernel
theorem d_Model_gives_3 : decode b_Model_gives 3 = .ok (.if_icmp .eq 9, 3) := by decide +kernel
theorem d_Model_gives_6 : decode b_Model_gives 6 = .ok (.iload_n 0, 1) := by decide +kernel
theorem d_Model_gives_7 : decode b_Model_gives 7 = .ok (.bipush 11, 2) := by decide +kernel
theorem d_Model_gives_9 : decode b_Model_gives 9 = .ok (.if_icmp .ne 7, 3) := by decide +kernel
theorem d_Model_gives_12 : decode b_Model_gives 12 = .ok (.iconst 2, 1) := by decide +kernel
theorem d_Model_gives_13 : decode b_Model_gives 13 = .ok (.goto 32, 3) := by decide +kernel
theorem d_Model_gives_16 : decode b_Model_gives 16 = .ok (.iload_n 0, 1) := by decide +kernel
theorem d_Model_gives_17 : decode b_Model_gives 17 = .ok (.ifCond .eq 23, 3) := by decide +kernel
theorem d_Model_gives_20 : decode b_Model_gives 20 = .ok (.iload_n 0, 1) := by decide +kernel
theorem d_Model_gives_21 : decode b_Model_gives 21 = .ok (.iconst 5, 1) := by decide +kernel
theorem d_Model_gives_22 : decode b_Model_gives 22 = .ok (.if_icmp .eq 18, 3) := by decide +kernel
theorem d_Model_gives_25 : decode b_Model_gives 25 = .ok (.iload_n 0, 1) := by decide +kernel
theorem d_Model_gives_26 : decode b_Model_gives 26 = .ok (.iconst 2, 1) := by decide +kernel
theorem d_Model_gives_27 : decode b_Model_gives 27 = .ok (.if_icmp .eq 13, 3) := by decide +kernel
theorem d_Model_gives_30 : decode b_Model_gives 30 = .ok (.iload_n 0, 1) := by decide +kernel
theorem d_Model_gives_31 : decode b_Model_gives 31 = .ok (.iconst 3, 1) := by decide +kernel
theorem d_Model_gives_32 : decode b_Model_gives 32 = .ok (.if_icmp .eq 8, 3) := by decide +kernel
theorem d_Model_gives_35 : decode b_Model_gives 35 = .ok (.iload_n 0, 1) := by decide +kernel
theorem d_Model_gives_36 : decode b_Model_gives 36 = .ok (.iconst 4, 1) := by decide +kernel
theorem d_Model_gives_37 : decode b_Model_gives 37 = .ok (.if_icmp .ne 7, 3) := by decide +kernel
theorem d_Model_gives_40 : decode b_Model_gives 40 = .ok (.iconst 1, 1) := by decide +kernel
theorem d_Model_gives_41 : decode b_Model_gives 41 = .ok (.goto 4, 3) := by decide +kernel
theorem d_Model_gives_44 : decode b_Model_gives 44 = .ok (.iconst 0, 1) := by decide +kernel
theorem d_Model_gives_45 : decode b_Model_gives 45 = .ok (.ireturn, 1) := by decide +kernel
theorem d_Model_isK_0 : decode b_Model_isK 0 = .ok (.aload_n 0, 1) := by decide +kernel
theorem d_Model_isK_1 : decode b_Model_isK 1 = .ok (.getfield 7, 3) := by decide +kernel
theorem d_Model_isK_4 : decode b_Model_isK 4 = .ok (.iload_n 1, 1) := by decide +kernel
theorem d_Model_isK_5 : decode b_Model_isK 5 = .ok (.iaload, 1) := by decide +kernel
theorem d_Model_isK_6 : decode b_Model_isK 6 = .ok (.istore_n 2, 1) := by decide +kernel
theorem d_Model_isK_7 : decode b_Model_isK 7 = .ok (.aload_n 0, 1) := by decide +kernel
theorem d_Model_isK_8 : decode b_Model_isK 8 = .ok (.getfield 13, 3) := by decide +kernel
theorem d_Model_isK_11 : decode b_Model_isK 11 = .ok (.iload_n 1, 1) := by decide +kernel
theorem d_Model_isK_12 : decode b_Model_isK 12 = .ok (.iaload, 1) := by decide +kernel
theorem d_Model_isK_13 : decode b_Model_isK 13 = .ok (.istore_n 3, 1) := by decide +kernel
theorem d_Model_isK_14 : decode b_Model_isK 14 = .ok (.iload_n 2, 1) := by decide +kernel
theorem d_Model_isK_15 : decode b_Model_isK 15 = .ok (.iconst 5, 1) := by decide +kernel
theorem d_Model_isK_16 : decode b_Model_isK 16 = .ok (.if_icmp .eq 9, 3) := by decide +kernel
theorem d_Model_isK_19 : decode b_Model_isK 19 = .ok (.iload_n 2, 1) := by decide +kernel
theorem d_Model_isK_20 : decode b_Model_isK 20 = .ok (.bipush 6, 2) := by decide +kernel
theorem d_Model_isK_22 : decode b_Model_isK 22 = .ok (.if_icmp .ne 19, 3) := by decide +kernel
theorem d_Model_isK_25 : decode b_Model_isK 25 = .ok (.iload_n 3, 1) := by decide +kernel
theorem d_Model_isK_26 : decode b_Model_isK 26 = .ok (.ifCond .lt 13, 3) := by decide +kernel
theorem d_Model_isK_29 : decode b_Model_isK 29 = .ok (.iload_n 3, 1) := by decide +kernel
theorem d_Model_isK_30 : decode b_Model_isK 30 = .ok (.bipush 7, 2) := by decide +kernel
theorem d_Model_isK_32 : decode b_Model_isK 32 = .ok (.if_icmp .ge 7, 3) := by decide +kernel
theorem d_Model_isK_35 : decode b_Model_isK 35 = .ok (.iconst 1, 1) := by decide +kernel
theorem d_Model_isK_36 : decode b_Model_isK 36 = .ok (.goto 4, 3) := by decide +kernel
theorem d_Model_isK_39 : decode b_Model_isK 39 = .ok (.iconst 0, 1) := by decide +kernel
theorem d_Model_isK_40 : decode b_Model_isK 40 = .ok (.ireturn, 1) := by decide +kernel
theorem d_Model_isK_41 : decode b_Model_isK 41 = .ok (.iload_n 2, 1) := by decide +kernel
theorem d_Model_isK_42 : decode b_Model_isK 42 = .ok (.bipush 9, 2) := by decide +kernel
theorem d_Model_isK_44 : decode b_Model_isK 44 = .ok (.if_icmp .ne 19, 3) := by decide +kernel
theorem d_Model_isK_47 : decode b_Model_isK 47 = .ok (.iload_n 3, 1) := by decide +kernel
theorem d_Model_isK_48 : decode b_Model_isK 48 = .ok (.ifCond .lt 13, 3) := by decide +kernel
theorem d_Model_isK_51 : decode b_Model_isK 51 = .ok (.iload_n 3, 1) := by decide +kernel
theorem d_Model_isK_52 : decode b_Model_isK 52 = .ok (.bipush 8, 2) := by decide +kernel
theorem d_Model_isK_54 : decode b_Model_isK 54 = .ok (.if_icmp .ge 7, 3) := by decide +kernel
theorem d_Model_isK_57 : decode b_Model_isK 57 = .ok (.iconst 1, 1) := by decide +kernel
theorem d_Model_isK_58 : decode b_Model_isK 58 = .ok (.goto 4, 3) := by decide +kernel
theorem d_Model_isK_61 : decode b_Model_isK 61 = .ok (.iconst 0, 1) := by decide +kernel
theorem d_Model_isK_62 : decode b_Model_isK 62 = .ok (.ireturn, 1) := by decide +kernel
theorem d_Model_isK_63 : decode b_Model_isK 63 = .ok (.iload_n 2, 1) := by decide +kernel
theorem d_Model_isK_64 : decode b_Model_isK 64 = .ok (.bipush 7, 2) := by decide +kernel
theorem d_Model_isK_66 : decode b_Model_isK 66 = .ok (.if_icmp .eq 9, 3) := by decide +kernel
theorem d_Model_isK_69 : decode b_Model_isK 69 = .ok (.iload_n 2, 1) := by decide +kernel
theorem d_Model_isK_70 : decode b_Model_isK 70 = .ok (.bipush 8, 2) := by decide +kernel
theorem d_Model_isK_72 : decode b_Model_isK 72 = .ok (.if_icmp .ne 11, 3) := by decide +kernel
theorem d_Model_isK_75 : decode b_Model_isK 75 = .ok (.aload_n 0, 1) := by decide +kernel
theorem d_Model_isK_76 : decode b_Model_isK 76 = .ok (.iload_n 3, 1) := by decide +kernel
theorem d_Model_isK_77 : decode b_Model_isK 77 = .ok (.invokevirtual 65, 3) := by decide +kernel
theorem d_Model_isK_80 : decode b_Model_isK 80 = .ok (.ifCond .eq 7, 3) := by decide +kernel
theorem d_Model_isK_83 : decode b_Model_isK 83 = .ok (.iconst 1, 1) := by decide +kernel
theorem d_Model_isK_84 : decode b_Model_isK 84 = .ok (.goto 4, 3) := by decide +kernel
theorem d_Model_isK_87 : decode b_Model_isK 87 = .ok (.iconst 0, 1) := by decide +kernel
theorem d_Model_isK_88 : decode b_Model_isK 88 = .ok (.ireturn, 1) := by decide +kernel
theorem d_Model_reach_0 : decode b_Model_reach 0 = .ok (.aload_n 0, 1) := by decide +kernel
theorem d_Model_reach_1 : decode b_Model_reach 1 = .ok (.iload_n 1, 1) := by decide +kernel
theorem d_Model_reach_2 : decode b_Model_reach 2 = .ok (.invokevirtual 65, 3) := by decide +kernel
theorem d_Model_reach_5 : decode b_Model_reach 5 = .ok (.ifCond .eq 22, 3) := by decide +kernel
theorem d_Model_reach_8 : decode b_Model_reach 8 = .ok (.aload_n 0, 1) := by decide +kernel
theorem d_Model_reach_9 : decode b_Model_reach 9 = .ok (.getfield 16, 3) := by decide +kernel
theorem d_Model_reach_12 : decode b_Model_reach 12 = .ok (.iload_n 1, 1) := by decide +kernel
theorem d_Model_reach_13 : decode b_Model_reach 13 = .ok (.iaload, 1) := by decide +kernel
theorem d_Model_reach_14 : decode b_Model_reach 14 = .ok (.ifCond .lt 15, 3) := by decide +kernel
theorem d_Model_reach_17 : decode b_Model_reach 17 = .ok (.aload_n 0, 1) := by decide +kernel
theorem d_Model_reach_18 : decode b_Model_reach 18 = .ok (.getfield 16, 3) := by decide +kernel
theorem d_Model_reach_21 : decode b_Model_reach 21 = .ok (.iload_n 1, 1) := by decide +kernel
theorem d_Model_reach_22 : decode b_Model_reach 22 = .ok (.iaload, 1) := by decide +kernel
theorem d_Model_reach_23 : decode b_Model_reach 23 = .ok (.iload_n 2, 1) := by decide +kernel
theorem d_Model_reach_24 : decode b_Model_reach 24 = .ok (.if_icmp .eq 5, 3) := by decide +kernel
theorem d_Model_reach_27 : decode b_Model_reach 27 = .ok (.iconst 0, 1) := by decide +kernel
theorem d_Model_reach_28 : decode b_Model_reach 28 = .ok (.ireturn, 1) := by decide +kernel
theorem d_Model_reach_29 : decode b_Model_reach 29 = .ok (.aload_n 0, 1) := by decide +kernel
theorem d_Model_reach_30 : decode b_Model_reach 30 = .ok (.getfield 16, 3) := by decide +kernel
theorem d_Model_reach_33 : decode b_Model_reach 33 = .ok (.iload_n 1, 1) := by decide +kernel
theorem d_Model_reach_34 : decode b_Model_reach 34 = .ok (.iload_n 2, 1) := by decide +kernel
theorem d_Model_reach_35 : decode b_Model_reach 35 = .ok (.iastore, 1) := by decide +kernel
theorem d_Model_reach_36 : decode b_Model_reach 36 = .ok (.iconst 1, 1) := by decide +kernel
theorem d_Model_reach_37 : decode b_Model_reach 37 = .ok (.ireturn, 1) := by decide +kernel
