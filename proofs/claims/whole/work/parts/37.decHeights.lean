/-! Decode rows of Heights. -/
theorem d_Heights_numberFits_0 : decode b_Heights_numberFits 0 = .ok (.iload_n 0, 1) := by decide +kernel
theorem d_Heights_numberFits_1 : decode b_Heights_numberFits 1 = .ok (.tableswitch 82 5 9 #[35, 35, 51, 51, 66], 35) := by decide +kernel
theorem d_Heights_numberFits_36 : decode b_Heights_numberFits 36 = .ok (.iload_n 1, 1) := by decide +kernel
theorem d_Heights_numberFits_37 : decode b_Heights_numberFits 37 = .ok (.ifCond .lt 13, 3) := by decide +kernel
theorem d_Heights_numberFits_40 : decode b_Heights_numberFits 40 = .ok (.iload_n 1, 1) := by decide +kernel
theorem d_Heights_numberFits_41 : decode b_Heights_numberFits 41 = .ok (.bipush 7, 2) := by decide +kernel
theorem d_Heights_numberFits_43 : decode b_Heights_numberFits 43 = .ok (.if_icmp .ge 7, 3) := by decide +kernel
theorem d_Heights_numberFits_46 : decode b_Heights_numberFits 46 = .ok (.iconst 1, 1) := by decide +kernel
theorem d_Heights_numberFits_47 : decode b_Heights_numberFits 47 = .ok (.goto 4, 3) := by decide +kernel
theorem d_Heights_numberFits_50 : decode b_Heights_numberFits 50 = .ok (.iconst 0, 1) := by decide +kernel
theorem d_Heights_numberFits_51 : decode b_Heights_numberFits 51 = .ok (.ireturn, 1) := by decide +kernel
theorem d_Heights_numberFits_52 : decode b_Heights_numberFits 52 = .ok (.iload_n 1, 1) := by decide +kernel
theorem d_Heights_numberFits_53 : decode b_Heights_numberFits 53 = .ok (.ifCond .lt 12, 3) := by decide +kernel
theorem d_Heights_numberFits_56 : decode b_Heights_numberFits 56 = .ok (.iload_n 1, 1) := by decide +kernel
theorem d_Heights_numberFits_57 : decode b_Heights_numberFits 57 = .ok (.iload_n 2, 1) := by decide +kernel
theorem d_Heights_numberFits_58 : decode b_Heights_numberFits 58 = .ok (.if_icmp .ge 7, 3) := by decide +kernel
theorem d_Heights_numberFits_61 : decode b_Heights_numberFits 61 = .ok (.iconst 1, 1) := by decide +kernel
theorem d_Heights_numberFits_62 : decode b_Heights_numberFits 62 = .ok (.goto 4, 3) := by decide +kernel
theorem d_Heights_numberFits_65 : decode b_Heights_numberFits 65 = .ok (.iconst 0, 1) := by decide +kernel
theorem d_Heights_numberFits_66 : decode b_Heights_numberFits 66 = .ok (.ireturn, 1) := by decide +kernel
theorem d_Heights_numberFits_67 : decode b_Heights_numberFits 67 = .ok (.iload_n 1, 1) := by decide +kernel
theorem d_Heights_numberFits_68 : decode b_Heights_numberFits 68 = .ok (.ifCond .lt 13, 3) := by decide +kernel
theorem d_Heights_numberFits_71 : decode b_Heights_numberFits 71 = .ok (.iload_n 1, 1) := by decide +kernel
theorem d_Heights_numberFits_72 : decode b_Heights_numberFits 72 = .ok (.bipush 8, 2) := by decide +kernel
theorem d_Heights_numberFits_74 : decode b_Heights_numberFits 74 = .ok (.if_icmp .ge 7, 3) := by decide +kernel
theorem d_Heights_numberFits_77 : decode b_Heights_numberFits 77 = .ok (.iconst 1, 1) := by decide +kernel
theorem d_Heights_numberFits_78 : decode b_Heights_numberFits 78 = .ok (.goto 4, 3) := by decide +kernel
theorem d_Heights_numberFits_81 : decode b_Heights_numberFits 81 = .ok (.iconst 0, 1) := by decide +kernel
theorem d_Heights_numberFits_82 : decode b_Heights_numberFits 82 = .ok (.ireturn, 1) := by decide +kernel
theorem d_Heights_numberFits_83 : decode b_Heights_numberFits 83 = .ok (.iconst 1, 1) := by decide +kernel
theorem d_Heights_numberFits_84 : decode b_Heights_numberFits 84 = .ok (.ireturn, 1) := by decide +kernel
theorem d_Heights_numbersFit_0 : decode b_Heights_numbersFit 0 = .ok (.iconst 0, 1) := by decide +kernel
theorem d_Heights_numbersFit_1 : decode b_Heights_numbersFit 1 = .ok (.istore_n 1, 1) := by decide +kernel
theorem d_Heights_numbersFit_2 : decode b_Heights_numbersFit 2 = .ok (.iload_n 1, 1) := by decide +kernel
theorem d_Heights_numbersFit_3 : decode b_Heights_numbersFit 3 = .ok (.aload_n 0, 1) := by decide +kernel
theorem d_Heights_numbersFit_4 : decode b_Heights_numbersFit 4 = .ok (.getfield 26, 3) := by decide +kernel
theorem d_Heights_numbersFit_7 : decode b_Heights_numbersFit 7 = .ok (.if_icmp .ge 33, 3) := by decide +kernel
theorem d_Heights_numbersFit_10 : decode b_Heights_numbersFit 10 = .ok (.aload_n 0, 1) := by decide +kernel
theorem d_Heights_numbersFit_11 : decode b_Heights_numbersFit 11 = .ok (.getfield 38, 3) := by decide +kernel
theorem d_Heights_numbersFit_14 : decode b_Heights_numbersFit 14 = .ok (.iload_n 1, 1) := by decide +kernel
theorem d_Heights_numbersFit_15 : decode b_Heights_numbersFit 15 = .ok (.iaload, 1) := by decide +kernel
theorem d_Heights_numbersFit_16 : decode b_Heights_numbersFit 16 = .ok (.aload_n 0, 1) := by decide +kernel
theorem d_Heights_numbersFit_17 : decode b_Heights_numbersFit 17 = .ok (.getfield 41, 3) := by decide +kernel
theorem d_Heights_numbersFit_20 : decode b_Heights_numbersFit 20 = .ok (.iload_n 1, 1) := by decide +kernel
theorem d_Heights_numbersFit_21 : decode b_Heights_numbersFit 21 = .ok (.iaload, 1) := by decide +kernel
theorem d_Heights_numbersFit_22 : decode b_Heights_numbersFit 22 = .ok (.aload_n 0, 1) := by decide +kernel
theorem d_Heights_numbersFit_23 : decode b_Heights_numbersFit 23 = .ok (.getfield 26, 3) := by decide +kernel
theorem d_Heights_numbersFit_26 : decode b_Heights_numbersFit 26 = .ok (.invokestatic 44, 3) := by decide +kernel
theorem d_Heights_numbersFit_29 : decode b_Heights_numbersFit 29 = .ok (.ifCond .ne 5, 3) := by decide +kernel
theorem d_Heights_numbersFit_32 : decode b_Heights_numbersFit 32 = .ok (.iconst 0, 1) := by decide +kernel
theorem d_Heights_numbersFit_33 : decode b_Heights_numbersFit 33 = .ok (.ireturn, 1) := by decide +kernel
theorem d_Heights_numbersFit_34 : decode b_Heights_numbersFit 34 = .ok (.iinc 1 1, 3) := by decide +kernel
theorem d_Heights_numbersFit_37 : decode b_Heights_numbersFit 37 = .ok (.goto (-35), 3) := by decide +kernel
theorem d_Heights_numbersFit_40 : decode b_Heights_numbersFit 40 = .ok (.iconst 1, 1) := by decide +kernel
theorem d_Heights_numbersFit_41 : decode b_Heights_numbersFit 41 = .ok (.ireturn, 1) := by decide +kernel
theorem d_Heights_reach_0 : decode b_Heights_reach 0 = .ok (.iload_n 2, 1) := by decide +kernel
theorem d_Heights_reach_1 : decode b_Heights_reach 1 = .ok (.ifCond .lt 11, 3) := by decide +kernel
theorem d_Heights_reach_4 : decode b_Heights_reach 4 = .ok (.iload_n 2, 1) := by decide +kernel
theorem d_Heights_reach_5 : decode b_Heights_reach 5 = .ok (.aload_n 1, 1) := by decide +kernel
theorem d_Heights_reach_6 : decode b_Heights_reach 6 = .ok (.getfield 26, 3) := by decide +kernel
theorem d_Heights_reach_9 : decode b_Heights_reach 9 = .ok (.if_icmp .lt 5, 3) := by decide +kernel
theorem d_Heights_reach_12 : decode b_Heights_reach 12 = .ok (.iconst 0, 1) := by decide +kernel
theorem d_Heights_reach_13 : decode b_Heights_reach 13 = .ok (.ireturn, 1) := by decide +kernel
theorem d_Heights_reach_14 : decode b_Heights_reach 14 = .ok (.aload_n 0, 1) := by decide +kernel
theorem d_Heights_reach_15 : decode b_Heights_reach 15 = .ok (.getfield 9, 3) := by decide +kernel
theorem d_Heights_reach_18 : decode b_Heights_reach 18 = .ok (.iload_n 2, 1) := by decide +kernel
theorem d_Heights_reach_19 : decode b_Heights_reach 19 = .ok (.iaload, 1) := by decide +kernel
theorem d_Heights_reach_20 : decode b_Heights_reach 20 = .ok (.iconst (-1), 1) := by decide +kernel
theorem d_Heights_reach_21 : decode b_Heights_reach 21 = .ok (.if_icmp .ne 30, 3) := by decide +kernel
theorem d_Heights_reach_24 : decode b_Heights_reach 24 = .ok (.aload_n 0, 1) := by decide +kernel
theorem d_Heights_reach_25 : decode b_Heights_reach 25 = .ok (.getfield 9, 3) := by decide +kernel
theorem d_Heights_reach_28 : decode b_Heights_reach 28 = .ok (.iload_n 2, 1) := by decide +kernel
theorem d_Heights_reach_29 : decode b_Heights_reach 29 = .ok (.iload_n 3, 1) := by decide +kernel
theorem d_Heights_reach_30 : decode b_Heights_reach 30 = .ok (.iastore, 1) := by decide +kernel
theorem d_Heights_reach_31 : decode b_Heights_reach 31 = .ok (.aload_n 0, 1) := by decide +kernel
theorem d_Heights_reach_32 : decode b_Heights_reach 32 = .ok (.getfield 15, 3) := by decide +kernel
theorem d_Heights_reach_35 : decode b_Heights_reach 35 = .ok (.aload_n 0, 1) := by decide +kernel
theorem d_Heights_reach_36 : decode b_Heights_reach 36 = .ok (.getfield 18, 3) := by decide +kernel
theorem d_Heights_reach_39 : decode b_Heights_reach 39 = .ok (.iload_n 2, 1) := by decide +kernel
theorem d_Heights_reach_40 : decode b_Heights_reach 40 = .ok (.iastore, 1) := by decide +kernel
theorem d_Heights_reach_41 : decode b_Heights_reach 41 = .ok (.aload_n 0, 1) := by decide +kernel
theorem d_Heights_reach_42 : decode b_Heights_reach 42 = .ok (.dup, 1) := by decide +kernel
theorem d_Heights_reach_43 : decode b_Heights_reach 43 = .ok (.getfield 18, 3) := by decide +kernel
theorem d_Heights_reach_46 : decode b_Heights_reach 46 = .ok (.iconst 1, 1) := by decide +kernel
theorem d_Heights_reach_47 : decode b_Heights_reach 47 = .ok (.iadd, 1) := by decide +kernel
theorem d_Heights_reach_48 : decode b_Heights_reach 48 = .ok (.putfield 18, 3) := by decide +kernel
theorem d_Heights_reach_51 : decode b_Heights_reach 51 = .ok (.aload_n 0, 1) := by decide +kernel
theorem d_Heights_reach_52 : decode b_Heights_reach 52 = .ok (.getfield 9, 3) := by decide +kernel
theorem d_Heights_reach_55 : decode b_Heights_reach 55 = .ok (.iload_n 2, 1) := by decide +kernel
theorem d_Heights_reach_56 : decode b_Heights_reach 56 = .ok (.iaload, 1) := by decide +kernel
theorem d_Heights_reach_57 : decode b_Heights_reach 57 = .ok (.iload_n 3, 1) := by decide +kernel
theorem d_Heights_reach_58 : decode b_Heights_reach 58 = .ok (.if_icmp .ne 7, 3) := by decide +kernel
theorem d_Heights_reach_61 : decode b_Heights_reach 61 = .ok (.iconst 1, 1) := by decide +kernel
theorem d_Heights_reach_62 : decode b_Heights_reach 62 = .ok (.goto 4, 3) := by decide +kernel
theorem d_Heights_reach_65 : decode b_Heights_reach 65 = .ok (.iconst 0, 1) := by decide +kernel
theorem d_Heights_reach_66 : decode b_Heights_reach 66 = .ok (.ireturn, 1) := by decide +kernel
theorem d_Heights_waysOnFit_0 : decode b_Heights_waysOnFit 0 = .ok (.aload_n 1, 1) := by decide +kernel
theorem d_Heights_waysOnFit_1 : decode b_Heights_waysOnFit 1 = .ok (.getfield 38, 3) := by decide +kernel
theorem d_Heights_waysOnFit_4 : decode b_Heights_waysOnFit 4 = .ok (.iload_n 2, 1) := by decide +kernel
theorem d_Heights_waysOnFit_5 : decode b_Heights_waysOnFit 5 = .ok (.iaload, 1) := by decide +kernel
theorem d_Heights_waysOnFit_6 : decode b_Heights_waysOnFit 6 = .ok (.istore_n 3, 1) := by decide +kernel
theorem d_Heights_waysOnFit_7 : decode b_Heights_waysOnFit 7 = .ok (.aload_n 0, 1) := by decide +kernel
theorem d_Heights_waysOnFit_8 : decode b_Heights_waysOnFit 8 = .ok (.getfield 9, 3) := by decide +kernel
theorem d_Heights_waysOnFit_11 : decode b_Heights_waysOnFit 11 = .ok (.iload_n 2, 1) := by decide +kernel
theorem d_Heights_waysOnFit_12 : decode b_Heights_waysOnFit 12 = .ok (.iaload, 1) := by decide +kernel
theorem d_Heights_waysOnFit_13 : decode b_Heights_waysOnFit 13 = .ok (.getstatic 56, 3) := by decide +kernel
theorem d_Heights_waysOnFit_16 : decode b_Heights_waysOnFit 16 = .ok (.iload_n 3, 1) := by decide +kernel
theorem d_Heights_waysOnFit_17 : decode b_Heights_waysOnFit 17 = .ok (.iaload, 1) := by decide +kernel
theorem d_Heights_waysOnFit_18 : decode b_Heights_waysOnFit 18 = .ok (.isub, 1) := by decide +kernel
theorem d_Heights_waysOnFit_19 : decode b_Heights_waysOnFit 19 = .ok (.istore 4, 2) := by decide +kernel
theorem d_Heights_waysOnFit_21 : decode b_Heights_waysOnFit 21 = .ok (.iload 4, 2) := by decide +kernel
theorem d_Heights_waysOnFit_23 : decode b_Heights_waysOnFit 23 = .ok (.getstatic 59, 3) := by decide +kernel
theorem d_Heights_waysOnFit_26 : decode b_Heights_waysOnFit 26 = .ok (.iload_n 3, 1) := by decide +kernel
theorem d_Heights_waysOnFit_27 : decode b_Heights_waysOnFit 27 = .ok (.iaload, 1) := by decide +kernel
theorem d_Heights_waysOnFit_28 : decode b_Heights_waysOnFit 28 = .ok (.iadd, 1) := by decide +kernel
theorem d_Heights_waysOnFit_29 : decode b_Heights_waysOnFit 29 = .ok (.istore 5, 2) := by decide +kernel
theorem d_Heights_waysOnFit_31 : decode b_Heights_waysOnFit 31 = .ok (.iload 4, 2) := by decide +kernel
theorem d_Heights_waysOnFit_33 : decode b_Heights_waysOnFit 33 = .ok (.ifCond .lt 10, 3) := by decide +kernel
theorem d_Heights_waysOnFit_36 : decode b_Heights_waysOnFit 36 = .ok (.iload 5, 2) := by decide +kernel
theorem d_Heights_waysOnFit_38 : decode b_Heights_waysOnFit 38 = .ok (.bipush 12, 2) := by decide +kernel
theorem d_Heights_waysOnFit_40 : decode b_Heights_waysOnFit 40 = .ok (.if_icmp .le 5, 3) := by decide +kernel
theorem d_Heights_waysOnFit_43 : decode b_Heights_waysOnFit 43 = .ok (.iconst 0, 1) := by decide +kernel
theorem d_Heights_waysOnFit_44 : decode b_Heights_waysOnFit 44 = .ok (.ireturn, 1) := by decide +kernel
theorem d_Heights_waysOnFit_45 : decode b_Heights_waysOnFit 45 = .ok (.iload_n 3, 1) := by decide +kernel
theorem d_Heights_waysOnFit_46 : decode b_Heights_waysOnFit 46 = .ok (.invokestatic 62, 3) := by decide +kernel
theorem d_Heights_waysOnFit_49 : decode b_Heights_waysOnFit 49 = .ok (.ifCond .eq 21, 3) := by decide +kernel
theorem d_Heights_waysOnFit_52 : decode b_Heights_waysOnFit 52 = .ok (.aload_n 0, 1) := by decide +kernel
theorem d_Heights_waysOnFit_53 : decode b_Heights_waysOnFit 53 = .ok (.aload_n 1, 1) := by decide +kernel
theorem d_Heights_waysOnFit_54 : decode b_Heights_waysOnFit 54 = .ok (.aload_n 1, 1) := by decide +kernel
theorem d_Heights_waysOnFit_55 : decode b_Heights_waysOnFit 55 = .ok (.getfield 41, 3) := by decide +kernel
theorem d_Heights_waysOnFit_58 : decode b_Heights_waysOnFit 58 = .ok (.iload_n 2, 1) := by decide +kernel
theorem d_Heights_waysOnFit_59 : decode b_Heights_waysOnFit 59 = .ok (.iaload, 1) := by decide +kernel
theorem d_Heights_waysOnFit_60 : decode b_Heights_waysOnFit 60 = .ok (.iload 5, 2) := by decide +kernel
theorem d_Heights_waysOnFit_62 : decode b_Heights_waysOnFit 62 = .ok (.invokevirtual 48, 3) := by decide +kernel
theorem d_Heights_waysOnFit_65 : decode b_Heights_waysOnFit 65 = .ok (.ifCond .ne 5, 3) := by decide +kernel
theorem d_Heights_waysOnFit_68 : decode b_Heights_waysOnFit 68 = .ok (.iconst 0, 1) := by decide +kernel
theorem d_Heights_waysOnFit_69 : decode b_Heights_waysOnFit 69 = .ok (.ireturn, 1) := by decide +kernel
theorem d_Heights_waysOnFit_70 : decode b_Heights_waysOnFit 70 = .ok (.iload_n 3, 1) := by decide +kernel
theorem d_Heights_waysOnFit_71 : decode b_Heights_waysOnFit 71 = .ok (.bipush 7, 2) := by decide +kernel
theorem d_Heights_waysOnFit_73 : decode b_Heights_waysOnFit 73 = .ok (.if_icmp .eq 22, 3) := by decide +kernel
theorem d_Heights_waysOnFit_76 : decode b_Heights_waysOnFit 76 = .ok (.iload_n 3, 1) := by decide +kernel
theorem d_Heights_waysOnFit_77 : decode b_Heights_waysOnFit 77 = .ok (.bipush 12, 2) := by decide +kernel
theorem d_Heights_waysOnFit_79 : decode b_Heights_waysOnFit 79 = .ok (.if_icmp .eq 16, 3) := by decide +kernel
theorem d_Heights_waysOnFit_82 : decode b_Heights_waysOnFit 82 = .ok (.aload_n 0, 1) := by decide +kernel
theorem d_Heights_waysOnFit_83 : decode b_Heights_waysOnFit 83 = .ok (.aload_n 1, 1) := by decide +kernel
theorem d_Heights_waysOnFit_84 : decode b_Heights_waysOnFit 84 = .ok (.iload_n 2, 1) := by decide +kernel
theorem d_Heights_waysOnFit_85 : decode b_Heights_waysOnFit 85 = .ok (.iconst 1, 1) := by decide +kernel
theorem d_Heights_waysOnFit_86 : decode b_Heights_waysOnFit 86 = .ok (.iadd, 1) := by decide +kernel
theorem d_Heights_waysOnFit_87 : decode b_Heights_waysOnFit 87 = .ok (.iload 5, 2) := by decide +kernel
theorem d_Heights_waysOnFit_89 : decode b_Heights_waysOnFit 89 = .ok (.invokevirtual 48, 3) := by decide +kernel
theorem d_Heights_waysOnFit_92 : decode b_Heights_waysOnFit 92 = .ok (.ifCond .eq 7, 3) := by decide +kernel
theorem d_Heights_waysOnFit_95 : decode b_Heights_waysOnFit 95 = .ok (.iconst 1, 1) := by decide +kernel
theorem d_Heights_waysOnFit_96 : decode b_Heights_waysOnFit 96 = .ok (.goto 4, 3) := by decide +kernel
theorem d_Heights_waysOnFit_99 : decode b_Heights_waysOnFit 99 = .ok (.iconst 0, 1) := by decide +kernel
theorem d_Heights_waysOnFit_100 : decode b_Heights_waysOnFit 100 = .ok (.ireturn, 1) := by decide +kernel
theorem d_Heights_heightsFit_0 : decode b_Heights_heightsFit 0 = .ok (.iconst 0, 1) := by decide +kernel
theorem d_Heights_heightsFit_1 : decode b_Heights_heightsFit 1 = .ok (.istore_n 2, 1) := by decide +kernel
theorem d_Heights_heightsFit_2 : decode b_Heights_heightsFit 2 = .ok (.iload_n 2, 1) := by decide +kernel
theorem d_Heights_heightsFit_3 : decode b_Heights_heightsFit 3 = .ok (.aload_n 1, 1) := by decide +kernel
theorem d_Heights_heightsFit_4 : decode b_Heights_heightsFit 4 = .ok (.getfield 26, 3) := by decide +kernel
theorem d_Heights_heightsFit_7 : decode b_Heights_heightsFit 7 = .ok (.if_icmp .ge 16, 3) := by decide +kernel
theorem d_Heights_heightsFit_10 : decode b_Heights_heightsFit 10 = .ok (.aload_n 0, 1) := by decide +kernel
theorem d_Heights_heightsFit_11 : decode b_Heights_heightsFit 11 = .ok (.getfield 9, 3) := by decide +kernel
theorem d_Heights_heightsFit_14 : decode b_Heights_heightsFit 14 = .ok (.iload_n 2, 1) := by decide +kernel
theorem d_Heights_heightsFit_15 : decode b_Heights_heightsFit 15 = .ok (.iconst (-1), 1) := by decide +kernel
theorem d_Heights_heightsFit_16 : decode b_Heights_heightsFit 16 = .ok (.iastore, 1) := by decide +kernel
theorem d_Heights_heightsFit_17 : decode b_Heights_heightsFit 17 = .ok (.iinc 2 1, 3) := by decide +kernel
theorem d_Heights_heightsFit_20 : decode b_Heights_heightsFit 20 = .ok (.goto (-18), 3) := by decide +kernel
theorem d_Heights_heightsFit_23 : decode b_Heights_heightsFit 23 = .ok (.aload_n 0, 1) := by decide +kernel
theorem d_Heights_heightsFit_24 : decode b_Heights_heightsFit 24 = .ok (.iconst 0, 1) := by decide +kernel
theorem d_Heights_heightsFit_25 : decode b_Heights_heightsFit 25 = .ok (.putfield 18, 3) := by decide +kernel
theorem d_Heights_heightsFit_28 : decode b_Heights_heightsFit 28 = .ok (.aload_n 0, 1) := by decide +kernel
theorem d_Heights_heightsFit_29 : decode b_Heights_heightsFit 29 = .ok (.aload_n 1, 1) := by decide +kernel
theorem d_Heights_heightsFit_30 : decode b_Heights_heightsFit 30 = .ok (.iconst 0, 1) := by decide +kernel
theorem d_Heights_heightsFit_31 : decode b_Heights_heightsFit 31 = .ok (.iconst 0, 1) := by decide +kernel
theorem d_Heights_heightsFit_32 : decode b_Heights_heightsFit 32 = .ok (.invokevirtual 48, 3) := by decide +kernel
theorem d_Heights_heightsFit_35 : decode b_Heights_heightsFit 35 = .ok (.pop, 1) := by decide +kernel
theorem d_Heights_heightsFit_36 : decode b_Heights_heightsFit 36 = .ok (.iconst 0, 1) := by decide +kernel
theorem d_Heights_heightsFit_37 : decode b_Heights_heightsFit 37 = .ok (.istore_n 2, 1) := by decide +kernel
theorem d_Heights_heightsFit_38 : decode b_Heights_heightsFit 38 = .ok (.iload_n 2, 1) := by decide +kernel
theorem d_Heights_heightsFit_39 : decode b_Heights_heightsFit 39 = .ok (.aload_n 0, 1) := by decide +kernel
theorem d_Heights_heightsFit_40 : decode b_Heights_heightsFit 40 = .ok (.getfield 18, 3) := by decide +kernel
theorem d_Heights_heightsFit_43 : decode b_Heights_heightsFit 43 = .ok (.if_icmp .ge 33, 3) := by decide +kernel
theorem d_Heights_heightsFit_46 : decode b_Heights_heightsFit 46 = .ok (.iload_n 2, 1) := by decide +kernel
theorem d_Heights_heightsFit_47 : decode b_Heights_heightsFit 47 = .ok (.aload_n 1, 1) := by decide +kernel
theorem d_Heights_heightsFit_48 : decode b_Heights_heightsFit 48 = .ok (.getfield 26, 3) := by decide +kernel
theorem d_Heights_heightsFit_51 : decode b_Heights_heightsFit 51 = .ok (.if_icmp .ge 25, 3) := by decide +kernel
theorem d_Heights_heightsFit_54 : decode b_Heights_heightsFit 54 = .ok (.aload_n 0, 1) := by decide +kernel
theorem d_Heights_heightsFit_55 : decode b_Heights_heightsFit 55 = .ok (.aload_n 1, 1) := by decide +kernel
theorem d_Heights_heightsFit_56 : decode b_Heights_heightsFit 56 = .ok (.aload_n 0, 1) := by decide +kernel
theorem d_Heights_heightsFit_57 : decode b_Heights_heightsFit 57 = .ok (.getfield 15, 3) := by decide +kernel
theorem d_Heights_heightsFit_60 : decode b_Heights_heightsFit 60 = .ok (.iload_n 2, 1) := by decide +kernel
theorem d_Heights_heightsFit_61 : decode b_Heights_heightsFit 61 = .ok (.iaload, 1) := by decide +kernel
theorem d_Heights_heightsFit_62 : decode b_Heights_heightsFit 62 = .ok (.invokevirtual 52, 3) := by decide +kernel
theorem d_Heights_heightsFit_65 : decode b_Heights_heightsFit 65 = .ok (.ifCond .ne 5, 3) := by decide +kernel
theorem d_Heights_heightsFit_68 : decode b_Heights_heightsFit 68 = .ok (.iconst 0, 1) := by decide +kernel
theorem d_Heights_heightsFit_69 : decode b_Heights_heightsFit 69 = .ok (.ireturn, 1) := by decide +kernel
theorem d_Heights_heightsFit_70 : decode b_Heights_heightsFit 70 = .ok (.iinc 2 1, 3) := by decide +kernel
theorem d_Heights_heightsFit_73 : decode b_Heights_heightsFit 73 = .ok (.goto (-35), 3) := by decide +kernel
theorem d_Heights_heightsFit_76 : decode b_Heights_heightsFit 76 = .ok (.iconst 1, 1) := by decide +kernel
theorem d_Heights_heightsFit_77 : decode b_Heights_heightsFit 77 = .ok (.ireturn, 1) := by decide +kernel
theorem d_Heights_examine_0 : decode b_Heights_examine 0 = .ok (.aload_n 0, 1) := by decide +kernel
theorem d_Heights_examine_1 : decode b_Heights_examine 1 = .ok (.aload_n 1, 1) := by decide +kernel
theorem d_Heights_examine_2 : decode b_Heights_examine 2 = .ok (.getfield 26, 3) := by decide +kernel
theorem d_Heights_examine_5 : decode b_Heights_examine 5 = .ok (.ifCond .le 22, 3) := by decide +kernel
theorem d_Heights_examine_8 : decode b_Heights_examine 8 = .ok (.aload_n 1, 1) := by decide +kernel
theorem d_Heights_examine_9 : decode b_Heights_examine 9 = .ok (.invokestatic 31, 3) := by decide +kernel
theorem d_Heights_examine_12 : decode b_Heights_examine 12 = .ok (.ifCond .eq 15, 3) := by decide +kernel
theorem d_Heights_examine_15 : decode b_Heights_examine 15 = .ok (.aload_n 0, 1) := by decide +kernel
theorem d_Heights_examine_16 : decode b_Heights_examine 16 = .ok (.aload_n 1, 1) := by decide +kernel
theorem d_Heights_examine_17 : decode b_Heights_examine 17 = .ok (.invokevirtual 35, 3) := by decide +kernel
theorem d_Heights_examine_20 : decode b_Heights_examine 20 = .ok (.ifCond .eq 7, 3) := by decide +kernel
theorem d_Heights_examine_23 : decode b_Heights_examine 23 = .ok (.iconst 1, 1) := by decide +kernel
theorem d_Heights_examine_24 : decode b_Heights_examine 24 = .ok (.goto 4, 3) := by decide +kernel
theorem d_Heights_examine_27 : decode b_Heights_examine 27 = .ok (.iconst 0, 1) := by decide +kernel
theorem d_Heights_examine_28 : decode b_Heights_examine 28 = .ok (.putfield 22, 3) := by decide +kernel
theorem d_Heights_examine_31 : decode b_Heights_examine 31 = .ok (.return_, 1) := by decide +kernel
