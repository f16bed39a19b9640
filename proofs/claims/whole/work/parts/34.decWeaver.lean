/-! Decode rows of Weaver. -/
theorem d_Weaver_appendStateCheck_0 : decode b_Weaver_appendStateCheck 0 = .ok (.aload_n 0, 1) := by decide +kernel
theorem d_Weaver_appendStateCheck_1 : decode b_Weaver_appendStateCheck 1 = .ok (.getfield 14, 3) := by decide +kernel
theorem d_Weaver_appendStateCheck_4 : decode b_Weaver_appendStateCheck 4 = .ok (.iconst 5, 1) := by decide +kernel
theorem d_Weaver_appendStateCheck_5 : decode b_Weaver_appendStateCheck 5 = .ok (.bipush 7, 2) := by decide +kernel
theorem d_Weaver_appendStateCheck_7 : decode b_Weaver_appendStateCheck 7 = .ok (.invokevirtual 46, 3) := by decide +kernel
theorem d_Weaver_appendStateCheck_10 : decode b_Weaver_appendStateCheck 10 = .ok (.aload_n 0, 1) := by decide +kernel
theorem d_Weaver_appendStateCheck_11 : decode b_Weaver_appendStateCheck 11 = .ok (.getfield 14, 3) := by decide +kernel
theorem d_Weaver_appendStateCheck_14 : decode b_Weaver_appendStateCheck 14 = .ok (.iconst 0, 1) := by decide +kernel
theorem d_Weaver_appendStateCheck_15 : decode b_Weaver_appendStateCheck 15 = .ok (.iload_n 1, 1) := by decide +kernel
theorem d_Weaver_appendStateCheck_16 : decode b_Weaver_appendStateCheck 16 = .ok (.invokevirtual 46, 3) := by decide +kernel
theorem d_Weaver_appendStateCheck_19 : decode b_Weaver_appendStateCheck 19 = .ok (.aload_n 0, 1) := by decide +kernel
theorem d_Weaver_appendStateCheck_20 : decode b_Weaver_appendStateCheck 20 = .ok (.getfield 14, 3) := by decide +kernel
theorem d_Weaver_appendStateCheck_23 : decode b_Weaver_appendStateCheck 23 = .ok (.iconst 3, 1) := by decide +kernel
theorem d_Weaver_appendStateCheck_24 : decode b_Weaver_appendStateCheck 24 = .ok (.iconst 0, 1) := by decide +kernel
theorem d_Weaver_appendStateCheck_25 : decode b_Weaver_appendStateCheck 25 = .ok (.invokevirtual 46, 3) := by decide +kernel
theorem d_Weaver_appendStateCheck_28 : decode b_Weaver_appendStateCheck 28 = .ok (.aload_n 0, 1) := by decide +kernel
theorem d_Weaver_appendStateCheck_29 : decode b_Weaver_appendStateCheck 29 = .ok (.getfield 14, 3) := by decide +kernel
theorem d_Weaver_appendStateCheck_32 : decode b_Weaver_appendStateCheck 32 = .ok (.bipush 8, 2) := by decide +kernel
theorem d_Weaver_appendStateCheck_34 : decode b_Weaver_appendStateCheck 34 = .ok (.iload_n 2, 1) := by decide +kernel
theorem d_Weaver_appendStateCheck_35 : decode b_Weaver_appendStateCheck 35 = .ok (.invokevirtual 46, 3) := by decide +kernel
theorem d_Weaver_appendStateCheck_38 : decode b_Weaver_appendStateCheck 38 = .ok (.return_, 1) := by decide +kernel
theorem d_Weaver_appendRangeCheck_0 : decode b_Weaver_appendRangeCheck 0 = .ok (.aload_n 0, 1) := by decide +kernel
theorem d_Weaver_appendRangeCheck_1 : decode b_Weaver_appendRangeCheck 1 = .ok (.getfield 14, 3) := by decide +kernel
theorem d_Weaver_appendRangeCheck_4 : decode b_Weaver_appendRangeCheck 4 = .ok (.bipush 11, 2) := by decide +kernel
theorem d_Weaver_appendRangeCheck_6 : decode b_Weaver_appendRangeCheck 6 = .ok (.iconst 0, 1) := by decide +kernel
theorem d_Weaver_appendRangeCheck_7 : decode b_Weaver_appendRangeCheck 7 = .ok (.invokevirtual 46, 3) := by decide +kernel
theorem d_Weaver_appendRangeCheck_10 : decode b_Weaver_appendRangeCheck 10 = .ok (.aload_n 0, 1) := by decide +kernel
theorem d_Weaver_appendRangeCheck_11 : decode b_Weaver_appendRangeCheck 11 = .ok (.getfield 14, 3) := by decide +kernel
theorem d_Weaver_appendRangeCheck_14 : decode b_Weaver_appendRangeCheck 14 = .ok (.iconst 0, 1) := by decide +kernel
theorem d_Weaver_appendRangeCheck_15 : decode b_Weaver_appendRangeCheck 15 = .ok (.iload_n 1, 1) := by decide +kernel
theorem d_Weaver_appendRangeCheck_16 : decode b_Weaver_appendRangeCheck 16 = .ok (.invokevirtual 46, 3) := by decide +kernel
theorem d_Weaver_appendRangeCheck_19 : decode b_Weaver_appendRangeCheck 19 = .ok (.aload_n 0, 1) := by decide +kernel
theorem d_Weaver_appendRangeCheck_20 : decode b_Weaver_appendRangeCheck 20 = .ok (.getfield 14, 3) := by decide +kernel
theorem d_Weaver_appendRangeCheck_23 : decode b_Weaver_appendRangeCheck 23 = .ok (.iconst 4, 1) := by decide +kernel
theorem d_Weaver_appendRangeCheck_24 : decode b_Weaver_appendRangeCheck 24 = .ok (.iconst 0, 1) := by decide +kernel
theorem d_Weaver_appendRangeCheck_25 : decode b_Weaver_appendRangeCheck 25 = .ok (.invokevirtual 46, 3) := by decide +kernel
theorem d_Weaver_appendRangeCheck_28 : decode b_Weaver_appendRangeCheck 28 = .ok (.aload_n 0, 1) := by decide +kernel
theorem d_Weaver_appendRangeCheck_29 : decode b_Weaver_appendRangeCheck 29 = .ok (.getfield 14, 3) := by decide +kernel
theorem d_Weaver_appendRangeCheck_32 : decode b_Weaver_appendRangeCheck 32 = .ok (.bipush 8, 2) := by decide +kernel
theorem d_Weaver_appendRangeCheck_34 : decode b_Weaver_appendRangeCheck 34 = .ok (.iload_n 3, 1) := by decide +kernel
theorem d_Weaver_appendRangeCheck_35 : decode b_Weaver_appendRangeCheck 35 = .ok (.invokevirtual 46, 3) := by decide +kernel
theorem d_Weaver_appendRangeCheck_38 : decode b_Weaver_appendRangeCheck 38 = .ok (.aload_n 0, 1) := by decide +kernel
theorem d_Weaver_appendRangeCheck_39 : decode b_Weaver_appendRangeCheck 39 = .ok (.getfield 14, 3) := by decide +kernel
theorem d_Weaver_appendRangeCheck_42 : decode b_Weaver_appendRangeCheck 42 = .ok (.bipush 11, 2) := by decide +kernel
theorem d_Weaver_appendRangeCheck_44 : decode b_Weaver_appendRangeCheck 44 = .ok (.iconst 0, 1) := by decide +kernel
theorem d_Weaver_appendRangeCheck_45 : decode b_Weaver_appendRangeCheck 45 = .ok (.invokevirtual 46, 3) := by decide +kernel
theorem d_Weaver_appendRangeCheck_48 : decode b_Weaver_appendRangeCheck 48 = .ok (.aload_n 0, 1) := by decide +kernel
theorem d_Weaver_appendRangeCheck_49 : decode b_Weaver_appendRangeCheck 49 = .ok (.getfield 14, 3) := by decide +kernel
theorem d_Weaver_appendRangeCheck_52 : decode b_Weaver_appendRangeCheck 52 = .ok (.iconst 0, 1) := by decide +kernel
theorem d_Weaver_appendRangeCheck_53 : decode b_Weaver_appendRangeCheck 53 = .ok (.iload_n 2, 1) := by decide +kernel
theorem d_Weaver_appendRangeCheck_54 : decode b_Weaver_appendRangeCheck 54 = .ok (.invokevirtual 46, 3) := by decide +kernel
theorem d_Weaver_appendRangeCheck_57 : decode b_Weaver_appendRangeCheck 57 = .ok (.aload_n 0, 1) := by decide +kernel
theorem d_Weaver_appendRangeCheck_58 : decode b_Weaver_appendRangeCheck 58 = .ok (.getfield 14, 3) := by decide +kernel
theorem d_Weaver_appendRangeCheck_61 : decode b_Weaver_appendRangeCheck 61 = .ok (.bipush 10, 2) := by decide +kernel
theorem d_Weaver_appendRangeCheck_63 : decode b_Weaver_appendRangeCheck 63 = .ok (.iconst 0, 1) := by decide +kernel
theorem d_Weaver_appendRangeCheck_64 : decode b_Weaver_appendRangeCheck 64 = .ok (.invokevirtual 46, 3) := by decide +kernel
theorem d_Weaver_appendRangeCheck_67 : decode b_Weaver_appendRangeCheck 67 = .ok (.aload_n 0, 1) := by decide +kernel
theorem d_Weaver_appendRangeCheck_68 : decode b_Weaver_appendRangeCheck 68 = .ok (.getfield 14, 3) := by decide +kernel
theorem d_Weaver_appendRangeCheck_71 : decode b_Weaver_appendRangeCheck 71 = .ok (.iconst 4, 1) := by decide +kernel
theorem d_Weaver_appendRangeCheck_72 : decode b_Weaver_appendRangeCheck 72 = .ok (.iconst 0, 1) := by decide +kernel
theorem d_Weaver_appendRangeCheck_73 : decode b_Weaver_appendRangeCheck 73 = .ok (.invokevirtual 46, 3) := by decide +kernel
theorem d_Weaver_appendRangeCheck_76 : decode b_Weaver_appendRangeCheck 76 = .ok (.aload_n 0, 1) := by decide +kernel
theorem d_Weaver_appendRangeCheck_77 : decode b_Weaver_appendRangeCheck 77 = .ok (.getfield 14, 3) := by decide +kernel
theorem d_Weaver_appendRangeCheck_80 : decode b_Weaver_appendRangeCheck 80 = .ok (.bipush 8, 2) := by decide +kernel
theorem d_Weaver_appendRangeCheck_82 : decode b_Weaver_appendRangeCheck 82 = .ok (.iload_n 3, 1) := by decide +kernel
theorem d_Weaver_appendRangeCheck_83 : decode b_Weaver_appendRangeCheck 83 = .ok (.invokevirtual 46, 3) := by decide +kernel
theorem d_Weaver_appendRangeCheck_86 : decode b_Weaver_appendRangeCheck 86 = .ok (.return_, 1) := by decide +kernel
theorem d_Weaver_appendMove_0 : decode b_Weaver_appendMove 0 = .ok (.aload_n 0, 1) := by decide +kernel
theorem d_Weaver_appendMove_1 : decode b_Weaver_appendMove 1 = .ok (.getfield 14, 3) := by decide +kernel
theorem d_Weaver_appendMove_4 : decode b_Weaver_appendMove 4 = .ok (.iconst 0, 1) := by decide +kernel
theorem d_Weaver_appendMove_5 : decode b_Weaver_appendMove 5 = .ok (.iload_n 1, 1) := by decide +kernel
theorem d_Weaver_appendMove_6 : decode b_Weaver_appendMove 6 = .ok (.invokevirtual 46, 3) := by decide +kernel
theorem d_Weaver_appendMove_9 : decode b_Weaver_appendMove 9 = .ok (.aload_n 0, 1) := by decide +kernel
theorem d_Weaver_appendMove_10 : decode b_Weaver_appendMove 10 = .ok (.getfield 14, 3) := by decide +kernel
theorem d_Weaver_appendMove_13 : decode b_Weaver_appendMove 13 = .ok (.bipush 6, 2) := by decide +kernel
theorem d_Weaver_appendMove_15 : decode b_Weaver_appendMove 15 = .ok (.bipush 7, 2) := by decide +kernel
theorem d_Weaver_appendMove_17 : decode b_Weaver_appendMove 17 = .ok (.invokevirtual 46, 3) := by decide +kernel
theorem d_Weaver_appendMove_20 : decode b_Weaver_appendMove 20 = .ok (.aload_n 0, 1) := by decide +kernel
theorem d_Weaver_appendMove_21 : decode b_Weaver_appendMove 21 = .ok (.getfield 14, 3) := by decide +kernel
theorem d_Weaver_appendMove_24 : decode b_Weaver_appendMove 24 = .ok (.bipush 7, 2) := by decide +kernel
theorem d_Weaver_appendMove_26 : decode b_Weaver_appendMove 26 = .ok (.iload_n 2, 1) := by decide +kernel
theorem d_Weaver_appendMove_27 : decode b_Weaver_appendMove 27 = .ok (.invokevirtual 46, 3) := by decide +kernel
theorem d_Weaver_appendMove_30 : decode b_Weaver_appendMove 30 = .ok (.return_, 1) := by decide +kernel
theorem d_Weaver_guardLength_0 : decode b_Weaver_guardLength 0 = .ok (.aload_n 0, 1) := by decide +kernel
theorem d_Weaver_guardLength_1 : decode b_Weaver_guardLength 1 = .ok (.iload_n 1, 1) := by decide +kernel
theorem d_Weaver_guardLength_2 : decode b_Weaver_guardLength 2 = .ok (.invokevirtual 54, 3) := by decide +kernel
theorem d_Weaver_guardLength_5 : decode b_Weaver_guardLength 5 = .ok (.bipush 16, 2) := by decide +kernel
theorem d_Weaver_guardLength_7 : decode b_Weaver_guardLength 7 = .ok (.imul, 1) := by decide +kernel
theorem d_Weaver_guardLength_8 : decode b_Weaver_guardLength 8 = .ok (.iconst 1, 1) := by decide +kernel
theorem d_Weaver_guardLength_9 : decode b_Weaver_guardLength 9 = .ok (.iadd, 1) := by decide +kernel
theorem d_Weaver_guardLength_10 : decode b_Weaver_guardLength 10 = .ok (.ireturn, 1) := by decide +kernel
theorem d_Weaver_appendGuard_0 : decode b_Weaver_appendGuard 0 = .ok (.aload_n 0, 1) := by decide +kernel
theorem d_Weaver_appendGuard_1 : decode b_Weaver_appendGuard 1 = .ok (.getfield 14, 3) := by decide +kernel
theorem d_Weaver_appendGuard_4 : decode b_Weaver_appendGuard 4 = .ok (.getfield 28, 3) := by decide +kernel
theorem d_Weaver_appendGuard_7 : decode b_Weaver_appendGuard 7 = .ok (.aload_n 1, 1) := by decide +kernel
theorem d_Weaver_appendGuard_8 : decode b_Weaver_appendGuard 8 = .ok (.iload_n 2, 1) := by decide +kernel
theorem d_Weaver_appendGuard_9 : decode b_Weaver_appendGuard 9 = .ok (.invokestatic 50, 3) := by decide +kernel
theorem d_Weaver_appendGuard_12 : decode b_Weaver_appendGuard 12 = .ok (.iadd, 1) := by decide +kernel
theorem d_Weaver_appendGuard_13 : decode b_Weaver_appendGuard 13 = .ok (.iconst 1, 1) := by decide +kernel
theorem d_Weaver_appendGuard_14 : decode b_Weaver_appendGuard 14 = .ok (.isub, 1) := by decide +kernel
theorem d_Weaver_appendGuard_15 : decode b_Weaver_appendGuard 15 = .ok (.istore_n 3, 1) := by decide +kernel
theorem d_Weaver_appendGuard_16 : decode b_Weaver_appendGuard 16 = .ok (.iconst 0, 1) := by decide +kernel
theorem d_Weaver_appendGuard_17 : decode b_Weaver_appendGuard 17 = .ok (.istore 4, 2) := by decide +kernel
theorem d_Weaver_appendGuard_19 : decode b_Weaver_appendGuard 19 = .ok (.iload 4, 2) := by decide +kernel
theorem d_Weaver_appendGuard_21 : decode b_Weaver_appendGuard 21 = .ok (.aload_n 1, 1) := by decide +kernel
theorem d_Weaver_appendGuard_22 : decode b_Weaver_appendGuard 22 = .ok (.getfield 60, 3) := by decide +kernel
theorem d_Weaver_appendGuard_25 : decode b_Weaver_appendGuard 25 = .ok (.if_icmp .ge 75, 3) := by decide +kernel
theorem d_Weaver_appendGuard_28 : decode b_Weaver_appendGuard 28 = .ok (.iload 4, 2) := by decide +kernel
theorem d_Weaver_appendGuard_30 : decode b_Weaver_appendGuard 30 = .ok (.iload_n 2, 1) := by decide +kernel
theorem d_Weaver_appendGuard_31 : decode b_Weaver_appendGuard 31 = .ok (.invokestatic 61, 3) := by decide +kernel
theorem d_Weaver_appendGuard_34 : decode b_Weaver_appendGuard 34 = .ok (.istore 5, 2) := by decide +kernel
theorem d_Weaver_appendGuard_36 : decode b_Weaver_appendGuard 36 = .ok (.aload_n 1, 1) := by decide +kernel
theorem d_Weaver_appendGuard_37 : decode b_Weaver_appendGuard 37 = .ok (.iload 5, 2) := by decide +kernel
theorem d_Weaver_appendGuard_39 : decode b_Weaver_appendGuard 39 = .ok (.invokevirtual 65, 3) := by decide +kernel
theorem d_Weaver_appendGuard_42 : decode b_Weaver_appendGuard 42 = .ok (.ifCond .eq 52, 3) := by decide +kernel
theorem d_Weaver_appendGuard_45 : decode b_Weaver_appendGuard 45 = .ok (.aload_n 0, 1) := by decide +kernel
theorem d_Weaver_appendGuard_46 : decode b_Weaver_appendGuard 46 = .ok (.iload 4, 2) := by decide +kernel
theorem d_Weaver_appendGuard_48 : decode b_Weaver_appendGuard 48 = .ok (.aload_n 0, 1) := by decide +kernel
theorem d_Weaver_appendGuard_49 : decode b_Weaver_appendGuard 49 = .ok (.getfield 14, 3) := by decide +kernel
theorem d_Weaver_appendGuard_52 : decode b_Weaver_appendGuard 52 = .ok (.getfield 28, 3) := by decide +kernel
theorem d_Weaver_appendGuard_55 : decode b_Weaver_appendGuard 55 = .ok (.bipush 16, 2) := by decide +kernel
theorem d_Weaver_appendGuard_57 : decode b_Weaver_appendGuard 57 = .ok (.iadd, 1) := by decide +kernel
theorem d_Weaver_appendGuard_58 : decode b_Weaver_appendGuard 58 = .ok (.invokevirtual 68, 3) := by decide +kernel
theorem d_Weaver_appendGuard_61 : decode b_Weaver_appendGuard 61 = .ok (.aload_n 0, 1) := by decide +kernel
theorem d_Weaver_appendGuard_62 : decode b_Weaver_appendGuard 62 = .ok (.aload_n 1, 1) := by decide +kernel
theorem d_Weaver_appendGuard_63 : decode b_Weaver_appendGuard 63 = .ok (.getfield 71, 3) := by decide +kernel
theorem d_Weaver_appendGuard_66 : decode b_Weaver_appendGuard 66 = .ok (.iload 5, 2) := by decide +kernel
theorem d_Weaver_appendGuard_68 : decode b_Weaver_appendGuard 68 = .ok (.iaload, 1) := by decide +kernel
theorem d_Weaver_appendGuard_69 : decode b_Weaver_appendGuard 69 = .ok (.aload_n 1, 1) := by decide +kernel
theorem d_Weaver_appendGuard_70 : decode b_Weaver_appendGuard 70 = .ok (.getfield 74, 3) := by decide +kernel
theorem d_Weaver_appendGuard_73 : decode b_Weaver_appendGuard 73 = .ok (.iload 5, 2) := by decide +kernel
theorem d_Weaver_appendGuard_75 : decode b_Weaver_appendGuard 75 = .ok (.iaload, 1) := by decide +kernel
theorem d_Weaver_appendGuard_76 : decode b_Weaver_appendGuard 76 = .ok (.iload_n 3, 1) := by decide +kernel
theorem d_Weaver_appendGuard_77 : decode b_Weaver_appendGuard 77 = .ok (.invokevirtual 77, 3) := by decide +kernel
theorem d_Weaver_appendGuard_80 : decode b_Weaver_appendGuard 80 = .ok (.aload_n 0, 1) := by decide +kernel
theorem d_Weaver_appendGuard_81 : decode b_Weaver_appendGuard 81 = .ok (.aload_n 1, 1) := by decide +kernel
theorem d_Weaver_appendGuard_82 : decode b_Weaver_appendGuard 82 = .ok (.getfield 81, 3) := by decide +kernel
theorem d_Weaver_appendGuard_85 : decode b_Weaver_appendGuard 85 = .ok (.iload 5, 2) := by decide +kernel
theorem d_Weaver_appendGuard_87 : decode b_Weaver_appendGuard 87 = .ok (.iaload, 1) := by decide +kernel
theorem d_Weaver_appendGuard_88 : decode b_Weaver_appendGuard 88 = .ok (.iload_n 3, 1) := by decide +kernel
theorem d_Weaver_appendGuard_89 : decode b_Weaver_appendGuard 89 = .ok (.iconst 1, 1) := by decide +kernel
theorem d_Weaver_appendGuard_90 : decode b_Weaver_appendGuard 90 = .ok (.iadd, 1) := by decide +kernel
theorem d_Weaver_appendGuard_91 : decode b_Weaver_appendGuard 91 = .ok (.invokevirtual 84, 3) := by decide +kernel
theorem d_Weaver_appendGuard_94 : decode b_Weaver_appendGuard 94 = .ok (.iinc 4 1, 3) := by decide +kernel
theorem d_Weaver_appendGuard_97 : decode b_Weaver_appendGuard 97 = .ok (.goto (-78), 3) := by decide +kernel
theorem d_Weaver_appendGuard_100 : decode b_Weaver_appendGuard 100 = .ok (.aload_n 0, 1) := by decide +kernel
theorem d_Weaver_appendGuard_101 : decode b_Weaver_appendGuard 101 = .ok (.getfield 14, 3) := by decide +kernel
theorem d_Weaver_appendGuard_104 : decode b_Weaver_appendGuard 104 = .ok (.bipush 12, 2) := by decide +kernel
theorem d_Weaver_appendGuard_106 : decode b_Weaver_appendGuard 106 = .ok (.iconst 0, 1) := by decide +kernel
theorem d_Weaver_appendGuard_107 : decode b_Weaver_appendGuard 107 = .ok (.invokevirtual 46, 3) := by decide +kernel
theorem d_Weaver_appendGuard_110 : decode b_Weaver_appendGuard 110 = .ok (.return_, 1) := by decide +kernel
theorem d_Weaver_findFirsts_0 : decode b_Weaver_findFirsts 0 = .ok (.iconst 0, 1) := by decide +kernel
theorem d_Weaver_findFirsts_1 : decode b_Weaver_findFirsts 1 = .ok (.istore_n 3, 1) := by decide +kernel
theorem d_Weaver_findFirsts_2 : decode b_Weaver_findFirsts 2 = .ok (.iconst 0, 1) := by decide +kernel
theorem d_Weaver_findFirsts_3 : decode b_Weaver_findFirsts 3 = .ok (.istore 4, 2) := by decide +kernel
theorem d_Weaver_findFirsts_5 : decode b_Weaver_findFirsts 5 = .ok (.iload 4, 2) := by decide +kernel
theorem d_Weaver_findFirsts_7 : decode b_Weaver_findFirsts 7 = .ok (.aload_n 1, 1) := by decide +kernel
theorem d_Weaver_findFirsts_8 : decode b_Weaver_findFirsts 8 = .ok (.getfield 28, 3) := by decide +kernel
theorem d_Weaver_findFirsts_11 : decode b_Weaver_findFirsts 11 = .ok (.if_icmp .ge 46, 3) := by decide +kernel
theorem d_Weaver_findFirsts_14 : decode b_Weaver_findFirsts 14 = .ok (.aload_n 0, 1) := by decide +kernel
theorem d_Weaver_findFirsts_15 : decode b_Weaver_findFirsts 15 = .ok (.getfield 20, 3) := by decide +kernel
theorem d_Weaver_findFirsts_18 : decode b_Weaver_findFirsts 18 = .ok (.iload 4, 2) := by decide +kernel
theorem d_Weaver_findFirsts_20 : decode b_Weaver_findFirsts 20 = .ok (.iload_n 3, 1) := by decide +kernel
theorem d_Weaver_findFirsts_21 : decode b_Weaver_findFirsts 21 = .ok (.iastore, 1) := by decide +kernel
theorem d_Weaver_findFirsts_22 : decode b_Weaver_findFirsts 22 = .ok (.aload_n 1, 1) := by decide +kernel
theorem d_Weaver_findFirsts_23 : decode b_Weaver_findFirsts 23 = .ok (.getfield 32, 3) := by decide +kernel
theorem d_Weaver_findFirsts_26 : decode b_Weaver_findFirsts 26 = .ok (.iload 4, 2) := by decide +kernel
theorem d_Weaver_findFirsts_28 : decode b_Weaver_findFirsts 28 = .ok (.iaload, 1) := by decide +kernel
theorem d_Weaver_findFirsts_29 : decode b_Weaver_findFirsts 29 = .ok (.bipush 9, 2) := by decide +kernel
theorem d_Weaver_findFirsts_31 : decode b_Weaver_findFirsts 31 = .ok (.if_icmp .ne 17, 3) := by decide +kernel
theorem d_Weaver_findFirsts_34 : decode b_Weaver_findFirsts 34 = .ok (.iload_n 3, 1) := by decide +kernel
theorem d_Weaver_findFirsts_35 : decode b_Weaver_findFirsts 35 = .ok (.aload_n 2, 1) := by decide +kernel
theorem d_Weaver_findFirsts_36 : decode b_Weaver_findFirsts 36 = .ok (.aload_n 1, 1) := by decide +kernel
theorem d_Weaver_findFirsts_37 : decode b_Weaver_findFirsts 37 = .ok (.getfield 35, 3) := by decide +kernel
theorem d_Weaver_findFirsts_40 : decode b_Weaver_findFirsts 40 = .ok (.iload 4, 2) := by decide +kernel
theorem d_Weaver_findFirsts_42 : decode b_Weaver_findFirsts 42 = .ok (.iaload, 1) := by decide +kernel
theorem d_Weaver_findFirsts_43 : decode b_Weaver_findFirsts 43 = .ok (.invokestatic 50, 3) := by decide +kernel
theorem d_Weaver_findFirsts_46 : decode b_Weaver_findFirsts 46 = .ok (.iadd, 1) := by decide +kernel
theorem d_Weaver_findFirsts_47 : decode b_Weaver_findFirsts 47 = .ok (.istore_n 3, 1) := by decide +kernel
theorem d_Weaver_findFirsts_48 : decode b_Weaver_findFirsts 48 = .ok (.iinc 3 1, 3) := by decide +kernel
theorem d_Weaver_findFirsts_51 : decode b_Weaver_findFirsts 51 = .ok (.iinc 4 1, 3) := by decide +kernel
theorem d_Weaver_findFirsts_54 : decode b_Weaver_findFirsts 54 = .ok (.goto (-49), 3) := by decide +kernel
theorem d_Weaver_findFirsts_57 : decode b_Weaver_findFirsts 57 = .ok (.return_, 1) := by decide +kernel
theorem d_Weaver_weave_0 : decode b_Weaver_weave 0 = .ok (.aload_n 0, 1) := by decide +kernel
theorem d_Weaver_weave_1 : decode b_Weaver_weave 1 = .ok (.aload_n 1, 1) := by decide +kernel
theorem d_Weaver_weave_2 : decode b_Weaver_weave 2 = .ok (.aload_n 2, 1) := by decide +kernel
theorem d_Weaver_weave_3 : decode b_Weaver_weave 3 = .ok (.invokevirtual 24, 3) := by decide +kernel
theorem d_Weaver_weave_6 : decode b_Weaver_weave 6 = .ok (.aload_n 0, 1) := by decide +kernel
theorem d_Weaver_weave_7 : decode b_Weaver_weave 7 = .ok (.getfield 14, 3) := by decide +kernel
theorem d_Weaver_weave_10 : decode b_Weaver_weave 10 = .ok (.iconst 0, 1) := by decide +kernel
theorem d_Weaver_weave_11 : decode b_Weaver_weave 11 = .ok (.putfield 28, 3) := by decide +kernel
theorem d_Weaver_weave_14 : decode b_Weaver_weave 14 = .ok (.iconst 0, 1) := by decide +kernel
theorem d_Weaver_weave_15 : decode b_Weaver_weave 15 = .ok (.istore_n 3, 1) := by decide +kernel
theorem d_Weaver_weave_16 : decode b_Weaver_weave 16 = .ok (.iload_n 3, 1) := by decide +kernel
theorem d_Weaver_weave_17 : decode b_Weaver_weave 17 = .ok (.aload_n 1, 1) := by decide +kernel
theorem d_Weaver_weave_18 : decode b_Weaver_weave 18 = .ok (.getfield 28, 3) := by decide +kernel
theorem d_Weaver_weave_21 : decode b_Weaver_weave 21 = .ok (.if_icmp .ge 68, 3) := by decide +kernel
theorem d_Weaver_weave_24 : decode b_Weaver_weave 24 = .ok (.aload_n 1, 1) := by decide +kernel
theorem d_Weaver_weave_25 : decode b_Weaver_weave 25 = .ok (.getfield 32, 3) := by decide +kernel
theorem d_Weaver_weave_28 : decode b_Weaver_weave 28 = .ok (.iload_n 3, 1) := by decide +kernel
theorem d_Weaver_weave_29 : decode b_Weaver_weave 29 = .ok (.iaload, 1) := by decide +kernel
theorem d_Weaver_weave_30 : decode b_Weaver_weave 30 = .ok (.istore 4, 2) := by decide +kernel
theorem d_Weaver_weave_32 : decode b_Weaver_weave 32 = .ok (.aload_n 1, 1) := by decide +kernel
theorem d_Weaver_weave_33 : decode b_Weaver_weave 33 = .ok (.getfield 35, 3) := by decide +kernel
theorem d_Weaver_weave_36 : decode b_Weaver_weave 36 = .ok (.iload_n 3, 1) := by decide +kernel
theorem d_Weaver_weave_37 : decode b_Weaver_weave 37 = .ok (.iaload, 1) := by decide +kernel
theorem d_Weaver_weave_38 : decode b_Weaver_weave 38 = .ok (.istore 5, 2) := by decide +kernel
theorem d_Weaver_weave_40 : decode b_Weaver_weave 40 = .ok (.iload 4, 2) := by decide +kernel
theorem d_Weaver_weave_42 : decode b_Weaver_weave 42 = .ok (.bipush 9, 2) := by decide +kernel
theorem d_Weaver_weave_44 : decode b_Weaver_weave 44 = .ok (.if_icmp .ne 10, 3) := by decide +kernel
theorem d_Weaver_weave_47 : decode b_Weaver_weave 47 = .ok (.aload_n 0, 1) := by decide +kernel
theorem d_Weaver_weave_48 : decode b_Weaver_weave 48 = .ok (.aload_n 2, 1) := by decide +kernel
theorem d_Weaver_weave_49 : decode b_Weaver_weave 49 = .ok (.iload 5, 2) := by decide +kernel
theorem d_Weaver_weave_51 : decode b_Weaver_weave 51 = .ok (.invokevirtual 38, 3) := by decide +kernel
theorem d_Weaver_weave_54 : decode b_Weaver_weave 54 = .ok (.aload_n 0, 1) := by decide +kernel
theorem d_Weaver_weave_55 : decode b_Weaver_weave 55 = .ok (.getfield 14, 3) := by decide +kernel
theorem d_Weaver_weave_58 : decode b_Weaver_weave 58 = .ok (.iload 4, 2) := by decide +kernel
theorem d_Weaver_weave_60 : decode b_Weaver_weave 60 = .ok (.iload 4, 2) := by decide +kernel
theorem d_Weaver_weave_62 : decode b_Weaver_weave 62 = .ok (.invokestatic 42, 3) := by decide +kernel
theorem d_Weaver_weave_65 : decode b_Weaver_weave 65 = .ok (.ifCond .eq 13, 3) := by decide +kernel
theorem d_Weaver_weave_68 : decode b_Weaver_weave 68 = .ok (.aload_n 0, 1) := by decide +kernel
theorem d_Weaver_weave_69 : decode b_Weaver_weave 69 = .ok (.getfield 20, 3) := by decide +kernel
theorem d_Weaver_weave_72 : decode b_Weaver_weave 72 = .ok (.iload 5, 2) := by decide +kernel
theorem d_Weaver_weave_74 : decode b_Weaver_weave 74 = .ok (.iaload, 1) := by decide +kernel
theorem d_Weaver_weave_75 : decode b_Weaver_weave 75 = .ok (.goto 5, 3) := by decide +kernel
theorem d_Weaver_weave_78 : decode b_Weaver_weave 78 = .ok (.iload 5, 2) := by decide +kernel
theorem d_Weaver_weave_80 : decode b_Weaver_weave 80 = .ok (.invokevirtual 46, 3) := by decide +kernel
theorem d_Weaver_weave_83 : decode b_Weaver_weave 83 = .ok (.iinc 3 1, 3) := by decide +kernel
theorem d_Weaver_weave_86 : decode b_Weaver_weave 86 = .ok (.goto (-70), 3) := by decide +kernel
theorem d_Weaver_weave_89 : decode b_Weaver_weave 89 = .ok (.return_, 1) := by decide +kernel
