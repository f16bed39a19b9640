/-! Decode rows of Run. -/
theorem d_Run_push_0 : decode b_Run_push 0 = .ok (.aload_n 0, 1) := by decide +kernel
theorem d_Run_push_1 : decode b_Run_push 1 = .ok (.getfield 9, 3) := by decide +kernel
theorem d_Run_push_4 : decode b_Run_push 4 = .ok (.aload_n 0, 1) := by decide +kernel
theorem d_Run_push_5 : decode b_Run_push 5 = .ok (.getfield 34, 3) := by decide +kernel
theorem d_Run_push_8 : decode b_Run_push 8 = .ok (.iload_n 1, 1) := by decide +kernel
theorem d_Run_push_9 : decode b_Run_push 9 = .ok (.iastore, 1) := by decide +kernel
theorem d_Run_push_10 : decode b_Run_push 10 = .ok (.aload_n 0, 1) := by decide +kernel
theorem d_Run_push_11 : decode b_Run_push 11 = .ok (.dup, 1) := by decide +kernel
theorem d_Run_push_12 : decode b_Run_push 12 = .ok (.getfield 34, 3) := by decide +kernel
theorem d_Run_push_15 : decode b_Run_push 15 = .ok (.iconst 1, 1) := by decide +kernel
theorem d_Run_push_16 : decode b_Run_push 16 = .ok (.iadd, 1) := by decide +kernel
theorem d_Run_push_17 : decode b_Run_push 17 = .ok (.putfield 34, 3) := by decide +kernel
theorem d_Run_push_20 : decode b_Run_push 20 = .ok (.return_, 1) := by decide +kernel
theorem d_Run_pop_0 : decode b_Run_pop 0 = .ok (.aload_n 0, 1) := by decide +kernel
theorem d_Run_pop_1 : decode b_Run_pop 1 = .ok (.dup, 1) := by decide +kernel
theorem d_Run_pop_2 : decode b_Run_pop 2 = .ok (.getfield 34, 3) := by decide +kernel
theorem d_Run_pop_5 : decode b_Run_pop 5 = .ok (.iconst 1, 1) := by decide +kernel
theorem d_Run_pop_6 : decode b_Run_pop 6 = .ok (.isub, 1) := by decide +kernel
theorem d_Run_pop_7 : decode b_Run_pop 7 = .ok (.putfield 34, 3) := by decide +kernel
theorem d_Run_pop_10 : decode b_Run_pop 10 = .ok (.aload_n 0, 1) := by decide +kernel
theorem d_Run_pop_11 : decode b_Run_pop 11 = .ok (.getfield 9, 3) := by decide +kernel
theorem d_Run_pop_14 : decode b_Run_pop 14 = .ok (.aload_n 0, 1) := by decide +kernel
theorem d_Run_pop_15 : decode b_Run_pop 15 = .ok (.getfield 34, 3) := by decide +kernel
theorem d_Run_pop_18 : decode b_Run_pop 18 = .ok (.iaload, 1) := by decide +kernel
theorem d_Run_pop_19 : decode b_Run_pop 19 = .ok (.ireturn, 1) := by decide +kernel
theorem d_Run_workOnTwo_0 : decode b_Run_workOnTwo 0 = .ok (.aload_n 0, 1) := by decide +kernel
theorem d_Run_workOnTwo_1 : decode b_Run_workOnTwo 1 = .ok (.invokevirtual 51, 3) := by decide +kernel
theorem d_Run_workOnTwo_4 : decode b_Run_workOnTwo 4 = .ok (.istore_n 2, 1) := by decide +kernel
theorem d_Run_workOnTwo_5 : decode b_Run_workOnTwo 5 = .ok (.aload_n 0, 1) := by decide +kernel
theorem d_Run_workOnTwo_6 : decode b_Run_workOnTwo 6 = .ok (.invokevirtual 51, 3) := by decide +kernel
theorem d_Run_workOnTwo_9 : decode b_Run_workOnTwo 9 = .ok (.istore_n 3, 1) := by decide +kernel
theorem d_Run_workOnTwo_10 : decode b_Run_workOnTwo 10 = .ok (.iload_n 1, 1) := by decide +kernel
theorem d_Run_workOnTwo_11 : decode b_Run_workOnTwo 11 = .ok (.tableswitch 62 2 4 #[25, 35, 45], 25) := by decide +kernel
theorem d_Run_workOnTwo_36 : decode b_Run_workOnTwo 36 = .ok (.aload_n 0, 1) := by decide +kernel
theorem d_Run_workOnTwo_37 : decode b_Run_workOnTwo 37 = .ok (.iload_n 3, 1) := by decide +kernel
theorem d_Run_workOnTwo_38 : decode b_Run_workOnTwo 38 = .ok (.iload_n 2, 1) := by decide +kernel
theorem d_Run_workOnTwo_39 : decode b_Run_workOnTwo 39 = .ok (.iadd, 1) := by decide +kernel
theorem d_Run_workOnTwo_40 : decode b_Run_workOnTwo 40 = .ok (.invokevirtual 75, 3) := by decide +kernel
theorem d_Run_workOnTwo_43 : decode b_Run_workOnTwo 43 = .ok (.goto 40, 3) := by decide +kernel
theorem d_Run_workOnTwo_46 : decode b_Run_workOnTwo 46 = .ok (.aload_n 0, 1) := by decide +kernel
theorem d_Run_workOnTwo_47 : decode b_Run_workOnTwo 47 = .ok (.iload_n 3, 1) := by decide +kernel
theorem d_Run_workOnTwo_48 : decode b_Run_workOnTwo 48 = .ok (.iload_n 2, 1) := by decide +kernel
theorem d_Run_workOnTwo_49 : decode b_Run_workOnTwo 49 = .ok (.isub, 1) := by decide +kernel
theorem d_Run_workOnTwo_50 : decode b_Run_workOnTwo 50 = .ok (.invokevirtual 75, 3) := by decide +kernel
theorem d_Run_workOnTwo_53 : decode b_Run_workOnTwo 53 = .ok (.goto 30, 3) := by decide +kernel
theorem d_Run_workOnTwo_56 : decode b_Run_workOnTwo 56 = .ok (.aload_n 0, 1) := by decide +kernel
theorem d_Run_workOnTwo_57 : decode b_Run_workOnTwo 57 = .ok (.iload_n 3, 1) := by decide +kernel
theorem d_Run_workOnTwo_58 : decode b_Run_workOnTwo 58 = .ok (.iload_n 2, 1) := by decide +kernel
theorem d_Run_workOnTwo_59 : decode b_Run_workOnTwo 59 = .ok (.if_icmp .ge 7, 3) := by decide +kernel
theorem d_Run_workOnTwo_62 : decode b_Run_workOnTwo 62 = .ok (.iconst 1, 1) := by decide +kernel
theorem d_Run_workOnTwo_63 : decode b_Run_workOnTwo 63 = .ok (.goto 4, 3) := by decide +kernel
theorem d_Run_workOnTwo_66 : decode b_Run_workOnTwo 66 = .ok (.iconst 0, 1) := by decide +kernel
theorem d_Run_workOnTwo_67 : decode b_Run_workOnTwo 67 = .ok (.invokevirtual 75, 3) := by decide +kernel
theorem d_Run_workOnTwo_70 : decode b_Run_workOnTwo 70 = .ok (.goto 13, 3) := by decide +kernel
theorem d_Run_workOnTwo_73 : decode b_Run_workOnTwo 73 = .ok (.aload_n 0, 1) := by decide +kernel
theorem d_Run_workOnTwo_74 : decode b_Run_workOnTwo 74 = .ok (.iload_n 2, 1) := by decide +kernel
theorem d_Run_workOnTwo_75 : decode b_Run_workOnTwo 75 = .ok (.invokevirtual 75, 3) := by decide +kernel
theorem d_Run_workOnTwo_78 : decode b_Run_workOnTwo 78 = .ok (.aload_n 0, 1) := by decide +kernel
theorem d_Run_workOnTwo_79 : decode b_Run_workOnTwo 79 = .ok (.iload_n 3, 1) := by decide +kernel
theorem d_Run_workOnTwo_80 : decode b_Run_workOnTwo 80 = .ok (.invokevirtual 75, 3) := by decide +kernel
theorem d_Run_workOnTwo_83 : decode b_Run_workOnTwo 83 = .ok (.return_, 1) := by decide +kernel
theorem d_Run_work_0 : decode b_Run_work 0 = .ok (.iload_n 1, 1) := by decide +kernel
theorem d_Run_work_1 : decode b_Run_work 1 = .ok (.tableswitch 128 0 11 #[63, 71, 128, 128, 128, 84, 97, 128, 128, 128, 128, 110], 63) := by decide +kernel
theorem d_Run_work_64 : decode b_Run_work 64 = .ok (.aload_n 0, 1) := by decide +kernel
theorem d_Run_work_65 : decode b_Run_work 65 = .ok (.iload_n 2, 1) := by decide +kernel
theorem d_Run_work_66 : decode b_Run_work 66 = .ok (.invokevirtual 75, 3) := by decide +kernel
theorem d_Run_work_69 : decode b_Run_work 69 = .ok (.goto 65, 3) := by decide +kernel
theorem d_Run_work_72 : decode b_Run_work 72 = .ok (.aload_n 0, 1) := by decide +kernel
theorem d_Run_work_73 : decode b_Run_work 73 = .ok (.dup, 1) := by decide +kernel
theorem d_Run_work_74 : decode b_Run_work 74 = .ok (.getfield 34, 3) := by decide +kernel
theorem d_Run_work_77 : decode b_Run_work 77 = .ok (.iconst 1, 1) := by decide +kernel
theorem d_Run_work_78 : decode b_Run_work 78 = .ok (.isub, 1) := by decide +kernel
theorem d_Run_work_79 : decode b_Run_work 79 = .ok (.putfield 34, 3) := by decide +kernel
theorem d_Run_work_82 : decode b_Run_work 82 = .ok (.goto 52, 3) := by decide +kernel
theorem d_Run_work_85 : decode b_Run_work 85 = .ok (.aload_n 0, 1) := by decide +kernel
theorem d_Run_work_86 : decode b_Run_work 86 = .ok (.aload_n 0, 1) := by decide +kernel
theorem d_Run_work_87 : decode b_Run_work 87 = .ok (.getfield 15, 3) := by decide +kernel
theorem d_Run_work_90 : decode b_Run_work 90 = .ok (.iload_n 2, 1) := by decide +kernel
theorem d_Run_work_91 : decode b_Run_work 91 = .ok (.iaload, 1) := by decide +kernel
theorem d_Run_work_92 : decode b_Run_work 92 = .ok (.invokevirtual 75, 3) := by decide +kernel
theorem d_Run_work_95 : decode b_Run_work 95 = .ok (.goto 39, 3) := by decide +kernel
theorem d_Run_work_98 : decode b_Run_work 98 = .ok (.aload_n 0, 1) := by decide +kernel
theorem d_Run_work_99 : decode b_Run_work 99 = .ok (.getfield 15, 3) := by decide +kernel
theorem d_Run_work_102 : decode b_Run_work 102 = .ok (.iload_n 2, 1) := by decide +kernel
theorem d_Run_work_103 : decode b_Run_work 103 = .ok (.aload_n 0, 1) := by decide +kernel
theorem d_Run_work_104 : decode b_Run_work 104 = .ok (.invokevirtual 51, 3) := by decide +kernel
theorem d_Run_work_107 : decode b_Run_work 107 = .ok (.iastore, 1) := by decide +kernel
theorem d_Run_work_108 : decode b_Run_work 108 = .ok (.goto 26, 3) := by decide +kernel
theorem d_Run_work_111 : decode b_Run_work 111 = .ok (.aload_n 0, 1) := by decide +kernel
theorem d_Run_work_112 : decode b_Run_work 112 = .ok (.aload_n 0, 1) := by decide +kernel
theorem d_Run_work_113 : decode b_Run_work 113 = .ok (.getfield 9, 3) := by decide +kernel
theorem d_Run_work_116 : decode b_Run_work 116 = .ok (.aload_n 0, 1) := by decide +kernel
theorem d_Run_work_117 : decode b_Run_work 117 = .ok (.getfield 34, 3) := by decide +kernel
theorem d_Run_work_120 : decode b_Run_work 120 = .ok (.iconst 1, 1) := by decide +kernel
theorem d_Run_work_121 : decode b_Run_work 121 = .ok (.isub, 1) := by decide +kernel
theorem d_Run_work_122 : decode b_Run_work 122 = .ok (.iaload, 1) := by decide +kernel
theorem d_Run_work_123 : decode b_Run_work 123 = .ok (.invokevirtual 75, 3) := by decide +kernel
theorem d_Run_work_126 : decode b_Run_work 126 = .ok (.goto 8, 3) := by decide +kernel
theorem d_Run_work_129 : decode b_Run_work 129 = .ok (.aload_n 0, 1) := by decide +kernel
theorem d_Run_work_130 : decode b_Run_work 130 = .ok (.iload_n 1, 1) := by decide +kernel
theorem d_Run_work_131 : decode b_Run_work 131 = .ok (.invokevirtual 79, 3) := by decide +kernel
theorem d_Run_work_134 : decode b_Run_work 134 = .ok (.return_, 1) := by decide +kernel
theorem d_Run_tryAct_0 : decode b_Run_tryAct 0 = .ok (.aload_n 0, 1) := by decide +kernel
theorem d_Run_tryAct_1 : decode b_Run_tryAct 1 = .ok (.getfield 9, 3) := by decide +kernel
theorem d_Run_tryAct_4 : decode b_Run_tryAct 4 = .ok (.aload_n 0, 1) := by decide +kernel
theorem d_Run_tryAct_5 : decode b_Run_tryAct 5 = .ok (.getfield 34, 3) := by decide +kernel
theorem d_Run_tryAct_8 : decode b_Run_tryAct 8 = .ok (.iconst 1, 1) := by decide +kernel
theorem d_Run_tryAct_9 : decode b_Run_tryAct 9 = .ok (.isub, 1) := by decide +kernel
theorem d_Run_tryAct_10 : decode b_Run_tryAct 10 = .ok (.iaload, 1) := by decide +kernel
theorem d_Run_tryAct_11 : decode b_Run_tryAct 11 = .ok (.istore_n 3, 1) := by decide +kernel
theorem d_Run_tryAct_12 : decode b_Run_tryAct 12 = .ok (.aload_n 0, 1) := by decide +kernel
theorem d_Run_tryAct_13 : decode b_Run_tryAct 13 = .ok (.getfield 37, 3) := by decide +kernel
theorem d_Run_tryAct_16 : decode b_Run_tryAct 16 = .ok (.iload_n 2, 1) := by decide +kernel
theorem d_Run_tryAct_17 : decode b_Run_tryAct 17 = .ok (.invokestatic 63, 3) := by decide +kernel
theorem d_Run_tryAct_20 : decode b_Run_tryAct 20 = .ok (.istore 4, 2) := by decide +kernel
theorem d_Run_tryAct_22 : decode b_Run_tryAct 22 = .ok (.aload_n 0, 1) := by decide +kernel
theorem d_Run_tryAct_23 : decode b_Run_tryAct 23 = .ok (.getfield 28, 3) := by decide +kernel
theorem d_Run_tryAct_26 : decode b_Run_tryAct 26 = .ok (.iconst 2, 1) := by decide +kernel
theorem d_Run_tryAct_27 : decode b_Run_tryAct 27 = .ok (.if_icmp .ne 19, 3) := by decide +kernel
theorem d_Run_tryAct_30 : decode b_Run_tryAct 30 = .ok (.aload_n 1, 1) := by decide +kernel
theorem d_Run_tryAct_31 : decode b_Run_tryAct 31 = .ok (.iload 4, 2) := by decide +kernel
theorem d_Run_tryAct_33 : decode b_Run_tryAct 33 = .ok (.iload_n 3, 1) := by decide +kernel
theorem d_Run_tryAct_34 : decode b_Run_tryAct 34 = .ok (.invokevirtual 68, 3) := by decide +kernel
theorem d_Run_tryAct_37 : decode b_Run_tryAct 37 = .ok (.ifCond .ne 9, 3) := by decide +kernel
theorem d_Run_tryAct_40 : decode b_Run_tryAct 40 = .ok (.aload_n 0, 1) := by decide +kernel
theorem d_Run_tryAct_41 : decode b_Run_tryAct 41 = .ok (.iconst 4, 1) := by decide +kernel
theorem d_Run_tryAct_42 : decode b_Run_tryAct 42 = .ok (.putfield 24, 3) := by decide +kernel
theorem d_Run_tryAct_45 : decode b_Run_tryAct 45 = .ok (.return_, 1) := by decide +kernel
theorem d_Run_tryAct_46 : decode b_Run_tryAct 46 = .ok (.aload_n 0, 1) := by decide +kernel
theorem d_Run_tryAct_47 : decode b_Run_tryAct 47 = .ok (.getfield 40, 3) := by decide +kernel
theorem d_Run_tryAct_50 : decode b_Run_tryAct 50 = .ok (.bipush 60, 2) := by decide +kernel
theorem d_Run_tryAct_52 : decode b_Run_tryAct 52 = .ok (.if_icmp .lt 9, 3) := by decide +kernel
theorem d_Run_tryAct_55 : decode b_Run_tryAct 55 = .ok (.aload_n 0, 1) := by decide +kernel
theorem d_Run_tryAct_56 : decode b_Run_tryAct 56 = .ok (.iconst 3, 1) := by decide +kernel
theorem d_Run_tryAct_57 : decode b_Run_tryAct 57 = .ok (.putfield 24, 3) := by decide +kernel
theorem d_Run_tryAct_60 : decode b_Run_tryAct 60 = .ok (.return_, 1) := by decide +kernel
theorem d_Run_tryAct_61 : decode b_Run_tryAct 61 = .ok (.aload_n 0, 1) := by decide +kernel
theorem d_Run_tryAct_62 : decode b_Run_tryAct 62 = .ok (.getfield 28, 3) := by decide +kernel
theorem d_Run_tryAct_65 : decode b_Run_tryAct 65 = .ok (.iconst 2, 1) := by decide +kernel
theorem d_Run_tryAct_66 : decode b_Run_tryAct 66 = .ok (.if_icmp .ne 14, 3) := by decide +kernel
theorem d_Run_tryAct_69 : decode b_Run_tryAct 69 = .ok (.aload_n 0, 1) := by decide +kernel
theorem d_Run_tryAct_70 : decode b_Run_tryAct 70 = .ok (.aload_n 1, 1) := by decide +kernel
theorem d_Run_tryAct_71 : decode b_Run_tryAct 71 = .ok (.getfield 72, 3) := by decide +kernel
theorem d_Run_tryAct_74 : decode b_Run_tryAct 74 = .ok (.iload 4, 2) := by decide +kernel
theorem d_Run_tryAct_76 : decode b_Run_tryAct 76 = .ok (.iaload, 1) := by decide +kernel
theorem d_Run_tryAct_77 : decode b_Run_tryAct 77 = .ok (.putfield 37, 3) := by decide +kernel
theorem d_Run_tryAct_80 : decode b_Run_tryAct 80 = .ok (.aload_n 0, 1) := by decide +kernel
theorem d_Run_tryAct_81 : decode b_Run_tryAct 81 = .ok (.getfield 18, 3) := by decide +kernel
theorem d_Run_tryAct_84 : decode b_Run_tryAct 84 = .ok (.aload_n 0, 1) := by decide +kernel
theorem d_Run_tryAct_85 : decode b_Run_tryAct 85 = .ok (.getfield 40, 3) := by decide +kernel
theorem d_Run_tryAct_88 : decode b_Run_tryAct 88 = .ok (.iload_n 2, 1) := by decide +kernel
theorem d_Run_tryAct_89 : decode b_Run_tryAct 89 = .ok (.iastore, 1) := by decide +kernel
theorem d_Run_tryAct_90 : decode b_Run_tryAct 90 = .ok (.aload_n 0, 1) := by decide +kernel
theorem d_Run_tryAct_91 : decode b_Run_tryAct 91 = .ok (.getfield 21, 3) := by decide +kernel
theorem d_Run_tryAct_94 : decode b_Run_tryAct 94 = .ok (.aload_n 0, 1) := by decide +kernel
theorem d_Run_tryAct_95 : decode b_Run_tryAct 95 = .ok (.getfield 40, 3) := by decide +kernel
theorem d_Run_tryAct_98 : decode b_Run_tryAct 98 = .ok (.iload_n 3, 1) := by decide +kernel
theorem d_Run_tryAct_99 : decode b_Run_tryAct 99 = .ok (.iastore, 1) := by decide +kernel
theorem d_Run_tryAct_100 : decode b_Run_tryAct 100 = .ok (.aload_n 0, 1) := by decide +kernel
theorem d_Run_tryAct_101 : decode b_Run_tryAct 101 = .ok (.dup, 1) := by decide +kernel
theorem d_Run_tryAct_102 : decode b_Run_tryAct 102 = .ok (.getfield 40, 3) := by decide +kernel
theorem d_Run_tryAct_105 : decode b_Run_tryAct 105 = .ok (.iconst 1, 1) := by decide +kernel
theorem d_Run_tryAct_106 : decode b_Run_tryAct 106 = .ok (.iadd, 1) := by decide +kernel
theorem d_Run_tryAct_107 : decode b_Run_tryAct 107 = .ok (.putfield 40, 3) := by decide +kernel
theorem d_Run_tryAct_110 : decode b_Run_tryAct 110 = .ok (.aload_n 0, 1) := by decide +kernel
theorem d_Run_tryAct_111 : decode b_Run_tryAct 111 = .ok (.dup, 1) := by decide +kernel
theorem d_Run_tryAct_112 : decode b_Run_tryAct 112 = .ok (.getfield 34, 3) := by decide +kernel
theorem d_Run_tryAct_115 : decode b_Run_tryAct 115 = .ok (.iconst 1, 1) := by decide +kernel
theorem d_Run_tryAct_116 : decode b_Run_tryAct 116 = .ok (.isub, 1) := by decide +kernel
theorem d_Run_tryAct_117 : decode b_Run_tryAct 117 = .ok (.putfield 34, 3) := by decide +kernel
theorem d_Run_tryAct_120 : decode b_Run_tryAct 120 = .ok (.aload_n 0, 1) := by decide +kernel
theorem d_Run_tryAct_121 : decode b_Run_tryAct 121 = .ok (.dup, 1) := by decide +kernel
theorem d_Run_tryAct_122 : decode b_Run_tryAct 122 = .ok (.getfield 31, 3) := by decide +kernel
theorem d_Run_tryAct_125 : decode b_Run_tryAct 125 = .ok (.iconst 1, 1) := by decide +kernel
theorem d_Run_tryAct_126 : decode b_Run_tryAct 126 = .ok (.iadd, 1) := by decide +kernel
theorem d_Run_tryAct_127 : decode b_Run_tryAct 127 = .ok (.putfield 31, 3) := by decide +kernel
theorem d_Run_tryAct_130 : decode b_Run_tryAct 130 = .ok (.return_, 1) := by decide +kernel
theorem d_Run_advance_0 : decode b_Run_advance 0 = .ok (.aload_n 1, 1) := by decide +kernel
theorem d_Run_advance_1 : decode b_Run_advance 1 = .ok (.getfield 43, 3) := by decide +kernel
theorem d_Run_advance_4 : decode b_Run_advance 4 = .ok (.aload_n 0, 1) := by decide +kernel
theorem d_Run_advance_5 : decode b_Run_advance 5 = .ok (.getfield 31, 3) := by decide +kernel
theorem d_Run_advance_8 : decode b_Run_advance 8 = .ok (.iaload, 1) := by decide +kernel
theorem d_Run_advance_9 : decode b_Run_advance 9 = .ok (.istore_n 3, 1) := by decide +kernel
theorem d_Run_advance_10 : decode b_Run_advance 10 = .ok (.aload_n 1, 1) := by decide +kernel
theorem d_Run_advance_11 : decode b_Run_advance 11 = .ok (.getfield 48, 3) := by decide +kernel
theorem d_Run_advance_14 : decode b_Run_advance 14 = .ok (.aload_n 0, 1) := by decide +kernel
theorem d_Run_advance_15 : decode b_Run_advance 15 = .ok (.getfield 31, 3) := by decide +kernel
theorem d_Run_advance_18 : decode b_Run_advance 18 = .ok (.iaload, 1) := by decide +kernel
theorem d_Run_advance_19 : decode b_Run_advance 19 = .ok (.istore 4, 2) := by decide +kernel
theorem d_Run_advance_21 : decode b_Run_advance 21 = .ok (.iload_n 3, 1) := by decide +kernel
theorem d_Run_advance_22 : decode b_Run_advance 22 = .ok (.tableswitch 90 7 12 #[38, 47, 72, 90, 90, 82], 38) := by decide +kernel
theorem d_Run_advance_60 : decode b_Run_advance 60 = .ok (.aload_n 0, 1) := by decide +kernel
theorem d_Run_advance_61 : decode b_Run_advance 61 = .ok (.iload 4, 2) := by decide +kernel
theorem d_Run_advance_63 : decode b_Run_advance 63 = .ok (.putfield 31, 3) := by decide +kernel
theorem d_Run_advance_66 : decode b_Run_advance 66 = .ok (.goto 63, 3) := by decide +kernel
theorem d_Run_advance_69 : decode b_Run_advance 69 = .ok (.aload_n 0, 1) := by decide +kernel
theorem d_Run_advance_70 : decode b_Run_advance 70 = .ok (.aload_n 0, 1) := by decide +kernel
theorem d_Run_advance_71 : decode b_Run_advance 71 = .ok (.invokevirtual 51, 3) := by decide +kernel
theorem d_Run_advance_74 : decode b_Run_advance 74 = .ok (.ifCond .eq 8, 3) := by decide +kernel
theorem d_Run_advance_77 : decode b_Run_advance 77 = .ok (.iload 4, 2) := by decide +kernel
theorem d_Run_advance_79 : decode b_Run_advance 79 = .ok (.goto 9, 3) := by decide +kernel
theorem d_Run_advance_82 : decode b_Run_advance 82 = .ok (.aload_n 0, 1) := by decide +kernel
theorem d_Run_advance_83 : decode b_Run_advance 83 = .ok (.getfield 31, 3) := by decide +kernel
theorem d_Run_advance_86 : decode b_Run_advance 86 = .ok (.iconst 1, 1) := by decide +kernel
theorem d_Run_advance_87 : decode b_Run_advance 87 = .ok (.iadd, 1) := by decide +kernel
theorem d_Run_advance_88 : decode b_Run_advance 88 = .ok (.putfield 31, 3) := by decide +kernel
theorem d_Run_advance_91 : decode b_Run_advance 91 = .ok (.goto 38, 3) := by decide +kernel
theorem d_Run_advance_94 : decode b_Run_advance 94 = .ok (.aload_n 0, 1) := by decide +kernel
theorem d_Run_advance_95 : decode b_Run_advance 95 = .ok (.aload_n 2, 1) := by decide +kernel
theorem d_Run_advance_96 : decode b_Run_advance 96 = .ok (.iload 4, 2) := by decide +kernel
theorem d_Run_advance_98 : decode b_Run_advance 98 = .ok (.invokevirtual 55, 3) := by decide +kernel
theorem d_Run_advance_101 : decode b_Run_advance 101 = .ok (.goto 28, 3) := by decide +kernel
theorem d_Run_advance_104 : decode b_Run_advance 104 = .ok (.aload_n 0, 1) := by decide +kernel
theorem d_Run_advance_105 : decode b_Run_advance 105 = .ok (.iconst 2, 1) := by decide +kernel
theorem d_Run_advance_106 : decode b_Run_advance 106 = .ok (.putfield 24, 3) := by decide +kernel
theorem d_Run_advance_109 : decode b_Run_advance 109 = .ok (.goto 20, 3) := by decide +kernel
theorem d_Run_advance_112 : decode b_Run_advance 112 = .ok (.aload_n 0, 1) := by decide +kernel
theorem d_Run_advance_113 : decode b_Run_advance 113 = .ok (.iload_n 3, 1) := by decide +kernel
theorem d_Run_advance_114 : decode b_Run_advance 114 = .ok (.iload 4, 2) := by decide +kernel
theorem d_Run_advance_116 : decode b_Run_advance 116 = .ok (.invokevirtual 59, 3) := by decide +kernel
theorem d_Run_advance_119 : decode b_Run_advance 119 = .ok (.aload_n 0, 1) := by decide +kernel
theorem d_Run_advance_120 : decode b_Run_advance 120 = .ok (.dup, 1) := by decide +kernel
theorem d_Run_advance_121 : decode b_Run_advance 121 = .ok (.getfield 31, 3) := by decide +kernel
theorem d_Run_advance_124 : decode b_Run_advance 124 = .ok (.iconst 1, 1) := by decide +kernel
theorem d_Run_advance_125 : decode b_Run_advance 125 = .ok (.iadd, 1) := by decide +kernel
theorem d_Run_advance_126 : decode b_Run_advance 126 = .ok (.putfield 31, 3) := by decide +kernel
theorem d_Run_advance_129 : decode b_Run_advance 129 = .ok (.return_, 1) := by decide +kernel
theorem d_Run_policyState_0 : decode b_Run_policyState 0 = .ok (.aload_n 0, 1) := by decide +kernel
theorem d_Run_policyState_1 : decode b_Run_policyState 1 = .ok (.getfield 28, 3) := by decide +kernel
theorem d_Run_policyState_4 : decode b_Run_policyState 4 = .ok (.iconst 1, 1) := by decide +kernel
theorem d_Run_policyState_5 : decode b_Run_policyState 5 = .ok (.if_icmp .ne 13, 3) := by decide +kernel
theorem d_Run_policyState_8 : decode b_Run_policyState 8 = .ok (.aload_n 0, 1) := by decide +kernel
theorem d_Run_policyState_9 : decode b_Run_policyState 9 = .ok (.getfield 15, 3) := by decide +kernel
theorem d_Run_policyState_12 : decode b_Run_policyState 12 = .ok (.bipush 7, 2) := by decide +kernel
theorem d_Run_policyState_14 : decode b_Run_policyState 14 = .ok (.iaload, 1) := by decide +kernel
theorem d_Run_policyState_15 : decode b_Run_policyState 15 = .ok (.goto 7, 3) := by decide +kernel
theorem d_Run_policyState_18 : decode b_Run_policyState 18 = .ok (.aload_n 0, 1) := by decide +kernel
theorem d_Run_policyState_19 : decode b_Run_policyState 19 = .ok (.getfield 37, 3) := by decide +kernel
theorem d_Run_policyState_22 : decode b_Run_policyState 22 = .ok (.ireturn, 1) := by decide +kernel
theorem d_Run_begin_0 : decode b_Run_begin 0 = .ok (.aload_n 0, 1) := by decide +kernel
theorem d_Run_begin_1 : decode b_Run_begin 1 = .ok (.iload_n 1, 1) := by decide +kernel
theorem d_Run_begin_2 : decode b_Run_begin 2 = .ok (.putfield 28, 3) := by decide +kernel
theorem d_Run_begin_5 : decode b_Run_begin 5 = .ok (.aload_n 0, 1) := by decide +kernel
theorem d_Run_begin_6 : decode b_Run_begin 6 = .ok (.iconst 1, 1) := by decide +kernel
theorem d_Run_begin_7 : decode b_Run_begin 7 = .ok (.putfield 24, 3) := by decide +kernel
theorem d_Run_begin_10 : decode b_Run_begin 10 = .ok (.aload_n 0, 1) := by decide +kernel
theorem d_Run_begin_11 : decode b_Run_begin 11 = .ok (.iconst 0, 1) := by decide +kernel
theorem d_Run_begin_12 : decode b_Run_begin 12 = .ok (.putfield 31, 3) := by decide +kernel
theorem d_Run_begin_15 : decode b_Run_begin 15 = .ok (.aload_n 0, 1) := by decide +kernel
theorem d_Run_begin_16 : decode b_Run_begin 16 = .ok (.iconst 0, 1) := by decide +kernel
theorem d_Run_begin_17 : decode b_Run_begin 17 = .ok (.putfield 34, 3) := by decide +kernel
theorem d_Run_begin_20 : decode b_Run_begin 20 = .ok (.aload_n 0, 1) := by decide +kernel
theorem d_Run_begin_21 : decode b_Run_begin 21 = .ok (.iconst 0, 1) := by decide +kernel
theorem d_Run_begin_22 : decode b_Run_begin 22 = .ok (.putfield 37, 3) := by decide +kernel
theorem d_Run_begin_25 : decode b_Run_begin 25 = .ok (.aload_n 0, 1) := by decide +kernel
theorem d_Run_begin_26 : decode b_Run_begin 26 = .ok (.iconst 0, 1) := by decide +kernel
theorem d_Run_begin_27 : decode b_Run_begin 27 = .ok (.putfield 40, 3) := by decide +kernel
theorem d_Run_begin_30 : decode b_Run_begin 30 = .ok (.iconst 0, 1) := by decide +kernel
theorem d_Run_begin_31 : decode b_Run_begin 31 = .ok (.istore_n 3, 1) := by decide +kernel
theorem d_Run_begin_32 : decode b_Run_begin 32 = .ok (.iload_n 3, 1) := by decide +kernel
theorem d_Run_begin_33 : decode b_Run_begin 33 = .ok (.bipush 8, 2) := by decide +kernel
theorem d_Run_begin_35 : decode b_Run_begin 35 = .ok (.if_icmp .ge 16, 3) := by decide +kernel
theorem d_Run_begin_38 : decode b_Run_begin 38 = .ok (.aload_n 0, 1) := by decide +kernel
theorem d_Run_begin_39 : decode b_Run_begin 39 = .ok (.getfield 15, 3) := by decide +kernel
theorem d_Run_begin_42 : decode b_Run_begin 42 = .ok (.iload_n 3, 1) := by decide +kernel
theorem d_Run_begin_43 : decode b_Run_begin 43 = .ok (.iconst 0, 1) := by decide +kernel
theorem d_Run_begin_44 : decode b_Run_begin 44 = .ok (.iastore, 1) := by decide +kernel
theorem d_Run_begin_45 : decode b_Run_begin 45 = .ok (.iinc 3 1, 3) := by decide +kernel
theorem d_Run_begin_48 : decode b_Run_begin 48 = .ok (.goto (-16), 3) := by decide +kernel
theorem d_Run_begin_51 : decode b_Run_begin 51 = .ok (.aload_n 0, 1) := by decide +kernel
theorem d_Run_begin_52 : decode b_Run_begin 52 = .ok (.getfield 15, 3) := by decide +kernel
theorem d_Run_begin_55 : decode b_Run_begin 55 = .ok (.iconst 0, 1) := by decide +kernel
theorem d_Run_begin_56 : decode b_Run_begin 56 = .ok (.iload_n 2, 1) := by decide +kernel
theorem d_Run_begin_57 : decode b_Run_begin 57 = .ok (.iastore, 1) := by decide +kernel
theorem d_Run_begin_58 : decode b_Run_begin 58 = .ok (.return_, 1) := by decide +kernel
