/-! Decode rows of reference. -/
theorem d_Model_step_0 : decode b_Model_step 0 = .ok (.aload_n 0, 1) := by decide +kernel
theorem d_Model_step_1 : decode b_Model_step 1 = .ok (.aload_n 0, 1) := by decide +kernel
theorem d_Model_step_2 : decode b_Model_step 2 = .ok (.getfield 58, 3) := by decide +kernel
theorem d_Model_step_5 : decode b_Model_step 5 = .ok (.ifCond .ne 7, 3) := by decide +kernel
theorem d_Model_step_8 : decode b_Model_step 8 = .ok (.iconst 1, 1) := by decide +kernel
theorem d_Model_step_9 : decode b_Model_step 9 = .ok (.goto 19, 3) := by decide +kernel
theorem d_Model_step_12 : decode b_Model_step 12 = .ok (.iload_n 1, 1) := by decide +kernel
theorem d_Model_step_13 : decode b_Model_step 13 = .ok (.ifCond .lt 10, 3) := by decide +kernel
theorem d_Model_step_16 : decode b_Model_step 16 = .ok (.iload_n 1, 1) := by decide +kernel
theorem d_Model_step_17 : decode b_Model_step 17 = .ok (.sipush 2000, 3) := by decide +kernel
theorem d_Model_step_20 : decode b_Model_step 20 = .ok (.if_icmp .le 7, 3) := by decide +kernel
theorem d_Model_step_23 : decode b_Model_step 23 = .ok (.iconst 2, 1) := by decide +kernel
theorem d_Model_step_24 : decode b_Model_step 24 = .ok (.goto 4, 3) := by decide +kernel
theorem d_Model_step_27 : decode b_Model_step 27 = .ok (.iconst 0, 1) := by decide +kernel
theorem d_Model_step_28 : decode b_Model_step 28 = .ok (.putfield 48, 3) := by decide +kernel
theorem d_Model_step_31 : decode b_Model_step 31 = .ok (.iconst 0, 1) := by decide +kernel
theorem d_Model_step_32 : decode b_Model_step 32 = .ok (.istore_n 2, 1) := by decide +kernel
theorem d_Model_step_33 : decode b_Model_step 33 = .ok (.aload_n 0, 1) := by decide +kernel
theorem d_Model_step_34 : decode b_Model_step 34 = .ok (.getfield 48, 3) := by decide +kernel
theorem d_Model_step_37 : decode b_Model_step 37 = .ok (.ifCond .ne 26, 3) := by decide +kernel
theorem d_Model_step_40 : decode b_Model_step 40 = .ok (.iload_n 2, 1) := by decide +kernel
theorem d_Model_step_41 : decode b_Model_step 41 = .ok (.iload_n 1, 1) := by decide +kernel
theorem d_Model_step_42 : decode b_Model_step 42 = .ok (.if_icmp .ge 21, 3) := by decide +kernel
theorem d_Model_step_45 : decode b_Model_step 45 = .ok (.aload_n 0, 1) := by decide +kernel
theorem d_Model_step_46 : decode b_Model_step 46 = .ok (.getfield 58, 3) := by decide +kernel
theorem d_Model_step_49 : decode b_Model_step 49 = .ok (.iconst 1, 1) := by decide +kernel
theorem d_Model_step_50 : decode b_Model_step 50 = .ok (.if_icmp .ne 13, 3) := by decide +kernel
theorem d_Model_step_53 : decode b_Model_step 53 = .ok (.aload_n 0, 1) := by decide +kernel
theorem d_Model_step_54 : decode b_Model_step 54 = .ok (.invokevirtual 140, 3) := by decide +kernel
theorem d_Model_step_57 : decode b_Model_step 57 = .ok (.iinc 2 1, 3) := by decide +kernel
theorem d_Model_step_60 : decode b_Model_step 60 = .ok (.goto (-27), 3) := by decide +kernel
theorem d_Model_step_63 : decode b_Model_step 63 = .ok (.iload_n 2, 1) := by decide +kernel
theorem d_Model_step_64 : decode b_Model_step 64 = .ok (.ireturn, 1) := by decide +kernel
theorem d_Model_well_0 : decode b_Model_well 0 = .ok (.aload_n 0, 1) := by decide +kernel
theorem d_Model_well_1 : decode b_Model_well 1 = .ok (.iconst 0, 1) := by decide +kernel
theorem d_Model_well_2 : decode b_Model_well 2 = .ok (.putfield 48, 3) := by decide +kernel
theorem d_Model_well_5 : decode b_Model_well 5 = .ok (.aload_n 0, 1) := by decide +kernel
theorem d_Model_well_6 : decode b_Model_well 6 = .ok (.invokevirtual 81, 3) := by decide +kernel
theorem d_Model_well_9 : decode b_Model_well 9 = .ok (.ireturn, 1) := by decide +kernel
theorem d_Model_height_0 : decode b_Model_height 0 = .ok (.aload_n 0, 1) := by decide +kernel
theorem d_Model_height_1 : decode b_Model_height 1 = .ok (.aload_n 0, 1) := by decide +kernel
theorem d_Model_height_2 : decode b_Model_height 2 = .ok (.invokevirtual 81, 3) := by decide +kernel
theorem d_Model_height_5 : decode b_Model_height 5 = .ok (.ifCond .ne 7, 3) := by decide +kernel
theorem d_Model_height_8 : decode b_Model_height 8 = .ok (.iconst 1, 1) := by decide +kernel
theorem d_Model_height_9 : decode b_Model_height 9 = .ok (.goto 16, 3) := by decide +kernel
theorem d_Model_height_12 : decode b_Model_height 12 = .ok (.aload_n 0, 1) := by decide +kernel
theorem d_Model_height_13 : decode b_Model_height 13 = .ok (.iload_n 1, 1) := by decide +kernel
theorem d_Model_height_14 : decode b_Model_height 14 = .ok (.invokevirtual 65, 3) := by decide +kernel
theorem d_Model_height_17 : decode b_Model_height 17 = .ok (.ifCond .ne 7, 3) := by decide +kernel
theorem d_Model_height_20 : decode b_Model_height 20 = .ok (.iconst 2, 1) := by decide +kernel
theorem d_Model_height_21 : decode b_Model_height 21 = .ok (.goto 4, 3) := by decide +kernel
theorem d_Model_height_24 : decode b_Model_height 24 = .ok (.iconst 0, 1) := by decide +kernel
theorem d_Model_height_25 : decode b_Model_height 25 = .ok (.putfield 48, 3) := by decide +kernel
theorem d_Model_height_28 : decode b_Model_height 28 = .ok (.aload_n 0, 1) := by decide +kernel
theorem d_Model_height_29 : decode b_Model_height 29 = .ok (.getfield 48, 3) := by decide +kernel
theorem d_Model_height_32 : decode b_Model_height 32 = .ok (.ifCond .le 7, 3) := by decide +kernel
theorem d_Model_height_35 : decode b_Model_height 35 = .ok (.iconst 0, 1) := by decide +kernel
theorem d_Model_height_36 : decode b_Model_height 36 = .ok (.goto 9, 3) := by decide +kernel
theorem d_Model_height_39 : decode b_Model_height 39 = .ok (.aload_n 0, 1) := by decide +kernel
theorem d_Model_height_40 : decode b_Model_height 40 = .ok (.getfield 16, 3) := by decide +kernel
theorem d_Model_height_43 : decode b_Model_height 43 = .ok (.iload_n 1, 1) := by decide +kernel
theorem d_Model_height_44 : decode b_Model_height 44 = .ok (.iaload, 1) := by decide +kernel
theorem d_Model_height_45 : decode b_Model_height 45 = .ok (.ireturn, 1) := by decide +kernel
theorem d_Model_enforce_0 : decode b_Model_enforce 0 = .ok (.aload_n 0, 1) := by decide +kernel
theorem d_Model_enforce_1 : decode b_Model_enforce 1 = .ok (.aload_n 0, 1) := by decide +kernel
theorem d_Model_enforce_2 : decode b_Model_enforce 2 = .ok (.invokevirtual 81, 3) := by decide +kernel
theorem d_Model_enforce_5 : decode b_Model_enforce 5 = .ok (.ifCond .eq 7, 3) := by decide +kernel
theorem d_Model_enforce_8 : decode b_Model_enforce 8 = .ok (.iconst 0, 1) := by decide +kernel
theorem d_Model_enforce_9 : decode b_Model_enforce 9 = .ok (.goto 4, 3) := by decide +kernel
theorem d_Model_enforce_12 : decode b_Model_enforce 12 = .ok (.iconst 1, 1) := by decide +kernel
theorem d_Model_enforce_13 : decode b_Model_enforce 13 = .ok (.putfield 48, 3) := by decide +kernel
theorem d_Model_enforce_16 : decode b_Model_enforce 16 = .ok (.aload_n 0, 1) := by decide +kernel
theorem d_Model_enforce_17 : decode b_Model_enforce 17 = .ok (.getfield 48, 3) := by decide +kernel
theorem d_Model_enforce_20 : decode b_Model_enforce 20 = .ok (.ifCond .le 7, 3) := by decide +kernel
theorem d_Model_enforce_23 : decode b_Model_enforce 23 = .ok (.iconst 0, 1) := by decide +kernel
theorem d_Model_enforce_24 : decode b_Model_enforce 24 = .ok (.goto 11, 3) := by decide +kernel
theorem d_Model_enforce_27 : decode b_Model_enforce 27 = .ok (.aload_n 0, 1) := by decide +kernel
theorem d_Model_enforce_28 : decode b_Model_enforce 28 = .ok (.aload_n 0, 1) := by decide +kernel
theorem d_Model_enforce_29 : decode b_Model_enforce 29 = .ok (.getfield 55, 3) := by decide +kernel
theorem d_Model_enforce_32 : decode b_Model_enforce 32 = .ok (.invokevirtual 97, 3) := by decide +kernel
theorem d_Model_enforce_35 : decode b_Model_enforce 35 = .ok (.ireturn, 1) := by decide +kernel
theorem d_Model_enforced_0 : decode b_Model_enforced 0 = .ok (.aload_n 0, 1) := by decide +kernel
theorem d_Model_enforced_1 : decode b_Model_enforced 1 = .ok (.aload_n 0, 1) := by decide +kernel
theorem d_Model_enforced_2 : decode b_Model_enforced 2 = .ok (.invokevirtual 81, 3) := by decide +kernel
theorem d_Model_enforced_5 : decode b_Model_enforced 5 = .ok (.ifCond .ne 7, 3) := by decide +kernel
theorem d_Model_enforced_8 : decode b_Model_enforced 8 = .ok (.iconst 1, 1) := by decide +kernel
theorem d_Model_enforced_9 : decode b_Model_enforced 9 = .ok (.goto 24, 3) := by decide +kernel
theorem d_Model_enforced_12 : decode b_Model_enforced 12 = .ok (.iload_n 1, 1) := by decide +kernel
theorem d_Model_enforced_13 : decode b_Model_enforced 13 = .ok (.ifCond .lt 15, 3) := by decide +kernel
theorem d_Model_enforced_16 : decode b_Model_enforced 16 = .ok (.iload_n 1, 1) := by decide +kernel
theorem d_Model_enforced_17 : decode b_Model_enforced 17 = .ok (.aload_n 0, 1) := by decide +kernel
theorem d_Model_enforced_18 : decode b_Model_enforced 18 = .ok (.aload_n 0, 1) := by decide +kernel
theorem d_Model_enforced_19 : decode b_Model_enforced 19 = .ok (.getfield 55, 3) := by decide +kernel
theorem d_Model_enforced_22 : decode b_Model_enforced 22 = .ok (.invokevirtual 97, 3) := by decide +kernel
theorem d_Model_enforced_25 : decode b_Model_enforced 25 = .ok (.if_icmp .lt 7, 3) := by decide +kernel
theorem d_Model_enforced_28 : decode b_Model_enforced 28 = .ok (.iconst 2, 1) := by decide +kernel
theorem d_Model_enforced_29 : decode b_Model_enforced 29 = .ok (.goto 4, 3) := by decide +kernel
theorem d_Model_enforced_32 : decode b_Model_enforced 32 = .ok (.iconst 0, 1) := by decide +kernel
theorem d_Model_enforced_33 : decode b_Model_enforced 33 = .ok (.putfield 48, 3) := by decide +kernel
theorem d_Model_enforced_36 : decode b_Model_enforced 36 = .ok (.aload_n 0, 1) := by decide +kernel
theorem d_Model_enforced_37 : decode b_Model_enforced 37 = .ok (.getfield 48, 3) := by decide +kernel
theorem d_Model_enforced_40 : decode b_Model_enforced 40 = .ok (.ifCond .le 5, 3) := by decide +kernel
theorem d_Model_enforced_43 : decode b_Model_enforced 43 = .ok (.iconst 0, 1) := by decide +kernel
theorem d_Model_enforced_44 : decode b_Model_enforced 44 = .ok (.ireturn, 1) := by decide +kernel
theorem d_Model_enforced_45 : decode b_Model_enforced 45 = .ok (.aload_n 0, 1) := by decide +kernel
theorem d_Model_enforced_46 : decode b_Model_enforced 46 = .ok (.iload_n 1, 1) := by decide +kernel
theorem d_Model_enforced_47 : decode b_Model_enforced 47 = .ok (.invokevirtual 108, 3) := by decide +kernel
theorem d_Model_enforced_50 : decode b_Model_enforced 50 = .ok (.iload_n 2, 1) := by decide +kernel
theorem d_Model_enforced_51 : decode b_Model_enforced 51 = .ok (.ifCond .eq 10, 3) := by decide +kernel
theorem d_Model_enforced_54 : decode b_Model_enforced 54 = .ok (.aload_n 0, 1) := by decide +kernel
theorem d_Model_enforced_55 : decode b_Model_enforced 55 = .ok (.getfield 94, 3) := by decide +kernel
theorem d_Model_enforced_58 : decode b_Model_enforced 58 = .ok (.goto 7, 3) := by decide +kernel
theorem d_Model_enforced_61 : decode b_Model_enforced 61 = .ok (.aload_n 0, 1) := by decide +kernel
theorem d_Model_enforced_62 : decode b_Model_enforced 62 = .ok (.getfield 91, 3) := by decide +kernel
theorem d_Model_enforced_65 : decode b_Model_enforced 65 = .ok (.ireturn, 1) := by decide +kernel
theorem d_Model_start_0 : decode b_Model_start 0 = .ok (.aload_n 0, 1) := by decide +kernel
theorem d_Model_start_1 : decode b_Model_start 1 = .ok (.aload_n 0, 1) := by decide +kernel
theorem d_Model_start_2 : decode b_Model_start 2 = .ok (.invokevirtual 81, 3) := by decide +kernel
theorem d_Model_start_5 : decode b_Model_start 5 = .ok (.ifCond .ne 7, 3) := by decide +kernel
theorem d_Model_start_8 : decode b_Model_start 8 = .ok (.iconst 1, 1) := by decide +kernel
theorem d_Model_start_9 : decode b_Model_start 9 = .ok (.goto 17, 3) := by decide +kernel
theorem d_Model_start_12 : decode b_Model_start 12 = .ok (.iload_n 1, 1) := by decide +kernel
theorem d_Model_start_13 : decode b_Model_start 13 = .ok (.ifCond .lt 8, 3) := by decide +kernel
theorem d_Model_start_16 : decode b_Model_start 16 = .ok (.iload_n 1, 1) := by decide +kernel
theorem d_Model_start_17 : decode b_Model_start 17 = .ok (.iconst 2, 1) := by decide +kernel
theorem d_Model_start_18 : decode b_Model_start 18 = .ok (.if_icmp .le 7, 3) := by decide +kernel
theorem d_Model_start_21 : decode b_Model_start 21 = .ok (.iconst 2, 1) := by decide +kernel
theorem d_Model_start_22 : decode b_Model_start 22 = .ok (.goto 4, 3) := by decide +kernel
theorem d_Model_start_25 : decode b_Model_start 25 = .ok (.iconst 0, 1) := by decide +kernel
theorem d_Model_start_26 : decode b_Model_start 26 = .ok (.putfield 48, 3) := by decide +kernel
theorem d_Model_start_29 : decode b_Model_start 29 = .ok (.aload_n 0, 1) := by decide +kernel
theorem d_Model_start_30 : decode b_Model_start 30 = .ok (.getfield 48, 3) := by decide +kernel
theorem d_Model_start_33 : decode b_Model_start 33 = .ok (.ifCond .le 4, 3) := by decide +kernel
theorem d_Model_start_36 : decode b_Model_start 36 = .ok (.return_, 1) := by decide +kernel
theorem d_Model_start_37 : decode b_Model_start 37 = .ok (.aload_n 0, 1) := by decide +kernel
theorem d_Model_start_38 : decode b_Model_start 38 = .ok (.iconst 1, 1) := by decide +kernel
theorem d_Model_start_39 : decode b_Model_start 39 = .ok (.putfield 58, 3) := by decide +kernel
theorem d_Model_start_42 : decode b_Model_start 42 = .ok (.aload_n 0, 1) := by decide +kernel
theorem d_Model_start_43 : decode b_Model_start 43 = .ok (.iload_n 1, 1) := by decide +kernel
theorem d_Model_start_44 : decode b_Model_start 44 = .ok (.putfield 112, 3) := by decide +kernel
theorem d_Model_start_47 : decode b_Model_start 47 = .ok (.aload_n 0, 1) := by decide +kernel
theorem d_Model_start_48 : decode b_Model_start 48 = .ok (.iconst 0, 1) := by decide +kernel
theorem d_Model_start_49 : decode b_Model_start 49 = .ok (.putfield 115, 3) := by decide +kernel
theorem d_Model_start_52 : decode b_Model_start 52 = .ok (.aload_n 0, 1) := by decide +kernel
theorem d_Model_start_53 : decode b_Model_start 53 = .ok (.iconst 0, 1) := by decide +kernel
theorem d_Model_start_54 : decode b_Model_start 54 = .ok (.putfield 118, 3) := by decide +kernel
theorem d_Model_start_57 : decode b_Model_start 57 = .ok (.aload_n 0, 1) := by decide +kernel
theorem d_Model_start_58 : decode b_Model_start 58 = .ok (.iconst 0, 1) := by decide +kernel
theorem d_Model_start_59 : decode b_Model_start 59 = .ok (.putfield 121, 3) := by decide +kernel
theorem d_Model_start_62 : decode b_Model_start 62 = .ok (.aload_n 0, 1) := by decide +kernel
theorem d_Model_start_63 : decode b_Model_start 63 = .ok (.iconst 0, 1) := by decide +kernel
theorem d_Model_start_64 : decode b_Model_start 64 = .ok (.putfield 124, 3) := by decide +kernel
theorem d_Model_start_67 : decode b_Model_start 67 = .ok (.aload_n 0, 1) := by decide +kernel
theorem d_Model_start_68 : decode b_Model_start 68 = .ok (.iconst 0, 1) := by decide +kernel
theorem d_Model_start_69 : decode b_Model_start 69 = .ok (.putfield 127, 3) := by decide +kernel
theorem d_Model_start_72 : decode b_Model_start 72 = .ok (.iconst 0, 1) := by decide +kernel
theorem d_Model_start_73 : decode b_Model_start 73 = .ok (.istore_n 3, 1) := by decide +kernel
theorem d_Model_start_74 : decode b_Model_start 74 = .ok (.iload_n 3, 1) := by decide +kernel
theorem d_Model_start_75 : decode b_Model_start 75 = .ok (.bipush 8, 2) := by decide +kernel
theorem d_Model_start_77 : decode b_Model_start 77 = .ok (.if_icmp .ge 16, 3) := by decide +kernel
theorem d_Model_start_80 : decode b_Model_start 80 = .ok (.aload_n 0, 1) := by decide +kernel
theorem d_Model_start_81 : decode b_Model_start 81 = .ok (.getfield 39, 3) := by decide +kernel
theorem d_Model_start_84 : decode b_Model_start 84 = .ok (.iload_n 3, 1) := by decide +kernel
theorem d_Model_start_85 : decode b_Model_start 85 = .ok (.iconst 0, 1) := by decide +kernel
theorem d_Model_start_86 : decode b_Model_start 86 = .ok (.iastore, 1) := by decide +kernel
theorem d_Model_start_87 : decode b_Model_start 87 = .ok (.iinc 3 1, 3) := by decide +kernel
theorem d_Model_start_90 : decode b_Model_start 90 = .ok (.goto (-16), 3) := by decide +kernel
theorem d_Model_start_93 : decode b_Model_start 93 = .ok (.aload_n 0, 1) := by decide +kernel
theorem d_Model_start_94 : decode b_Model_start 94 = .ok (.getfield 39, 3) := by decide +kernel
theorem d_Model_start_97 : decode b_Model_start 97 = .ok (.iconst 0, 1) := by decide +kernel
theorem d_Model_start_98 : decode b_Model_start 98 = .ok (.iload_n 2, 1) := by decide +kernel
theorem d_Model_start_99 : decode b_Model_start 99 = .ok (.iastore, 1) := by decide +kernel
theorem d_Model_start_100 : decode b_Model_start 100 = .ok (.return_, 1) := by decide +kernel
theorem d_Model_look_0 : decode b_Model_look 0 = .ok (.aload_n 0, 1) := by decide +kernel
theorem d_Model_look_1 : decode b_Model_look 1 = .ok (.iload_n 1, 1) := by decide +kernel
theorem d_Model_look_2 : decode b_Model_look 2 = .ok (.ifCond .lt 8, 3) := by decide +kernel
theorem d_Model_look_5 : decode b_Model_look 5 = .ok (.iload_n 1, 1) := by decide +kernel
theorem d_Model_look_6 : decode b_Model_look 6 = .ok (.iconst 4, 1) := by decide +kernel
theorem d_Model_look_7 : decode b_Model_look 7 = .ok (.if_icmp .le 7, 3) := by decide +kernel
theorem d_Model_look_10 : decode b_Model_look 10 = .ok (.iconst 1, 1) := by decide +kernel
theorem d_Model_look_11 : decode b_Model_look 11 = .ok (.goto 4, 3) := by decide +kernel
theorem d_Model_look_14 : decode b_Model_look 14 = .ok (.iconst 0, 1) := by decide +kernel
theorem d_Model_look_15 : decode b_Model_look 15 = .ok (.putfield 48, 3) := by decide +kernel
theorem d_Model_look_18 : decode b_Model_look 18 = .ok (.aload_n 0, 1) := by decide +kernel
theorem d_Model_look_19 : decode b_Model_look 19 = .ok (.getfield 48, 3) := by decide +kernel
theorem d_Model_look_22 : decode b_Model_look 22 = .ok (.ifCond .gt 10, 3) := by decide +kernel
theorem d_Model_look_25 : decode b_Model_look 25 = .ok (.aload_n 0, 1) := by decide +kernel
theorem d_Model_look_26 : decode b_Model_look 26 = .ok (.getfield 58, 3) := by decide +kernel
theorem d_Model_look_29 : decode b_Model_look 29 = .ok (.ifCond .ne 5, 3) := by decide +kernel
theorem d_Model_look_32 : decode b_Model_look 32 = .ok (.iconst 0, 1) := by decide +kernel
theorem d_Model_look_33 : decode b_Model_look 33 = .ok (.ireturn, 1) := by decide +kernel
theorem d_Model_look_34 : decode b_Model_look 34 = .ok (.iload_n 1, 1) := by decide +kernel
theorem d_Model_look_35 : decode b_Model_look 35 = .ok (.tableswitch 82 0 3 #[29, 34, 54, 59], 29) := by decide +kernel
theorem d_Model_look_64 : decode b_Model_look 64 = .ok (.aload_n 0, 1) := by decide +kernel
theorem d_Model_look_65 : decode b_Model_look 65 = .ok (.getfield 58, 3) := by decide +kernel
theorem d_Model_look_68 : decode b_Model_look 68 = .ok (.ireturn, 1) := by decide +kernel
theorem d_Model_look_69 : decode b_Model_look 69 = .ok (.aload_n 0, 1) := by decide +kernel
theorem d_Model_look_70 : decode b_Model_look 70 = .ok (.getfield 58, 3) := by decide +kernel
theorem d_Model_look_73 : decode b_Model_look 73 = .ok (.iconst 1, 1) := by decide +kernel
theorem d_Model_look_74 : decode b_Model_look 74 = .ok (.if_icmp .ne 10, 3) := by decide +kernel
theorem d_Model_look_77 : decode b_Model_look 77 = .ok (.aload_n 0, 1) := by decide +kernel
theorem d_Model_look_78 : decode b_Model_look 78 = .ok (.getfield 115, 3) := by decide +kernel
theorem d_Model_look_81 : decode b_Model_look 81 = .ok (.goto 7, 3) := by decide +kernel
theorem d_Model_look_84 : decode b_Model_look 84 = .ok (.aload_n 0, 1) := by decide +kernel
theorem d_Model_look_85 : decode b_Model_look 85 = .ok (.getfield 118, 3) := by decide +kernel
theorem d_Model_look_88 : decode b_Model_look 88 = .ok (.ireturn, 1) := by decide +kernel
theorem d_Model_look_89 : decode b_Model_look 89 = .ok (.aload_n 0, 1) := by decide +kernel
theorem d_Model_look_90 : decode b_Model_look 90 = .ok (.getfield 124, 3) := by decide +kernel
theorem d_Model_look_93 : decode b_Model_look 93 = .ok (.ireturn, 1) := by decide +kernel
theorem d_Model_look_94 : decode b_Model_look 94 = .ok (.aload_n 0, 1) := by decide +kernel
theorem d_Model_look_95 : decode b_Model_look 95 = .ok (.getfield 112, 3) := by decide +kernel
theorem d_Model_look_98 : decode b_Model_look 98 = .ok (.iconst 2, 1) := by decide +kernel
theorem d_Model_look_99 : decode b_Model_look 99 = .ok (.if_icmp .ne 10, 3) := by decide +kernel
theorem d_Model_look_102 : decode b_Model_look 102 = .ok (.aload_n 0, 1) := by decide +kernel
theorem d_Model_look_103 : decode b_Model_look 103 = .ok (.getfield 121, 3) := by decide +kernel
theorem d_Model_look_106 : decode b_Model_look 106 = .ok (.goto 10, 3) := by decide +kernel
theorem d_Model_look_109 : decode b_Model_look 109 = .ok (.aload_n 0, 1) := by decide +kernel
theorem d_Model_look_110 : decode b_Model_look 110 = .ok (.getfield 39, 3) := by decide +kernel
theorem d_Model_look_113 : decode b_Model_look 113 = .ok (.bipush 7, 2) := by decide +kernel
theorem d_Model_look_115 : decode b_Model_look 115 = .ok (.iaload, 1) := by decide +kernel
theorem d_Model_look_116 : decode b_Model_look 116 = .ok (.ireturn, 1) := by decide +kernel
theorem d_Model_look_117 : decode b_Model_look 117 = .ok (.aload_n 0, 1) := by decide +kernel
theorem d_Model_look_118 : decode b_Model_look 118 = .ok (.getfield 127, 3) := by decide +kernel
theorem d_Model_look_121 : decode b_Model_look 121 = .ok (.ireturn, 1) := by decide +kernel
theorem d_Model_act_0 : decode b_Model_act 0 = .ok (.aload_n 0, 1) := by decide +kernel
theorem d_Model_act_1 : decode b_Model_act 1 = .ok (.aload_n 0, 1) := by decide +kernel
theorem d_Model_act_2 : decode b_Model_act 2 = .ok (.getfield 58, 3) := by decide +kernel
theorem d_Model_act_5 : decode b_Model_act 5 = .ok (.ifCond .eq 15, 3) := by decide +kernel
theorem d_Model_act_8 : decode b_Model_act 8 = .ok (.iload_n 1, 1) := by decide +kernel
theorem d_Model_act_9 : decode b_Model_act 9 = .ok (.ifCond .lt 11, 3) := by decide +kernel
theorem d_Model_act_12 : decode b_Model_act 12 = .ok (.iload_n 1, 1) := by decide +kernel
theorem d_Model_act_13 : decode b_Model_act 13 = .ok (.aload_n 0, 1) := by decide +kernel
theorem d_Model_act_14 : decode b_Model_act 14 = .ok (.getfield 127, 3) := by decide +kernel
theorem d_Model_act_17 : decode b_Model_act 17 = .ok (.if_icmp .lt 7, 3) := by decide +kernel
theorem d_Model_act_20 : decode b_Model_act 20 = .ok (.iconst 1, 1) := by decide +kernel
theorem d_Model_act_21 : decode b_Model_act 21 = .ok (.goto 4, 3) := by decide +kernel
theorem d_Model_act_24 : decode b_Model_act 24 = .ok (.iconst 0, 1) := by decide +kernel
theorem d_Model_act_25 : decode b_Model_act 25 = .ok (.putfield 48, 3) := by decide +kernel
theorem d_Model_act_28 : decode b_Model_act 28 = .ok (.aload_n 0, 1) := by decide +kernel
theorem d_Model_act_29 : decode b_Model_act 29 = .ok (.getfield 48, 3) := by decide +kernel
theorem d_Model_act_32 : decode b_Model_act 32 = .ok (.ifCond .le 5, 3) := by decide +kernel
theorem d_Model_act_35 : decode b_Model_act 35 = .ok (.iconst 0, 1) := by decide +kernel
theorem d_Model_act_36 : decode b_Model_act 36 = .ok (.ireturn, 1) := by decide +kernel
theorem d_Model_act_37 : decode b_Model_act 37 = .ok (.iload_n 2, 1) := by decide +kernel
theorem d_Model_act_38 : decode b_Model_act 38 = .ok (.ifCond .eq 12, 3) := by decide +kernel
theorem d_Model_act_41 : decode b_Model_act 41 = .ok (.aload_n 0, 1) := by decide +kernel
theorem d_Model_act_42 : decode b_Model_act 42 = .ok (.getfield 45, 3) := by decide +kernel
theorem d_Model_act_45 : decode b_Model_act 45 = .ok (.iload_n 1, 1) := by decide +kernel
theorem d_Model_act_46 : decode b_Model_act 46 = .ok (.iaload, 1) := by decide +kernel
theorem d_Model_act_47 : decode b_Model_act 47 = .ok (.goto 9, 3) := by decide +kernel
theorem d_Model_act_50 : decode b_Model_act 50 = .ok (.aload_n 0, 1) := by decide +kernel
theorem d_Model_act_51 : decode b_Model_act 51 = .ok (.getfield 42, 3) := by decide +kernel
theorem d_Model_act_54 : decode b_Model_act 54 = .ok (.iload_n 1, 1) := by decide +kernel
theorem d_Model_act_55 : decode b_Model_act 55 = .ok (.iaload, 1) := by decide +kernel
theorem d_Model_act_56 : decode b_Model_act 56 = .ok (.ireturn, 1) := by decide +kernel
theorem d_Model_cell_0 : decode b_Model_cell 0 = .ok (.aload_n 0, 1) := by decide +kernel
theorem d_Model_cell_1 : decode b_Model_cell 1 = .ok (.iload_n 1, 1) := by decide +kernel
theorem d_Model_cell_2 : decode b_Model_cell 2 = .ok (.ifCond .lt 9, 3) := by decide +kernel
theorem d_Model_cell_5 : decode b_Model_cell 5 = .ok (.iload_n 1, 1) := by decide +kernel
theorem d_Model_cell_6 : decode b_Model_cell 6 = .ok (.bipush 7, 2) := by decide +kernel
theorem d_Model_cell_8 : decode b_Model_cell 8 = .ok (.if_icmp .le 7, 3) := by decide +kernel
theorem d_Model_cell_11 : decode b_Model_cell 11 = .ok (.iconst 1, 1) := by decide +kernel
theorem d_Model_cell_12 : decode b_Model_cell 12 = .ok (.goto 4, 3) := by decide +kernel
theorem d_Model_cell_15 : decode b_Model_cell 15 = .ok (.iconst 0, 1) := by decide +kernel
theorem d_Model_cell_16 : decode b_Model_cell 16 = .ok (.putfield 48, 3) := by decide +kernel
theorem d_Model_cell_19 : decode b_Model_cell 19 = .ok (.aload_n 0, 1) := by decide +kernel
theorem d_Model_cell_20 : decode b_Model_cell 20 = .ok (.getfield 48, 3) := by decide +kernel
theorem d_Model_cell_23 : decode b_Model_cell 23 = .ok (.ifCond .gt 10, 3) := by decide +kernel
theorem d_Model_cell_26 : decode b_Model_cell 26 = .ok (.aload_n 0, 1) := by decide +kernel
theorem d_Model_cell_27 : decode b_Model_cell 27 = .ok (.getfield 58, 3) := by decide +kernel
theorem d_Model_cell_30 : decode b_Model_cell 30 = .ok (.ifCond .ne 7, 3) := by decide +kernel
theorem d_Model_cell_33 : decode b_Model_cell 33 = .ok (.iconst 0, 1) := by decide +kernel
theorem d_Model_cell_34 : decode b_Model_cell 34 = .ok (.goto 9, 3) := by decide +kernel
theorem d_Model_cell_37 : decode b_Model_cell 37 = .ok (.aload_n 0, 1) := by decide +kernel
theorem d_Model_cell_38 : decode b_Model_cell 38 = .ok (.getfield 39, 3) := by decide +kernel
theorem d_Model_cell_41 : decode b_Model_cell 41 = .ok (.iload_n 1, 1) := by decide +kernel
theorem d_Model_cell_42 : decode b_Model_cell 42 = .ok (.iaload, 1) := by decide +kernel
theorem d_Model_cell_43 : decode b_Model_cell 43 = .ok (.ireturn, 1) := by decide +kernel
set_option maxHeartbeats 4000000 in
set_option maxRecDepth 100000 in
theorem c_Model_step_1 (l : Launch) (D : va_G) (cI cZ cL : ClassId) (m0 o1 o2 o3 o4 o5 o6 o7 o8 o9 o10 o11 : Nat) (P K Hm ru lo hi tm sa ca ta tn : Nat → Int32) (fo1 fk1 : Int32) (co np n stat how pl la stt q dn : Nat) (x : Int32)  : pl_I l y_Model_step b_Model_step 3 .int ({ frames := 0, cells := 0, slots := 0, locals := 0 } : Room) pl_E0 D classes (TY cI cZ cL) [.ref m0, .int x] [(m0, .inr (6, [.int (nI co), .int (nI np), .ref o1, .ref o2, .ref o3, .int (nI n), .ref o4, .ref o5, .ref o6, .ref o7, .int fo1, .int fk1, .int (nI 0), .int (nI how), .int (nI pl), .int (nI la), .int (nI stt), .int (nI q), .ref o8, .ref o9, .int (nI dn), .ref o10, .ref o11]))] (fun (r : Int32) (_ : Unit) => r = nI 0) (fun (_ : Unit) => [(m0, .inr (6, [.int (nI 1), .int (nI np), .ref o1, .ref o2, .ref o3, .int (nI n), .ref o4, .ref o5, .ref o6, .ref o7, .int fo1, .int fk1, .int (nI 0), .int (nI how), .int (nI pl), .int (nI la), .int (nI stt), .int (nI q), .ref o8, .ref o9, .int (nI dn), .ref o10, .ref o11]))]) := by
  refine pl_startI (by decide) (Nat.le_of_ble_eq_true rfl) ?_
  intro p e s m args below meth c A ls X hr hlk hin hK hP hD hS hA hE hl
  have X : CallFix p m c b_Model_step 3 s args TG R_Model := X
  have hx := X.1
  have hb := X.2.1
  have hl : lv_has ls 3 [(0, .ref m0), (1, .int x)] := hl
  refine lv_aload_n hx hb d_Model_step_0 rfl (lv_at hl 0 rfl) ?_
  refine lv_aload_n hx hb d_Model_step_1 rfl (lv_at hl 0 rfl) ?_
  refine pl_get X fw_Model_58 hK hP 0 rfl (v := .int (nI 0)) rfl d_Model_step_2 ?_
  refine pl_if_ne X (by decide) d_Model_step_5 rfl (fun gL => ?_) (fun gL => ?_)
  · skip
    exact absurd gL (by decide)
  · skip
    refine lv_iconst (v := nI 1) hx hb d_Model_step_8 (by decide) ?_
    refine lv_goto hx hb d_Model_step_9 rfl ?_
    refine pl_put X fw_Model_48 fp_Model rfl hK hP hD hS 0 rfl (v := .int (nI 1)) rfl rfl (Nat.le_of_ble_eq_true rfl) d_Model_step_28 (ws' := [(m0, .inr (6, [.int (nI 1), .int (nI np), .ref o1, .ref o2, .ref o3, .int (nI n), .ref o4, .ref o5, .ref o6, .ref o7, .int fo1, .int fk1, .int (nI 0), .int (nI how), .int (nI pl), .int (nI la), .int (nI stt), .int (nI q), .ref o8, .ref o9, .int (nI dn), .ref o10, .ref o11]))]) rfl (fun H locs hP hD hS => ?_)
    refine lv_iconst (v := nI 0) hx hb d_Model_step_31 (by decide) ?_
    refine lv_istore_n hx hb d_Model_step_32 rfl hl (by decide) (lv' := [(2, .int (nI 0)), (0, .ref m0), (1, .int x)]) rfl (fun ls hl => ?_)
    refine lv_aload_n hx hb d_Model_step_33 rfl (lv_at hl 1 rfl) ?_
    refine pl_get X fw_Model_48 hK hP 0 rfl (v := .int (nI 1)) rfl d_Model_step_34 ?_
    refine pl_if_ne X (by decide) d_Model_step_37 rfl (fun gL => ?_) (fun gL => ?_)
    · skip
      refine lv_iload_n hx hb d_Model_step_63 rfl (lv_at hl 0 rfl) ?_
      exact pl_iret X hr hlk hK rfl () rfl hP hD hS d_Model_step_64
    · skip
      exact absurd gL (by decide)

set_option maxHeartbeats 4000000 in
set_option maxRecDepth 100000 in
theorem c_Model_step_2 (l : Launch) (D : va_G) (cI cZ cL : ClassId) (m0 o1 o2 o3 o4 o5 o6 o7 o8 o9 o10 o11 : Nat) (P K Hm ru lo hi tm sa ca ta tn : Nat → Int32) (fo1 fk1 : Int32) (co np n stat how pl la stt q dn : Nat) (x : Int32) (hst : ¬ stat = 0) (hst4 : stat ≤ 4) (hxx : inB x 2001 = false) : pl_I l y_Model_step b_Model_step 3 .int ({ frames := 0, cells := 0, slots := 0, locals := 0 } : Room) pl_E0 D classes (TY cI cZ cL) [.ref m0, .int x] [(m0, .inr (6, [.int (nI co), .int (nI np), .ref o1, .ref o2, .ref o3, .int (nI n), .ref o4, .ref o5, .ref o6, .ref o7, .int fo1, .int fk1, .int (nI stat), .int (nI how), .int (nI pl), .int (nI la), .int (nI stt), .int (nI q), .ref o8, .ref o9, .int (nI dn), .ref o10, .ref o11]))] (fun (r : Int32) (_ : Unit) => r = nI 0) (fun (_ : Unit) => [(m0, .inr (6, [.int (nI 2), .int (nI np), .ref o1, .ref o2, .ref o3, .int (nI n), .ref o4, .ref o5, .ref o6, .ref o7, .int fo1, .int fk1, .int (nI stat), .int (nI how), .int (nI pl), .int (nI la), .int (nI stt), .int (nI q), .ref o8, .ref o9, .int (nI dn), .ref o10, .ref o11]))]) := by
  refine pl_startI (by decide) (Nat.le_of_ble_eq_true rfl) ?_
  intro p e s m args below meth c A ls X hr hlk hin hK hP hD hS hA hE hl
  have X : CallFix p m c b_Model_step 3 s args TG R_Model := X
  have hx := X.1
  have hb := X.2.1
  have hl : lv_has ls 3 [(0, .ref m0), (1, .int x)] := hl
  refine lv_aload_n hx hb d_Model_step_0 rfl (lv_at hl 0 rfl) ?_
  refine lv_aload_n hx hb d_Model_step_1 rfl (lv_at hl 0 rfl) ?_
  refine pl_get X fw_Model_58 hK hP 0 rfl (v := .int (nI stat)) rfl d_Model_step_2 ?_
  refine pl_if_ne X (by omega) d_Model_step_5 rfl (fun g5 => ?_) (fun g5 => ?_)
  · skip
    refine lv_iload_n hx hb d_Model_step_12 rfl (lv_at hl 1 rfl) ?_
    refine lv_if_lt hx hb d_Model_step_13 rfl (fun g13 => ?_) (fun g13 => ?_)
    · skip
      refine lv_iconst (v := nI 2) hx hb d_Model_step_23 (by decide) ?_
      refine lv_goto hx hb d_Model_step_24 rfl ?_
      refine pl_put X fw_Model_48 fp_Model rfl hK hP hD hS 0 rfl (v := .int (nI 2)) rfl rfl (Nat.le_of_ble_eq_true rfl) d_Model_step_28 (ws' := [(m0, .inr (6, [.int (nI 2), .int (nI np), .ref o1, .ref o2, .ref o3, .int (nI n), .ref o4, .ref o5, .ref o6, .ref o7, .int fo1, .int fk1, .int (nI stat), .int (nI how), .int (nI pl), .int (nI la), .int (nI stt), .int (nI q), .ref o8, .ref o9, .int (nI dn), .ref o10, .ref o11]))]) rfl (fun H locs hP hD hS => ?_)
      refine lv_iconst (v := nI 0) hx hb d_Model_step_31 (by decide) ?_
      refine lv_istore_n hx hb d_Model_step_32 rfl hl (by decide) (lv' := [(2, .int (nI 0)), (0, .ref m0), (1, .int x)]) rfl (fun ls hl => ?_)
      refine lv_aload_n hx hb d_Model_step_33 rfl (lv_at hl 1 rfl) ?_
      refine pl_get X fw_Model_48 hK hP 0 rfl (v := .int (nI 2)) rfl d_Model_step_34 ?_
      refine pl_if_ne X (by decide) d_Model_step_37 rfl (fun gL => ?_) (fun gL => ?_)
      · skip
        refine lv_iload_n hx hb d_Model_step_63 rfl (lv_at hl 0 rfl) ?_
        exact pl_iret X hr hlk hK rfl () rfl hP hD hS d_Model_step_64
      · skip
        exact absurd gL (by decide)
    · skip
      refine lv_iload_n hx hb d_Model_step_16 rfl (lv_at hl 1 rfl) ?_
      refine lv_sipush (v := nI 2000) hx hb d_Model_step_17 (by decide) ?_
      refine lv_icmp_le hx hb d_Model_step_20 rfl (fun g20 => ?_) (fun g20 => ?_)
      · skip
        exact absurd (inB_le_t (by omega) g13 g20) (by rw [hxx]; decide)
      · skip
        refine lv_iconst (v := nI 2) hx hb d_Model_step_23 (by decide) ?_
        refine lv_goto hx hb d_Model_step_24 rfl ?_
        refine pl_put X fw_Model_48 fp_Model rfl hK hP hD hS 0 rfl (v := .int (nI 2)) rfl rfl (Nat.le_of_ble_eq_true rfl) d_Model_step_28 (ws' := [(m0, .inr (6, [.int (nI 2), .int (nI np), .ref o1, .ref o2, .ref o3, .int (nI n), .ref o4, .ref o5, .ref o6, .ref o7, .int fo1, .int fk1, .int (nI stat), .int (nI how), .int (nI pl), .int (nI la), .int (nI stt), .int (nI q), .ref o8, .ref o9, .int (nI dn), .ref o10, .ref o11]))]) rfl (fun H locs hP hD hS => ?_)
        refine lv_iconst (v := nI 0) hx hb d_Model_step_31 (by decide) ?_
        refine lv_istore_n hx hb d_Model_step_32 rfl hl (by decide) (lv' := [(2, .int (nI 0)), (0, .ref m0), (1, .int x)]) rfl (fun ls hl => ?_)
        refine lv_aload_n hx hb d_Model_step_33 rfl (lv_at hl 1 rfl) ?_
        refine pl_get X fw_Model_48 hK hP 0 rfl (v := .int (nI 2)) rfl d_Model_step_34 ?_
        refine pl_if_ne X (by decide) d_Model_step_37 rfl (fun gL => ?_) (fun gL => ?_)
        · skip
          refine lv_iload_n hx hb d_Model_step_63 rfl (lv_at hl 0 rfl) ?_
          exact pl_iret X hr hlk hK rfl () rfl hP hD hS d_Model_step_64
        · skip
          exact absurd gL (by decide)
  · skip
    exact absurd g5 hst

set_option maxHeartbeats 4000000 in
set_option maxRecDepth 100000 in
theorem c_Model_step_0 (l : Launch) (D : va_G) (cI cZ cL : ClassId) (m0 o1 o2 o3 o4 o5 o6 o7 o8 o9 o10 o11 : Nat) (P K Hm ru lo hi tm sa ca ta tn : Nat → Int32) (fo1 fk1 : Int32) (co np n stat how pl la stt q dn : Nat) (th : Nat → Int32) (px B N0 : Nat) (O Kk : Nat → Int32) (hn : n ≤ 4) (hnp : np ≤ 24) (hop : okP P np) (hok : okK P K np) (hru : rulR ru tm th) (J : RS → Prop) (hJ4 : ∀ s, J s → s.1 ≤ 4) (hJ : ∀ s, J s → s.1 = 1 → s.2.1 < B ∧ O s.2.1 = nI (opn O s.2.1) ∧ okStep how th (opn O s.2.1) (Kk s.2.1) s.2.2.1 s.2.2.2.1 s.2.2.2.2.1 ∧ J ((stepF how lo hi th O Kk) s)) (h0 : J (stat, px, q, stt, dn, sa, ca, ta, tn)) (hB2 : B ≤ 2000) (hB : ∀ j, j < B → (how = 1 → j < plc P K th n np ∧ (wO P K th n np).getD j 0 = O j ∧ (wK P K lo hi th n np).getD j 0 = Kk j) ∧ (¬ how = 1 → j < np ∧ P j = O j ∧ K j = Kk j)) (hst : ¬ stat = 0) (hN0 : N0 ≤ 2000) (hat0 : (stat = 1 → pl = px) ∧ (¬ stat = 1 → la = px)) : pl_I l y_Model_step b_Model_step 3 .int ({ frames := 5, cells := 0, slots := 0, locals := 115 } : Room) pl_E0 D classes (TY cI cZ cL) [.ref m0, .int (nI N0)] [(m0, .inr (6, [.int (nI co), .int (nI np), .ref o1, .ref o2, .ref o3, .int (nI n), .ref o4, .ref o5, .ref o6, .ref o7, .int fo1, .int fk1, .int (nI stat), .int (nI how), .int (nI pl), .int (nI la), .int (nI stt), .int (nI q), .ref o8, .ref o9, .int (nI dn), .ref o10, .ref o11])), (o1, .inl (cI, 24, .inl P)), (o2, .inl (cI, 24, .inl K)), (o4, .inl (cZ, 32, .inl ru)), (o5, .inl (cI, 32, .inl lo)), (o6, .inl (cI, 32, .inl hi)), (o7, .inl (cI, 32, .inl tm)), (o8, .inl (cI, 20, .inl sa)), (o9, .inl (cI, 8, .inl ca)), (o10, .inl (cI, 60, .inl ta)), (o11, .inl (cI, 60, .inl tn))] (fun (rr : Int32) (u : (Nat × Nat × Int32 × Int32 × RS)) => rr = nI (runN (stepF how lo hi th O Kk) N0 (stat, px, q, stt, dn, sa, ca, ta, tn)).1 ∧ u.2.2.2.2 = (runN (stepF how lo hi th O Kk) N0 (stat, px, q, stt, dn, sa, ca, ta, tn)).2 ∧ J u.2.2.2.2 ∧ (u.2.2.2.2.1 = 1 → u.1 = u.2.2.2.2.2.1) ∧ (¬ u.2.2.2.2.1 = 1 → u.2.1 = u.2.2.2.2.2.1)) (fun (u : (Nat × Nat × Int32 × Int32 × RS)) => [(m0, .inr (6, [.int (nI 0), .int (nI np), .ref o1, .ref o2, .ref o3, .int (nI n), .ref o4, .ref o5, .ref o6, .ref o7, .int u.2.2.1, .int u.2.2.2.1, .int (nI u.2.2.2.2.1), .int (nI how), .int (nI u.1), .int (nI u.2.1), .int (nI u.2.2.2.2.2.2.2.1), .int (nI u.2.2.2.2.2.2.1), .ref o8, .ref o9, .int (nI u.2.2.2.2.2.2.2.2.1), .ref o10, .ref o11])), (o1, .inl (cI, 24, .inl P)), (o2, .inl (cI, 24, .inl K)), (o4, .inl (cZ, 32, .inl ru)), (o5, .inl (cI, 32, .inl lo)), (o6, .inl (cI, 32, .inl hi)), (o7, .inl (cI, 32, .inl tm)), (o8, .inl (cI, 20, .inl u.2.2.2.2.2.2.2.2.2.1)), (o9, .inl (cI, 8, .inl u.2.2.2.2.2.2.2.2.2.2.1)), (o10, .inl (cI, 60, .inl u.2.2.2.2.2.2.2.2.2.2.2.1)), (o11, .inl (cI, 60, .inl u.2.2.2.2.2.2.2.2.2.2.2.2))]) := by
  refine pl_startI (by decide) (Nat.le_of_ble_eq_true rfl) ?_
  intro p e s m args below meth c A ls X hr hlk hin hK hP hD hS hA hE hl
  have X : CallFix p m c b_Model_step 3 s args TG R_Model := X
  have hx := X.1
  have hb := X.2.1
  have hl : lv_has ls 3 [(0, .ref m0), (1, .int (nI N0))] := hl
  have hst4 : stat ≤ 4 := hJ4 _ h0
  refine lv_aload_n hx hb d_Model_step_0 rfl (lv_at hl 0 rfl) ?_
  refine lv_aload_n hx hb d_Model_step_1 rfl (lv_at hl 0 rfl) ?_
  refine pl_get X fw_Model_58 hK hP 0 rfl (v := .int (nI stat)) rfl d_Model_step_2 ?_
  refine pl_if_ne X (by omega) d_Model_step_5 rfl (fun g5 => ?_) (fun g5 => ?_)
  · skip
    refine lv_iload_n hx hb d_Model_step_12 rfl (lv_at hl 1 rfl) ?_
    refine pl_if_lt X (by omega) d_Model_step_13 rfl ?_
    refine lv_iload_n hx hb d_Model_step_16 rfl (lv_at hl 1 rfl) ?_
    refine lv_sipush (v := nI 2000) hx hb d_Model_step_17 (by decide) ?_
    refine pl_icmp_le X (by omega) (by decide) d_Model_step_20 rfl (fun g20 => ?_) (fun g20 => ?_)
    · skip
      refine lv_iconst (v := nI 0) hx hb d_Model_step_27 (by decide) ?_
      refine pl_put X fw_Model_48 fp_Model rfl hK hP hD hS 0 rfl (v := .int (nI 0)) rfl rfl (Nat.le_of_ble_eq_true rfl) d_Model_step_28 (ws' := [(m0, .inr (6, [.int (nI 0), .int (nI np), .ref o1, .ref o2, .ref o3, .int (nI n), .ref o4, .ref o5, .ref o6, .ref o7, .int fo1, .int fk1, .int (nI stat), .int (nI how), .int (nI pl), .int (nI la), .int (nI stt), .int (nI q), .ref o8, .ref o9, .int (nI dn), .ref o10, .ref o11])), (o1, .inl (cI, 24, .inl P)), (o2, .inl (cI, 24, .inl K)), (o4, .inl (cZ, 32, .inl ru)), (o5, .inl (cI, 32, .inl lo)), (o6, .inl (cI, 32, .inl hi)), (o7, .inl (cI, 32, .inl tm)), (o8, .inl (cI, 20, .inl sa)), (o9, .inl (cI, 8, .inl ca)), (o10, .inl (cI, 60, .inl ta)), (o11, .inl (cI, 60, .inl tn))]) rfl (fun H locs hP hD hS => ?_)
      refine lv_iconst (v := nI 0) hx hb d_Model_step_31 (by decide) ?_
      refine lv_istore_n hx hb d_Model_step_32 rfl hl (by decide) (lv' := [(2, .int (nI 0)), (0, .ref m0), (1, .int (nI N0))]) rfl (fun ls hl => ?_)
      have loop_33 : ∀ (k : Nat) (i at1 la1 : Nat) (f1 k1 : Int32) (rs : RS) (H : Heap) (locs : List Loc) (ls : Array Slot), N0 - i = k → (i ≤ N0) → (J rs) → ((rs.1 = 1 → at1 = rs.2.1) ∧ (¬ rs.1 = 1 → la1 = rs.2.1)) → (runN (stepF how lo hi th O Kk) N0 (stat, px, q, stt, dn, sa, ca, ta, tn) = ((runN (stepF how lo hi th O Kk) (N0 - i) rs).1 + i, (runN (stepF how lo hi th O Kk) (N0 - i) rs).2)) → va_P D classes [(m0, .inr (6, [.int (nI 0), .int (nI np), .ref o1, .ref o2, .ref o3, .int (nI n), .ref o4, .ref o5, .ref o6, .ref o7, .int f1, .int k1, .int (nI rs.1), .int (nI how), .int (nI at1), .int (nI la1), .int (nI rs.2.2.2.1), .int (nI rs.2.2.1), .ref o8, .ref o9, .int (nI rs.2.2.2.2.1), .ref o10, .ref o11])), (o1, .inl (cI, 24, .inl P)), (o2, .inl (cI, 24, .inl K)), (o4, .inl (cZ, 32, .inl ru)), (o5, .inl (cI, 32, .inl lo)), (o6, .inl (cI, 32, .inl hi)), (o7, .inl (cI, 32, .inl tm)), (o8, .inl (cI, 20, .inl rs.2.2.2.2.2.1)), (o9, .inl (cI, 8, .inl rs.2.2.2.2.2.2.1)), (o10, .inl (cI, 60, .inl rs.2.2.2.2.2.2.2.1)), (o11, .inl (cI, 60, .inl rs.2.2.2.2.2.2.2.2))] H → va_D A [(m0, .inr (6, [.int (nI 0), .int (nI np), .ref o1, .ref o2, .ref o3, .int (nI n), .ref o4, .ref o5, .ref o6, .ref o7, .int f1, .int k1, .int (nI rs.1), .int (nI how), .int (nI at1), .int (nI la1), .int (nI rs.2.2.2.1), .int (nI rs.2.2.1), .ref o8, .ref o9, .int (nI rs.2.2.2.2.1), .ref o10, .ref o11])), (o1, .inl (cI, 24, .inl P)), (o2, .inl (cI, 24, .inl K)), (o4, .inl (cZ, 32, .inl ru)), (o5, .inl (cI, 32, .inl lo)), (o6, .inl (cI, 32, .inl hi)), (o7, .inl (cI, 32, .inl tm)), (o8, .inl (cI, 20, .inl rs.2.2.2.2.2.1)), (o9, .inl (cI, 8, .inl rs.2.2.2.2.2.2.1)), (o10, .inl (cI, 60, .inl rs.2.2.2.2.2.2.2.1)), (o11, .inl (cI, 60, .inl rs.2.2.2.2.2.2.2.2))] → va_S A s.heap H locs → lv_has ls 3 [(2, .int (nI i)), (0, .ref m0), (1, .int (nI N0))] → W p l e ({ frames := 5, cells := 0, slots := 0, locals := 115 } : Room) s m args below meth c H locs 0 0 (MQ below (va_Qi (fun (rr : Int32) (u : (Nat × Nat × Int32 × Int32 × RS)) => rr = nI (runN (stepF how lo hi th O Kk) N0 (stat, px, q, stt, dn, sa, ca, ta, tn)).1 ∧ u.2.2.2.2 = (runN (stepF how lo hi th O Kk) N0 (stat, px, q, stt, dn, sa, ca, ta, tn)).2 ∧ J u.2.2.2.2 ∧ (u.2.2.2.2.1 = 1 → u.1 = u.2.2.2.2.2.1) ∧ (¬ u.2.2.2.2.1 = 1 → u.2.1 = u.2.2.2.2.2.1)) (fun u => pl_out D classes (TY cI cZ cL) A ((fun (u : (Nat × Nat × Int32 × Int32 × RS)) => [(m0, .inr (6, [.int (nI 0), .int (nI np), .ref o1, .ref o2, .ref o3, .int (nI n), .ref o4, .ref o5, .ref o6, .ref o7, .int u.2.2.1, .int u.2.2.2.1, .int (nI u.2.2.2.2.1), .int (nI how), .int (nI u.1), .int (nI u.2.1), .int (nI u.2.2.2.2.2.2.2.1), .int (nI u.2.2.2.2.2.2.1), .ref o8, .ref o9, .int (nI u.2.2.2.2.2.2.2.2.1), .ref o10, .ref o11])), (o1, .inl (cI, 24, .inl P)), (o2, .inl (cI, 24, .inl K)), (o4, .inl (cZ, 32, .inl ru)), (o5, .inl (cI, 32, .inl lo)), (o6, .inl (cI, 32, .inl hi)), (o7, .inl (cI, 32, .inl tm)), (o8, .inl (cI, 20, .inl u.2.2.2.2.2.2.2.2.2.1)), (o9, .inl (cI, 8, .inl u.2.2.2.2.2.2.2.2.2.2.1)), (o10, .inl (cI, 60, .inl u.2.2.2.2.2.2.2.2.2.2.2.1)), (o11, .inl (cI, 60, .inl u.2.2.2.2.2.2.2.2.2.2.2.2))]) u)) A) args s 0 0 A) (F0 m 33 ls []) := by
        intro k
        induction k using Nat.strongRecOn with
        | _ k ih =>
        intro i at1 la1 f1 k1 rs H locs ls hk hi0 hs hat he hP hD hS hl
        have hs4 := hJ4 rs hs
        refine lv_aload_n hx hb d_Model_step_33 rfl (lv_at hl 1 rfl) ?_
        refine pl_get X fw_Model_48 hK hP 0 rfl (v := .int (nI 0)) rfl d_Model_step_34 ?_
        refine pl_if_ne X (by decide) d_Model_step_37 rfl (fun gL => ?_) (fun gL => ?_)
        · skip
          exact absurd gL (by decide)
        · skip
          refine lv_iload_n hx hb d_Model_step_40 rfl (lv_at hl 0 rfl) ?_
          refine lv_iload_n hx hb d_Model_step_41 rfl (lv_at hl 2 rfl) ?_
          refine pl_icmp_ge X (by omega) (by omega) d_Model_step_42 rfl (fun g42 => ?_) (fun g42 => ?_)
          · skip
            refine lv_iload_n hx hb d_Model_step_63 rfl (lv_at hl 0 rfl) ?_
            exact pl_iret X hr hlk hK rfl (at1, la1, f1, k1, rs) ⟨by rw [run_end he g42], by rw [run_end he g42], hs, hat⟩ hP hD hS d_Model_step_64
          · skip
            refine lv_aload_n hx hb d_Model_step_45 rfl (lv_at hl 1 rfl) ?_
            refine pl_get X fw_Model_58 hK hP 0 rfl (v := .int (nI rs.1)) rfl d_Model_step_46 ?_
            refine lv_iconst (v := nI 1) hx hb d_Model_step_49 (by decide) ?_
            refine pl_icmp_ne X (by omega) (by decide) d_Model_step_50 rfl (fun g50 => ?_) (fun g50 => ?_)
            · skip
              refine lv_iload_n hx hb d_Model_step_63 rfl (lv_at hl 0 rfl) ?_
              exact pl_iret X hr hlk hK rfl (at1, la1, f1, k1, rs) ⟨by rw [run_stop he g50], by rw [run_stop he g50], hs, hat⟩ hP hD hS d_Model_step_64
            · skip
              obtain ⟨j1, j2, j3, j4⟩ := hJ rs hs g50
              rw [g50] at hP hD
              refine lv_aload_n hx hb d_Model_step_53 rfl (lv_at hl 1 rfl) ?_
              refine pl_callVV X (rest := []) (As := []) (b := m0) (c_Model_one l D cI cZ cL m0 o1 o2 o3 o4 o5 o6 o7 o8 o9 o10 o11 P K Hm ru lo hi tm rs.2.2.2.2.2.1 rs.2.2.2.2.2.2.1 rs.2.2.2.2.2.2.2.1 rs.2.2.2.2.2.2.2.2 f1 k1 0 np n 1 how at1 la1 rs.2.2.2.1 rs.2.2.1 rs.2.2.2.2.1 th (opn O rs.2.1) (Kk rs.2.1) hn hnp hop hok hru (by rw [hat.1 g50]; exact ⟨fun h => ⟨((hB _ j1).1 h).1, ((hB _ j1).1 h).2.1.trans j2, ((hB _ j1).1 h).2.2⟩, fun h => ⟨((hB _ j1).2 h).1, ((hB _ j1).2 h).2.1.trans j2, ((hB _ j1).2 h).2.2⟩⟩) (by rw [hat.1 g50]; omega) j3) ck_Model_140 pl_E0_ok trivial hK hP hD hS hA (T := F_Model) (N := N_Model) (ci := 6) rfl 0 rfl [0, 1, 2, 3, 4, 5, 6, 7, 8, 9, 10] [] [0, 1, 2, 3, 4, 5, 6, 7, 8, 9, 10] rfl (by decide) (wr := []) rfl (by decide) (by decide) (wf := fun (u : Nat × Int32 × Int32 × RS) => [(m0, .inr (6, [.int (nI 0), .int (nI np), .ref o1, .ref o2, .ref o3, .int (nI n), .ref o4, .ref o5, .ref o6, .ref o7, .int u.2.1, .int u.2.2.1, .int (nI u.2.2.2.1), .int (nI how), .int (nI u.1), .int (nI at1), .int (nI u.2.2.2.2.2.2.1), .int (nI u.2.2.2.2.2.1), .ref o8, .ref o9, .int (nI u.2.2.2.2.2.2.2.1), .ref o10, .ref o11])), (o1, .inl (cI, 24, .inl P)), (o2, .inl (cI, 24, .inl K)), (o4, .inl (cZ, 32, .inl ru)), (o5, .inl (cI, 32, .inl lo)), (o6, .inl (cI, 32, .inl hi)), (o7, .inl (cI, 32, .inl tm)), (o8, .inl (cI, 20, .inl u.2.2.2.2.2.2.2.2.1)), (o9, .inl (cI, 8, .inl u.2.2.2.2.2.2.2.2.2.1)), (o10, .inl (cI, 60, .inl u.2.2.2.2.2.2.2.2.2.2.1)), (o11, .inl (cI, 60, .inl u.2.2.2.2.2.2.2.2.2.2.2))]) (fun _ => rfl) (by decide) rfl hl.1 rfl (Nat.le_of_ble_eq_true rfl) (by decide) (by decide) d_Model_step_54 (fun u H locs hcq hP hD hS => ?_)
              have hst9 : u.2.2.2 = (stepF how lo hi th O Kk) rs := by rw [hcq.1, hat.1 g50]; rfl
              refine lv_iinc hx hb d_Model_step_57 hl (k := 0) rfl (nI_inc1 _) (by decide) (lv' := [(2, .int (nI (i + 1))), (0, .ref m0), (1, .int (nI N0))]) rfl (fun ls hl => ?_)
              refine lv_goto hx hb d_Model_step_60 rfl ?_
              exact ih _ (by omega) (i + 1) u.1 at1 u.2.1 u.2.2.1 u.2.2.2 _ _ _ rfl (by omega) (by rw [hst9]; exact j4) hcq.2 (by rw [hst9]; exact run_next he g42 g50) hP hD hS hl
      exact loop_33 _ 0 pl la fo1 fk1 ((stat, px, q, stt, dn, sa, ca, ta, tn)) _ _ _ rfl (Nat.zero_le _) h0 hat0 rfl hP hD hS hl
    · skip
      exact absurd g20 (by omega)
  · skip
    exact absurd g5 hst

set_option maxHeartbeats 4000000 in
set_option maxRecDepth 100000 in
theorem c_Model_well_0 (l : Launch) (D : va_G) (cI cZ cL : ClassId) (m0 o1 o2 o3 o4 o5 o6 o7 o8 o9 o10 o11 : Nat) (P K Hm ru lo hi tm sa ca ta tn : Nat → Int32) (fo1 fk1 : Int32) (co np n stat how pl la stt q dn : Nat) (hnp : np ≤ 24) (hop : okP P np) (hw : ¬ (okK P K np ∧ ∃ G, closed P K np G)) : pl_I l y_Model_well b_Model_well 1 .boolean ({ frames := 3, cells := 0, slots := 0, locals := 70 } : Room) pl_E0 D classes (TY cI cZ cL) [.ref m0] [(m0, .inr (6, [.int (nI co), .int (nI np), .ref o1, .ref o2, .ref o3, .int (nI n), .ref o4, .ref o5, .ref o6, .ref o7, .int fo1, .int fk1, .int (nI stat), .int (nI how), .int (nI pl), .int (nI la), .int (nI stt), .int (nI q), .ref o8, .ref o9, .int (nI dn), .ref o10, .ref o11])), (o1, .inl (cI, 24, .inl P)), (o2, .inl (cI, 24, .inl K)), (o3, .inl (cI, 24, .inl Hm))] (fun (r : Int32) (_ : Nat → Int32) => r = nI 0) (fun (u : (Nat → Int32)) => [(m0, .inr (6, [.int (nI 0), .int (nI np), .ref o1, .ref o2, .ref o3, .int (nI n), .ref o4, .ref o5, .ref o6, .ref o7, .int fo1, .int fk1, .int (nI stat), .int (nI how), .int (nI pl), .int (nI la), .int (nI stt), .int (nI q), .ref o8, .ref o9, .int (nI dn), .ref o10, .ref o11])), (o1, .inl (cI, 24, .inl P)), (o2, .inl (cI, 24, .inl K)), (o3, .inl (cI, 24, .inl u))]) := by
  refine pl_startI (by decide) (Nat.le_of_ble_eq_true rfl) ?_
  intro p e s m args below meth c A ls X hr hlk hin hK hP hD hS hA hE hl
  have X : CallFix p m c b_Model_well 1 s args TG R_Model := X
  have hx := X.1
  have hb := X.2.1
  have hl : lv_has ls 1 [(0, .ref m0)] := hl
  refine lv_aload_n hx hb d_Model_well_0 rfl (lv_at hl 0 rfl) ?_
  refine lv_iconst (v := nI 0) hx hb d_Model_well_1 (by decide) ?_
  refine pl_put X fw_Model_48 fp_Model rfl hK hP hD hS 0 rfl (v := .int (nI 0)) rfl rfl (Nat.le_of_ble_eq_true rfl) d_Model_well_2 (ws' := [(m0, .inr (6, [.int (nI 0), .int (nI np), .ref o1, .ref o2, .ref o3, .int (nI n), .ref o4, .ref o5, .ref o6, .ref o7, .int fo1, .int fk1, .int (nI stat), .int (nI how), .int (nI pl), .int (nI la), .int (nI stt), .int (nI q), .ref o8, .ref o9, .int (nI dn), .ref o10, .ref o11])), (o1, .inl (cI, 24, .inl P)), (o2, .inl (cI, 24, .inl K)), (o3, .inl (cI, 24, .inl Hm))]) rfl (fun H locs hP hD hS => ?_)
  refine lv_aload_n hx hb d_Model_well_5 rfl (lv_at hl 0 rfl) ?_
  refine pl_callVI X (rest := []) (As := []) (b := m0) (c_Model_isWell l D cI cZ cL m0 o1 o2 o3 o4 o5 o6 o7 o8 o9 o10 o11 P K Hm ru lo hi tm sa ca ta tn fo1 fk1 0 np n stat how pl la stt q dn hnp hop) ck_Model_81 pl_E0_ok trivial hK hP hD hS hA (T := F_Model) (N := N_Model) (ci := 6) rfl 0 rfl [0, 1, 2, 3] [] [0, 1, 2, 3] rfl (by decide) (wr := []) rfl (by decide) (by decide) (wf := fun (u : MW) => [(m0, .inr (6, [.int (nI 0), .int (nI np), .ref o1, .ref o2, .ref o3, .int (nI n), .ref o4, .ref o5, .ref o6, .ref o7, .int fo1, .int fk1, .int (nI stat), .int (nI how), .int (nI pl), .int (nI la), .int (nI stt), .int (nI q), .ref o8, .ref o9, .int (nI dn), .ref o10, .ref o11])), (o1, .inl (cI, 24, .inl P)), (o2, .inl (cI, 24, .inl K)), (o3, .inl (cI, 24, .inl u.1))]) (fun _ => rfl) (by decide) rfl hl.1 rfl (Nat.le_of_ble_eq_true rfl) (by decide) (by decide) d_Model_well_6 (fun r u H locs hcq hP hD hS => ?_)
  have hwp := hcq
  obtain ⟨hcq, -, -⟩ := hcq
  subst hcq
  exact pl_iret X hr hlk hK (bI_nar _) u.1 (by cases e : u.2; rfl; exact absurd ⟨(hwp.2.1 e).1, _, (hwp.2.1 e).2.1⟩ hw) hP hD hS d_Model_well_9

set_option maxHeartbeats 4000000 in
set_option maxRecDepth 100000 in
theorem c_Model_well_1 (l : Launch) (D : va_G) (cI cZ cL : ClassId) (m0 o1 o2 o3 o4 o5 o6 o7 o8 o9 o10 o11 : Nat) (P K Hm ru lo hi tm sa ca ta tn : Nat → Int32) (fo1 fk1 : Int32) (co np n stat how pl la stt q dn : Nat) (hnp : np ≤ 24) (hop : okP P np) (hw : (okK P K np ∧ ∃ G, closed P K np G))  : pl_I l y_Model_well b_Model_well 1 .boolean ({ frames := 3, cells := 0, slots := 0, locals := 70 } : Room) pl_E0 D classes (TY cI cZ cL) [.ref m0] [(m0, .inr (6, [.int (nI co), .int (nI np), .ref o1, .ref o2, .ref o3, .int (nI n), .ref o4, .ref o5, .ref o6, .ref o7, .int fo1, .int fk1, .int (nI stat), .int (nI how), .int (nI pl), .int (nI la), .int (nI stt), .int (nI q), .ref o8, .ref o9, .int (nI dn), .ref o10, .ref o11])), (o1, .inl (cI, 24, .inl P)), (o2, .inl (cI, 24, .inl K)), (o3, .inl (cI, 24, .inl Hm))] (fun (r : Int32) (_ : Nat → Int32) => r = nI 1) (fun (u : (Nat → Int32)) => [(m0, .inr (6, [.int (nI 0), .int (nI np), .ref o1, .ref o2, .ref o3, .int (nI n), .ref o4, .ref o5, .ref o6, .ref o7, .int fo1, .int fk1, .int (nI stat), .int (nI how), .int (nI pl), .int (nI la), .int (nI stt), .int (nI q), .ref o8, .ref o9, .int (nI dn), .ref o10, .ref o11])), (o1, .inl (cI, 24, .inl P)), (o2, .inl (cI, 24, .inl K)), (o3, .inl (cI, 24, .inl u))]) := by
  refine pl_startI (by decide) (Nat.le_of_ble_eq_true rfl) ?_
  intro p e s m args below meth c A ls X hr hlk hin hK hP hD hS hA hE hl
  have X : CallFix p m c b_Model_well 1 s args TG R_Model := X
  have hx := X.1
  have hb := X.2.1
  have hl : lv_has ls 1 [(0, .ref m0)] := hl
  refine lv_aload_n hx hb d_Model_well_0 rfl (lv_at hl 0 rfl) ?_
  refine lv_iconst (v := nI 0) hx hb d_Model_well_1 (by decide) ?_
  refine pl_put X fw_Model_48 fp_Model rfl hK hP hD hS 0 rfl (v := .int (nI 0)) rfl rfl (Nat.le_of_ble_eq_true rfl) d_Model_well_2 (ws' := [(m0, .inr (6, [.int (nI 0), .int (nI np), .ref o1, .ref o2, .ref o3, .int (nI n), .ref o4, .ref o5, .ref o6, .ref o7, .int fo1, .int fk1, .int (nI stat), .int (nI how), .int (nI pl), .int (nI la), .int (nI stt), .int (nI q), .ref o8, .ref o9, .int (nI dn), .ref o10, .ref o11])), (o1, .inl (cI, 24, .inl P)), (o2, .inl (cI, 24, .inl K)), (o3, .inl (cI, 24, .inl Hm))]) rfl (fun H locs hP hD hS => ?_)
  refine lv_aload_n hx hb d_Model_well_5 rfl (lv_at hl 0 rfl) ?_
  refine pl_callVI X (rest := []) (As := []) (b := m0) (c_Model_isWell l D cI cZ cL m0 o1 o2 o3 o4 o5 o6 o7 o8 o9 o10 o11 P K Hm ru lo hi tm sa ca ta tn fo1 fk1 0 np n stat how pl la stt q dn hnp hop) ck_Model_81 pl_E0_ok trivial hK hP hD hS hA (T := F_Model) (N := N_Model) (ci := 6) rfl 0 rfl [0, 1, 2, 3] [] [0, 1, 2, 3] rfl (by decide) (wr := []) rfl (by decide) (by decide) (wf := fun (u : MW) => [(m0, .inr (6, [.int (nI 0), .int (nI np), .ref o1, .ref o2, .ref o3, .int (nI n), .ref o4, .ref o5, .ref o6, .ref o7, .int fo1, .int fk1, .int (nI stat), .int (nI how), .int (nI pl), .int (nI la), .int (nI stt), .int (nI q), .ref o8, .ref o9, .int (nI dn), .ref o10, .ref o11])), (o1, .inl (cI, 24, .inl P)), (o2, .inl (cI, 24, .inl K)), (o3, .inl (cI, 24, .inl u.1))]) (fun _ => rfl) (by decide) rfl hl.1 rfl (Nat.le_of_ble_eq_true rfl) (by decide) (by decide) d_Model_well_6 (fun r u H locs hcq hP hD hS => ?_)
  have hwp := hcq
  obtain ⟨hcq, -, -⟩ := hcq
  subst hcq
  exact pl_iret X hr hlk hK (bI_nar _) u.1 (by cases e : u.2; exact absurd hw (hwp.2.2 e); rfl) hP hD hS d_Model_well_9

set_option maxHeartbeats 4000000 in
set_option maxRecDepth 100000 in
theorem c_Model_height_1 (l : Launch) (D : va_G) (cI cZ cL : ClassId) (m0 o1 o2 o3 o4 o5 o6 o7 o8 o9 o10 o11 : Nat) (P K Hm ru lo hi tm sa ca ta tn : Nat → Int32) (fo1 fk1 : Int32) (co np n stat how pl la stt q dn : Nat) (x : Int32) (hnp : np ≤ 24) (hop : okP P np) (hw : ¬ (okK P K np ∧ ∃ G, closed P K np G)) : pl_I l y_Model_height b_Model_height 2 .int ({ frames := 3, cells := 0, slots := 0, locals := 70 } : Room) pl_E0 D classes (TY cI cZ cL) [.ref m0, .int x] [(m0, .inr (6, [.int (nI co), .int (nI np), .ref o1, .ref o2, .ref o3, .int (nI n), .ref o4, .ref o5, .ref o6, .ref o7, .int fo1, .int fk1, .int (nI stat), .int (nI how), .int (nI pl), .int (nI la), .int (nI stt), .int (nI q), .ref o8, .ref o9, .int (nI dn), .ref o10, .ref o11])), (o1, .inl (cI, 24, .inl P)), (o2, .inl (cI, 24, .inl K)), (o3, .inl (cI, 24, .inl Hm))] (fun (r : Int32) (_ : Nat → Int32) => r = nI 0) (fun (u : (Nat → Int32)) => [(m0, .inr (6, [.int (nI 1), .int (nI np), .ref o1, .ref o2, .ref o3, .int (nI n), .ref o4, .ref o5, .ref o6, .ref o7, .int fo1, .int fk1, .int (nI stat), .int (nI how), .int (nI pl), .int (nI la), .int (nI stt), .int (nI q), .ref o8, .ref o9, .int (nI dn), .ref o10, .ref o11])), (o1, .inl (cI, 24, .inl P)), (o2, .inl (cI, 24, .inl K)), (o3, .inl (cI, 24, .inl u))]) := by
  refine pl_startI (by decide) (Nat.le_of_ble_eq_true rfl) ?_
  intro p e s m args below meth c A ls X hr hlk hin hK hP hD hS hA hE hl
  have X : CallFix p m c b_Model_height 2 s args TG R_Model := X
  have hx := X.1
  have hb := X.2.1
  have hl : lv_has ls 2 [(0, .ref m0), (1, .int x)] := hl
  refine lv_aload_n hx hb d_Model_height_0 rfl (lv_at hl 0 rfl) ?_
  refine lv_aload_n hx hb d_Model_height_1 rfl (lv_at hl 0 rfl) ?_
  refine pl_callVI X (rest := [.ref m0]) (As := []) (b := m0) (c_Model_isWell l D cI cZ cL m0 o1 o2 o3 o4 o5 o6 o7 o8 o9 o10 o11 P K Hm ru lo hi tm sa ca ta tn fo1 fk1 co np n stat how pl la stt q dn hnp hop) ck_Model_81 pl_E0_ok trivial hK hP hD hS hA (T := F_Model) (N := N_Model) (ci := 6) rfl 0 rfl [0, 1, 2, 3] [] [0, 1, 2, 3] rfl (by decide) (wr := []) rfl (by decide) (by decide) (wf := fun (u : MW) => [(m0, .inr (6, [.int (nI co), .int (nI np), .ref o1, .ref o2, .ref o3, .int (nI n), .ref o4, .ref o5, .ref o6, .ref o7, .int fo1, .int fk1, .int (nI stat), .int (nI how), .int (nI pl), .int (nI la), .int (nI stt), .int (nI q), .ref o8, .ref o9, .int (nI dn), .ref o10, .ref o11])), (o1, .inl (cI, 24, .inl P)), (o2, .inl (cI, 24, .inl K)), (o3, .inl (cI, 24, .inl u.1))]) (fun _ => rfl) (by decide) rfl hl.1 rfl (Nat.le_of_ble_eq_true rfl) (by decide) (by decide) d_Model_height_2 (fun r u H locs hcq hP hD hS => ?_)
  have hwp := hcq
  obtain ⟨hcq, -, -⟩ := hcq
  subst hcq
  refine pl_ifB_ne X d_Model_height_5 rfl (fun g5 => ?_) (fun g5 => ?_)
  · skip
    exact absurd ⟨(hwp.2.1 g5).1, _, (hwp.2.1 g5).2.1⟩ hw
  · skip
    refine lv_iconst (v := nI 1) hx hb d_Model_height_8 (by decide) ?_
    refine lv_goto hx hb d_Model_height_9 rfl ?_
    refine pl_put X fw_Model_48 fp_Model rfl hK hP hD hS 0 rfl (v := .int (nI 1)) rfl rfl (Nat.le_of_ble_eq_true rfl) d_Model_height_25 (ws' := [(m0, .inr (6, [.int (nI 1), .int (nI np), .ref o1, .ref o2, .ref o3, .int (nI n), .ref o4, .ref o5, .ref o6, .ref o7, .int fo1, .int fk1, .int (nI stat), .int (nI how), .int (nI pl), .int (nI la), .int (nI stt), .int (nI q), .ref o8, .ref o9, .int (nI dn), .ref o10, .ref o11])), (o1, .inl (cI, 24, .inl P)), (o2, .inl (cI, 24, .inl K)), (o3, .inl (cI, 24, .inl u.1))]) rfl (fun H locs hP hD hS => ?_)
    refine lv_aload_n hx hb d_Model_height_28 rfl (lv_at hl 0 rfl) ?_
    refine pl_get X fw_Model_48 hK hP 0 rfl (v := .int (nI 1)) rfl d_Model_height_29 ?_
    refine pl_if_le X (by decide) d_Model_height_32 rfl (fun gL => ?_) (fun gL => ?_)
    · skip
      exact absurd gL (by decide)
    · skip
      refine lv_iconst (v := nI 0) hx hb d_Model_height_35 (by decide) ?_
      refine lv_goto hx hb d_Model_height_36 rfl ?_
      exact pl_iret X hr hlk hK rfl u.1 rfl hP hD hS d_Model_height_45

set_option maxHeartbeats 4000000 in
set_option maxRecDepth 100000 in
theorem c_Model_height_2 (l : Launch) (D : va_G) (cI cZ cL : ClassId) (m0 o1 o2 o3 o4 o5 o6 o7 o8 o9 o10 o11 : Nat) (P K Hm ru lo hi tm sa ca ta tn : Nat → Int32) (fo1 fk1 : Int32) (co np n stat how pl la stt q dn : Nat) (x : Int32) (hnp : np ≤ 24) (hop : okP P np) (hw : (okK P K np ∧ ∃ G, closed P K np G)) (hxx : inB x np = false) : pl_I l y_Model_height b_Model_height 2 .int ({ frames := 3, cells := 0, slots := 0, locals := 70 } : Room) pl_E0 D classes (TY cI cZ cL) [.ref m0, .int x] [(m0, .inr (6, [.int (nI co), .int (nI np), .ref o1, .ref o2, .ref o3, .int (nI n), .ref o4, .ref o5, .ref o6, .ref o7, .int fo1, .int fk1, .int (nI stat), .int (nI how), .int (nI pl), .int (nI la), .int (nI stt), .int (nI q), .ref o8, .ref o9, .int (nI dn), .ref o10, .ref o11])), (o1, .inl (cI, 24, .inl P)), (o2, .inl (cI, 24, .inl K)), (o3, .inl (cI, 24, .inl Hm))] (fun (r : Int32) (_ : Nat → Int32) => r = nI 0) (fun (u : (Nat → Int32)) => [(m0, .inr (6, [.int (nI 2), .int (nI np), .ref o1, .ref o2, .ref o3, .int (nI n), .ref o4, .ref o5, .ref o6, .ref o7, .int fo1, .int fk1, .int (nI stat), .int (nI how), .int (nI pl), .int (nI la), .int (nI stt), .int (nI q), .ref o8, .ref o9, .int (nI dn), .ref o10, .ref o11])), (o1, .inl (cI, 24, .inl P)), (o2, .inl (cI, 24, .inl K)), (o3, .inl (cI, 24, .inl u))]) := by
  refine pl_startI (by decide) (Nat.le_of_ble_eq_true rfl) ?_
  intro p e s m args below meth c A ls X hr hlk hin hK hP hD hS hA hE hl
  have X : CallFix p m c b_Model_height 2 s args TG R_Model := X
  have hx := X.1
  have hb := X.2.1
  have hl : lv_has ls 2 [(0, .ref m0), (1, .int x)] := hl
  refine lv_aload_n hx hb d_Model_height_0 rfl (lv_at hl 0 rfl) ?_
  refine lv_aload_n hx hb d_Model_height_1 rfl (lv_at hl 0 rfl) ?_
  refine pl_callVI X (rest := [.ref m0]) (As := []) (b := m0) (c_Model_isWell l D cI cZ cL m0 o1 o2 o3 o4 o5 o6 o7 o8 o9 o10 o11 P K Hm ru lo hi tm sa ca ta tn fo1 fk1 co np n stat how pl la stt q dn hnp hop) ck_Model_81 pl_E0_ok trivial hK hP hD hS hA (T := F_Model) (N := N_Model) (ci := 6) rfl 0 rfl [0, 1, 2, 3] [] [0, 1, 2, 3] rfl (by decide) (wr := []) rfl (by decide) (by decide) (wf := fun (u : MW) => [(m0, .inr (6, [.int (nI co), .int (nI np), .ref o1, .ref o2, .ref o3, .int (nI n), .ref o4, .ref o5, .ref o6, .ref o7, .int fo1, .int fk1, .int (nI stat), .int (nI how), .int (nI pl), .int (nI la), .int (nI stt), .int (nI q), .ref o8, .ref o9, .int (nI dn), .ref o10, .ref o11])), (o1, .inl (cI, 24, .inl P)), (o2, .inl (cI, 24, .inl K)), (o3, .inl (cI, 24, .inl u.1))]) (fun _ => rfl) (by decide) rfl hl.1 rfl (Nat.le_of_ble_eq_true rfl) (by decide) (by decide) d_Model_height_2 (fun r u H locs hcq hP hD hS => ?_)
  have hwp := hcq
  obtain ⟨hcq, -, -⟩ := hcq
  subst hcq
  refine pl_ifB_ne X d_Model_height_5 rfl (fun g5 => ?_) (fun g5 => ?_)
  · skip
    refine lv_aload_n hx hb d_Model_height_12 rfl (lv_at hl 0 rfl) ?_
    refine lv_iload_n hx hb d_Model_height_13 rfl (lv_at hl 1 rfl) ?_
    refine pl_callVI X (rest := [.ref m0]) (As := [.int x]) (b := m0) (c_Model_isPlace l D cI cZ cL m0 o1 o2 o3 o4 o5 o6 o7 o8 o9 o10 o11 P K u.1 ru lo hi tm sa ca ta tn fo1 fk1 co np n stat how pl la stt q dn x (by omega)) ck_Model_65 pl_E0_ok trivial hK hP hD hS hA (T := F_Model) (N := N_Model) (ci := 6) rfl 0 rfl [0] [1, 2, 3] [3, 0, 1, 2] rfl (by decide) (wr := [(o1, .inl (cI, 24, .inl P)), (o2, .inl (cI, 24, .inl K)), (o3, .inl (cI, 24, .inl u.1))]) rfl (by decide) (by decide) (wf := fun _ => [(m0, .inr (6, [.int (nI co), .int (nI np), .ref o1, .ref o2, .ref o3, .int (nI n), .ref o4, .ref o5, .ref o6, .ref o7, .int fo1, .int fk1, .int (nI stat), .int (nI how), .int (nI pl), .int (nI la), .int (nI stt), .int (nI q), .ref o8, .ref o9, .int (nI dn), .ref o10, .ref o11])), (o1, .inl (cI, 24, .inl P)), (o2, .inl (cI, 24, .inl K)), (o3, .inl (cI, 24, .inl u.1))]) (fun _ => rfl) (by decide) rfl hl.1 rfl (Nat.le_of_ble_eq_true rfl) (by decide) (by decide) d_Model_height_14 (fun r u0 H locs hcq hP hD hS => ?_)
    subst hcq
    refine pl_ifB_ne X d_Model_height_17 rfl (fun g17 => ?_) (fun g17 => ?_)
    · skip
      exact absurd g17 (by rw [hxx]; decide)
    · skip
      refine lv_iconst (v := nI 2) hx hb d_Model_height_20 (by decide) ?_
      refine lv_goto hx hb d_Model_height_21 rfl ?_
      refine pl_put X fw_Model_48 fp_Model rfl hK hP hD hS 0 rfl (v := .int (nI 2)) rfl rfl (Nat.le_of_ble_eq_true rfl) d_Model_height_25 (ws' := [(m0, .inr (6, [.int (nI 2), .int (nI np), .ref o1, .ref o2, .ref o3, .int (nI n), .ref o4, .ref o5, .ref o6, .ref o7, .int fo1, .int fk1, .int (nI stat), .int (nI how), .int (nI pl), .int (nI la), .int (nI stt), .int (nI q), .ref o8, .ref o9, .int (nI dn), .ref o10, .ref o11])), (o1, .inl (cI, 24, .inl P)), (o2, .inl (cI, 24, .inl K)), (o3, .inl (cI, 24, .inl u.1))]) rfl (fun H locs hP hD hS => ?_)
      refine lv_aload_n hx hb d_Model_height_28 rfl (lv_at hl 0 rfl) ?_
      refine pl_get X fw_Model_48 hK hP 0 rfl (v := .int (nI 2)) rfl d_Model_height_29 ?_
      refine pl_if_le X (by decide) d_Model_height_32 rfl (fun gL => ?_) (fun gL => ?_)
      · skip
        exact absurd gL (by decide)
      · skip
        refine lv_iconst (v := nI 0) hx hb d_Model_height_35 (by decide) ?_
        refine lv_goto hx hb d_Model_height_36 rfl ?_
        exact pl_iret X hr hlk hK rfl u.1 rfl hP hD hS d_Model_height_45
  · skip
    exact absurd hw (hwp.2.2 g5)

set_option maxHeartbeats 4000000 in
set_option maxRecDepth 100000 in
theorem c_Model_height_0 (l : Launch) (D : va_G) (cI cZ cL : ClassId) (m0 o1 o2 o3 o4 o5 o6 o7 o8 o9 o10 o11 : Nat) (P K Hm ru lo hi tm sa ca ta tn : Nat → Int32) (fo1 fk1 : Int32) (co np n stat how pl la stt q dn : Nat) (i : Nat) (hnp : np ≤ 24) (hop : okP P np) (hw : (okK P K np ∧ ∃ G, closed P K np G)) (hilt : i < np) : pl_I l y_Model_height b_Model_height 2 .int ({ frames := 3, cells := 0, slots := 0, locals := 70 } : Room) pl_E0 D classes (TY cI cZ cL) [.ref m0, .int (nI i)] [(m0, .inr (6, [.int (nI co), .int (nI np), .ref o1, .ref o2, .ref o3, .int (nI n), .ref o4, .ref o5, .ref o6, .ref o7, .int fo1, .int fk1, .int (nI stat), .int (nI how), .int (nI pl), .int (nI la), .int (nI stt), .int (nI q), .ref o8, .ref o9, .int (nI dn), .ref o10, .ref o11])), (o1, .inl (cI, 24, .inl P)), (o2, .inl (cI, 24, .inl K)), (o3, .inl (cI, 24, .inl Hm))] (fun (r : Int32) (u : Nat → Int32) => r = u i ∧ closed P K np u ∧ least P K np u ∧ labs np u) (fun (u : (Nat → Int32)) => [(m0, .inr (6, [.int (nI 0), .int (nI np), .ref o1, .ref o2, .ref o3, .int (nI n), .ref o4, .ref o5, .ref o6, .ref o7, .int fo1, .int fk1, .int (nI stat), .int (nI how), .int (nI pl), .int (nI la), .int (nI stt), .int (nI q), .ref o8, .ref o9, .int (nI dn), .ref o10, .ref o11])), (o1, .inl (cI, 24, .inl P)), (o2, .inl (cI, 24, .inl K)), (o3, .inl (cI, 24, .inl u))]) := by
  refine pl_startI (by decide) (Nat.le_of_ble_eq_true rfl) ?_
  intro p e s m args below meth c A ls X hr hlk hin hK hP hD hS hA hE hl
  have X : CallFix p m c b_Model_height 2 s args TG R_Model := X
  have hx := X.1
  have hb := X.2.1
  have hl : lv_has ls 2 [(0, .ref m0), (1, .int (nI i))] := hl
  refine lv_aload_n hx hb d_Model_height_0 rfl (lv_at hl 0 rfl) ?_
  refine lv_aload_n hx hb d_Model_height_1 rfl (lv_at hl 0 rfl) ?_
  refine pl_callVI X (rest := [.ref m0]) (As := []) (b := m0) (c_Model_isWell l D cI cZ cL m0 o1 o2 o3 o4 o5 o6 o7 o8 o9 o10 o11 P K Hm ru lo hi tm sa ca ta tn fo1 fk1 co np n stat how pl la stt q dn hnp hop) ck_Model_81 pl_E0_ok trivial hK hP hD hS hA (T := F_Model) (N := N_Model) (ci := 6) rfl 0 rfl [0, 1, 2, 3] [] [0, 1, 2, 3] rfl (by decide) (wr := []) rfl (by decide) (by decide) (wf := fun (u : MW) => [(m0, .inr (6, [.int (nI co), .int (nI np), .ref o1, .ref o2, .ref o3, .int (nI n), .ref o4, .ref o5, .ref o6, .ref o7, .int fo1, .int fk1, .int (nI stat), .int (nI how), .int (nI pl), .int (nI la), .int (nI stt), .int (nI q), .ref o8, .ref o9, .int (nI dn), .ref o10, .ref o11])), (o1, .inl (cI, 24, .inl P)), (o2, .inl (cI, 24, .inl K)), (o3, .inl (cI, 24, .inl u.1))]) (fun _ => rfl) (by decide) rfl hl.1 rfl (Nat.le_of_ble_eq_true rfl) (by decide) (by decide) d_Model_height_2 (fun r u H locs hcq hP hD hS => ?_)
  have hwp := hcq
  obtain ⟨hcq, -, -⟩ := hcq
  subst hcq
  refine pl_ifB_ne X d_Model_height_5 rfl (fun g5 => ?_) (fun g5 => ?_)
  · skip
    refine lv_aload_n hx hb d_Model_height_12 rfl (lv_at hl 0 rfl) ?_
    refine lv_iload_n hx hb d_Model_height_13 rfl (lv_at hl 1 rfl) ?_
    refine pl_callVI X (rest := [.ref m0]) (As := [.int (nI i)]) (b := m0) (c_Model_isPlace l D cI cZ cL m0 o1 o2 o3 o4 o5 o6 o7 o8 o9 o10 o11 P K u.1 ru lo hi tm sa ca ta tn fo1 fk1 co np n stat how pl la stt q dn (nI i) (by omega)) ck_Model_65 pl_E0_ok trivial hK hP hD hS hA (T := F_Model) (N := N_Model) (ci := 6) rfl 0 rfl [0] [1, 2, 3] [3, 0, 1, 2] rfl (by decide) (wr := [(o1, .inl (cI, 24, .inl P)), (o2, .inl (cI, 24, .inl K)), (o3, .inl (cI, 24, .inl u.1))]) rfl (by decide) (by decide) (wf := fun _ => [(m0, .inr (6, [.int (nI co), .int (nI np), .ref o1, .ref o2, .ref o3, .int (nI n), .ref o4, .ref o5, .ref o6, .ref o7, .int fo1, .int fk1, .int (nI stat), .int (nI how), .int (nI pl), .int (nI la), .int (nI stt), .int (nI q), .ref o8, .ref o9, .int (nI dn), .ref o10, .ref o11])), (o1, .inl (cI, 24, .inl P)), (o2, .inl (cI, 24, .inl K)), (o3, .inl (cI, 24, .inl u.1))]) (fun _ => rfl) (by decide) rfl hl.1 rfl (Nat.le_of_ble_eq_true rfl) (by decide) (by decide) d_Model_height_14 (fun r u0 H locs hcq hP hD hS => ?_)
    subst hcq
    refine pl_ifB_ne X d_Model_height_17 rfl (fun g17 => ?_) (fun g17 => ?_)
    · skip
      refine lv_iconst (v := nI 0) hx hb d_Model_height_24 (by decide) ?_
      refine pl_put X fw_Model_48 fp_Model rfl hK hP hD hS 0 rfl (v := .int (nI 0)) rfl rfl (Nat.le_of_ble_eq_true rfl) d_Model_height_25 (ws' := [(m0, .inr (6, [.int (nI 0), .int (nI np), .ref o1, .ref o2, .ref o3, .int (nI n), .ref o4, .ref o5, .ref o6, .ref o7, .int fo1, .int fk1, .int (nI stat), .int (nI how), .int (nI pl), .int (nI la), .int (nI stt), .int (nI q), .ref o8, .ref o9, .int (nI dn), .ref o10, .ref o11])), (o1, .inl (cI, 24, .inl P)), (o2, .inl (cI, 24, .inl K)), (o3, .inl (cI, 24, .inl u.1))]) rfl (fun H locs hP hD hS => ?_)
      refine lv_aload_n hx hb d_Model_height_28 rfl (lv_at hl 0 rfl) ?_
      refine pl_get X fw_Model_48 hK hP 0 rfl (v := .int (nI 0)) rfl d_Model_height_29 ?_
      refine pl_if_le X (by decide) d_Model_height_32 rfl (fun gL => ?_) (fun gL => ?_)
      · skip
        refine lv_aload_n hx hb d_Model_height_39 rfl (lv_at hl 0 rfl) ?_
        refine pl_get X fw_Model_16 hK hP 0 rfl (v := .ref o3) rfl d_Model_height_40 ?_
        refine lv_iload_n hx hb d_Model_height_43 rfl (lv_at hl 1 rfl) ?_
        refine pl_iald X hK hP 3 0 rfl rfl i (by omega) (by decide) (z := u.1 i) rfl d_Model_height_44 ?_
        exact pl_iret X hr hlk hK rfl u.1 ⟨rfl, (hwp.2.1 g5).2⟩ hP hD hS d_Model_height_45
      · skip
        exact absurd gL (by decide)
    · skip
      exact absurd g17 (by rw [inB_nI (by omega), decide_eq_true hilt]; decide)
  · skip
    exact absurd hw (hwp.2.2 g5)

set_option maxHeartbeats 4000000 in
set_option maxRecDepth 100000 in
theorem c_Model_enforce_1 (l : Launch) (D : va_G) (cI cZ cL : ClassId) (m0 o1 o2 o3 o4 o5 o6 o7 o8 o9 o10 o11 : Nat) (P K Hm ru lo hi tm sa ca ta tn : Nat → Int32) (fo1 fk1 : Int32) (co np n stat how pl la stt q dn : Nat) (hnp : np ≤ 24) (hop : okP P np) (hw : ¬ (okK P K np ∧ ∃ G, closed P K np G)) : pl_I l y_Model_enforce b_Model_enforce 1 .int ({ frames := 3, cells := 0, slots := 0, locals := 70 } : Room) pl_E0 D classes (TY cI cZ cL) [.ref m0] [(m0, .inr (6, [.int (nI co), .int (nI np), .ref o1, .ref o2, .ref o3, .int (nI n), .ref o4, .ref o5, .ref o6, .ref o7, .int fo1, .int fk1, .int (nI stat), .int (nI how), .int (nI pl), .int (nI la), .int (nI stt), .int (nI q), .ref o8, .ref o9, .int (nI dn), .ref o10, .ref o11])), (o1, .inl (cI, 24, .inl P)), (o2, .inl (cI, 24, .inl K)), (o3, .inl (cI, 24, .inl Hm))] (fun (r : Int32) (_ : Nat → Int32) => r = nI 0) (fun (u : (Nat → Int32)) => [(m0, .inr (6, [.int (nI 1), .int (nI np), .ref o1, .ref o2, .ref o3, .int (nI n), .ref o4, .ref o5, .ref o6, .ref o7, .int fo1, .int fk1, .int (nI stat), .int (nI how), .int (nI pl), .int (nI la), .int (nI stt), .int (nI q), .ref o8, .ref o9, .int (nI dn), .ref o10, .ref o11])), (o1, .inl (cI, 24, .inl P)), (o2, .inl (cI, 24, .inl K)), (o3, .inl (cI, 24, .inl u))]) := by
  refine pl_startI (by decide) (Nat.le_of_ble_eq_true rfl) ?_
  intro p e s m args below meth c A ls X hr hlk hin hK hP hD hS hA hE hl
  have X : CallFix p m c b_Model_enforce 1 s args TG R_Model := X
  have hx := X.1
  have hb := X.2.1
  have hl : lv_has ls 1 [(0, .ref m0)] := hl
  refine lv_aload_n hx hb d_Model_enforce_0 rfl (lv_at hl 0 rfl) ?_
  refine lv_aload_n hx hb d_Model_enforce_1 rfl (lv_at hl 0 rfl) ?_
  refine pl_callVI X (rest := [.ref m0]) (As := []) (b := m0) (c_Model_isWell l D cI cZ cL m0 o1 o2 o3 o4 o5 o6 o7 o8 o9 o10 o11 P K Hm ru lo hi tm sa ca ta tn fo1 fk1 co np n stat how pl la stt q dn hnp hop) ck_Model_81 pl_E0_ok trivial hK hP hD hS hA (T := F_Model) (N := N_Model) (ci := 6) rfl 0 rfl [0, 1, 2, 3] [] [0, 1, 2, 3] rfl (by decide) (wr := []) rfl (by decide) (by decide) (wf := fun (u : MW) => [(m0, .inr (6, [.int (nI co), .int (nI np), .ref o1, .ref o2, .ref o3, .int (nI n), .ref o4, .ref o5, .ref o6, .ref o7, .int fo1, .int fk1, .int (nI stat), .int (nI how), .int (nI pl), .int (nI la), .int (nI stt), .int (nI q), .ref o8, .ref o9, .int (nI dn), .ref o10, .ref o11])), (o1, .inl (cI, 24, .inl P)), (o2, .inl (cI, 24, .inl K)), (o3, .inl (cI, 24, .inl u.1))]) (fun _ => rfl) (by decide) rfl hl.1 rfl (Nat.le_of_ble_eq_true rfl) (by decide) (by decide) d_Model_enforce_2 (fun r u H locs hcq hP hD hS => ?_)
  have hwp := hcq
  obtain ⟨hcq, -, -⟩ := hcq
  subst hcq
  refine pl_ifB_eq X d_Model_enforce_5 rfl (fun g5 => ?_) (fun g5 => ?_)
  · skip
    refine lv_iconst (v := nI 1) hx hb d_Model_enforce_12 (by decide) ?_
    refine pl_put X fw_Model_48 fp_Model rfl hK hP hD hS 0 rfl (v := .int (nI 1)) rfl rfl (Nat.le_of_ble_eq_true rfl) d_Model_enforce_13 (ws' := [(m0, .inr (6, [.int (nI 1), .int (nI np), .ref o1, .ref o2, .ref o3, .int (nI n), .ref o4, .ref o5, .ref o6, .ref o7, .int fo1, .int fk1, .int (nI stat), .int (nI how), .int (nI pl), .int (nI la), .int (nI stt), .int (nI q), .ref o8, .ref o9, .int (nI dn), .ref o10, .ref o11])), (o1, .inl (cI, 24, .inl P)), (o2, .inl (cI, 24, .inl K)), (o3, .inl (cI, 24, .inl u.1))]) rfl (fun H locs hP hD hS => ?_)
    refine lv_aload_n hx hb d_Model_enforce_16 rfl (lv_at hl 0 rfl) ?_
    refine pl_get X fw_Model_48 hK hP 0 rfl (v := .int (nI 1)) rfl d_Model_enforce_17 ?_
    refine pl_if_le X (by decide) d_Model_enforce_20 rfl (fun gL => ?_) (fun gL => ?_)
    · skip
      exact absurd gL (by decide)
    · skip
      refine lv_iconst (v := nI 0) hx hb d_Model_enforce_23 (by decide) ?_
      refine lv_goto hx hb d_Model_enforce_24 rfl ?_
      exact pl_iret X hr hlk hK rfl u.1 rfl hP hD hS d_Model_enforce_35
  · skip
    exact absurd ⟨(hwp.2.1 g5).1, _, (hwp.2.1 g5).2.1⟩ hw

set_option maxHeartbeats 4000000 in
set_option maxRecDepth 100000 in
theorem c_Model_enforce_0 (l : Launch) (D : va_G) (cI cZ cL : ClassId) (m0 o1 o2 o3 o4 o5 o6 o7 o8 o9 o10 o11 : Nat) (P K Hm ru lo hi tm sa ca ta tn : Nat → Int32) (fo1 fk1 : Int32) (co np n stat how pl la stt q dn : Nat) (th : Nat → Int32) (hnp : np ≤ 24) (hop : okP P np) (hw : (okK P K np ∧ ∃ G, closed P K np G)) (hn : n ≤ 4) (hru : rulR ru tm th) : pl_I l y_Model_enforce b_Model_enforce 1 .int ({ frames := 3, cells := 0, slots := 0, locals := 70 } : Room) pl_E0 D classes (TY cI cZ cL) [.ref m0] [(m0, .inr (6, [.int (nI co), .int (nI np), .ref o1, .ref o2, .ref o3, .int (nI n), .ref o4, .ref o5, .ref o6, .ref o7, .int fo1, .int fk1, .int (nI stat), .int (nI how), .int (nI pl), .int (nI la), .int (nI stt), .int (nI q), .ref o8, .ref o9, .int (nI dn), .ref o10, .ref o11])), (o1, .inl (cI, 24, .inl P)), (o2, .inl (cI, 24, .inl K)), (o3, .inl (cI, 24, .inl Hm)), (o4, .inl (cZ, 32, .inl ru))] (fun (r : Int32) (_ : Nat → Int32) => r = nI (plc P K th n np)) (fun (u : (Nat → Int32)) => [(m0, .inr (6, [.int (nI 0), .int (nI np), .ref o1, .ref o2, .ref o3, .int (nI n), .ref o4, .ref o5, .ref o6, .ref o7, .int fo1, .int fk1, .int (nI stat), .int (nI how), .int (nI pl), .int (nI la), .int (nI stt), .int (nI q), .ref o8, .ref o9, .int (nI dn), .ref o10, .ref o11])), (o1, .inl (cI, 24, .inl P)), (o2, .inl (cI, 24, .inl K)), (o3, .inl (cI, 24, .inl u)), (o4, .inl (cZ, 32, .inl ru))]) := by
  refine pl_startI (by decide) (Nat.le_of_ble_eq_true rfl) ?_
  intro p e s m args below meth c A ls X hr hlk hin hK hP hD hS hA hE hl
  have X : CallFix p m c b_Model_enforce 1 s args TG R_Model := X
  have hx := X.1
  have hb := X.2.1
  have hl : lv_has ls 1 [(0, .ref m0)] := hl
  refine lv_aload_n hx hb d_Model_enforce_0 rfl (lv_at hl 0 rfl) ?_
  refine lv_aload_n hx hb d_Model_enforce_1 rfl (lv_at hl 0 rfl) ?_
  refine pl_callVI X (rest := [.ref m0]) (As := []) (b := m0) (c_Model_isWell l D cI cZ cL m0 o1 o2 o3 o4 o5 o6 o7 o8 o9 o10 o11 P K Hm ru lo hi tm sa ca ta tn fo1 fk1 co np n stat how pl la stt q dn hnp hop) ck_Model_81 pl_E0_ok trivial hK hP hD hS hA (T := F_Model) (N := N_Model) (ci := 6) rfl 0 rfl [0, 1, 2, 3] [4] [1, 2, 3, 4, 0] rfl (by decide) (wr := [(o4, .inl (cZ, 32, .inl ru))]) rfl (by decide) (by decide) (wf := fun (u : MW) => [(m0, .inr (6, [.int (nI co), .int (nI np), .ref o1, .ref o2, .ref o3, .int (nI n), .ref o4, .ref o5, .ref o6, .ref o7, .int fo1, .int fk1, .int (nI stat), .int (nI how), .int (nI pl), .int (nI la), .int (nI stt), .int (nI q), .ref o8, .ref o9, .int (nI dn), .ref o10, .ref o11])), (o1, .inl (cI, 24, .inl P)), (o2, .inl (cI, 24, .inl K)), (o3, .inl (cI, 24, .inl u.1)), (o4, .inl (cZ, 32, .inl ru))]) (fun _ => rfl) (by decide) rfl hl.1 rfl (Nat.le_of_ble_eq_true rfl) (by decide) (by decide) d_Model_enforce_2 (fun r u H locs hcq hP hD hS => ?_)
  have hwp := hcq
  obtain ⟨hcq, -, -⟩ := hcq
  subst hcq
  refine pl_ifB_eq X d_Model_enforce_5 rfl (fun g5 => ?_) (fun g5 => ?_)
  · skip
    exact absurd hw (hwp.2.2 g5)
  · skip
    have hok := (hwp.2.1 g5).1
    have hpn := plc_le P K th hn np
    refine lv_iconst (v := nI 0) hx hb d_Model_enforce_8 (by decide) ?_
    refine lv_goto hx hb d_Model_enforce_9 rfl ?_
    refine pl_put X fw_Model_48 fp_Model rfl hK hP hD hS 0 rfl (v := .int (nI 0)) rfl rfl (Nat.le_of_ble_eq_true rfl) d_Model_enforce_13 (ws' := [(m0, .inr (6, [.int (nI 0), .int (nI np), .ref o1, .ref o2, .ref o3, .int (nI n), .ref o4, .ref o5, .ref o6, .ref o7, .int fo1, .int fk1, .int (nI stat), .int (nI how), .int (nI pl), .int (nI la), .int (nI stt), .int (nI q), .ref o8, .ref o9, .int (nI dn), .ref o10, .ref o11])), (o1, .inl (cI, 24, .inl P)), (o2, .inl (cI, 24, .inl K)), (o3, .inl (cI, 24, .inl u.1)), (o4, .inl (cZ, 32, .inl ru))]) rfl (fun H locs hP hD hS => ?_)
    refine lv_aload_n hx hb d_Model_enforce_16 rfl (lv_at hl 0 rfl) ?_
    refine pl_get X fw_Model_48 hK hP 0 rfl (v := .int (nI 0)) rfl d_Model_enforce_17 ?_
    refine pl_if_le X (by decide) d_Model_enforce_20 rfl (fun gL => ?_) (fun gL => ?_)
    · skip
      refine lv_aload_n hx hb d_Model_enforce_27 rfl (lv_at hl 0 rfl) ?_
      refine lv_aload_n hx hb d_Model_enforce_28 rfl (lv_at hl 0 rfl) ?_
      refine pl_get X fw_Model_55 hK hP 0 rfl (v := .int (nI np)) rfl d_Model_enforce_29 ?_
      refine pl_callVI X (rest := []) (As := [.int (nI np)]) (b := m0) (c_Model_place l D cI cZ cL m0 o1 o2 o3 o4 o5 o6 o7 o8 o9 o10 o11 P K u.1 ru lo hi tm sa ca ta tn fo1 fk1 0 np n stat how pl la stt q dn th np hn hnp hop hok hru (by omega)) ck_Model_97 pl_E0_ok trivial hK hP hD hS hA (T := F_Model) (N := N_Model) (ci := 6) rfl 0 rfl [0, 1, 2, 4] [3] [1, 2, 3, 0, 4] rfl (by decide) (wr := [(o3, .inl (cI, 24, .inl u.1))]) rfl (by decide) (by decide) (wf := fun _ => [(m0, .inr (6, [.int (nI 0), .int (nI np), .ref o1, .ref o2, .ref o3, .int (nI n), .ref o4, .ref o5, .ref o6, .ref o7, .int fo1, .int fk1, .int (nI stat), .int (nI how), .int (nI pl), .int (nI la), .int (nI stt), .int (nI q), .ref o8, .ref o9, .int (nI dn), .ref o10, .ref o11])), (o1, .inl (cI, 24, .inl P)), (o2, .inl (cI, 24, .inl K)), (o3, .inl (cI, 24, .inl u.1)), (o4, .inl (cZ, 32, .inl ru))]) (fun _ => rfl) (by decide) rfl hl.1 rfl (Nat.le_of_ble_eq_true rfl) (by decide) (by decide) d_Model_enforce_32 (fun r u0 H locs hcq hP hD hS => ?_)
      subst hcq
      exact pl_iret X hr hlk hK rfl u.1 rfl hP hD hS d_Model_enforce_35
    · skip
      exact absurd gL (by decide)

set_option maxHeartbeats 4000000 in
set_option maxRecDepth 100000 in
theorem c_Model_enforced_1 (l : Launch) (D : va_G) (cI cZ cL : ClassId) (m0 o1 o2 o3 o4 o5 o6 o7 o8 o9 o10 o11 : Nat) (P K Hm ru lo hi tm sa ca ta tn : Nat → Int32) (fo1 fk1 : Int32) (co np n stat how pl la stt q dn : Nat) (x : Int32) (b : Bool) (hnp : np ≤ 24) (hop : okP P np) (hw : ¬ (okK P K np ∧ ∃ G, closed P K np G)) : pl_I l y_Model_enforced b_Model_enforced 3 .int ({ frames := 4, cells := 0, slots := 0, locals := 91 } : Room) pl_E0 D classes (TY cI cZ cL) [.ref m0, .int x, .int (bI (b))] [(m0, .inr (6, [.int (nI co), .int (nI np), .ref o1, .ref o2, .ref o3, .int (nI n), .ref o4, .ref o5, .ref o6, .ref o7, .int fo1, .int fk1, .int (nI stat), .int (nI how), .int (nI pl), .int (nI la), .int (nI stt), .int (nI q), .ref o8, .ref o9, .int (nI dn), .ref o10, .ref o11])), (o1, .inl (cI, 24, .inl P)), (o2, .inl (cI, 24, .inl K)), (o3, .inl (cI, 24, .inl Hm))] (fun (r : Int32) (_ : Nat → Int32) => r = nI 0) (fun (u : (Nat → Int32)) => [(m0, .inr (6, [.int (nI 1), .int (nI np), .ref o1, .ref o2, .ref o3, .int (nI n), .ref o4, .ref o5, .ref o6, .ref o7, .int fo1, .int fk1, .int (nI stat), .int (nI how), .int (nI pl), .int (nI la), .int (nI stt), .int (nI q), .ref o8, .ref o9, .int (nI dn), .ref o10, .ref o11])), (o1, .inl (cI, 24, .inl P)), (o2, .inl (cI, 24, .inl K)), (o3, .inl (cI, 24, .inl u))]) := by
  refine pl_startI (by decide) (Nat.le_of_ble_eq_true rfl) ?_
  intro p e s m args below meth c A ls X hr hlk hin hK hP hD hS hA hE hl
  have X : CallFix p m c b_Model_enforced 3 s args TG R_Model := X
  have hx := X.1
  have hb := X.2.1
  have hl : lv_has ls 3 [(0, .ref m0), (1, .int x), (2, .int (bI (b)))] := hl
  refine lv_aload_n hx hb d_Model_enforced_0 rfl (lv_at hl 0 rfl) ?_
  refine lv_aload_n hx hb d_Model_enforced_1 rfl (lv_at hl 0 rfl) ?_
  refine pl_callVI X (rest := [.ref m0]) (As := []) (b := m0) (c_Model_isWell l D cI cZ cL m0 o1 o2 o3 o4 o5 o6 o7 o8 o9 o10 o11 P K Hm ru lo hi tm sa ca ta tn fo1 fk1 co np n stat how pl la stt q dn hnp hop) ck_Model_81 pl_E0_ok trivial hK hP hD hS hA (T := F_Model) (N := N_Model) (ci := 6) rfl 0 rfl [0, 1, 2, 3] [] [0, 1, 2, 3] rfl (by decide) (wr := []) rfl (by decide) (by decide) (wf := fun (u : MW) => [(m0, .inr (6, [.int (nI co), .int (nI np), .ref o1, .ref o2, .ref o3, .int (nI n), .ref o4, .ref o5, .ref o6, .ref o7, .int fo1, .int fk1, .int (nI stat), .int (nI how), .int (nI pl), .int (nI la), .int (nI stt), .int (nI q), .ref o8, .ref o9, .int (nI dn), .ref o10, .ref o11])), (o1, .inl (cI, 24, .inl P)), (o2, .inl (cI, 24, .inl K)), (o3, .inl (cI, 24, .inl u.1))]) (fun _ => rfl) (by decide) rfl hl.1 rfl (Nat.le_of_ble_eq_true rfl) (by decide) (by decide) d_Model_enforced_2 (fun r u H locs hcq hP hD hS => ?_)
  have hwp := hcq
  obtain ⟨hcq, -, -⟩ := hcq
  subst hcq
  refine pl_ifB_ne X d_Model_enforced_5 rfl (fun g5 => ?_) (fun g5 => ?_)
  · skip
    exact absurd ⟨(hwp.2.1 g5).1, _, (hwp.2.1 g5).2.1⟩ hw
  · skip
    refine lv_iconst (v := nI 1) hx hb d_Model_enforced_8 (by decide) ?_
    refine lv_goto hx hb d_Model_enforced_9 rfl ?_
    refine pl_put X fw_Model_48 fp_Model rfl hK hP hD hS 0 rfl (v := .int (nI 1)) rfl rfl (Nat.le_of_ble_eq_true rfl) d_Model_enforced_33 (ws' := [(m0, .inr (6, [.int (nI 1), .int (nI np), .ref o1, .ref o2, .ref o3, .int (nI n), .ref o4, .ref o5, .ref o6, .ref o7, .int fo1, .int fk1, .int (nI stat), .int (nI how), .int (nI pl), .int (nI la), .int (nI stt), .int (nI q), .ref o8, .ref o9, .int (nI dn), .ref o10, .ref o11])), (o1, .inl (cI, 24, .inl P)), (o2, .inl (cI, 24, .inl K)), (o3, .inl (cI, 24, .inl u.1))]) rfl (fun H locs hP hD hS => ?_)
    refine lv_aload_n hx hb d_Model_enforced_36 rfl (lv_at hl 0 rfl) ?_
    refine pl_get X fw_Model_48 hK hP 0 rfl (v := .int (nI 1)) rfl d_Model_enforced_37 ?_
    refine pl_if_le X (by decide) d_Model_enforced_40 rfl (fun gL => ?_) (fun gL => ?_)
    · skip
      exact absurd gL (by decide)
    · skip
      refine lv_iconst (v := nI 0) hx hb d_Model_enforced_43 (by decide) ?_
      exact pl_iret X hr hlk hK rfl u.1 rfl hP hD hS d_Model_enforced_44

set_option maxHeartbeats 4000000 in
set_option maxRecDepth 100000 in
theorem c_Model_enforced_2 (l : Launch) (D : va_G) (cI cZ cL : ClassId) (m0 o1 o2 o3 o4 o5 o6 o7 o8 o9 o10 o11 : Nat) (P K Hm ru lo hi tm sa ca ta tn : Nat → Int32) (fo1 fk1 : Int32) (co np n stat how pl la stt q dn : Nat) (th : Nat → Int32) (x : Int32) (b : Bool) (hnp : np ≤ 24) (hop : okP P np) (hw : (okK P K np ∧ ∃ G, closed P K np G)) (hn : n ≤ 4) (hru : rulR ru tm th) (hxx : inB x (plc P K th n np) = false) : pl_I l y_Model_enforced b_Model_enforced 3 .int ({ frames := 4, cells := 0, slots := 0, locals := 91 } : Room) pl_E0 D classes (TY cI cZ cL) [.ref m0, .int x, .int (bI (b))] [(m0, .inr (6, [.int (nI co), .int (nI np), .ref o1, .ref o2, .ref o3, .int (nI n), .ref o4, .ref o5, .ref o6, .ref o7, .int fo1, .int fk1, .int (nI stat), .int (nI how), .int (nI pl), .int (nI la), .int (nI stt), .int (nI q), .ref o8, .ref o9, .int (nI dn), .ref o10, .ref o11])), (o1, .inl (cI, 24, .inl P)), (o2, .inl (cI, 24, .inl K)), (o3, .inl (cI, 24, .inl Hm)), (o4, .inl (cZ, 32, .inl ru))] (fun (r : Int32) (_ : Nat → Int32) => r = nI 0) (fun (u : (Nat → Int32)) => [(m0, .inr (6, [.int (nI 2), .int (nI np), .ref o1, .ref o2, .ref o3, .int (nI n), .ref o4, .ref o5, .ref o6, .ref o7, .int fo1, .int fk1, .int (nI stat), .int (nI how), .int (nI pl), .int (nI la), .int (nI stt), .int (nI q), .ref o8, .ref o9, .int (nI dn), .ref o10, .ref o11])), (o1, .inl (cI, 24, .inl P)), (o2, .inl (cI, 24, .inl K)), (o3, .inl (cI, 24, .inl u)), (o4, .inl (cZ, 32, .inl ru))]) := by
  refine pl_startI (by decide) (Nat.le_of_ble_eq_true rfl) ?_
  intro p e s m args below meth c A ls X hr hlk hin hK hP hD hS hA hE hl
  have X : CallFix p m c b_Model_enforced 3 s args TG R_Model := X
  have hx := X.1
  have hb := X.2.1
  have hl : lv_has ls 3 [(0, .ref m0), (1, .int x), (2, .int (bI (b)))] := hl
  refine lv_aload_n hx hb d_Model_enforced_0 rfl (lv_at hl 0 rfl) ?_
  refine lv_aload_n hx hb d_Model_enforced_1 rfl (lv_at hl 0 rfl) ?_
  refine pl_callVI X (rest := [.ref m0]) (As := []) (b := m0) (c_Model_isWell l D cI cZ cL m0 o1 o2 o3 o4 o5 o6 o7 o8 o9 o10 o11 P K Hm ru lo hi tm sa ca ta tn fo1 fk1 co np n stat how pl la stt q dn hnp hop) ck_Model_81 pl_E0_ok trivial hK hP hD hS hA (T := F_Model) (N := N_Model) (ci := 6) rfl 0 rfl [0, 1, 2, 3] [4] [1, 2, 3, 4, 0] rfl (by decide) (wr := [(o4, .inl (cZ, 32, .inl ru))]) rfl (by decide) (by decide) (wf := fun (u : MW) => [(m0, .inr (6, [.int (nI co), .int (nI np), .ref o1, .ref o2, .ref o3, .int (nI n), .ref o4, .ref o5, .ref o6, .ref o7, .int fo1, .int fk1, .int (nI stat), .int (nI how), .int (nI pl), .int (nI la), .int (nI stt), .int (nI q), .ref o8, .ref o9, .int (nI dn), .ref o10, .ref o11])), (o1, .inl (cI, 24, .inl P)), (o2, .inl (cI, 24, .inl K)), (o3, .inl (cI, 24, .inl u.1)), (o4, .inl (cZ, 32, .inl ru))]) (fun _ => rfl) (by decide) rfl hl.1 rfl (Nat.le_of_ble_eq_true rfl) (by decide) (by decide) d_Model_enforced_2 (fun r u H locs hcq hP hD hS => ?_)
  have hwp := hcq
  obtain ⟨hcq, -, -⟩ := hcq
  subst hcq
  refine pl_ifB_ne X d_Model_enforced_5 rfl (fun g5 => ?_) (fun g5 => ?_)
  · skip
    have hok := (hwp.2.1 g5).1
    have hpn := plc_le P K th hn np
    refine lv_iload_n hx hb d_Model_enforced_12 rfl (lv_at hl 1 rfl) ?_
    refine lv_if_lt hx hb d_Model_enforced_13 rfl (fun g13 => ?_) (fun g13 => ?_)
    · skip
      refine lv_iconst (v := nI 2) hx hb d_Model_enforced_28 (by decide) ?_
      refine lv_goto hx hb d_Model_enforced_29 rfl ?_
      refine pl_put X fw_Model_48 fp_Model rfl hK hP hD hS 0 rfl (v := .int (nI 2)) rfl rfl (Nat.le_of_ble_eq_true rfl) d_Model_enforced_33 (ws' := [(m0, .inr (6, [.int (nI 2), .int (nI np), .ref o1, .ref o2, .ref o3, .int (nI n), .ref o4, .ref o5, .ref o6, .ref o7, .int fo1, .int fk1, .int (nI stat), .int (nI how), .int (nI pl), .int (nI la), .int (nI stt), .int (nI q), .ref o8, .ref o9, .int (nI dn), .ref o10, .ref o11])), (o1, .inl (cI, 24, .inl P)), (o2, .inl (cI, 24, .inl K)), (o3, .inl (cI, 24, .inl u.1)), (o4, .inl (cZ, 32, .inl ru))]) rfl (fun H locs hP hD hS => ?_)
      refine lv_aload_n hx hb d_Model_enforced_36 rfl (lv_at hl 0 rfl) ?_
      refine pl_get X fw_Model_48 hK hP 0 rfl (v := .int (nI 2)) rfl d_Model_enforced_37 ?_
      refine pl_if_le X (by decide) d_Model_enforced_40 rfl (fun gL => ?_) (fun gL => ?_)
      · skip
        exact absurd gL (by decide)
      · skip
        refine lv_iconst (v := nI 0) hx hb d_Model_enforced_43 (by decide) ?_
        exact pl_iret X hr hlk hK rfl u.1 rfl hP hD hS d_Model_enforced_44
    · skip
      refine lv_iload_n hx hb d_Model_enforced_16 rfl (lv_at hl 1 rfl) ?_
      refine lv_aload_n hx hb d_Model_enforced_17 rfl (lv_at hl 0 rfl) ?_
      refine lv_aload_n hx hb d_Model_enforced_18 rfl (lv_at hl 0 rfl) ?_
      refine pl_get X fw_Model_55 hK hP 0 rfl (v := .int (nI np)) rfl d_Model_enforced_19 ?_
      refine pl_callVI X (rest := [.int x, .ref m0]) (As := [.int (nI np)]) (b := m0) (c_Model_place l D cI cZ cL m0 o1 o2 o3 o4 o5 o6 o7 o8 o9 o10 o11 P K u.1 ru lo hi tm sa ca ta tn fo1 fk1 co np n stat how pl la stt q dn th np hn hnp hop hok hru (by omega)) ck_Model_97 pl_E0_ok trivial hK hP hD hS hA (T := F_Model) (N := N_Model) (ci := 6) rfl 0 rfl [0, 1, 2, 4] [3] [1, 2, 3, 0, 4] rfl (by decide) (wr := [(o3, .inl (cI, 24, .inl u.1))]) rfl (by decide) (by decide) (wf := fun _ => [(m0, .inr (6, [.int (nI co), .int (nI np), .ref o1, .ref o2, .ref o3, .int (nI n), .ref o4, .ref o5, .ref o6, .ref o7, .int fo1, .int fk1, .int (nI stat), .int (nI how), .int (nI pl), .int (nI la), .int (nI stt), .int (nI q), .ref o8, .ref o9, .int (nI dn), .ref o10, .ref o11])), (o1, .inl (cI, 24, .inl P)), (o2, .inl (cI, 24, .inl K)), (o3, .inl (cI, 24, .inl u.1)), (o4, .inl (cZ, 32, .inl ru))]) (fun _ => rfl) (by decide) rfl hl.1 rfl (Nat.le_of_ble_eq_true rfl) (by decide) (by decide) d_Model_enforced_22 (fun r u0 H locs hcq hP hD hS => ?_)
      subst hcq
      refine lv_icmp_lt hx hb d_Model_enforced_25 rfl (fun g25 => ?_) (fun g25 => ?_)
      · skip
        exact absurd (inB_in (by omega) g13 (i_nle.mpr g25)) (by rw [hxx]; decide)
      · skip
        refine lv_iconst (v := nI 2) hx hb d_Model_enforced_28 (by decide) ?_
        refine lv_goto hx hb d_Model_enforced_29 rfl ?_
        refine pl_put X fw_Model_48 fp_Model rfl hK hP hD hS 0 rfl (v := .int (nI 2)) rfl rfl (Nat.le_of_ble_eq_true rfl) d_Model_enforced_33 (ws' := [(m0, .inr (6, [.int (nI 2), .int (nI np), .ref o1, .ref o2, .ref o3, .int (nI n), .ref o4, .ref o5, .ref o6, .ref o7, .int fo1, .int fk1, .int (nI stat), .int (nI how), .int (nI pl), .int (nI la), .int (nI stt), .int (nI q), .ref o8, .ref o9, .int (nI dn), .ref o10, .ref o11])), (o1, .inl (cI, 24, .inl P)), (o2, .inl (cI, 24, .inl K)), (o3, .inl (cI, 24, .inl u.1)), (o4, .inl (cZ, 32, .inl ru))]) rfl (fun H locs hP hD hS => ?_)
        refine lv_aload_n hx hb d_Model_enforced_36 rfl (lv_at hl 0 rfl) ?_
        refine pl_get X fw_Model_48 hK hP 0 rfl (v := .int (nI 2)) rfl d_Model_enforced_37 ?_
        refine pl_if_le X (by decide) d_Model_enforced_40 rfl (fun gL => ?_) (fun gL => ?_)
        · skip
          exact absurd gL (by decide)
        · skip
          refine lv_iconst (v := nI 0) hx hb d_Model_enforced_43 (by decide) ?_
          exact pl_iret X hr hlk hK rfl u.1 rfl hP hD hS d_Model_enforced_44
  · skip
    exact absurd hw (hwp.2.2 g5)

set_option maxHeartbeats 4000000 in
set_option maxRecDepth 100000 in
theorem c_Model_enforced_0 (l : Launch) (D : va_G) (cI cZ cL : ClassId) (m0 o1 o2 o3 o4 o5 o6 o7 o8 o9 o10 o11 : Nat) (P K Hm ru lo hi tm sa ca ta tn : Nat → Int32) (fo1 fk1 : Int32) (co np n stat how pl la stt q dn : Nat) (th : Nat → Int32) (j : Nat) (b : Bool) (hnp : np ≤ 24) (hop : okP P np) (hw : (okK P K np ∧ ∃ G, closed P K np G)) (hn : n ≤ 4) (hru : rulR ru tm th) (hjp : j < plc P K th n np) : pl_I l y_Model_enforced b_Model_enforced 3 .int ({ frames := 4, cells := 0, slots := 0, locals := 91 } : Room) pl_E0 D classes (TY cI cZ cL) [.ref m0, .int (nI j), .int (bI (b))] [(m0, .inr (6, [.int (nI co), .int (nI np), .ref o1, .ref o2, .ref o3, .int (nI n), .ref o4, .ref o5, .ref o6, .ref o7, .int fo1, .int fk1, .int (nI stat), .int (nI how), .int (nI pl), .int (nI la), .int (nI stt), .int (nI q), .ref o8, .ref o9, .int (nI dn), .ref o10, .ref o11])), (o1, .inl (cI, 24, .inl P)), (o2, .inl (cI, 24, .inl K)), (o4, .inl (cZ, 32, .inl ru)), (o5, .inl (cI, 32, .inl lo)), (o6, .inl (cI, 32, .inl hi)), (o7, .inl (cI, 32, .inl tm)), (o3, .inl (cI, 24, .inl Hm))] (fun (r : Int32) (u : ((Nat → Int32) × Int32 × Int32)) => r = if b = true then (wK P K lo hi th n np).getD j 0 else (wO P K th n np).getD j 0) (fun (u : ((Nat → Int32) × Int32 × Int32)) => [(m0, .inr (6, [.int (nI 0), .int (nI np), .ref o1, .ref o2, .ref o3, .int (nI n), .ref o4, .ref o5, .ref o6, .ref o7, .int u.2.1, .int u.2.2, .int (nI stat), .int (nI how), .int (nI pl), .int (nI la), .int (nI stt), .int (nI q), .ref o8, .ref o9, .int (nI dn), .ref o10, .ref o11])), (o1, .inl (cI, 24, .inl P)), (o2, .inl (cI, 24, .inl K)), (o4, .inl (cZ, 32, .inl ru)), (o5, .inl (cI, 32, .inl lo)), (o6, .inl (cI, 32, .inl hi)), (o7, .inl (cI, 32, .inl tm)), (o3, .inl (cI, 24, .inl u.1))]) := by
  refine pl_startI (by decide) (Nat.le_of_ble_eq_true rfl) ?_
  intro p e s m args below meth c A ls X hr hlk hin hK hP hD hS hA hE hl
  have X : CallFix p m c b_Model_enforced 3 s args TG R_Model := X
  have hx := X.1
  have hb := X.2.1
  have hl : lv_has ls 3 [(0, .ref m0), (1, .int (nI j)), (2, .int (bI (b)))] := hl
  have hpn := plc_le P K th hn np
  refine lv_aload_n hx hb d_Model_enforced_0 rfl (lv_at hl 0 rfl) ?_
  refine lv_aload_n hx hb d_Model_enforced_1 rfl (lv_at hl 0 rfl) ?_
  refine pl_callVI X (rest := [.ref m0]) (As := []) (b := m0) (c_Model_isWell l D cI cZ cL m0 o1 o2 o3 o4 o5 o6 o7 o8 o9 o10 o11 P K Hm ru lo hi tm sa ca ta tn fo1 fk1 co np n stat how pl la stt q dn hnp hop) ck_Model_81 pl_E0_ok trivial hK hP hD hS hA (T := F_Model) (N := N_Model) (ci := 6) rfl 0 rfl [0, 1, 2, 7] [3, 4, 5, 6] [4, 5, 6, 0, 1, 2, 3, 7] rfl (by decide) (wr := [(o4, .inl (cZ, 32, .inl ru)), (o5, .inl (cI, 32, .inl lo)), (o6, .inl (cI, 32, .inl hi)), (o7, .inl (cI, 32, .inl tm))]) rfl (by decide) (by decide) (wf := fun (u : MW) => [(m0, .inr (6, [.int (nI co), .int (nI np), .ref o1, .ref o2, .ref o3, .int (nI n), .ref o4, .ref o5, .ref o6, .ref o7, .int fo1, .int fk1, .int (nI stat), .int (nI how), .int (nI pl), .int (nI la), .int (nI stt), .int (nI q), .ref o8, .ref o9, .int (nI dn), .ref o10, .ref o11])), (o1, .inl (cI, 24, .inl P)), (o2, .inl (cI, 24, .inl K)), (o4, .inl (cZ, 32, .inl ru)), (o5, .inl (cI, 32, .inl lo)), (o6, .inl (cI, 32, .inl hi)), (o7, .inl (cI, 32, .inl tm)), (o3, .inl (cI, 24, .inl u.1))]) (fun _ => rfl) (by decide) rfl hl.1 rfl (Nat.le_of_ble_eq_true rfl) (by decide) (by decide) d_Model_enforced_2 (fun r u H locs hcq hP hD hS => ?_)
  have hwp := hcq
  obtain ⟨hcq, -, -⟩ := hcq
  subst hcq
  refine pl_ifB_ne X d_Model_enforced_5 rfl (fun g5 => ?_) (fun g5 => ?_)
  · skip
    have hok := (hwp.2.1 g5).1
    have hpn := plc_le P K th hn np
    refine lv_iload_n hx hb d_Model_enforced_12 rfl (lv_at hl 1 rfl) ?_
    refine pl_if_lt X (by omega) d_Model_enforced_13 rfl ?_
    refine lv_iload_n hx hb d_Model_enforced_16 rfl (lv_at hl 1 rfl) ?_
    refine lv_aload_n hx hb d_Model_enforced_17 rfl (lv_at hl 0 rfl) ?_
    refine lv_aload_n hx hb d_Model_enforced_18 rfl (lv_at hl 0 rfl) ?_
    refine pl_get X fw_Model_55 hK hP 0 rfl (v := .int (nI np)) rfl d_Model_enforced_19 ?_
    refine pl_callVI X (rest := [.int (nI j), .ref m0]) (As := [.int (nI np)]) (b := m0) (c_Model_place l D cI cZ cL m0 o1 o2 o3 o4 o5 o6 o7 o8 o9 o10 o11 P K u.1 ru lo hi tm sa ca ta tn fo1 fk1 co np n stat how pl la stt q dn th np hn hnp hop hok hru (by omega)) ck_Model_97 pl_E0_ok trivial hK hP hD hS hA (T := F_Model) (N := N_Model) (ci := 6) rfl 0 rfl [0, 1, 2, 3] [4, 5, 6, 7] [4, 5, 6, 7, 0, 1, 2, 3] rfl (by decide) (wr := [(o5, .inl (cI, 32, .inl lo)), (o6, .inl (cI, 32, .inl hi)), (o7, .inl (cI, 32, .inl tm)), (o3, .inl (cI, 24, .inl u.1))]) rfl (by decide) (by decide) (wf := fun _ => [(m0, .inr (6, [.int (nI co), .int (nI np), .ref o1, .ref o2, .ref o3, .int (nI n), .ref o4, .ref o5, .ref o6, .ref o7, .int fo1, .int fk1, .int (nI stat), .int (nI how), .int (nI pl), .int (nI la), .int (nI stt), .int (nI q), .ref o8, .ref o9, .int (nI dn), .ref o10, .ref o11])), (o1, .inl (cI, 24, .inl P)), (o2, .inl (cI, 24, .inl K)), (o4, .inl (cZ, 32, .inl ru)), (o5, .inl (cI, 32, .inl lo)), (o6, .inl (cI, 32, .inl hi)), (o7, .inl (cI, 32, .inl tm)), (o3, .inl (cI, 24, .inl u.1))]) (fun _ => rfl) (by decide) rfl hl.1 rfl (Nat.le_of_ble_eq_true rfl) (by decide) (by decide) d_Model_enforced_22 (fun r u0 H locs hcq hP hD hS => ?_)
    subst hcq
    refine pl_icmp_lt X (by omega) (by omega) d_Model_enforced_25 rfl (fun g25 => ?_) (fun g25 => ?_)
    · skip
      refine lv_iconst (v := nI 0) hx hb d_Model_enforced_32 (by decide) ?_
      refine pl_put X fw_Model_48 fp_Model rfl hK hP hD hS 0 rfl (v := .int (nI 0)) rfl rfl (Nat.le_of_ble_eq_true rfl) d_Model_enforced_33 (ws' := [(m0, .inr (6, [.int (nI 0), .int (nI np), .ref o1, .ref o2, .ref o3, .int (nI n), .ref o4, .ref o5, .ref o6, .ref o7, .int fo1, .int fk1, .int (nI stat), .int (nI how), .int (nI pl), .int (nI la), .int (nI stt), .int (nI q), .ref o8, .ref o9, .int (nI dn), .ref o10, .ref o11])), (o1, .inl (cI, 24, .inl P)), (o2, .inl (cI, 24, .inl K)), (o4, .inl (cZ, 32, .inl ru)), (o5, .inl (cI, 32, .inl lo)), (o6, .inl (cI, 32, .inl hi)), (o7, .inl (cI, 32, .inl tm)), (o3, .inl (cI, 24, .inl u.1))]) rfl (fun H locs hP hD hS => ?_)
      refine lv_aload_n hx hb d_Model_enforced_36 rfl (lv_at hl 0 rfl) ?_
      refine pl_get X fw_Model_48 hK hP 0 rfl (v := .int (nI 0)) rfl d_Model_enforced_37 ?_
      refine pl_if_le X (by decide) d_Model_enforced_40 rfl (fun gL => ?_) (fun gL => ?_)
      · skip
        refine lv_aload_n hx hb d_Model_enforced_45 rfl (lv_at hl 0 rfl) ?_
        refine lv_iload_n hx hb d_Model_enforced_46 rfl (lv_at hl 1 rfl) ?_
        refine pl_callVV X (rest := []) (As := [.int (nI j)]) (b := m0) (c_Model_find l D cI cZ cL m0 o1 o2 o3 o4 o5 o6 o7 o8 o9 o10 o11 P K u.1 ru lo hi tm sa ca ta tn fo1 fk1 0 np n stat how pl la stt q dn th j hn hnp hop hok hru hjp) ck_Model_108 pl_E0_ok trivial hK hP hD hS hA (T := F_Model) (N := N_Model) (ci := 6) rfl 0 rfl [0, 1, 2, 3, 4, 5, 6] [7] [1, 2, 3, 4, 5, 6, 7, 0] rfl (by decide) (wr := [(o3, .inl (cI, 24, .inl u.1))]) rfl (by decide) (by decide) (wf := fun (uf : Int32 × Int32) => [(m0, .inr (6, [.int (nI 0), .int (nI np), .ref o1, .ref o2, .ref o3, .int (nI n), .ref o4, .ref o5, .ref o6, .ref o7, .int uf.1, .int uf.2, .int (nI stat), .int (nI how), .int (nI pl), .int (nI la), .int (nI stt), .int (nI q), .ref o8, .ref o9, .int (nI dn), .ref o10, .ref o11])), (o1, .inl (cI, 24, .inl P)), (o2, .inl (cI, 24, .inl K)), (o4, .inl (cZ, 32, .inl ru)), (o5, .inl (cI, 32, .inl lo)), (o6, .inl (cI, 32, .inl hi)), (o7, .inl (cI, 32, .inl tm)), (o3, .inl (cI, 24, .inl u.1))]) (fun _ => rfl) (by decide) rfl hl.1 rfl (Nat.le_of_ble_eq_true rfl) (by decide) (by decide) d_Model_enforced_47 (fun uf H locs hcq hP hD hS => ?_)
        refine lv_iload_n hx hb d_Model_enforced_50 rfl (lv_at hl 2 rfl) ?_
        refine pl_ifB_eq X d_Model_enforced_51 rfl (fun g51 => ?_) (fun g51 => ?_)
        · skip
          refine lv_aload_n hx hb d_Model_enforced_61 rfl (lv_at hl 0 rfl) ?_
          refine pl_get X fw_Model_91 hK hP 0 rfl (v := .int uf.1) rfl d_Model_enforced_62 ?_
          exact pl_iret X hr hlk hK rfl (u.1, uf.1, uf.2) (by rw [if_neg (by rw [g51]; decide)]; exact hcq.1) hP hD hS d_Model_enforced_65
        · skip
          refine lv_aload_n hx hb d_Model_enforced_54 rfl (lv_at hl 0 rfl) ?_
          refine pl_get X fw_Model_94 hK hP 0 rfl (v := .int uf.2) rfl d_Model_enforced_55 ?_
          refine lv_goto hx hb d_Model_enforced_58 rfl ?_
          exact pl_iret X hr hlk hK rfl (u.1, uf.1, uf.2) (by rw [if_pos g51]; exact hcq.2) hP hD hS d_Model_enforced_65
      · skip
        exact absurd gL (by decide)
    · skip
      exact absurd g25 (by omega)
  · skip
    exact absurd hw (hwp.2.2 g5)

set_option maxHeartbeats 4000000 in
set_option maxRecDepth 100000 in
theorem c_Model_start_1 (l : Launch) (D : va_G) (cI cZ cL : ClassId) (m0 o1 o2 o3 o4 o5 o6 o7 o8 o9 o10 o11 : Nat) (P K Hm ru lo hi tm sa ca ta tn : Nat → Int32) (fo1 fk1 : Int32) (co np n stat how pl la stt q dn : Nat) (x y : Int32) (hnp : np ≤ 24) (hop : okP P np) (hw : ¬ (okK P K np ∧ ∃ G, closed P K np G)) : pl_V l y_Model_start b_Model_start 4 ({ frames := 3, cells := 0, slots := 0, locals := 70 } : Room) pl_E0 D classes (TY cI cZ cL) [.ref m0, .int x, .int y] [(m0, .inr (6, [.int (nI co), .int (nI np), .ref o1, .ref o2, .ref o3, .int (nI n), .ref o4, .ref o5, .ref o6, .ref o7, .int fo1, .int fk1, .int (nI stat), .int (nI how), .int (nI pl), .int (nI la), .int (nI stt), .int (nI q), .ref o8, .ref o9, .int (nI dn), .ref o10, .ref o11])), (o1, .inl (cI, 24, .inl P)), (o2, .inl (cI, 24, .inl K)), (o3, .inl (cI, 24, .inl Hm))] (fun _ : Nat → Int32 => True) (fun (u : (Nat → Int32)) => [(m0, .inr (6, [.int (nI 1), .int (nI np), .ref o1, .ref o2, .ref o3, .int (nI n), .ref o4, .ref o5, .ref o6, .ref o7, .int fo1, .int fk1, .int (nI stat), .int (nI how), .int (nI pl), .int (nI la), .int (nI stt), .int (nI q), .ref o8, .ref o9, .int (nI dn), .ref o10, .ref o11])), (o1, .inl (cI, 24, .inl P)), (o2, .inl (cI, 24, .inl K)), (o3, .inl (cI, 24, .inl u))]) := by
  refine pl_startV (by decide) (Nat.le_of_ble_eq_true rfl) ?_
  intro p e s m args below meth c A ls X hr hlk hin hK hP hD hS hA hE hl
  have X : CallFix p m c b_Model_start 4 s args TG R_Model := X
  have hx := X.1
  have hb := X.2.1
  have hl : lv_has ls 4 [(0, .ref m0), (1, .int x), (2, .int y)] := hl
  refine lv_aload_n hx hb d_Model_start_0 rfl (lv_at hl 0 rfl) ?_
  refine lv_aload_n hx hb d_Model_start_1 rfl (lv_at hl 0 rfl) ?_
  refine pl_callVI X (rest := [.ref m0]) (As := []) (b := m0) (c_Model_isWell l D cI cZ cL m0 o1 o2 o3 o4 o5 o6 o7 o8 o9 o10 o11 P K Hm ru lo hi tm sa ca ta tn fo1 fk1 co np n stat how pl la stt q dn hnp hop) ck_Model_81 pl_E0_ok trivial hK hP hD hS hA (T := F_Model) (N := N_Model) (ci := 6) rfl 0 rfl [0, 1, 2, 3] [] [0, 1, 2, 3] rfl (by decide) (wr := []) rfl (by decide) (by decide) (wf := fun (u : MW) => [(m0, .inr (6, [.int (nI co), .int (nI np), .ref o1, .ref o2, .ref o3, .int (nI n), .ref o4, .ref o5, .ref o6, .ref o7, .int fo1, .int fk1, .int (nI stat), .int (nI how), .int (nI pl), .int (nI la), .int (nI stt), .int (nI q), .ref o8, .ref o9, .int (nI dn), .ref o10, .ref o11])), (o1, .inl (cI, 24, .inl P)), (o2, .inl (cI, 24, .inl K)), (o3, .inl (cI, 24, .inl u.1))]) (fun _ => rfl) (by decide) rfl hl.1 rfl (Nat.le_of_ble_eq_true rfl) (by decide) (by decide) d_Model_start_2 (fun r u H locs hcq hP hD hS => ?_)
  have hwp := hcq
  obtain ⟨hcq, -, -⟩ := hcq
  subst hcq
  refine pl_ifB_ne X d_Model_start_5 rfl (fun g5 => ?_) (fun g5 => ?_)
  · skip
    exact absurd ⟨(hwp.2.1 g5).1, _, (hwp.2.1 g5).2.1⟩ hw
  · skip
    refine lv_iconst (v := nI 1) hx hb d_Model_start_8 (by decide) ?_
    refine lv_goto hx hb d_Model_start_9 rfl ?_
    refine pl_put X fw_Model_48 fp_Model rfl hK hP hD hS 0 rfl (v := .int (nI 1)) rfl rfl (Nat.le_of_ble_eq_true rfl) d_Model_start_26 (ws' := [(m0, .inr (6, [.int (nI 1), .int (nI np), .ref o1, .ref o2, .ref o3, .int (nI n), .ref o4, .ref o5, .ref o6, .ref o7, .int fo1, .int fk1, .int (nI stat), .int (nI how), .int (nI pl), .int (nI la), .int (nI stt), .int (nI q), .ref o8, .ref o9, .int (nI dn), .ref o10, .ref o11])), (o1, .inl (cI, 24, .inl P)), (o2, .inl (cI, 24, .inl K)), (o3, .inl (cI, 24, .inl u.1))]) rfl (fun H locs hP hD hS => ?_)
    refine lv_aload_n hx hb d_Model_start_29 rfl (lv_at hl 0 rfl) ?_
    refine pl_get X fw_Model_48 hK hP 0 rfl (v := .int (nI 1)) rfl d_Model_start_30 ?_
    refine pl_if_le X (by decide) d_Model_start_33 rfl (fun gL => ?_) (fun gL => ?_)
    · skip
      exact absurd gL (by decide)
    · skip
      exact pl_vret X hr hlk hK u.1 trivial hP hD hS d_Model_start_36

set_option maxHeartbeats 4000000 in
set_option maxRecDepth 100000 in
theorem c_Model_start_2 (l : Launch) (D : va_G) (cI cZ cL : ClassId) (m0 o1 o2 o3 o4 o5 o6 o7 o8 o9 o10 o11 : Nat) (P K Hm ru lo hi tm sa ca ta tn : Nat → Int32) (fo1 fk1 : Int32) (co np n stat how pl la stt q dn : Nat) (x y : Int32) (hnp : np ≤ 24) (hop : okP P np) (hw : (okK P K np ∧ ∃ G, closed P K np G)) (hxx : inB x 3 = false) : pl_V l y_Model_start b_Model_start 4 ({ frames := 3, cells := 0, slots := 0, locals := 70 } : Room) pl_E0 D classes (TY cI cZ cL) [.ref m0, .int x, .int y] [(m0, .inr (6, [.int (nI co), .int (nI np), .ref o1, .ref o2, .ref o3, .int (nI n), .ref o4, .ref o5, .ref o6, .ref o7, .int fo1, .int fk1, .int (nI stat), .int (nI how), .int (nI pl), .int (nI la), .int (nI stt), .int (nI q), .ref o8, .ref o9, .int (nI dn), .ref o10, .ref o11])), (o1, .inl (cI, 24, .inl P)), (o2, .inl (cI, 24, .inl K)), (o3, .inl (cI, 24, .inl Hm))] (fun _ : Nat → Int32 => True) (fun (u : (Nat → Int32)) => [(m0, .inr (6, [.int (nI 2), .int (nI np), .ref o1, .ref o2, .ref o3, .int (nI n), .ref o4, .ref o5, .ref o6, .ref o7, .int fo1, .int fk1, .int (nI stat), .int (nI how), .int (nI pl), .int (nI la), .int (nI stt), .int (nI q), .ref o8, .ref o9, .int (nI dn), .ref o10, .ref o11])), (o1, .inl (cI, 24, .inl P)), (o2, .inl (cI, 24, .inl K)), (o3, .inl (cI, 24, .inl u))]) := by
  refine pl_startV (by decide) (Nat.le_of_ble_eq_true rfl) ?_
  intro p e s m args below meth c A ls X hr hlk hin hK hP hD hS hA hE hl
  have X : CallFix p m c b_Model_start 4 s args TG R_Model := X
  have hx := X.1
  have hb := X.2.1
  have hl : lv_has ls 4 [(0, .ref m0), (1, .int x), (2, .int y)] := hl
  refine lv_aload_n hx hb d_Model_start_0 rfl (lv_at hl 0 rfl) ?_
  refine lv_aload_n hx hb d_Model_start_1 rfl (lv_at hl 0 rfl) ?_
  refine pl_callVI X (rest := [.ref m0]) (As := []) (b := m0) (c_Model_isWell l D cI cZ cL m0 o1 o2 o3 o4 o5 o6 o7 o8 o9 o10 o11 P K Hm ru lo hi tm sa ca ta tn fo1 fk1 co np n stat how pl la stt q dn hnp hop) ck_Model_81 pl_E0_ok trivial hK hP hD hS hA (T := F_Model) (N := N_Model) (ci := 6) rfl 0 rfl [0, 1, 2, 3] [] [0, 1, 2, 3] rfl (by decide) (wr := []) rfl (by decide) (by decide) (wf := fun (u : MW) => [(m0, .inr (6, [.int (nI co), .int (nI np), .ref o1, .ref o2, .ref o3, .int (nI n), .ref o4, .ref o5, .ref o6, .ref o7, .int fo1, .int fk1, .int (nI stat), .int (nI how), .int (nI pl), .int (nI la), .int (nI stt), .int (nI q), .ref o8, .ref o9, .int (nI dn), .ref o10, .ref o11])), (o1, .inl (cI, 24, .inl P)), (o2, .inl (cI, 24, .inl K)), (o3, .inl (cI, 24, .inl u.1))]) (fun _ => rfl) (by decide) rfl hl.1 rfl (Nat.le_of_ble_eq_true rfl) (by decide) (by decide) d_Model_start_2 (fun r u H locs hcq hP hD hS => ?_)
  have hwp := hcq
  obtain ⟨hcq, -, -⟩ := hcq
  subst hcq
  refine pl_ifB_ne X d_Model_start_5 rfl (fun g5 => ?_) (fun g5 => ?_)
  · skip
    refine lv_iload_n hx hb d_Model_start_12 rfl (lv_at hl 1 rfl) ?_
    refine lv_if_lt hx hb d_Model_start_13 rfl (fun g13 => ?_) (fun g13 => ?_)
    · skip
      refine lv_iconst (v := nI 2) hx hb d_Model_start_21 (by decide) ?_
      refine lv_goto hx hb d_Model_start_22 rfl ?_
      refine pl_put X fw_Model_48 fp_Model rfl hK hP hD hS 0 rfl (v := .int (nI 2)) rfl rfl (Nat.le_of_ble_eq_true rfl) d_Model_start_26 (ws' := [(m0, .inr (6, [.int (nI 2), .int (nI np), .ref o1, .ref o2, .ref o3, .int (nI n), .ref o4, .ref o5, .ref o6, .ref o7, .int fo1, .int fk1, .int (nI stat), .int (nI how), .int (nI pl), .int (nI la), .int (nI stt), .int (nI q), .ref o8, .ref o9, .int (nI dn), .ref o10, .ref o11])), (o1, .inl (cI, 24, .inl P)), (o2, .inl (cI, 24, .inl K)), (o3, .inl (cI, 24, .inl u.1))]) rfl (fun H locs hP hD hS => ?_)
      refine lv_aload_n hx hb d_Model_start_29 rfl (lv_at hl 0 rfl) ?_
      refine pl_get X fw_Model_48 hK hP 0 rfl (v := .int (nI 2)) rfl d_Model_start_30 ?_
      refine pl_if_le X (by decide) d_Model_start_33 rfl (fun gL => ?_) (fun gL => ?_)
      · skip
        exact absurd gL (by decide)
      · skip
        exact pl_vret X hr hlk hK u.1 trivial hP hD hS d_Model_start_36
    · skip
      refine lv_iload_n hx hb d_Model_start_16 rfl (lv_at hl 1 rfl) ?_
      refine lv_iconst (v := nI 2) hx hb d_Model_start_17 (by decide) ?_
      refine lv_icmp_le hx hb d_Model_start_18 rfl (fun g18 => ?_) (fun g18 => ?_)
      · skip
        exact absurd (inB_le_t (m := 2) (by omega) g13 g18) (by rw [hxx]; decide)
      · skip
        refine lv_iconst (v := nI 2) hx hb d_Model_start_21 (by decide) ?_
        refine lv_goto hx hb d_Model_start_22 rfl ?_
        refine pl_put X fw_Model_48 fp_Model rfl hK hP hD hS 0 rfl (v := .int (nI 2)) rfl rfl (Nat.le_of_ble_eq_true rfl) d_Model_start_26 (ws' := [(m0, .inr (6, [.int (nI 2), .int (nI np), .ref o1, .ref o2, .ref o3, .int (nI n), .ref o4, .ref o5, .ref o6, .ref o7, .int fo1, .int fk1, .int (nI stat), .int (nI how), .int (nI pl), .int (nI la), .int (nI stt), .int (nI q), .ref o8, .ref o9, .int (nI dn), .ref o10, .ref o11])), (o1, .inl (cI, 24, .inl P)), (o2, .inl (cI, 24, .inl K)), (o3, .inl (cI, 24, .inl u.1))]) rfl (fun H locs hP hD hS => ?_)
        refine lv_aload_n hx hb d_Model_start_29 rfl (lv_at hl 0 rfl) ?_
        refine pl_get X fw_Model_48 hK hP 0 rfl (v := .int (nI 2)) rfl d_Model_start_30 ?_
        refine pl_if_le X (by decide) d_Model_start_33 rfl (fun gL => ?_) (fun gL => ?_)
        · skip
          exact absurd gL (by decide)
        · skip
          exact pl_vret X hr hlk hK u.1 trivial hP hD hS d_Model_start_36
  · skip
    exact absurd hw (hwp.2.2 g5)

set_option maxHeartbeats 4000000 in
set_option maxRecDepth 100000 in
theorem c_Model_start_0 (l : Launch) (D : va_G) (cI cZ cL : ClassId) (m0 o1 o2 o3 o4 o5 o6 o7 o8 o9 o10 o11 : Nat) (P K Hm ru lo hi tm sa ca ta tn : Nat → Int32) (fo1 fk1 : Int32) (co np n stat how pl la stt q dn : Nat) (kd : Nat) (y : Int32) (hnp : np ≤ 24) (hop : okP P np) (hw : (okK P K np ∧ ∃ G, closed P K np G)) (hk2 : kd ≤ 2) : pl_V l y_Model_start b_Model_start 4 ({ frames := 3, cells := 0, slots := 0, locals := 70 } : Room) pl_E0 D classes (TY cI cZ cL) [.ref m0, .int (nI kd), .int y] [(m0, .inr (6, [.int (nI co), .int (nI np), .ref o1, .ref o2, .ref o3, .int (nI n), .ref o4, .ref o5, .ref o6, .ref o7, .int fo1, .int fk1, .int (nI stat), .int (nI how), .int (nI pl), .int (nI la), .int (nI stt), .int (nI q), .ref o8, .ref o9, .int (nI dn), .ref o10, .ref o11])), (o1, .inl (cI, 24, .inl P)), (o2, .inl (cI, 24, .inl K)), (o3, .inl (cI, 24, .inl Hm)), (o9, .inl (cI, 8, .inl ca))] (fun u : Nat → Int32 => closed P K np u ∧ least P K np u ∧ labs np u) (fun (u : (Nat → Int32)) => [(m0, .inr (6, [.int (nI 0), .int (nI np), .ref o1, .ref o2, .ref o3, .int (nI n), .ref o4, .ref o5, .ref o6, .ref o7, .int fo1, .int fk1, .int (nI 1), .int (nI kd), .int (nI 0), .int (nI 0), .int (nI 0), .int (nI 0), .ref o8, .ref o9, .int (nI 0), .ref o10, .ref o11])), (o1, .inl (cI, 24, .inl P)), (o2, .inl (cI, 24, .inl K)), (o3, .inl (cI, 24, .inl u)), (o9, .inl (cI, 8, .inl (upd (fun _ => nI 0) 0 y)))]) := by
  refine pl_startV (by decide) (Nat.le_of_ble_eq_true rfl) ?_
  intro p e s m args below meth c A ls X hr hlk hin hK hP hD hS hA hE hl
  have X : CallFix p m c b_Model_start 4 s args TG R_Model := X
  have hx := X.1
  have hb := X.2.1
  have hl : lv_has ls 4 [(0, .ref m0), (1, .int (nI kd)), (2, .int y)] := hl
  refine lv_aload_n hx hb d_Model_start_0 rfl (lv_at hl 0 rfl) ?_
  refine lv_aload_n hx hb d_Model_start_1 rfl (lv_at hl 0 rfl) ?_
  refine pl_callVI X (rest := [.ref m0]) (As := []) (b := m0) (c_Model_isWell l D cI cZ cL m0 o1 o2 o3 o4 o5 o6 o7 o8 o9 o10 o11 P K Hm ru lo hi tm sa ca ta tn fo1 fk1 co np n stat how pl la stt q dn hnp hop) ck_Model_81 pl_E0_ok trivial hK hP hD hS hA (T := F_Model) (N := N_Model) (ci := 6) rfl 0 rfl [0, 1, 2, 3] [4] [1, 2, 3, 4, 0] rfl (by decide) (wr := [(o9, .inl (cI, 8, .inl ca))]) rfl (by decide) (by decide) (wf := fun (u : MW) => [(m0, .inr (6, [.int (nI co), .int (nI np), .ref o1, .ref o2, .ref o3, .int (nI n), .ref o4, .ref o5, .ref o6, .ref o7, .int fo1, .int fk1, .int (nI stat), .int (nI how), .int (nI pl), .int (nI la), .int (nI stt), .int (nI q), .ref o8, .ref o9, .int (nI dn), .ref o10, .ref o11])), (o1, .inl (cI, 24, .inl P)), (o2, .inl (cI, 24, .inl K)), (o3, .inl (cI, 24, .inl u.1)), (o9, .inl (cI, 8, .inl ca))]) (fun _ => rfl) (by decide) rfl hl.1 rfl (Nat.le_of_ble_eq_true rfl) (by decide) (by decide) d_Model_start_2 (fun r u H locs hcq hP hD hS => ?_)
  have hwp := hcq
  obtain ⟨hcq, -, -⟩ := hcq
  subst hcq
  refine pl_ifB_ne X d_Model_start_5 rfl (fun g5 => ?_) (fun g5 => ?_)
  · skip
    refine lv_iload_n hx hb d_Model_start_12 rfl (lv_at hl 1 rfl) ?_
    refine pl_if_lt X (by omega) d_Model_start_13 rfl ?_
    refine lv_iload_n hx hb d_Model_start_16 rfl (lv_at hl 1 rfl) ?_
    refine lv_iconst (v := nI 2) hx hb d_Model_start_17 (by decide) ?_
    refine pl_icmp_le X (by omega) (by decide) d_Model_start_18 rfl (fun g18 => ?_) (fun g18 => ?_)
    · skip
      refine lv_iconst (v := nI 0) hx hb d_Model_start_25 (by decide) ?_
      refine pl_put X fw_Model_48 fp_Model rfl hK hP hD hS 0 rfl (v := .int (nI 0)) rfl rfl (Nat.le_of_ble_eq_true rfl) d_Model_start_26 (ws' := [(m0, .inr (6, [.int (nI 0), .int (nI np), .ref o1, .ref o2, .ref o3, .int (nI n), .ref o4, .ref o5, .ref o6, .ref o7, .int fo1, .int fk1, .int (nI stat), .int (nI how), .int (nI pl), .int (nI la), .int (nI stt), .int (nI q), .ref o8, .ref o9, .int (nI dn), .ref o10, .ref o11])), (o1, .inl (cI, 24, .inl P)), (o2, .inl (cI, 24, .inl K)), (o3, .inl (cI, 24, .inl u.1)), (o9, .inl (cI, 8, .inl ca))]) rfl (fun H locs hP hD hS => ?_)
      refine lv_aload_n hx hb d_Model_start_29 rfl (lv_at hl 0 rfl) ?_
      refine pl_get X fw_Model_48 hK hP 0 rfl (v := .int (nI 0)) rfl d_Model_start_30 ?_
      refine pl_if_le X (by decide) d_Model_start_33 rfl (fun gL => ?_) (fun gL => ?_)
      · skip
        refine lv_aload_n hx hb d_Model_start_37 rfl (lv_at hl 0 rfl) ?_
        refine lv_iconst (v := nI 1) hx hb d_Model_start_38 (by decide) ?_
        refine pl_put X fw_Model_58 fp_Model rfl hK hP hD hS 0 rfl (v := .int (nI 1)) rfl rfl (Nat.le_of_ble_eq_true rfl) d_Model_start_39 (ws' := [(m0, .inr (6, [.int (nI 0), .int (nI np), .ref o1, .ref o2, .ref o3, .int (nI n), .ref o4, .ref o5, .ref o6, .ref o7, .int fo1, .int fk1, .int (nI 1), .int (nI how), .int (nI pl), .int (nI la), .int (nI stt), .int (nI q), .ref o8, .ref o9, .int (nI dn), .ref o10, .ref o11])), (o1, .inl (cI, 24, .inl P)), (o2, .inl (cI, 24, .inl K)), (o3, .inl (cI, 24, .inl u.1)), (o9, .inl (cI, 8, .inl ca))]) rfl (fun H locs hP hD hS => ?_)
        refine lv_aload_n hx hb d_Model_start_42 rfl (lv_at hl 0 rfl) ?_
        refine lv_iload_n hx hb d_Model_start_43 rfl (lv_at hl 1 rfl) ?_
        refine pl_put X fw_Model_112 fp_Model rfl hK hP hD hS 0 rfl (v := .int (nI kd)) rfl rfl (Nat.le_of_ble_eq_true rfl) d_Model_start_44 (ws' := [(m0, .inr (6, [.int (nI 0), .int (nI np), .ref o1, .ref o2, .ref o3, .int (nI n), .ref o4, .ref o5, .ref o6, .ref o7, .int fo1, .int fk1, .int (nI 1), .int (nI kd), .int (nI pl), .int (nI la), .int (nI stt), .int (nI q), .ref o8, .ref o9, .int (nI dn), .ref o10, .ref o11])), (o1, .inl (cI, 24, .inl P)), (o2, .inl (cI, 24, .inl K)), (o3, .inl (cI, 24, .inl u.1)), (o9, .inl (cI, 8, .inl ca))]) rfl (fun H locs hP hD hS => ?_)
        refine lv_aload_n hx hb d_Model_start_47 rfl (lv_at hl 0 rfl) ?_
        refine lv_iconst (v := nI 0) hx hb d_Model_start_48 (by decide) ?_
        refine pl_put X fw_Model_115 fp_Model rfl hK hP hD hS 0 rfl (v := .int (nI 0)) rfl rfl (Nat.le_of_ble_eq_true rfl) d_Model_start_49 (ws' := [(m0, .inr (6, [.int (nI 0), .int (nI np), .ref o1, .ref o2, .ref o3, .int (nI n), .ref o4, .ref o5, .ref o6, .ref o7, .int fo1, .int fk1, .int (nI 1), .int (nI kd), .int (nI 0), .int (nI la), .int (nI stt), .int (nI q), .ref o8, .ref o9, .int (nI dn), .ref o10, .ref o11])), (o1, .inl (cI, 24, .inl P)), (o2, .inl (cI, 24, .inl K)), (o3, .inl (cI, 24, .inl u.1)), (o9, .inl (cI, 8, .inl ca))]) rfl (fun H locs hP hD hS => ?_)
        refine lv_aload_n hx hb d_Model_start_52 rfl (lv_at hl 0 rfl) ?_
        refine lv_iconst (v := nI 0) hx hb d_Model_start_53 (by decide) ?_
        refine pl_put X fw_Model_118 fp_Model rfl hK hP hD hS 0 rfl (v := .int (nI 0)) rfl rfl (Nat.le_of_ble_eq_true rfl) d_Model_start_54 (ws' := [(m0, .inr (6, [.int (nI 0), .int (nI np), .ref o1, .ref o2, .ref o3, .int (nI n), .ref o4, .ref o5, .ref o6, .ref o7, .int fo1, .int fk1, .int (nI 1), .int (nI kd), .int (nI 0), .int (nI 0), .int (nI stt), .int (nI q), .ref o8, .ref o9, .int (nI dn), .ref o10, .ref o11])), (o1, .inl (cI, 24, .inl P)), (o2, .inl (cI, 24, .inl K)), (o3, .inl (cI, 24, .inl u.1)), (o9, .inl (cI, 8, .inl ca))]) rfl (fun H locs hP hD hS => ?_)
        refine lv_aload_n hx hb d_Model_start_57 rfl (lv_at hl 0 rfl) ?_
        refine lv_iconst (v := nI 0) hx hb d_Model_start_58 (by decide) ?_
        refine pl_put X fw_Model_121 fp_Model rfl hK hP hD hS 0 rfl (v := .int (nI 0)) rfl rfl (Nat.le_of_ble_eq_true rfl) d_Model_start_59 (ws' := [(m0, .inr (6, [.int (nI 0), .int (nI np), .ref o1, .ref o2, .ref o3, .int (nI n), .ref o4, .ref o5, .ref o6, .ref o7, .int fo1, .int fk1, .int (nI 1), .int (nI kd), .int (nI 0), .int (nI 0), .int (nI 0), .int (nI q), .ref o8, .ref o9, .int (nI dn), .ref o10, .ref o11])), (o1, .inl (cI, 24, .inl P)), (o2, .inl (cI, 24, .inl K)), (o3, .inl (cI, 24, .inl u.1)), (o9, .inl (cI, 8, .inl ca))]) rfl (fun H locs hP hD hS => ?_)
        refine lv_aload_n hx hb d_Model_start_62 rfl (lv_at hl 0 rfl) ?_
        refine lv_iconst (v := nI 0) hx hb d_Model_start_63 (by decide) ?_
        refine pl_put X fw_Model_124 fp_Model rfl hK hP hD hS 0 rfl (v := .int (nI 0)) rfl rfl (Nat.le_of_ble_eq_true rfl) d_Model_start_64 (ws' := [(m0, .inr (6, [.int (nI 0), .int (nI np), .ref o1, .ref o2, .ref o3, .int (nI n), .ref o4, .ref o5, .ref o6, .ref o7, .int fo1, .int fk1, .int (nI 1), .int (nI kd), .int (nI 0), .int (nI 0), .int (nI 0), .int (nI 0), .ref o8, .ref o9, .int (nI dn), .ref o10, .ref o11])), (o1, .inl (cI, 24, .inl P)), (o2, .inl (cI, 24, .inl K)), (o3, .inl (cI, 24, .inl u.1)), (o9, .inl (cI, 8, .inl ca))]) rfl (fun H locs hP hD hS => ?_)
        refine lv_aload_n hx hb d_Model_start_67 rfl (lv_at hl 0 rfl) ?_
        refine lv_iconst (v := nI 0) hx hb d_Model_start_68 (by decide) ?_
        refine pl_put X fw_Model_127 fp_Model rfl hK hP hD hS 0 rfl (v := .int (nI 0)) rfl rfl (Nat.le_of_ble_eq_true rfl) d_Model_start_69 (ws' := [(m0, .inr (6, [.int (nI 0), .int (nI np), .ref o1, .ref o2, .ref o3, .int (nI n), .ref o4, .ref o5, .ref o6, .ref o7, .int fo1, .int fk1, .int (nI 1), .int (nI kd), .int (nI 0), .int (nI 0), .int (nI 0), .int (nI 0), .ref o8, .ref o9, .int (nI 0), .ref o10, .ref o11])), (o1, .inl (cI, 24, .inl P)), (o2, .inl (cI, 24, .inl K)), (o3, .inl (cI, 24, .inl u.1)), (o9, .inl (cI, 8, .inl ca))]) rfl (fun H locs hP hD hS => ?_)
        refine lv_iconst (v := nI 0) hx hb d_Model_start_72 (by decide) ?_
        refine lv_istore_n hx hb d_Model_start_73 rfl hl (by decide) (lv' := [(3, .int (nI 0)), (0, .ref m0), (1, .int (nI kd)), (2, .int y)]) rfl (fun ls hl => ?_)
        have loop_74 : ∀ (k : Nat) (i : Nat) (g : Nat → Int32) (H : Heap) (locs : List Loc) (ls : Array Slot), 8 - i = k → (i ≤ 8) → (∀ j, j < i → g j = nI 0) → va_P D classes [(m0, .inr (6, [.int (nI 0), .int (nI np), .ref o1, .ref o2, .ref o3, .int (nI n), .ref o4, .ref o5, .ref o6, .ref o7, .int fo1, .int fk1, .int (nI 1), .int (nI kd), .int (nI 0), .int (nI 0), .int (nI 0), .int (nI 0), .ref o8, .ref o9, .int (nI 0), .ref o10, .ref o11])), (o1, .inl (cI, 24, .inl P)), (o2, .inl (cI, 24, .inl K)), (o3, .inl (cI, 24, .inl u.1)), (o9, .inl (cI, 8, .inl g))] H → va_D A [(m0, .inr (6, [.int (nI 0), .int (nI np), .ref o1, .ref o2, .ref o3, .int (nI n), .ref o4, .ref o5, .ref o6, .ref o7, .int fo1, .int fk1, .int (nI 1), .int (nI kd), .int (nI 0), .int (nI 0), .int (nI 0), .int (nI 0), .ref o8, .ref o9, .int (nI 0), .ref o10, .ref o11])), (o1, .inl (cI, 24, .inl P)), (o2, .inl (cI, 24, .inl K)), (o3, .inl (cI, 24, .inl u.1)), (o9, .inl (cI, 8, .inl g))] → va_S A s.heap H locs → lv_has ls 4 [(3, .int (nI i)), (0, .ref m0), (1, .int (nI kd)), (2, .int y)] → W p l e ({ frames := 3, cells := 0, slots := 0, locals := 70 } : Room) s m args below meth c H locs 0 0 (MQ below (va_Qv (fun u : Nat → Int32 => closed P K np u ∧ least P K np u ∧ labs np u) (fun u => pl_out D classes (TY cI cZ cL) A ((fun (u : (Nat → Int32)) => [(m0, .inr (6, [.int (nI 0), .int (nI np), .ref o1, .ref o2, .ref o3, .int (nI n), .ref o4, .ref o5, .ref o6, .ref o7, .int fo1, .int fk1, .int (nI 1), .int (nI kd), .int (nI 0), .int (nI 0), .int (nI 0), .int (nI 0), .ref o8, .ref o9, .int (nI 0), .ref o10, .ref o11])), (o1, .inl (cI, 24, .inl P)), (o2, .inl (cI, 24, .inl K)), (o3, .inl (cI, 24, .inl u)), (o9, .inl (cI, 8, .inl (upd (fun _ => nI 0) 0 y)))]) u)) A) args s 0 0 A) (F0 m 74 ls []) := by
          intro k
          induction k using Nat.strongRecOn with
          | _ k ih =>
          intro i g H locs ls hk hi0 hg hP hD hS hl
          refine lv_iload_n hx hb d_Model_start_74 rfl (lv_at hl 0 rfl) ?_
          refine lv_bipush (v := nI 8) hx hb d_Model_start_75 (by decide) ?_
          refine pl_icmp_ge X (by omega) (by decide) d_Model_start_77 rfl (fun g77 => ?_) (fun g77 => ?_)
          · skip
            have hP := pl_ext hP 4 rfl (fun _ => nI 0) (fun j hj => hg j (by omega)) (ws' := [(m0, .inr (6, [.int (nI 0), .int (nI np), .ref o1, .ref o2, .ref o3, .int (nI n), .ref o4, .ref o5, .ref o6, .ref o7, .int fo1, .int fk1, .int (nI 1), .int (nI kd), .int (nI 0), .int (nI 0), .int (nI 0), .int (nI 0), .ref o8, .ref o9, .int (nI 0), .ref o10, .ref o11])), (o1, .inl (cI, 24, .inl P)), (o2, .inl (cI, 24, .inl K)), (o3, .inl (cI, 24, .inl u.1)), (o9, .inl (cI, 8, .inl (fun _ => nI 0)))]) rfl
            have hD := pl_extD hD 4 rfl (.inl (cI, 8, .inl (fun _ => nI 0))) (ws' := [(m0, .inr (6, [.int (nI 0), .int (nI np), .ref o1, .ref o2, .ref o3, .int (nI n), .ref o4, .ref o5, .ref o6, .ref o7, .int fo1, .int fk1, .int (nI 1), .int (nI kd), .int (nI 0), .int (nI 0), .int (nI 0), .int (nI 0), .ref o8, .ref o9, .int (nI 0), .ref o10, .ref o11])), (o1, .inl (cI, 24, .inl P)), (o2, .inl (cI, 24, .inl K)), (o3, .inl (cI, 24, .inl u.1)), (o9, .inl (cI, 8, .inl (fun _ => nI 0)))]) rfl
            refine lv_aload_n hx hb d_Model_start_93 rfl (lv_at hl 1 rfl) ?_
            refine pl_get X fw_Model_39 hK hP 0 rfl (v := .ref o9) rfl d_Model_start_94 ?_
            refine lv_iconst (v := nI 0) hx hb d_Model_start_97 (by decide) ?_
            refine lv_iload_n hx hb d_Model_start_98 rfl (lv_at hl 3 rfl) ?_
            refine pl_iast X hK hP hD hS 4 0 rfl rfl 0 (by omega) (by decide) d_Model_start_99 (ws' := [(m0, .inr (6, [.int (nI 0), .int (nI np), .ref o1, .ref o2, .ref o3, .int (nI n), .ref o4, .ref o5, .ref o6, .ref o7, .int fo1, .int fk1, .int (nI 1), .int (nI kd), .int (nI 0), .int (nI 0), .int (nI 0), .int (nI 0), .ref o8, .ref o9, .int (nI 0), .ref o10, .ref o11])), (o1, .inl (cI, 24, .inl P)), (o2, .inl (cI, 24, .inl K)), (o3, .inl (cI, 24, .inl u.1)), (o9, .inl (cI, 8, .inl (upd (fun _ => nI 0) 0 y)))]) rfl (fun H locs hP hD hS => ?_)
            exact pl_vret X hr hlk hK u.1 (hwp.2.1 g5).2 hP hD hS d_Model_start_100
          · skip
            refine lv_aload_n hx hb d_Model_start_80 rfl (lv_at hl 1 rfl) ?_
            refine pl_get X fw_Model_39 hK hP 0 rfl (v := .ref o9) rfl d_Model_start_81 ?_
            refine lv_iload_n hx hb d_Model_start_84 rfl (lv_at hl 0 rfl) ?_
            refine lv_iconst (v := nI 0) hx hb d_Model_start_85 (by decide) ?_
            refine pl_iast X hK hP hD hS 4 0 rfl rfl i (by omega) (by decide) d_Model_start_86 (ws' := [(m0, .inr (6, [.int (nI 0), .int (nI np), .ref o1, .ref o2, .ref o3, .int (nI n), .ref o4, .ref o5, .ref o6, .ref o7, .int fo1, .int fk1, .int (nI 1), .int (nI kd), .int (nI 0), .int (nI 0), .int (nI 0), .int (nI 0), .ref o8, .ref o9, .int (nI 0), .ref o10, .ref o11])), (o1, .inl (cI, 24, .inl P)), (o2, .inl (cI, 24, .inl K)), (o3, .inl (cI, 24, .inl u.1)), (o9, .inl (cI, 8, .inl (upd g i (nI 0))))]) rfl (fun H locs hP hD hS => ?_)
            refine lv_iinc hx hb d_Model_start_87 hl (k := 0) rfl (nI_inc1 _) (by decide) (lv' := [(3, .int (nI (i + 1))), (0, .ref m0), (1, .int (nI kd)), (2, .int y)]) rfl (fun ls hl => ?_)
            refine lv_goto hx hb d_Model_start_90 rfl ?_
            exact ih _ (by omega) (i + 1) (upd g i (nI 0)) _ _ _ rfl (by omega) (fun j hj => by rcases Nat.lt_succ_iff_lt_or_eq.mp hj with q | q; (rw [upd_n (Nat.ne_of_lt q)]; exact hg j q); (rw [q]; exact upd_s)) hP hD hS hl
        exact loop_74 _ 0 ca _ _ _ rfl (Nat.zero_le _) (fun j hj => absurd hj (Nat.not_lt_zero j)) hP hD hS hl
      · skip
        exact absurd gL (by decide)
    · skip
      exact absurd g18 (by omega)
  · skip
    exact absurd hw (hwp.2.2 g5)

set_option maxHeartbeats 4000000 in
set_option maxRecDepth 100000 in
theorem c_Model_look_1 (l : Launch) (D : va_G) (cI cZ cL : ClassId) (m0 o1 o2 o3 o4 o5 o6 o7 o8 o9 o10 o11 : Nat) (P K Hm ru lo hi tm sa ca ta tn : Nat → Int32) (fo1 fk1 : Int32) (co np n stat how pl la stt q dn : Nat) (x : Int32) (hxx : inB x 5 = false) : pl_I l y_Model_look b_Model_look 2 .int ({ frames := 0, cells := 0, slots := 0, locals := 0 } : Room) pl_E0 D classes (TY cI cZ cL) [.ref m0, .int x] [(m0, .inr (6, [.int (nI co), .int (nI np), .ref o1, .ref o2, .ref o3, .int (nI n), .ref o4, .ref o5, .ref o6, .ref o7, .int fo1, .int fk1, .int (nI stat), .int (nI how), .int (nI pl), .int (nI la), .int (nI stt), .int (nI q), .ref o8, .ref o9, .int (nI dn), .ref o10, .ref o11]))] (fun (r : Int32) (_ : Unit) => r = nI 0) (fun (_ : Unit) => [(m0, .inr (6, [.int (nI 1), .int (nI np), .ref o1, .ref o2, .ref o3, .int (nI n), .ref o4, .ref o5, .ref o6, .ref o7, .int fo1, .int fk1, .int (nI stat), .int (nI how), .int (nI pl), .int (nI la), .int (nI stt), .int (nI q), .ref o8, .ref o9, .int (nI dn), .ref o10, .ref o11]))]) := by
  refine pl_startI (by decide) (Nat.le_of_ble_eq_true rfl) ?_
  intro p e s m args below meth c A ls X hr hlk hin hK hP hD hS hA hE hl
  have X : CallFix p m c b_Model_look 2 s args TG R_Model := X
  have hx := X.1
  have hb := X.2.1
  have hl : lv_has ls 2 [(0, .ref m0), (1, .int x)] := hl
  refine lv_aload_n hx hb d_Model_look_0 rfl (lv_at hl 0 rfl) ?_
  refine lv_iload_n hx hb d_Model_look_1 rfl (lv_at hl 1 rfl) ?_
  refine lv_if_lt hx hb d_Model_look_2 rfl (fun g2 => ?_) (fun g2 => ?_)
  · skip
    refine lv_iconst (v := nI 1) hx hb d_Model_look_10 (by decide) ?_
    refine lv_goto hx hb d_Model_look_11 rfl ?_
    refine pl_put X fw_Model_48 fp_Model rfl hK hP hD hS 0 rfl (v := .int (nI 1)) rfl rfl (Nat.le_of_ble_eq_true rfl) d_Model_look_15 (ws' := [(m0, .inr (6, [.int (nI 1), .int (nI np), .ref o1, .ref o2, .ref o3, .int (nI n), .ref o4, .ref o5, .ref o6, .ref o7, .int fo1, .int fk1, .int (nI stat), .int (nI how), .int (nI pl), .int (nI la), .int (nI stt), .int (nI q), .ref o8, .ref o9, .int (nI dn), .ref o10, .ref o11]))]) rfl (fun H locs hP hD hS => ?_)
    refine lv_aload_n hx hb d_Model_look_18 rfl (lv_at hl 0 rfl) ?_
    refine pl_get X fw_Model_48 hK hP 0 rfl (v := .int (nI 1)) rfl d_Model_look_19 ?_
    refine pl_if_gt X (by decide) d_Model_look_22 rfl (fun gL => ?_) (fun gL => ?_)
    · skip
      refine lv_iconst (v := nI 0) hx hb d_Model_look_32 (by decide) ?_
      exact pl_iret X hr hlk hK rfl () rfl hP hD hS d_Model_look_33
    · skip
      exact absurd gL (by decide)
  · skip
    refine lv_iload_n hx hb d_Model_look_5 rfl (lv_at hl 1 rfl) ?_
    refine lv_iconst (v := nI 4) hx hb d_Model_look_6 (by decide) ?_
    refine lv_icmp_le hx hb d_Model_look_7 rfl (fun g7 => ?_) (fun g7 => ?_)
    · skip
      exact absurd (inB_le_t (m := 4) (by omega) g2 g7) (by rw [hxx]; decide)
    · skip
      refine lv_iconst (v := nI 1) hx hb d_Model_look_10 (by decide) ?_
      refine lv_goto hx hb d_Model_look_11 rfl ?_
      refine pl_put X fw_Model_48 fp_Model rfl hK hP hD hS 0 rfl (v := .int (nI 1)) rfl rfl (Nat.le_of_ble_eq_true rfl) d_Model_look_15 (ws' := [(m0, .inr (6, [.int (nI 1), .int (nI np), .ref o1, .ref o2, .ref o3, .int (nI n), .ref o4, .ref o5, .ref o6, .ref o7, .int fo1, .int fk1, .int (nI stat), .int (nI how), .int (nI pl), .int (nI la), .int (nI stt), .int (nI q), .ref o8, .ref o9, .int (nI dn), .ref o10, .ref o11]))]) rfl (fun H locs hP hD hS => ?_)
      refine lv_aload_n hx hb d_Model_look_18 rfl (lv_at hl 0 rfl) ?_
      refine pl_get X fw_Model_48 hK hP 0 rfl (v := .int (nI 1)) rfl d_Model_look_19 ?_
      refine pl_if_gt X (by decide) d_Model_look_22 rfl (fun gL => ?_) (fun gL => ?_)
      · skip
        refine lv_iconst (v := nI 0) hx hb d_Model_look_32 (by decide) ?_
        exact pl_iret X hr hlk hK rfl () rfl hP hD hS d_Model_look_33
      · skip
        exact absurd gL (by decide)

set_option maxHeartbeats 4000000 in
set_option maxRecDepth 100000 in
theorem c_Model_look_0_0 (l : Launch) (D : va_G) (cI cZ cL : ClassId) (m0 o1 o2 o3 o4 o5 o6 o7 o8 o9 o10 o11 : Nat) (P K Hm ru lo hi tm sa ca ta tn : Nat → Int32) (fo1 fk1 : Int32) (co np n stat how pl la stt q dn : Nat) (px : Nat) (hst4 : stat ≤ 4) (hh : how ≤ 2) (hat : ¬ stat = 0 → (stat = 1 → pl = px) ∧ (¬ stat = 1 → la = px)) (h30 : ¬ stat = 0 → how = 0 → ca 7 = nI stt) : pl_I l y_Model_look b_Model_look 2 .int ({ frames := 0, cells := 0, slots := 0, locals := 0 } : Room) pl_E0 D classes (TY cI cZ cL) [.ref m0, .int (nI 0)] [(m0, .inr (6, [.int (nI co), .int (nI np), .ref o1, .ref o2, .ref o3, .int (nI n), .ref o4, .ref o5, .ref o6, .ref o7, .int fo1, .int fk1, .int (nI stat), .int (nI how), .int (nI pl), .int (nI la), .int (nI stt), .int (nI q), .ref o8, .ref o9, .int (nI dn), .ref o10, .ref o11])), (o9, .inl (cI, 8, .inl ca))] (fun (r : Int32) (_ : Unit) => r = lookV 0 how stat px q stt dn ca) (fun (_ : Unit) => [(m0, .inr (6, [.int (nI 0), .int (nI np), .ref o1, .ref o2, .ref o3, .int (nI n), .ref o4, .ref o5, .ref o6, .ref o7, .int fo1, .int fk1, .int (nI stat), .int (nI how), .int (nI pl), .int (nI la), .int (nI stt), .int (nI q), .ref o8, .ref o9, .int (nI dn), .ref o10, .ref o11])), (o9, .inl (cI, 8, .inl ca))]) := by
  refine pl_startI (by decide) (Nat.le_of_ble_eq_true rfl) ?_
  intro p e s m args below meth c A ls X hr hlk hin hK hP hD hS hA hE hl
  have X : CallFix p m c b_Model_look 2 s args TG R_Model := X
  have hx := X.1
  have hb := X.2.1
  have hl : lv_has ls 2 [(0, .ref m0), (1, .int (nI 0))] := hl
  refine lv_aload_n hx hb d_Model_look_0 rfl (lv_at hl 0 rfl) ?_
  refine lv_iload_n hx hb d_Model_look_1 rfl (lv_at hl 1 rfl) ?_
  refine pl_if_lt X (by decide) d_Model_look_2 rfl ?_
  refine lv_iload_n hx hb d_Model_look_5 rfl (lv_at hl 1 rfl) ?_
  refine lv_iconst (v := nI 4) hx hb d_Model_look_6 (by decide) ?_
  refine pl_icmp_le X (by decide) (by decide) d_Model_look_7 rfl (fun gL => ?_) (fun gL => ?_)
  · skip
    refine lv_iconst (v := nI 0) hx hb d_Model_look_14 (by decide) ?_
    refine pl_put X fw_Model_48 fp_Model rfl hK hP hD hS 0 rfl (v := .int (nI 0)) rfl rfl (Nat.le_of_ble_eq_true rfl) d_Model_look_15 (ws' := [(m0, .inr (6, [.int (nI 0), .int (nI np), .ref o1, .ref o2, .ref o3, .int (nI n), .ref o4, .ref o5, .ref o6, .ref o7, .int fo1, .int fk1, .int (nI stat), .int (nI how), .int (nI pl), .int (nI la), .int (nI stt), .int (nI q), .ref o8, .ref o9, .int (nI dn), .ref o10, .ref o11])), (o9, .inl (cI, 8, .inl ca))]) rfl (fun H locs hP hD hS => ?_)
    refine lv_aload_n hx hb d_Model_look_18 rfl (lv_at hl 0 rfl) ?_
    refine pl_get X fw_Model_48 hK hP 0 rfl (v := .int (nI 0)) rfl d_Model_look_19 ?_
    refine pl_if_gt X (by decide) d_Model_look_22 rfl (fun gL => ?_) (fun gL => ?_)
    · skip
      exact absurd gL (by decide)
    · skip
      refine lv_aload_n hx hb d_Model_look_25 rfl (lv_at hl 0 rfl) ?_
      refine pl_get X fw_Model_58 hK hP 0 rfl (v := .int (nI stat)) rfl d_Model_look_26 ?_
      refine pl_if_ne X (by omega) d_Model_look_29 rfl (fun g29 => ?_) (fun g29 => ?_)
      · skip
        refine lv_iload_n hx hb d_Model_look_34 rfl (lv_at hl 1 rfl) ?_
        refine lv_tableIn hx hb d_Model_look_35 (by decide) (by decide) (off := 29) (by decide) (tgt := 64) rfl ?_
        refine lv_aload_n hx hb d_Model_look_64 rfl (lv_at hl 0 rfl) ?_
        refine pl_get X fw_Model_58 hK hP 0 rfl (v := .int (nI stat)) rfl d_Model_look_65 ?_
        exact pl_iret X hr hlk hK rfl () (by unfold lookV; rw [if_neg g29]; rfl) hP hD hS d_Model_look_68
      · skip
        refine lv_iconst (v := nI 0) hx hb d_Model_look_32 (by decide) ?_
        exact pl_iret X hr hlk hK rfl () (by unfold lookV; rw [if_pos g29]) hP hD hS d_Model_look_33
  · skip
    exact absurd gL (by decide)

set_option maxHeartbeats 4000000 in
set_option maxRecDepth 100000 in
theorem c_Model_look_0_1 (l : Launch) (D : va_G) (cI cZ cL : ClassId) (m0 o1 o2 o3 o4 o5 o6 o7 o8 o9 o10 o11 : Nat) (P K Hm ru lo hi tm sa ca ta tn : Nat → Int32) (fo1 fk1 : Int32) (co np n stat how pl la stt q dn : Nat) (px : Nat) (hst4 : stat ≤ 4) (hh : how ≤ 2) (hat : ¬ stat = 0 → (stat = 1 → pl = px) ∧ (¬ stat = 1 → la = px)) (h30 : ¬ stat = 0 → how = 0 → ca 7 = nI stt) : pl_I l y_Model_look b_Model_look 2 .int ({ frames := 0, cells := 0, slots := 0, locals := 0 } : Room) pl_E0 D classes (TY cI cZ cL) [.ref m0, .int (nI 1)] [(m0, .inr (6, [.int (nI co), .int (nI np), .ref o1, .ref o2, .ref o3, .int (nI n), .ref o4, .ref o5, .ref o6, .ref o7, .int fo1, .int fk1, .int (nI stat), .int (nI how), .int (nI pl), .int (nI la), .int (nI stt), .int (nI q), .ref o8, .ref o9, .int (nI dn), .ref o10, .ref o11])), (o9, .inl (cI, 8, .inl ca))] (fun (r : Int32) (_ : Unit) => r = lookV 1 how stat px q stt dn ca) (fun (_ : Unit) => [(m0, .inr (6, [.int (nI 0), .int (nI np), .ref o1, .ref o2, .ref o3, .int (nI n), .ref o4, .ref o5, .ref o6, .ref o7, .int fo1, .int fk1, .int (nI stat), .int (nI how), .int (nI pl), .int (nI la), .int (nI stt), .int (nI q), .ref o8, .ref o9, .int (nI dn), .ref o10, .ref o11])), (o9, .inl (cI, 8, .inl ca))]) := by
  refine pl_startI (by decide) (Nat.le_of_ble_eq_true rfl) ?_
  intro p e s m args below meth c A ls X hr hlk hin hK hP hD hS hA hE hl
  have X : CallFix p m c b_Model_look 2 s args TG R_Model := X
  have hx := X.1
  have hb := X.2.1
  have hl : lv_has ls 2 [(0, .ref m0), (1, .int (nI 1))] := hl
  refine lv_aload_n hx hb d_Model_look_0 rfl (lv_at hl 0 rfl) ?_
  refine lv_iload_n hx hb d_Model_look_1 rfl (lv_at hl 1 rfl) ?_
  refine pl_if_lt X (by decide) d_Model_look_2 rfl ?_
  refine lv_iload_n hx hb d_Model_look_5 rfl (lv_at hl 1 rfl) ?_
  refine lv_iconst (v := nI 4) hx hb d_Model_look_6 (by decide) ?_
  refine pl_icmp_le X (by decide) (by decide) d_Model_look_7 rfl (fun gL => ?_) (fun gL => ?_)
  · skip
    refine lv_iconst (v := nI 0) hx hb d_Model_look_14 (by decide) ?_
    refine pl_put X fw_Model_48 fp_Model rfl hK hP hD hS 0 rfl (v := .int (nI 0)) rfl rfl (Nat.le_of_ble_eq_true rfl) d_Model_look_15 (ws' := [(m0, .inr (6, [.int (nI 0), .int (nI np), .ref o1, .ref o2, .ref o3, .int (nI n), .ref o4, .ref o5, .ref o6, .ref o7, .int fo1, .int fk1, .int (nI stat), .int (nI how), .int (nI pl), .int (nI la), .int (nI stt), .int (nI q), .ref o8, .ref o9, .int (nI dn), .ref o10, .ref o11])), (o9, .inl (cI, 8, .inl ca))]) rfl (fun H locs hP hD hS => ?_)
    refine lv_aload_n hx hb d_Model_look_18 rfl (lv_at hl 0 rfl) ?_
    refine pl_get X fw_Model_48 hK hP 0 rfl (v := .int (nI 0)) rfl d_Model_look_19 ?_
    refine pl_if_gt X (by decide) d_Model_look_22 rfl (fun gL => ?_) (fun gL => ?_)
    · skip
      exact absurd gL (by decide)
    · skip
      refine lv_aload_n hx hb d_Model_look_25 rfl (lv_at hl 0 rfl) ?_
      refine pl_get X fw_Model_58 hK hP 0 rfl (v := .int (nI stat)) rfl d_Model_look_26 ?_
      refine pl_if_ne X (by omega) d_Model_look_29 rfl (fun g29 => ?_) (fun g29 => ?_)
      · skip
        refine lv_iload_n hx hb d_Model_look_34 rfl (lv_at hl 1 rfl) ?_
        refine lv_tableIn hx hb d_Model_look_35 (by decide) (by decide) (off := 34) (by decide) (tgt := 69) rfl ?_
        refine lv_aload_n hx hb d_Model_look_69 rfl (lv_at hl 0 rfl) ?_
        refine pl_get X fw_Model_58 hK hP 0 rfl (v := .int (nI stat)) rfl d_Model_look_70 ?_
        refine lv_iconst (v := nI 1) hx hb d_Model_look_73 (by decide) ?_
        refine pl_icmp_ne X (by omega) (by decide) d_Model_look_74 rfl (fun g74 => ?_) (fun g74 => ?_)
        · skip
          refine lv_aload_n hx hb d_Model_look_84 rfl (lv_at hl 0 rfl) ?_
          refine pl_get X fw_Model_118 hK hP 0 rfl (v := .int (nI la)) rfl d_Model_look_85 ?_
          exact pl_iret X hr hlk hK rfl () (by unfold lookV; rw [if_neg g29]; exact congrArg nI ((hat g29).2 g74)) hP hD hS d_Model_look_88
        · skip
          refine lv_aload_n hx hb d_Model_look_77 rfl (lv_at hl 0 rfl) ?_
          refine pl_get X fw_Model_115 hK hP 0 rfl (v := .int (nI pl)) rfl d_Model_look_78 ?_
          refine lv_goto hx hb d_Model_look_81 rfl ?_
          exact pl_iret X hr hlk hK rfl () (by unfold lookV; rw [if_neg g29]; exact congrArg nI ((hat g29).1 g74)) hP hD hS d_Model_look_88
      · skip
        refine lv_iconst (v := nI 0) hx hb d_Model_look_32 (by decide) ?_
        exact pl_iret X hr hlk hK rfl () (by unfold lookV; rw [if_pos g29]) hP hD hS d_Model_look_33
  · skip
    exact absurd gL (by decide)

set_option maxHeartbeats 4000000 in
set_option maxRecDepth 100000 in
theorem c_Model_look_0_2 (l : Launch) (D : va_G) (cI cZ cL : ClassId) (m0 o1 o2 o3 o4 o5 o6 o7 o8 o9 o10 o11 : Nat) (P K Hm ru lo hi tm sa ca ta tn : Nat → Int32) (fo1 fk1 : Int32) (co np n stat how pl la stt q dn : Nat) (px : Nat) (hst4 : stat ≤ 4) (hh : how ≤ 2) (hat : ¬ stat = 0 → (stat = 1 → pl = px) ∧ (¬ stat = 1 → la = px)) (h30 : ¬ stat = 0 → how = 0 → ca 7 = nI stt) : pl_I l y_Model_look b_Model_look 2 .int ({ frames := 0, cells := 0, slots := 0, locals := 0 } : Room) pl_E0 D classes (TY cI cZ cL) [.ref m0, .int (nI 2)] [(m0, .inr (6, [.int (nI co), .int (nI np), .ref o1, .ref o2, .ref o3, .int (nI n), .ref o4, .ref o5, .ref o6, .ref o7, .int fo1, .int fk1, .int (nI stat), .int (nI how), .int (nI pl), .int (nI la), .int (nI stt), .int (nI q), .ref o8, .ref o9, .int (nI dn), .ref o10, .ref o11])), (o9, .inl (cI, 8, .inl ca))] (fun (r : Int32) (_ : Unit) => r = lookV 2 how stat px q stt dn ca) (fun (_ : Unit) => [(m0, .inr (6, [.int (nI 0), .int (nI np), .ref o1, .ref o2, .ref o3, .int (nI n), .ref o4, .ref o5, .ref o6, .ref o7, .int fo1, .int fk1, .int (nI stat), .int (nI how), .int (nI pl), .int (nI la), .int (nI stt), .int (nI q), .ref o8, .ref o9, .int (nI dn), .ref o10, .ref o11])), (o9, .inl (cI, 8, .inl ca))]) := by
  refine pl_startI (by decide) (Nat.le_of_ble_eq_true rfl) ?_
  intro p e s m args below meth c A ls X hr hlk hin hK hP hD hS hA hE hl
  have X : CallFix p m c b_Model_look 2 s args TG R_Model := X
  have hx := X.1
  have hb := X.2.1
  have hl : lv_has ls 2 [(0, .ref m0), (1, .int (nI 2))] := hl
  refine lv_aload_n hx hb d_Model_look_0 rfl (lv_at hl 0 rfl) ?_
  refine lv_iload_n hx hb d_Model_look_1 rfl (lv_at hl 1 rfl) ?_
  refine pl_if_lt X (by decide) d_Model_look_2 rfl ?_
  refine lv_iload_n hx hb d_Model_look_5 rfl (lv_at hl 1 rfl) ?_
  refine lv_iconst (v := nI 4) hx hb d_Model_look_6 (by decide) ?_
  refine pl_icmp_le X (by decide) (by decide) d_Model_look_7 rfl (fun gL => ?_) (fun gL => ?_)
  · skip
    refine lv_iconst (v := nI 0) hx hb d_Model_look_14 (by decide) ?_
    refine pl_put X fw_Model_48 fp_Model rfl hK hP hD hS 0 rfl (v := .int (nI 0)) rfl rfl (Nat.le_of_ble_eq_true rfl) d_Model_look_15 (ws' := [(m0, .inr (6, [.int (nI 0), .int (nI np), .ref o1, .ref o2, .ref o3, .int (nI n), .ref o4, .ref o5, .ref o6, .ref o7, .int fo1, .int fk1, .int (nI stat), .int (nI how), .int (nI pl), .int (nI la), .int (nI stt), .int (nI q), .ref o8, .ref o9, .int (nI dn), .ref o10, .ref o11])), (o9, .inl (cI, 8, .inl ca))]) rfl (fun H locs hP hD hS => ?_)
    refine lv_aload_n hx hb d_Model_look_18 rfl (lv_at hl 0 rfl) ?_
    refine pl_get X fw_Model_48 hK hP 0 rfl (v := .int (nI 0)) rfl d_Model_look_19 ?_
    refine pl_if_gt X (by decide) d_Model_look_22 rfl (fun gL => ?_) (fun gL => ?_)
    · skip
      exact absurd gL (by decide)
    · skip
      refine lv_aload_n hx hb d_Model_look_25 rfl (lv_at hl 0 rfl) ?_
      refine pl_get X fw_Model_58 hK hP 0 rfl (v := .int (nI stat)) rfl d_Model_look_26 ?_
      refine pl_if_ne X (by omega) d_Model_look_29 rfl (fun g29 => ?_) (fun g29 => ?_)
      · skip
        refine lv_iload_n hx hb d_Model_look_34 rfl (lv_at hl 1 rfl) ?_
        refine lv_tableIn hx hb d_Model_look_35 (by decide) (by decide) (off := 54) (by decide) (tgt := 89) rfl ?_
        refine lv_aload_n hx hb d_Model_look_89 rfl (lv_at hl 0 rfl) ?_
        refine pl_get X fw_Model_124 hK hP 0 rfl (v := .int (nI q)) rfl d_Model_look_90 ?_
        exact pl_iret X hr hlk hK rfl () (by unfold lookV; rw [if_neg g29]; rfl) hP hD hS d_Model_look_93
      · skip
        refine lv_iconst (v := nI 0) hx hb d_Model_look_32 (by decide) ?_
        exact pl_iret X hr hlk hK rfl () (by unfold lookV; rw [if_pos g29]) hP hD hS d_Model_look_33
  · skip
    exact absurd gL (by decide)

set_option maxHeartbeats 4000000 in
set_option maxRecDepth 100000 in
theorem c_Model_look_0_3 (l : Launch) (D : va_G) (cI cZ cL : ClassId) (m0 o1 o2 o3 o4 o5 o6 o7 o8 o9 o10 o11 : Nat) (P K Hm ru lo hi tm sa ca ta tn : Nat → Int32) (fo1 fk1 : Int32) (co np n stat how pl la stt q dn : Nat) (px : Nat) (hst4 : stat ≤ 4) (hh : how ≤ 2) (hat : ¬ stat = 0 → (stat = 1 → pl = px) ∧ (¬ stat = 1 → la = px)) (h30 : ¬ stat = 0 → how = 0 → ca 7 = nI stt) : pl_I l y_Model_look b_Model_look 2 .int ({ frames := 0, cells := 0, slots := 0, locals := 0 } : Room) pl_E0 D classes (TY cI cZ cL) [.ref m0, .int (nI 3)] [(m0, .inr (6, [.int (nI co), .int (nI np), .ref o1, .ref o2, .ref o3, .int (nI n), .ref o4, .ref o5, .ref o6, .ref o7, .int fo1, .int fk1, .int (nI stat), .int (nI how), .int (nI pl), .int (nI la), .int (nI stt), .int (nI q), .ref o8, .ref o9, .int (nI dn), .ref o10, .ref o11])), (o9, .inl (cI, 8, .inl ca))] (fun (r : Int32) (_ : Unit) => r = lookV 3 how stat px q stt dn ca) (fun (_ : Unit) => [(m0, .inr (6, [.int (nI 0), .int (nI np), .ref o1, .ref o2, .ref o3, .int (nI n), .ref o4, .ref o5, .ref o6, .ref o7, .int fo1, .int fk1, .int (nI stat), .int (nI how), .int (nI pl), .int (nI la), .int (nI stt), .int (nI q), .ref o8, .ref o9, .int (nI dn), .ref o10, .ref o11])), (o9, .inl (cI, 8, .inl ca))]) := by
  refine pl_startI (by decide) (Nat.le_of_ble_eq_true rfl) ?_
  intro p e s m args below meth c A ls X hr hlk hin hK hP hD hS hA hE hl
  have X : CallFix p m c b_Model_look 2 s args TG R_Model := X
  have hx := X.1
  have hb := X.2.1
  have hl : lv_has ls 2 [(0, .ref m0), (1, .int (nI 3))] := hl
  refine lv_aload_n hx hb d_Model_look_0 rfl (lv_at hl 0 rfl) ?_
  refine lv_iload_n hx hb d_Model_look_1 rfl (lv_at hl 1 rfl) ?_
  refine pl_if_lt X (by decide) d_Model_look_2 rfl ?_
  refine lv_iload_n hx hb d_Model_look_5 rfl (lv_at hl 1 rfl) ?_
  refine lv_iconst (v := nI 4) hx hb d_Model_look_6 (by decide) ?_
  refine pl_icmp_le X (by decide) (by decide) d_Model_look_7 rfl (fun gL => ?_) (fun gL => ?_)
  · skip
    refine lv_iconst (v := nI 0) hx hb d_Model_look_14 (by decide) ?_
    refine pl_put X fw_Model_48 fp_Model rfl hK hP hD hS 0 rfl (v := .int (nI 0)) rfl rfl (Nat.le_of_ble_eq_true rfl) d_Model_look_15 (ws' := [(m0, .inr (6, [.int (nI 0), .int (nI np), .ref o1, .ref o2, .ref o3, .int (nI n), .ref o4, .ref o5, .ref o6, .ref o7, .int fo1, .int fk1, .int (nI stat), .int (nI how), .int (nI pl), .int (nI la), .int (nI stt), .int (nI q), .ref o8, .ref o9, .int (nI dn), .ref o10, .ref o11])), (o9, .inl (cI, 8, .inl ca))]) rfl (fun H locs hP hD hS => ?_)
    refine lv_aload_n hx hb d_Model_look_18 rfl (lv_at hl 0 rfl) ?_
    refine pl_get X fw_Model_48 hK hP 0 rfl (v := .int (nI 0)) rfl d_Model_look_19 ?_
    refine pl_if_gt X (by decide) d_Model_look_22 rfl (fun gL => ?_) (fun gL => ?_)
    · skip
      exact absurd gL (by decide)
    · skip
      refine lv_aload_n hx hb d_Model_look_25 rfl (lv_at hl 0 rfl) ?_
      refine pl_get X fw_Model_58 hK hP 0 rfl (v := .int (nI stat)) rfl d_Model_look_26 ?_
      refine pl_if_ne X (by omega) d_Model_look_29 rfl (fun g29 => ?_) (fun g29 => ?_)
      · skip
        refine lv_iload_n hx hb d_Model_look_34 rfl (lv_at hl 1 rfl) ?_
        refine lv_tableIn hx hb d_Model_look_35 (by decide) (by decide) (off := 59) (by decide) (tgt := 94) rfl ?_
        refine lv_aload_n hx hb d_Model_look_94 rfl (lv_at hl 0 rfl) ?_
        refine pl_get X fw_Model_112 hK hP 0 rfl (v := .int (nI how)) rfl d_Model_look_95 ?_
        refine lv_iconst (v := nI 2) hx hb d_Model_look_98 (by decide) ?_
        refine pl_icmp_ne X (by omega) (by decide) d_Model_look_99 rfl (fun g99 => ?_) (fun g99 => ?_)
        · skip
          refine lv_aload_n hx hb d_Model_look_109 rfl (lv_at hl 0 rfl) ?_
          refine pl_get X fw_Model_39 hK hP 0 rfl (v := .ref o9) rfl d_Model_look_110 ?_
          refine lv_bipush (v := nI 7) hx hb d_Model_look_113 (by decide) ?_
          refine pl_iald X hK hP 1 0 rfl rfl 7 (by omega) (by decide) (z := ca 7) rfl d_Model_look_115 ?_
          exact pl_iret X hr hlk hK rfl () (by unfold lookV; rw [if_neg g29]; exact lk3 hh g99 (h30 g29)) hP hD hS d_Model_look_116
        · skip
          refine lv_aload_n hx hb d_Model_look_102 rfl (lv_at hl 0 rfl) ?_
          refine pl_get X fw_Model_121 hK hP 0 rfl (v := .int (nI stt)) rfl d_Model_look_103 ?_
          refine lv_goto hx hb d_Model_look_106 rfl ?_
          exact pl_iret X hr hlk hK rfl () (by unfold lookV; rw [if_neg g29]; show nI stt = if how = 1 then ca 7 else nI stt; rw [if_neg (by omega)]) hP hD hS d_Model_look_116
      · skip
        refine lv_iconst (v := nI 0) hx hb d_Model_look_32 (by decide) ?_
        exact pl_iret X hr hlk hK rfl () (by unfold lookV; rw [if_pos g29]) hP hD hS d_Model_look_33
  · skip
    exact absurd gL (by decide)

set_option maxHeartbeats 4000000 in
set_option maxRecDepth 100000 in
theorem c_Model_look_0_4 (l : Launch) (D : va_G) (cI cZ cL : ClassId) (m0 o1 o2 o3 o4 o5 o6 o7 o8 o9 o10 o11 : Nat) (P K Hm ru lo hi tm sa ca ta tn : Nat → Int32) (fo1 fk1 : Int32) (co np n stat how pl la stt q dn : Nat) (px : Nat) (hst4 : stat ≤ 4) (hh : how ≤ 2) (hat : ¬ stat = 0 → (stat = 1 → pl = px) ∧ (¬ stat = 1 → la = px)) (h30 : ¬ stat = 0 → how = 0 → ca 7 = nI stt) : pl_I l y_Model_look b_Model_look 2 .int ({ frames := 0, cells := 0, slots := 0, locals := 0 } : Room) pl_E0 D classes (TY cI cZ cL) [.ref m0, .int (nI 4)] [(m0, .inr (6, [.int (nI co), .int (nI np), .ref o1, .ref o2, .ref o3, .int (nI n), .ref o4, .ref o5, .ref o6, .ref o7, .int fo1, .int fk1, .int (nI stat), .int (nI how), .int (nI pl), .int (nI la), .int (nI stt), .int (nI q), .ref o8, .ref o9, .int (nI dn), .ref o10, .ref o11])), (o9, .inl (cI, 8, .inl ca))] (fun (r : Int32) (_ : Unit) => r = lookV 4 how stat px q stt dn ca) (fun (_ : Unit) => [(m0, .inr (6, [.int (nI 0), .int (nI np), .ref o1, .ref o2, .ref o3, .int (nI n), .ref o4, .ref o5, .ref o6, .ref o7, .int fo1, .int fk1, .int (nI stat), .int (nI how), .int (nI pl), .int (nI la), .int (nI stt), .int (nI q), .ref o8, .ref o9, .int (nI dn), .ref o10, .ref o11])), (o9, .inl (cI, 8, .inl ca))]) := by
  refine pl_startI (by decide) (Nat.le_of_ble_eq_true rfl) ?_
  intro p e s m args below meth c A ls X hr hlk hin hK hP hD hS hA hE hl
  have X : CallFix p m c b_Model_look 2 s args TG R_Model := X
  have hx := X.1
  have hb := X.2.1
  have hl : lv_has ls 2 [(0, .ref m0), (1, .int (nI 4))] := hl
  refine lv_aload_n hx hb d_Model_look_0 rfl (lv_at hl 0 rfl) ?_
  refine lv_iload_n hx hb d_Model_look_1 rfl (lv_at hl 1 rfl) ?_
  refine pl_if_lt X (by decide) d_Model_look_2 rfl ?_
  refine lv_iload_n hx hb d_Model_look_5 rfl (lv_at hl 1 rfl) ?_
  refine lv_iconst (v := nI 4) hx hb d_Model_look_6 (by decide) ?_
  refine pl_icmp_le X (by decide) (by decide) d_Model_look_7 rfl (fun gL => ?_) (fun gL => ?_)
  · skip
    refine lv_iconst (v := nI 0) hx hb d_Model_look_14 (by decide) ?_
    refine pl_put X fw_Model_48 fp_Model rfl hK hP hD hS 0 rfl (v := .int (nI 0)) rfl rfl (Nat.le_of_ble_eq_true rfl) d_Model_look_15 (ws' := [(m0, .inr (6, [.int (nI 0), .int (nI np), .ref o1, .ref o2, .ref o3, .int (nI n), .ref o4, .ref o5, .ref o6, .ref o7, .int fo1, .int fk1, .int (nI stat), .int (nI how), .int (nI pl), .int (nI la), .int (nI stt), .int (nI q), .ref o8, .ref o9, .int (nI dn), .ref o10, .ref o11])), (o9, .inl (cI, 8, .inl ca))]) rfl (fun H locs hP hD hS => ?_)
    refine lv_aload_n hx hb d_Model_look_18 rfl (lv_at hl 0 rfl) ?_
    refine pl_get X fw_Model_48 hK hP 0 rfl (v := .int (nI 0)) rfl d_Model_look_19 ?_
    refine pl_if_gt X (by decide) d_Model_look_22 rfl (fun gL => ?_) (fun gL => ?_)
    · skip
      exact absurd gL (by decide)
    · skip
      refine lv_aload_n hx hb d_Model_look_25 rfl (lv_at hl 0 rfl) ?_
      refine pl_get X fw_Model_58 hK hP 0 rfl (v := .int (nI stat)) rfl d_Model_look_26 ?_
      refine pl_if_ne X (by omega) d_Model_look_29 rfl (fun g29 => ?_) (fun g29 => ?_)
      · skip
        refine lv_iload_n hx hb d_Model_look_34 rfl (lv_at hl 1 rfl) ?_
        refine lv_tableOut hx hb d_Model_look_35 (by decide) (tgt := 117) rfl ?_
        refine lv_aload_n hx hb d_Model_look_117 rfl (lv_at hl 0 rfl) ?_
        refine pl_get X fw_Model_127 hK hP 0 rfl (v := .int (nI dn)) rfl d_Model_look_118 ?_
        exact pl_iret X hr hlk hK rfl () (by unfold lookV; rw [if_neg g29]; rfl) hP hD hS d_Model_look_121
      · skip
        refine lv_iconst (v := nI 0) hx hb d_Model_look_32 (by decide) ?_
        exact pl_iret X hr hlk hK rfl () (by unfold lookV; rw [if_pos g29]) hP hD hS d_Model_look_33
  · skip
    exact absurd gL (by decide)

theorem c_Model_look (l : Launch) (D : va_G) (cI cZ cL : ClassId) (m0 o1 o2 o3 o4 o5 o6 o7 o8 o9 o10 o11 : Nat) (P K Hm ru lo hi tm sa ca ta tn : Nat → Int32) (fo1 fk1 : Int32) (co np n stat how pl la stt q dn : Nat) (px j : Nat) (hj : j < 5) (hst4 : stat ≤ 4) (hh : how ≤ 2) (hat : ¬ stat = 0 → (stat = 1 → pl = px) ∧ (¬ stat = 1 → la = px)) (h30 : ¬ stat = 0 → how = 0 → ca 7 = nI stt) : pl_I l y_Model_look b_Model_look 2 .int ({ frames := 0, cells := 0, slots := 0, locals := 0 } : Room) pl_E0 D classes (TY cI cZ cL) [.ref m0, .int (nI j)] [(m0, .inr (6, [.int (nI co), .int (nI np), .ref o1, .ref o2, .ref o3, .int (nI n), .ref o4, .ref o5, .ref o6, .ref o7, .int fo1, .int fk1, .int (nI stat), .int (nI how), .int (nI pl), .int (nI la), .int (nI stt), .int (nI q), .ref o8, .ref o9, .int (nI dn), .ref o10, .ref o11])), (o9, .inl (cI, 8, .inl ca))] (fun (r : Int32) (_ : Unit) => r = lookV j how stat px q stt dn ca) (fun (_ : Unit) => [(m0, .inr (6, [.int (nI 0), .int (nI np), .ref o1, .ref o2, .ref o3, .int (nI n), .ref o4, .ref o5, .ref o6, .ref o7, .int fo1, .int fk1, .int (nI stat), .int (nI how), .int (nI pl), .int (nI la), .int (nI stt), .int (nI q), .ref o8, .ref o9, .int (nI dn), .ref o10, .ref o11])), (o9, .inl (cI, 8, .inl ca))]) := by
  rcases (show j = 0 ∨ j = 1 ∨ j = 2 ∨ j = 3 ∨ j = 4 by omega) with rfl | rfl | rfl | rfl | rfl
  · exact c_Model_look_0_0 l D cI cZ cL m0 o1 o2 o3 o4 o5 o6 o7 o8 o9 o10 o11 P K Hm ru lo hi tm sa ca ta tn fo1 fk1 co np n stat how pl la stt q dn px hst4 hh hat h30
  · exact c_Model_look_0_1 l D cI cZ cL m0 o1 o2 o3 o4 o5 o6 o7 o8 o9 o10 o11 P K Hm ru lo hi tm sa ca ta tn fo1 fk1 co np n stat how pl la stt q dn px hst4 hh hat h30
  · exact c_Model_look_0_2 l D cI cZ cL m0 o1 o2 o3 o4 o5 o6 o7 o8 o9 o10 o11 P K Hm ru lo hi tm sa ca ta tn fo1 fk1 co np n stat how pl la stt q dn px hst4 hh hat h30
  · exact c_Model_look_0_3 l D cI cZ cL m0 o1 o2 o3 o4 o5 o6 o7 o8 o9 o10 o11 P K Hm ru lo hi tm sa ca ta tn fo1 fk1 co np n stat how pl la stt q dn px hst4 hh hat h30
  · exact c_Model_look_0_4 l D cI cZ cL m0 o1 o2 o3 o4 o5 o6 o7 o8 o9 o10 o11 P K Hm ru lo hi tm sa ca ta tn fo1 fk1 co np n stat how pl la stt q dn px hst4 hh hat h30

set_option maxHeartbeats 4000000 in
set_option maxRecDepth 100000 in
theorem c_Model_act_1 (l : Launch) (D : va_G) (cI cZ cL : ClassId) (m0 o1 o2 o3 o4 o5 o6 o7 o8 o9 o10 o11 : Nat) (P K Hm ru lo hi tm sa ca ta tn : Nat → Int32) (fo1 fk1 : Int32) (co np n stat how pl la stt q dn : Nat) (x : Int32) (b : Bool) (hst4 : stat ≤ 4) (hd : dn ≤ 60) (hxx : stat = 0 ∨ inB x dn = false) : pl_I l y_Model_act b_Model_act 3 .int ({ frames := 0, cells := 0, slots := 0, locals := 0 } : Room) pl_E0 D classes (TY cI cZ cL) [.ref m0, .int x, .int (bI (b))] [(m0, .inr (6, [.int (nI co), .int (nI np), .ref o1, .ref o2, .ref o3, .int (nI n), .ref o4, .ref o5, .ref o6, .ref o7, .int fo1, .int fk1, .int (nI stat), .int (nI how), .int (nI pl), .int (nI la), .int (nI stt), .int (nI q), .ref o8, .ref o9, .int (nI dn), .ref o10, .ref o11]))] (fun (r : Int32) (_ : Unit) => r = nI 0) (fun (_ : Unit) => [(m0, .inr (6, [.int (nI 1), .int (nI np), .ref o1, .ref o2, .ref o3, .int (nI n), .ref o4, .ref o5, .ref o6, .ref o7, .int fo1, .int fk1, .int (nI stat), .int (nI how), .int (nI pl), .int (nI la), .int (nI stt), .int (nI q), .ref o8, .ref o9, .int (nI dn), .ref o10, .ref o11]))]) := by
  refine pl_startI (by decide) (Nat.le_of_ble_eq_true rfl) ?_
  intro p e s m args below meth c A ls X hr hlk hin hK hP hD hS hA hE hl
  have X : CallFix p m c b_Model_act 3 s args TG R_Model := X
  have hx := X.1
  have hb := X.2.1
  have hl : lv_has ls 3 [(0, .ref m0), (1, .int x), (2, .int (bI (b)))] := hl
  refine lv_aload_n hx hb d_Model_act_0 rfl (lv_at hl 0 rfl) ?_
  refine lv_aload_n hx hb d_Model_act_1 rfl (lv_at hl 0 rfl) ?_
  refine pl_get X fw_Model_58 hK hP 0 rfl (v := .int (nI stat)) rfl d_Model_act_2 ?_
  refine pl_if_eq X (by omega) d_Model_act_5 rfl (fun g5 => ?_) (fun g5 => ?_)
  · skip
    refine lv_iconst (v := nI 1) hx hb d_Model_act_20 (by decide) ?_
    refine lv_goto hx hb d_Model_act_21 rfl ?_
    refine pl_put X fw_Model_48 fp_Model rfl hK hP hD hS 0 rfl (v := .int (nI 1)) rfl rfl (Nat.le_of_ble_eq_true rfl) d_Model_act_25 (ws' := [(m0, .inr (6, [.int (nI 1), .int (nI np), .ref o1, .ref o2, .ref o3, .int (nI n), .ref o4, .ref o5, .ref o6, .ref o7, .int fo1, .int fk1, .int (nI stat), .int (nI how), .int (nI pl), .int (nI la), .int (nI stt), .int (nI q), .ref o8, .ref o9, .int (nI dn), .ref o10, .ref o11]))]) rfl (fun H locs hP hD hS => ?_)
    refine lv_aload_n hx hb d_Model_act_28 rfl (lv_at hl 0 rfl) ?_
    refine pl_get X fw_Model_48 hK hP 0 rfl (v := .int (nI 1)) rfl d_Model_act_29 ?_
    refine pl_if_le X (by decide) d_Model_act_32 rfl (fun gL => ?_) (fun gL => ?_)
    · skip
      exact absurd gL (by decide)
    · skip
      refine lv_iconst (v := nI 0) hx hb d_Model_act_35 (by decide) ?_
      exact pl_iret X hr hlk hK rfl () rfl hP hD hS d_Model_act_36
  · skip
    refine lv_iload_n hx hb d_Model_act_8 rfl (lv_at hl 1 rfl) ?_
    refine lv_if_lt hx hb d_Model_act_9 rfl (fun g9 => ?_) (fun g9 => ?_)
    · skip
      refine lv_iconst (v := nI 1) hx hb d_Model_act_20 (by decide) ?_
      refine lv_goto hx hb d_Model_act_21 rfl ?_
      refine pl_put X fw_Model_48 fp_Model rfl hK hP hD hS 0 rfl (v := .int (nI 1)) rfl rfl (Nat.le_of_ble_eq_true rfl) d_Model_act_25 (ws' := [(m0, .inr (6, [.int (nI 1), .int (nI np), .ref o1, .ref o2, .ref o3, .int (nI n), .ref o4, .ref o5, .ref o6, .ref o7, .int fo1, .int fk1, .int (nI stat), .int (nI how), .int (nI pl), .int (nI la), .int (nI stt), .int (nI q), .ref o8, .ref o9, .int (nI dn), .ref o10, .ref o11]))]) rfl (fun H locs hP hD hS => ?_)
      refine lv_aload_n hx hb d_Model_act_28 rfl (lv_at hl 0 rfl) ?_
      refine pl_get X fw_Model_48 hK hP 0 rfl (v := .int (nI 1)) rfl d_Model_act_29 ?_
      refine pl_if_le X (by decide) d_Model_act_32 rfl (fun gL => ?_) (fun gL => ?_)
      · skip
        exact absurd gL (by decide)
      · skip
        refine lv_iconst (v := nI 0) hx hb d_Model_act_35 (by decide) ?_
        exact pl_iret X hr hlk hK rfl () rfl hP hD hS d_Model_act_36
    · skip
      refine lv_iload_n hx hb d_Model_act_12 rfl (lv_at hl 1 rfl) ?_
      refine lv_aload_n hx hb d_Model_act_13 rfl (lv_at hl 0 rfl) ?_
      refine pl_get X fw_Model_127 hK hP 0 rfl (v := .int (nI dn)) rfl d_Model_act_14 ?_
      refine lv_icmp_lt hx hb d_Model_act_17 rfl (fun g17 => ?_) (fun g17 => ?_)
      · skip
        rcases hxx with q9 | q9
        · exact absurd q9 g5
        · exact absurd (inB_in (by omega) g9 (i_nle.mpr g17)) (by rw [q9]; decide)
      · skip
        refine lv_iconst (v := nI 1) hx hb d_Model_act_20 (by decide) ?_
        refine lv_goto hx hb d_Model_act_21 rfl ?_
        refine pl_put X fw_Model_48 fp_Model rfl hK hP hD hS 0 rfl (v := .int (nI 1)) rfl rfl (Nat.le_of_ble_eq_true rfl) d_Model_act_25 (ws' := [(m0, .inr (6, [.int (nI 1), .int (nI np), .ref o1, .ref o2, .ref o3, .int (nI n), .ref o4, .ref o5, .ref o6, .ref o7, .int fo1, .int fk1, .int (nI stat), .int (nI how), .int (nI pl), .int (nI la), .int (nI stt), .int (nI q), .ref o8, .ref o9, .int (nI dn), .ref o10, .ref o11]))]) rfl (fun H locs hP hD hS => ?_)
        refine lv_aload_n hx hb d_Model_act_28 rfl (lv_at hl 0 rfl) ?_
        refine pl_get X fw_Model_48 hK hP 0 rfl (v := .int (nI 1)) rfl d_Model_act_29 ?_
        refine pl_if_le X (by decide) d_Model_act_32 rfl (fun gL => ?_) (fun gL => ?_)
        · skip
          exact absurd gL (by decide)
        · skip
          refine lv_iconst (v := nI 0) hx hb d_Model_act_35 (by decide) ?_
          exact pl_iret X hr hlk hK rfl () rfl hP hD hS d_Model_act_36

set_option maxHeartbeats 4000000 in
set_option maxRecDepth 100000 in
theorem c_Model_act_0 (l : Launch) (D : va_G) (cI cZ cL : ClassId) (m0 o1 o2 o3 o4 o5 o6 o7 o8 o9 o10 o11 : Nat) (P K Hm ru lo hi tm sa ca ta tn : Nat → Int32) (fo1 fk1 : Int32) (co np n stat how pl la stt q dn : Nat) (i : Nat) (b : Bool) (hst4 : stat ≤ 4) (hst : ¬ stat = 0) (hd : dn ≤ 60) (hid : i < dn) : pl_I l y_Model_act b_Model_act 3 .int ({ frames := 0, cells := 0, slots := 0, locals := 0 } : Room) pl_E0 D classes (TY cI cZ cL) [.ref m0, .int (nI i), .int (bI (b))] [(m0, .inr (6, [.int (nI co), .int (nI np), .ref o1, .ref o2, .ref o3, .int (nI n), .ref o4, .ref o5, .ref o6, .ref o7, .int fo1, .int fk1, .int (nI stat), .int (nI how), .int (nI pl), .int (nI la), .int (nI stt), .int (nI q), .ref o8, .ref o9, .int (nI dn), .ref o10, .ref o11])), (o10, .inl (cI, 60, .inl ta)), (o11, .inl (cI, 60, .inl tn))] (fun (r : Int32) (_ : Unit) => r = if b = true then tn i else ta i) (fun (_ : Unit) => [(m0, .inr (6, [.int (nI 0), .int (nI np), .ref o1, .ref o2, .ref o3, .int (nI n), .ref o4, .ref o5, .ref o6, .ref o7, .int fo1, .int fk1, .int (nI stat), .int (nI how), .int (nI pl), .int (nI la), .int (nI stt), .int (nI q), .ref o8, .ref o9, .int (nI dn), .ref o10, .ref o11])), (o10, .inl (cI, 60, .inl ta)), (o11, .inl (cI, 60, .inl tn))]) := by
  refine pl_startI (by decide) (Nat.le_of_ble_eq_true rfl) ?_
  intro p e s m args below meth c A ls X hr hlk hin hK hP hD hS hA hE hl
  have X : CallFix p m c b_Model_act 3 s args TG R_Model := X
  have hx := X.1
  have hb := X.2.1
  have hl : lv_has ls 3 [(0, .ref m0), (1, .int (nI i)), (2, .int (bI (b)))] := hl
  refine lv_aload_n hx hb d_Model_act_0 rfl (lv_at hl 0 rfl) ?_
  refine lv_aload_n hx hb d_Model_act_1 rfl (lv_at hl 0 rfl) ?_
  refine pl_get X fw_Model_58 hK hP 0 rfl (v := .int (nI stat)) rfl d_Model_act_2 ?_
  refine pl_if_eq X (by omega) d_Model_act_5 rfl (fun g5 => ?_) (fun g5 => ?_)
  · skip
    exact absurd g5 hst
  · skip
    refine lv_iload_n hx hb d_Model_act_8 rfl (lv_at hl 1 rfl) ?_
    refine pl_if_lt X (by omega) d_Model_act_9 rfl ?_
    refine lv_iload_n hx hb d_Model_act_12 rfl (lv_at hl 1 rfl) ?_
    refine lv_aload_n hx hb d_Model_act_13 rfl (lv_at hl 0 rfl) ?_
    refine pl_get X fw_Model_127 hK hP 0 rfl (v := .int (nI dn)) rfl d_Model_act_14 ?_
    refine pl_icmp_lt X (by omega) (by omega) d_Model_act_17 rfl (fun g17 => ?_) (fun g17 => ?_)
    · skip
      refine lv_iconst (v := nI 0) hx hb d_Model_act_24 (by decide) ?_
      refine pl_put X fw_Model_48 fp_Model rfl hK hP hD hS 0 rfl (v := .int (nI 0)) rfl rfl (Nat.le_of_ble_eq_true rfl) d_Model_act_25 (ws' := [(m0, .inr (6, [.int (nI 0), .int (nI np), .ref o1, .ref o2, .ref o3, .int (nI n), .ref o4, .ref o5, .ref o6, .ref o7, .int fo1, .int fk1, .int (nI stat), .int (nI how), .int (nI pl), .int (nI la), .int (nI stt), .int (nI q), .ref o8, .ref o9, .int (nI dn), .ref o10, .ref o11])), (o10, .inl (cI, 60, .inl ta)), (o11, .inl (cI, 60, .inl tn))]) rfl (fun H locs hP hD hS => ?_)
      refine lv_aload_n hx hb d_Model_act_28 rfl (lv_at hl 0 rfl) ?_
      refine pl_get X fw_Model_48 hK hP 0 rfl (v := .int (nI 0)) rfl d_Model_act_29 ?_
      refine pl_if_le X (by decide) d_Model_act_32 rfl (fun gL => ?_) (fun gL => ?_)
      · skip
        refine lv_iload_n hx hb d_Model_act_37 rfl (lv_at hl 2 rfl) ?_
        refine pl_ifB_eq X d_Model_act_38 rfl (fun g38 => ?_) (fun g38 => ?_)
        · skip
          refine lv_aload_n hx hb d_Model_act_50 rfl (lv_at hl 0 rfl) ?_
          refine pl_get X fw_Model_42 hK hP 0 rfl (v := .ref o10) rfl d_Model_act_51 ?_
          refine lv_iload_n hx hb d_Model_act_54 rfl (lv_at hl 1 rfl) ?_
          refine pl_iald X hK hP 1 0 rfl rfl i (by omega) (by decide) (z := ta i) rfl d_Model_act_55 ?_
          exact pl_iret X hr hlk hK rfl () (by rw [if_neg (by rw [g38]; decide)]) hP hD hS d_Model_act_56
        · skip
          refine lv_aload_n hx hb d_Model_act_41 rfl (lv_at hl 0 rfl) ?_
          refine pl_get X fw_Model_45 hK hP 0 rfl (v := .ref o11) rfl d_Model_act_42 ?_
          refine lv_iload_n hx hb d_Model_act_45 rfl (lv_at hl 1 rfl) ?_
          refine pl_iald X hK hP 2 0 rfl rfl i (by omega) (by decide) (z := tn i) rfl d_Model_act_46 ?_
          refine lv_goto hx hb d_Model_act_47 rfl ?_
          exact pl_iret X hr hlk hK rfl () (by rw [if_pos g38]) hP hD hS d_Model_act_56
      · skip
        exact absurd gL (by decide)
    · skip
      exact absurd g17 (by omega)

set_option maxHeartbeats 4000000 in
set_option maxRecDepth 100000 in
theorem c_Model_cell_1 (l : Launch) (D : va_G) (cI cZ cL : ClassId) (m0 o1 o2 o3 o4 o5 o6 o7 o8 o9 o10 o11 : Nat) (P K Hm ru lo hi tm sa ca ta tn : Nat → Int32) (fo1 fk1 : Int32) (co np n stat how pl la stt q dn : Nat) (x : Int32) (hxx : inB x 8 = false) : pl_I l y_Model_cell b_Model_cell 2 .int ({ frames := 0, cells := 0, slots := 0, locals := 0 } : Room) pl_E0 D classes (TY cI cZ cL) [.ref m0, .int x] [(m0, .inr (6, [.int (nI co), .int (nI np), .ref o1, .ref o2, .ref o3, .int (nI n), .ref o4, .ref o5, .ref o6, .ref o7, .int fo1, .int fk1, .int (nI stat), .int (nI how), .int (nI pl), .int (nI la), .int (nI stt), .int (nI q), .ref o8, .ref o9, .int (nI dn), .ref o10, .ref o11]))] (fun (r : Int32) (_ : Unit) => r = nI 0) (fun (_ : Unit) => [(m0, .inr (6, [.int (nI 1), .int (nI np), .ref o1, .ref o2, .ref o3, .int (nI n), .ref o4, .ref o5, .ref o6, .ref o7, .int fo1, .int fk1, .int (nI stat), .int (nI how), .int (nI pl), .int (nI la), .int (nI stt), .int (nI q), .ref o8, .ref o9, .int (nI dn), .ref o10, .ref o11]))]) := by
  refine pl_startI (by decide) (Nat.le_of_ble_eq_true rfl) ?_
  intro p e s m args below meth c A ls X hr hlk hin hK hP hD hS hA hE hl
  have X : CallFix p m c b_Model_cell 2 s args TG R_Model := X
  have hx := X.1
  have hb := X.2.1
  have hl : lv_has ls 2 [(0, .ref m0), (1, .int x)] := hl
  refine lv_aload_n hx hb d_Model_cell_0 rfl (lv_at hl 0 rfl) ?_
  refine lv_iload_n hx hb d_Model_cell_1 rfl (lv_at hl 1 rfl) ?_
  refine lv_if_lt hx hb d_Model_cell_2 rfl (fun g2 => ?_) (fun g2 => ?_)
  · skip
    refine lv_iconst (v := nI 1) hx hb d_Model_cell_11 (by decide) ?_
    refine lv_goto hx hb d_Model_cell_12 rfl ?_
    refine pl_put X fw_Model_48 fp_Model rfl hK hP hD hS 0 rfl (v := .int (nI 1)) rfl rfl (Nat.le_of_ble_eq_true rfl) d_Model_cell_16 (ws' := [(m0, .inr (6, [.int (nI 1), .int (nI np), .ref o1, .ref o2, .ref o3, .int (nI n), .ref o4, .ref o5, .ref o6, .ref o7, .int fo1, .int fk1, .int (nI stat), .int (nI how), .int (nI pl), .int (nI la), .int (nI stt), .int (nI q), .ref o8, .ref o9, .int (nI dn), .ref o10, .ref o11]))]) rfl (fun H locs hP hD hS => ?_)
    refine lv_aload_n hx hb d_Model_cell_19 rfl (lv_at hl 0 rfl) ?_
    refine pl_get X fw_Model_48 hK hP 0 rfl (v := .int (nI 1)) rfl d_Model_cell_20 ?_
    refine pl_if_gt X (by decide) d_Model_cell_23 rfl (fun gL => ?_) (fun gL => ?_)
    · skip
      refine lv_iconst (v := nI 0) hx hb d_Model_cell_33 (by decide) ?_
      refine lv_goto hx hb d_Model_cell_34 rfl ?_
      exact pl_iret X hr hlk hK rfl () rfl hP hD hS d_Model_cell_43
    · skip
      exact absurd gL (by decide)
  · skip
    refine lv_iload_n hx hb d_Model_cell_5 rfl (lv_at hl 1 rfl) ?_
    refine lv_bipush (v := nI 7) hx hb d_Model_cell_6 (by decide) ?_
    refine lv_icmp_le hx hb d_Model_cell_8 rfl (fun g8 => ?_) (fun g8 => ?_)
    · skip
      exact absurd (inB_le_t (m := 7) (by omega) g2 g8) (by rw [hxx]; decide)
    · skip
      refine lv_iconst (v := nI 1) hx hb d_Model_cell_11 (by decide) ?_
      refine lv_goto hx hb d_Model_cell_12 rfl ?_
      refine pl_put X fw_Model_48 fp_Model rfl hK hP hD hS 0 rfl (v := .int (nI 1)) rfl rfl (Nat.le_of_ble_eq_true rfl) d_Model_cell_16 (ws' := [(m0, .inr (6, [.int (nI 1), .int (nI np), .ref o1, .ref o2, .ref o3, .int (nI n), .ref o4, .ref o5, .ref o6, .ref o7, .int fo1, .int fk1, .int (nI stat), .int (nI how), .int (nI pl), .int (nI la), .int (nI stt), .int (nI q), .ref o8, .ref o9, .int (nI dn), .ref o10, .ref o11]))]) rfl (fun H locs hP hD hS => ?_)
      refine lv_aload_n hx hb d_Model_cell_19 rfl (lv_at hl 0 rfl) ?_
      refine pl_get X fw_Model_48 hK hP 0 rfl (v := .int (nI 1)) rfl d_Model_cell_20 ?_
      refine pl_if_gt X (by decide) d_Model_cell_23 rfl (fun gL => ?_) (fun gL => ?_)
      · skip
        refine lv_iconst (v := nI 0) hx hb d_Model_cell_33 (by decide) ?_
        refine lv_goto hx hb d_Model_cell_34 rfl ?_
        exact pl_iret X hr hlk hK rfl () rfl hP hD hS d_Model_cell_43
      · skip
        exact absurd gL (by decide)

set_option maxHeartbeats 4000000 in
set_option maxRecDepth 100000 in
theorem c_Model_cell_0 (l : Launch) (D : va_G) (cI cZ cL : ClassId) (m0 o1 o2 o3 o4 o5 o6 o7 o8 o9 o10 o11 : Nat) (P K Hm ru lo hi tm sa ca ta tn : Nat → Int32) (fo1 fk1 : Int32) (co np n stat how pl la stt q dn : Nat) (j : Nat) (hst4 : stat ≤ 4) (hj : j < 8) : pl_I l y_Model_cell b_Model_cell 2 .int ({ frames := 0, cells := 0, slots := 0, locals := 0 } : Room) pl_E0 D classes (TY cI cZ cL) [.ref m0, .int (nI j)] [(m0, .inr (6, [.int (nI co), .int (nI np), .ref o1, .ref o2, .ref o3, .int (nI n), .ref o4, .ref o5, .ref o6, .ref o7, .int fo1, .int fk1, .int (nI stat), .int (nI how), .int (nI pl), .int (nI la), .int (nI stt), .int (nI q), .ref o8, .ref o9, .int (nI dn), .ref o10, .ref o11])), (o9, .inl (cI, 8, .inl ca))] (fun (r : Int32) (_ : Unit) => r = if stat = 0 then nI 0 else ca j) (fun (_ : Unit) => [(m0, .inr (6, [.int (nI 0), .int (nI np), .ref o1, .ref o2, .ref o3, .int (nI n), .ref o4, .ref o5, .ref o6, .ref o7, .int fo1, .int fk1, .int (nI stat), .int (nI how), .int (nI pl), .int (nI la), .int (nI stt), .int (nI q), .ref o8, .ref o9, .int (nI dn), .ref o10, .ref o11])), (o9, .inl (cI, 8, .inl ca))]) := by
  refine pl_startI (by decide) (Nat.le_of_ble_eq_true rfl) ?_
  intro p e s m args below meth c A ls X hr hlk hin hK hP hD hS hA hE hl
  have X : CallFix p m c b_Model_cell 2 s args TG R_Model := X
  have hx := X.1
  have hb := X.2.1
  have hl : lv_has ls 2 [(0, .ref m0), (1, .int (nI j))] := hl
  refine lv_aload_n hx hb d_Model_cell_0 rfl (lv_at hl 0 rfl) ?_
  refine lv_iload_n hx hb d_Model_cell_1 rfl (lv_at hl 1 rfl) ?_
  refine pl_if_lt X (by omega) d_Model_cell_2 rfl ?_
  refine lv_iload_n hx hb d_Model_cell_5 rfl (lv_at hl 1 rfl) ?_
  refine lv_bipush (v := nI 7) hx hb d_Model_cell_6 (by decide) ?_
  refine pl_icmp_le X (by omega) (by decide) d_Model_cell_8 rfl (fun g8 => ?_) (fun g8 => ?_)
  · skip
    refine lv_iconst (v := nI 0) hx hb d_Model_cell_15 (by decide) ?_
    refine pl_put X fw_Model_48 fp_Model rfl hK hP hD hS 0 rfl (v := .int (nI 0)) rfl rfl (Nat.le_of_ble_eq_true rfl) d_Model_cell_16 (ws' := [(m0, .inr (6, [.int (nI 0), .int (nI np), .ref o1, .ref o2, .ref o3, .int (nI n), .ref o4, .ref o5, .ref o6, .ref o7, .int fo1, .int fk1, .int (nI stat), .int (nI how), .int (nI pl), .int (nI la), .int (nI stt), .int (nI q), .ref o8, .ref o9, .int (nI dn), .ref o10, .ref o11])), (o9, .inl (cI, 8, .inl ca))]) rfl (fun H locs hP hD hS => ?_)
    refine lv_aload_n hx hb d_Model_cell_19 rfl (lv_at hl 0 rfl) ?_
    refine pl_get X fw_Model_48 hK hP 0 rfl (v := .int (nI 0)) rfl d_Model_cell_20 ?_
    refine pl_if_gt X (by decide) d_Model_cell_23 rfl (fun gL => ?_) (fun gL => ?_)
    · skip
      exact absurd gL (by decide)
    · skip
      refine lv_aload_n hx hb d_Model_cell_26 rfl (lv_at hl 0 rfl) ?_
      refine pl_get X fw_Model_58 hK hP 0 rfl (v := .int (nI stat)) rfl d_Model_cell_27 ?_
      refine pl_if_ne X (by omega) d_Model_cell_30 rfl (fun g30 => ?_) (fun g30 => ?_)
      · skip
        refine lv_aload_n hx hb d_Model_cell_37 rfl (lv_at hl 0 rfl) ?_
        refine pl_get X fw_Model_39 hK hP 0 rfl (v := .ref o9) rfl d_Model_cell_38 ?_
        refine lv_iload_n hx hb d_Model_cell_41 rfl (lv_at hl 1 rfl) ?_
        refine pl_iald X hK hP 1 0 rfl rfl j (by omega) (by decide) (z := ca j) rfl d_Model_cell_42 ?_
        exact pl_iret X hr hlk hK rfl () (by rw [if_neg g30]) hP hD hS d_Model_cell_43
      · skip
        refine lv_iconst (v := nI 0) hx hb d_Model_cell_33 (by decide) ?_
        refine lv_goto hx hb d_Model_cell_34 rfl ?_
        exact pl_iret X hr hlk hK rfl () (by rw [if_pos g30]) hP hD hS d_Model_cell_43
  · skip
    exact absurd g8 (by omega)
