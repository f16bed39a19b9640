/-! Decode rows of PolicyLoom. -/
theorem d_Loom_forgetWhatHungOnAutomaton_0 : decode b_Loom_forgetWhatHungOnAutomaton 0 = .ok (.aload_n 0, 1) := by decide +kernel
theorem d_Loom_forgetWhatHungOnAutomaton_1 : decode b_Loom_forgetWhatHungOnAutomaton 1 = .ok (.iconst 0, 1) := by decide +kernel
theorem d_Loom_forgetWhatHungOnAutomaton_2 : decode b_Loom_forgetWhatHungOnAutomaton 2 = .ok (.putfield 50, 3) := by decide +kernel
theorem d_Loom_forgetWhatHungOnAutomaton_5 : decode b_Loom_forgetWhatHungOnAutomaton 5 = .ok (.aload_n 0, 1) := by decide +kernel
theorem d_Loom_forgetWhatHungOnAutomaton_6 : decode b_Loom_forgetWhatHungOnAutomaton 6 = .ok (.getfield 42, 3) := by decide +kernel
theorem d_Loom_forgetWhatHungOnAutomaton_9 : decode b_Loom_forgetWhatHungOnAutomaton 9 = .ok (.iconst 0, 1) := by decide +kernel
theorem d_Loom_forgetWhatHungOnAutomaton_10 : decode b_Loom_forgetWhatHungOnAutomaton 10 = .ok (.putfield 130, 3) := by decide +kernel
theorem d_Loom_forgetWhatHungOnAutomaton_13 : decode b_Loom_forgetWhatHungOnAutomaton 13 = .ok (.return_, 1) := by decide +kernel
theorem d_Loom_forgetWhatHungOnProgram_0 : decode b_Loom_forgetWhatHungOnProgram 0 = .ok (.aload_n 0, 1) := by decide +kernel
theorem d_Loom_forgetWhatHungOnProgram_1 : decode b_Loom_forgetWhatHungOnProgram 1 = .ok (.iconst 0, 1) := by decide +kernel
theorem d_Loom_forgetWhatHungOnProgram_2 : decode b_Loom_forgetWhatHungOnProgram 2 = .ok (.putfield 46, 3) := by decide +kernel
theorem d_Loom_forgetWhatHungOnProgram_5 : decode b_Loom_forgetWhatHungOnProgram 5 = .ok (.aload_n 0, 1) := by decide +kernel
theorem d_Loom_forgetWhatHungOnProgram_6 : decode b_Loom_forgetWhatHungOnProgram 6 = .ok (.invokevirtual 78, 3) := by decide +kernel
theorem d_Loom_forgetWhatHungOnProgram_9 : decode b_Loom_forgetWhatHungOnProgram 9 = .ok (.return_, 1) := by decide +kernel
theorem d_Loom_clear_0 : decode b_Loom_clear 0 = .ok (.aload_n 0, 1) := by decide +kernel
theorem d_Loom_clear_1 : decode b_Loom_clear 1 = .ok (.invokevirtual 69, 3) := by decide +kernel
theorem d_Loom_clear_4 : decode b_Loom_clear 4 = .ok (.aload_n 0, 1) := by decide +kernel
theorem d_Loom_clear_5 : decode b_Loom_clear 5 = .ok (.getfield 14, 3) := by decide +kernel
theorem d_Loom_clear_8 : decode b_Loom_clear 8 = .ok (.iconst 0, 1) := by decide +kernel
theorem d_Loom_clear_9 : decode b_Loom_clear 9 = .ok (.putfield 60, 3) := by decide +kernel
theorem d_Loom_clear_12 : decode b_Loom_clear 12 = .ok (.return_, 1) := by decide +kernel
theorem d_Loom_isWellFormed_0 : decode b_Loom_isWellFormed 0 = .ok (.aload_n 0, 1) := by decide +kernel
theorem d_Loom_isWellFormed_1 : decode b_Loom_isWellFormed 1 = .ok (.getfield 46, 3) := by decide +kernel
theorem d_Loom_isWellFormed_4 : decode b_Loom_isWellFormed 4 = .ok (.ifCond .ne 19, 3) := by decide +kernel
theorem d_Loom_isWellFormed_7 : decode b_Loom_isWellFormed 7 = .ok (.aload_n 0, 1) := by decide +kernel
theorem d_Loom_isWellFormed_8 : decode b_Loom_isWellFormed 8 = .ok (.getfield 28, 3) := by decide +kernel
theorem d_Loom_isWellFormed_11 : decode b_Loom_isWellFormed 11 = .ok (.aload_n 0, 1) := by decide +kernel
theorem d_Loom_isWellFormed_12 : decode b_Loom_isWellFormed 12 = .ok (.getfield 14, 3) := by decide +kernel
theorem d_Loom_isWellFormed_15 : decode b_Loom_isWellFormed 15 = .ok (.invokevirtual 174, 3) := by decide +kernel
theorem d_Loom_isWellFormed_18 : decode b_Loom_isWellFormed 18 = .ok (.aload_n 0, 1) := by decide +kernel
theorem d_Loom_isWellFormed_19 : decode b_Loom_isWellFormed 19 = .ok (.iconst 1, 1) := by decide +kernel
theorem d_Loom_isWellFormed_20 : decode b_Loom_isWellFormed 20 = .ok (.putfield 46, 3) := by decide +kernel
theorem d_Loom_isWellFormed_23 : decode b_Loom_isWellFormed 23 = .ok (.aload_n 0, 1) := by decide +kernel
theorem d_Loom_isWellFormed_24 : decode b_Loom_isWellFormed 24 = .ok (.getfield 28, 3) := by decide +kernel
theorem d_Loom_isWellFormed_27 : decode b_Loom_isWellFormed 27 = .ok (.getfield 178, 3) := by decide +kernel
theorem d_Loom_isWellFormed_30 : decode b_Loom_isWellFormed 30 = .ok (.ireturn, 1) := by decide +kernel
theorem d_Loom_well_0 : decode b_Loom_well 0 = .ok (.aload_n 0, 1) := by decide +kernel
theorem d_Loom_well_1 : decode b_Loom_well 1 = .ok (.invokevirtual 102, 3) := by decide +kernel
theorem d_Loom_well_4 : decode b_Loom_well 4 = .ok (.ireturn, 1) := by decide +kernel
theorem d_Loom_requireWellFormed_0 : decode b_Loom_requireWellFormed 0 = .ok (.aload_n 0, 1) := by decide +kernel
theorem d_Loom_requireWellFormed_1 : decode b_Loom_requireWellFormed 1 = .ok (.invokevirtual 102, 3) := by decide +kernel
theorem d_Loom_requireWellFormed_4 : decode b_Loom_requireWellFormed 4 = .ok (.ifCond .ne 13, 3) := by decide +kernel
theorem d_Loom_requireWellFormed_7 : decode b_Loom_requireWellFormed 7 = .ok (.new 133, 3) := by decide +kernel
theorem d_Loom_requireWellFormed_10 : decode b_Loom_requireWellFormed 10 = .ok (.dup, 1) := by decide +kernel
theorem d_Loom_requireWellFormed_11 : decode b_Loom_requireWellFormed 11 = .ok (.ldc 181, 2) := by decide +kernel
theorem d_Loom_requireWellFormed_13 : decode b_Loom_requireWellFormed 13 = .ok (.invokespecial 137, 3) := by decide +kernel
theorem d_Loom_requireWellFormed_16 : decode b_Loom_requireWellFormed 16 = .ok (.athrow, 1) := by decide +kernel
theorem d_Loom_requireWellFormed_17 : decode b_Loom_requireWellFormed 17 = .ok (.return_, 1) := by decide +kernel
theorem d_Loom_height_0 : decode b_Loom_height 0 = .ok (.aload_n 0, 1) := by decide +kernel
theorem d_Loom_height_1 : decode b_Loom_height 1 = .ok (.invokevirtual 106, 3) := by decide +kernel
theorem d_Loom_height_4 : decode b_Loom_height 4 = .ok (.iload_n 1, 1) := by decide +kernel
theorem d_Loom_height_5 : decode b_Loom_height 5 = .ok (.ifCond .lt 14, 3) := by decide +kernel
theorem d_Loom_height_8 : decode b_Loom_height 8 = .ok (.iload_n 1, 1) := by decide +kernel
theorem d_Loom_height_9 : decode b_Loom_height 9 = .ok (.aload_n 0, 1) := by decide +kernel
theorem d_Loom_height_10 : decode b_Loom_height 10 = .ok (.getfield 14, 3) := by decide +kernel
theorem d_Loom_height_13 : decode b_Loom_height 13 = .ok (.getfield 60, 3) := by decide +kernel
theorem d_Loom_height_16 : decode b_Loom_height 16 = .ok (.if_icmp .lt 13, 3) := by decide +kernel
theorem d_Loom_height_19 : decode b_Loom_height 19 = .ok (.new 64, 3) := by decide +kernel
theorem d_Loom_height_22 : decode b_Loom_height 22 = .ok (.dup, 1) := by decide +kernel
theorem d_Loom_height_23 : decode b_Loom_height 23 = .ok (.ldc 109, 2) := by decide +kernel
theorem d_Loom_height_25 : decode b_Loom_height 25 = .ok (.invokespecial 68, 3) := by decide +kernel
theorem d_Loom_height_28 : decode b_Loom_height 28 = .ok (.athrow, 1) := by decide +kernel
theorem d_Loom_height_29 : decode b_Loom_height 29 = .ok (.aload_n 0, 1) := by decide +kernel
theorem d_Loom_height_30 : decode b_Loom_height 30 = .ok (.getfield 28, 3) := by decide +kernel
theorem d_Loom_height_33 : decode b_Loom_height 33 = .ok (.getfield 111, 3) := by decide +kernel
theorem d_Loom_height_36 : decode b_Loom_height 36 = .ok (.iload_n 1, 1) := by decide +kernel
theorem d_Loom_height_37 : decode b_Loom_height 37 = .ok (.iaload, 1) := by decide +kernel
theorem d_Loom_height_38 : decode b_Loom_height 38 = .ok (.ireturn, 1) := by decide +kernel
theorem d_Loom_wovenListing_0 : decode b_Loom_wovenListing 0 = .ok (.aload_n 0, 1) := by decide +kernel
theorem d_Loom_wovenListing_1 : decode b_Loom_wovenListing 1 = .ok (.getfield 50, 3) := by decide +kernel
theorem d_Loom_wovenListing_4 : decode b_Loom_wovenListing 4 = .ok (.ifCond .ne 23, 3) := by decide +kernel
theorem d_Loom_wovenListing_7 : decode b_Loom_wovenListing 7 = .ok (.aload_n 0, 1) := by decide +kernel
theorem d_Loom_wovenListing_8 : decode b_Loom_wovenListing 8 = .ok (.getfield 35, 3) := by decide +kernel
theorem d_Loom_wovenListing_11 : decode b_Loom_wovenListing 11 = .ok (.aload_n 0, 1) := by decide +kernel
theorem d_Loom_wovenListing_12 : decode b_Loom_wovenListing 12 = .ok (.getfield 14, 3) := by decide +kernel
theorem d_Loom_wovenListing_15 : decode b_Loom_wovenListing 15 = .ok (.aload_n 0, 1) := by decide +kernel
theorem d_Loom_wovenListing_16 : decode b_Loom_wovenListing 16 = .ok (.getfield 21, 3) := by decide +kernel
theorem d_Loom_wovenListing_19 : decode b_Loom_wovenListing 19 = .ok (.invokevirtual 183, 3) := by decide +kernel
theorem d_Loom_wovenListing_22 : decode b_Loom_wovenListing 22 = .ok (.aload_n 0, 1) := by decide +kernel
theorem d_Loom_wovenListing_23 : decode b_Loom_wovenListing 23 = .ok (.iconst 1, 1) := by decide +kernel
theorem d_Loom_wovenListing_24 : decode b_Loom_wovenListing 24 = .ok (.putfield 50, 3) := by decide +kernel
theorem d_Loom_wovenListing_27 : decode b_Loom_wovenListing 27 = .ok (.aload_n 0, 1) := by decide +kernel
theorem d_Loom_wovenListing_28 : decode b_Loom_wovenListing 28 = .ok (.getfield 35, 3) := by decide +kernel
theorem d_Loom_wovenListing_31 : decode b_Loom_wovenListing 31 = .ok (.getfield 186, 3) := by decide +kernel
theorem d_Loom_wovenListing_34 : decode b_Loom_wovenListing 34 = .ok (.areturn, 1) := by decide +kernel
theorem d_Loom_enforce_0 : decode b_Loom_enforce 0 = .ok (.aload_n 0, 1) := by decide +kernel
theorem d_Loom_enforce_1 : decode b_Loom_enforce 1 = .ok (.invokevirtual 106, 3) := by decide +kernel
theorem d_Loom_enforce_4 : decode b_Loom_enforce 4 = .ok (.aload_n 0, 1) := by decide +kernel
theorem d_Loom_enforce_5 : decode b_Loom_enforce 5 = .ok (.invokevirtual 115, 3) := by decide +kernel
theorem d_Loom_enforce_8 : decode b_Loom_enforce 8 = .ok (.getfield 60, 3) := by decide +kernel
theorem d_Loom_enforce_11 : decode b_Loom_enforce 11 = .ok (.ireturn, 1) := by decide +kernel
theorem d_Loom_enforced_0 : decode b_Loom_enforced 0 = .ok (.aload_n 0, 1) := by decide +kernel
theorem d_Loom_enforced_1 : decode b_Loom_enforced 1 = .ok (.invokevirtual 106, 3) := by decide +kernel
theorem d_Loom_enforced_4 : decode b_Loom_enforced 4 = .ok (.aload_n 0, 1) := by decide +kernel
theorem d_Loom_enforced_5 : decode b_Loom_enforced 5 = .ok (.invokevirtual 115, 3) := by decide +kernel
theorem d_Loom_enforced_8 : decode b_Loom_enforced 8 = .ok (.astore_n 3, 1) := by decide +kernel
theorem d_Loom_enforced_9 : decode b_Loom_enforced 9 = .ok (.iload_n 1, 1) := by decide +kernel
theorem d_Loom_enforced_10 : decode b_Loom_enforced 10 = .ok (.ifCond .lt 11, 3) := by decide +kernel
theorem d_Loom_enforced_13 : decode b_Loom_enforced 13 = .ok (.iload_n 1, 1) := by decide +kernel
theorem d_Loom_enforced_14 : decode b_Loom_enforced 14 = .ok (.aload_n 3, 1) := by decide +kernel
theorem d_Loom_enforced_15 : decode b_Loom_enforced 15 = .ok (.getfield 60, 3) := by decide +kernel
theorem d_Loom_enforced_18 : decode b_Loom_enforced 18 = .ok (.if_icmp .lt 13, 3) := by decide +kernel
theorem d_Loom_enforced_21 : decode b_Loom_enforced 21 = .ok (.new 64, 3) := by decide +kernel
theorem d_Loom_enforced_24 : decode b_Loom_enforced 24 = .ok (.dup, 1) := by decide +kernel
theorem d_Loom_enforced_25 : decode b_Loom_enforced 25 = .ok (.ldc 109, 2) := by decide +kernel
theorem d_Loom_enforced_27 : decode b_Loom_enforced 27 = .ok (.invokespecial 68, 3) := by decide +kernel
theorem d_Loom_enforced_30 : decode b_Loom_enforced 30 = .ok (.athrow, 1) := by decide +kernel
theorem d_Loom_enforced_31 : decode b_Loom_enforced 31 = .ok (.iload_n 2, 1) := by decide +kernel
theorem d_Loom_enforced_32 : decode b_Loom_enforced 32 = .ok (.ifCond .eq 12, 3) := by decide +kernel
theorem d_Loom_enforced_35 : decode b_Loom_enforced 35 = .ok (.aload_n 3, 1) := by decide +kernel
theorem d_Loom_enforced_36 : decode b_Loom_enforced 36 = .ok (.getfield 119, 3) := by decide +kernel
theorem d_Loom_enforced_39 : decode b_Loom_enforced 39 = .ok (.iload_n 1, 1) := by decide +kernel
theorem d_Loom_enforced_40 : decode b_Loom_enforced 40 = .ok (.iaload, 1) := by decide +kernel
theorem d_Loom_enforced_41 : decode b_Loom_enforced 41 = .ok (.goto 9, 3) := by decide +kernel
theorem d_Loom_enforced_44 : decode b_Loom_enforced 44 = .ok (.aload_n 3, 1) := by decide +kernel
theorem d_Loom_enforced_45 : decode b_Loom_enforced 45 = .ok (.getfield 122, 3) := by decide +kernel
theorem d_Loom_enforced_48 : decode b_Loom_enforced 48 = .ok (.iload_n 1, 1) := by decide +kernel
theorem d_Loom_enforced_49 : decode b_Loom_enforced 49 = .ok (.iaload, 1) := by decide +kernel
theorem d_Loom_enforced_50 : decode b_Loom_enforced 50 = .ok (.ireturn, 1) := by decide +kernel
