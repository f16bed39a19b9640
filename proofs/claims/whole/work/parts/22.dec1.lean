/-! Decode rows of Listing, Automaton. -/
theorem d_Listing_append_0 : decode b_Listing_append 0 = .ok (.aload_n 0, 1) := by decide +kernel
theorem d_Listing_append_1 : decode b_Listing_append 1 = .ok (.getfield 16, 3) := by decide +kernel
theorem d_Listing_append_4 : decode b_Listing_append 4 = .ok (.aload_n 0, 1) := by decide +kernel
theorem d_Listing_append_5 : decode b_Listing_append 5 = .ok (.getfield 7, 3) := by decide +kernel
theorem d_Listing_append_8 : decode b_Listing_append 8 = .ok (.arraylength, 1) := by decide +kernel
theorem d_Listing_append_9 : decode b_Listing_append 9 = .ok (.if_icmp .ge 33, 3) := by decide +kernel
theorem d_Listing_append_12 : decode b_Listing_append 12 = .ok (.aload_n 0, 1) := by decide +kernel
theorem d_Listing_append_13 : decode b_Listing_append 13 = .ok (.getfield 7, 3) := by decide +kernel
theorem d_Listing_append_16 : decode b_Listing_append 16 = .ok (.aload_n 0, 1) := by decide +kernel
theorem d_Listing_append_17 : decode b_Listing_append 17 = .ok (.getfield 16, 3) := by decide +kernel
theorem d_Listing_append_20 : decode b_Listing_append 20 = .ok (.iload_n 1, 1) := by decide +kernel
theorem d_Listing_append_21 : decode b_Listing_append 21 = .ok (.iastore, 1) := by decide +kernel
theorem d_Listing_append_22 : decode b_Listing_append 22 = .ok (.aload_n 0, 1) := by decide +kernel
theorem d_Listing_append_23 : decode b_Listing_append 23 = .ok (.getfield 13, 3) := by decide +kernel
theorem d_Listing_append_26 : decode b_Listing_append 26 = .ok (.aload_n 0, 1) := by decide +kernel
theorem d_Listing_append_27 : decode b_Listing_append 27 = .ok (.getfield 16, 3) := by decide +kernel
theorem d_Listing_append_30 : decode b_Listing_append 30 = .ok (.iload_n 2, 1) := by decide +kernel
theorem d_Listing_append_31 : decode b_Listing_append 31 = .ok (.iastore, 1) := by decide +kernel
theorem d_Listing_append_32 : decode b_Listing_append 32 = .ok (.aload_n 0, 1) := by decide +kernel
theorem d_Listing_append_33 : decode b_Listing_append 33 = .ok (.dup, 1) := by decide +kernel
theorem d_Listing_append_34 : decode b_Listing_append 34 = .ok (.getfield 16, 3) := by decide +kernel
theorem d_Listing_append_37 : decode b_Listing_append 37 = .ok (.iconst 1, 1) := by decide +kernel
theorem d_Listing_append_38 : decode b_Listing_append 38 = .ok (.iadd, 1) := by decide +kernel
theorem d_Listing_append_39 : decode b_Listing_append 39 = .ok (.putfield 16, 3) := by decide +kernel
theorem d_Listing_append_42 : decode b_Listing_append 42 = .ok (.return_, 1) := by decide +kernel
theorem d_Automaton_place_0 : decode b_Automaton_place 0 = .ok (.iload_n 0, 1) := by decide +kernel
theorem d_Automaton_place_1 : decode b_Automaton_place 1 = .ok (.bipush 8, 2) := by decide +kernel
theorem d_Automaton_place_3 : decode b_Automaton_place 3 = .ok (.imul, 1) := by decide +kernel
theorem d_Automaton_place_4 : decode b_Automaton_place 4 = .ok (.iload_n 1, 1) := by decide +kernel
theorem d_Automaton_place_5 : decode b_Automaton_place 5 = .ok (.iadd, 1) := by decide +kernel
theorem d_Automaton_place_6 : decode b_Automaton_place 6 = .ok (.ireturn, 1) := by decide +kernel
theorem d_Automaton_reset_0 : decode b_Automaton_reset 0 = .ok (.aload_n 0, 1) := by decide +kernel
theorem d_Automaton_reset_1 : decode b_Automaton_reset 1 = .ok (.iload_n 1, 1) := by decide +kernel
theorem d_Automaton_reset_2 : decode b_Automaton_reset 2 = .ok (.putfield 25, 3) := by decide +kernel
theorem d_Automaton_reset_5 : decode b_Automaton_reset 5 = .ok (.iconst 0, 1) := by decide +kernel
theorem d_Automaton_reset_6 : decode b_Automaton_reset 6 = .ok (.istore_n 2, 1) := by decide +kernel
theorem d_Automaton_reset_7 : decode b_Automaton_reset 7 = .ok (.iload_n 2, 1) := by decide +kernel
theorem d_Automaton_reset_8 : decode b_Automaton_reset 8 = .ok (.aload_n 0, 1) := by decide +kernel
theorem d_Automaton_reset_9 : decode b_Automaton_reset 9 = .ok (.getfield 18, 3) := by decide +kernel
theorem d_Automaton_reset_12 : decode b_Automaton_reset 12 = .ok (.arraylength, 1) := by decide +kernel
theorem d_Automaton_reset_13 : decode b_Automaton_reset 13 = .ok (.if_icmp .ge 16, 3) := by decide +kernel
theorem d_Automaton_reset_16 : decode b_Automaton_reset 16 = .ok (.aload_n 0, 1) := by decide +kernel
theorem d_Automaton_reset_17 : decode b_Automaton_reset 17 = .ok (.getfield 18, 3) := by decide +kernel
theorem d_Automaton_reset_20 : decode b_Automaton_reset 20 = .ok (.iload_n 2, 1) := by decide +kernel
theorem d_Automaton_reset_21 : decode b_Automaton_reset 21 = .ok (.iconst (-1), 1) := by decide +kernel
theorem d_Automaton_reset_22 : decode b_Automaton_reset 22 = .ok (.iastore, 1) := by decide +kernel
theorem d_Automaton_reset_23 : decode b_Automaton_reset 23 = .ok (.iinc 2 1, 3) := by decide +kernel
theorem d_Automaton_reset_26 : decode b_Automaton_reset 26 = .ok (.goto (-19), 3) := by decide +kernel
theorem d_Automaton_reset_29 : decode b_Automaton_reset 29 = .ok (.return_, 1) := by decide +kernel
theorem d_Automaton_hasState_0 : decode b_Automaton_hasState 0 = .ok (.iload_n 1, 1) := by decide +kernel
theorem d_Automaton_hasState_1 : decode b_Automaton_hasState 1 = .ok (.ifCond .lt 15, 3) := by decide +kernel
theorem d_Automaton_hasState_4 : decode b_Automaton_hasState 4 = .ok (.iload_n 1, 1) := by decide +kernel
theorem d_Automaton_hasState_5 : decode b_Automaton_hasState 5 = .ok (.aload_n 0, 1) := by decide +kernel
theorem d_Automaton_hasState_6 : decode b_Automaton_hasState 6 = .ok (.getfield 25, 3) := by decide +kernel
theorem d_Automaton_hasState_9 : decode b_Automaton_hasState 9 = .ok (.if_icmp .ge 7, 3) := by decide +kernel
theorem d_Automaton_hasState_12 : decode b_Automaton_hasState 12 = .ok (.iconst 1, 1) := by decide +kernel
theorem d_Automaton_hasState_13 : decode b_Automaton_hasState 13 = .ok (.goto 4, 3) := by decide +kernel
theorem d_Automaton_hasState_16 : decode b_Automaton_hasState 16 = .ok (.iconst 0, 1) := by decide +kernel
theorem d_Automaton_hasState_17 : decode b_Automaton_hasState 17 = .ok (.ireturn, 1) := by decide +kernel
theorem d_Automaton_setRule_0 : decode b_Automaton_setRule 0 = .ok (.aload_n 0, 1) := by decide +kernel
theorem d_Automaton_setRule_1 : decode b_Automaton_setRule 1 = .ok (.getfield 9, 3) := by decide +kernel
theorem d_Automaton_setRule_4 : decode b_Automaton_setRule 4 = .ok (.iload_n 1, 1) := by decide +kernel
theorem d_Automaton_setRule_5 : decode b_Automaton_setRule 5 = .ok (.iload_n 2, 1) := by decide +kernel
theorem d_Automaton_setRule_6 : decode b_Automaton_setRule 6 = .ok (.iastore, 1) := by decide +kernel
theorem d_Automaton_setRule_7 : decode b_Automaton_setRule 7 = .ok (.aload_n 0, 1) := by decide +kernel
theorem d_Automaton_setRule_8 : decode b_Automaton_setRule 8 = .ok (.getfield 15, 3) := by decide +kernel
theorem d_Automaton_setRule_11 : decode b_Automaton_setRule 11 = .ok (.iload_n 1, 1) := by decide +kernel
theorem d_Automaton_setRule_12 : decode b_Automaton_setRule 12 = .ok (.iload_n 3, 1) := by decide +kernel
theorem d_Automaton_setRule_13 : decode b_Automaton_setRule 13 = .ok (.iastore, 1) := by decide +kernel
theorem d_Automaton_setRule_14 : decode b_Automaton_setRule 14 = .ok (.aload_n 0, 1) := by decide +kernel
theorem d_Automaton_setRule_15 : decode b_Automaton_setRule 15 = .ok (.getfield 18, 3) := by decide +kernel
theorem d_Automaton_setRule_18 : decode b_Automaton_setRule 18 = .ok (.iload_n 1, 1) := by decide +kernel
theorem d_Automaton_setRule_19 : decode b_Automaton_setRule 19 = .ok (.iload 4, 2) := by decide +kernel
theorem d_Automaton_setRule_21 : decode b_Automaton_setRule 21 = .ok (.iastore, 1) := by decide +kernel
theorem d_Automaton_setRule_22 : decode b_Automaton_setRule 22 = .ok (.return_, 1) := by decide +kernel
theorem d_Automaton_hasRule_0 : decode b_Automaton_hasRule 0 = .ok (.aload_n 0, 1) := by decide +kernel
theorem d_Automaton_hasRule_1 : decode b_Automaton_hasRule 1 = .ok (.getfield 18, 3) := by decide +kernel
theorem d_Automaton_hasRule_4 : decode b_Automaton_hasRule 4 = .ok (.iload_n 1, 1) := by decide +kernel
theorem d_Automaton_hasRule_5 : decode b_Automaton_hasRule 5 = .ok (.iaload, 1) := by decide +kernel
theorem d_Automaton_hasRule_6 : decode b_Automaton_hasRule 6 = .ok (.iconst (-1), 1) := by decide +kernel
theorem d_Automaton_hasRule_7 : decode b_Automaton_hasRule 7 = .ok (.if_icmp .eq 7, 3) := by decide +kernel
theorem d_Automaton_hasRule_10 : decode b_Automaton_hasRule 10 = .ok (.iconst 1, 1) := by decide +kernel
theorem d_Automaton_hasRule_11 : decode b_Automaton_hasRule 11 = .ok (.goto 4, 3) := by decide +kernel
theorem d_Automaton_hasRule_14 : decode b_Automaton_hasRule 14 = .ok (.iconst 0, 1) := by decide +kernel
theorem d_Automaton_hasRule_15 : decode b_Automaton_hasRule 15 = .ok (.ireturn, 1) := by decide +kernel
theorem d_Automaton_allows_0 : decode b_Automaton_allows 0 = .ok (.aload_n 0, 1) := by decide +kernel
theorem d_Automaton_allows_1 : decode b_Automaton_allows 1 = .ok (.iload_n 1, 1) := by decide +kernel
theorem d_Automaton_allows_2 : decode b_Automaton_allows 2 = .ok (.invokevirtual 29, 3) := by decide +kernel
theorem d_Automaton_allows_5 : decode b_Automaton_allows 5 = .ok (.ifCond .eq 27, 3) := by decide +kernel
theorem d_Automaton_allows_8 : decode b_Automaton_allows 8 = .ok (.aload_n 0, 1) := by decide +kernel
theorem d_Automaton_allows_9 : decode b_Automaton_allows 9 = .ok (.getfield 9, 3) := by decide +kernel
theorem d_Automaton_allows_12 : decode b_Automaton_allows 12 = .ok (.iload_n 1, 1) := by decide +kernel
theorem d_Automaton_allows_13 : decode b_Automaton_allows 13 = .ok (.iaload, 1) := by decide +kernel
theorem d_Automaton_allows_14 : decode b_Automaton_allows 14 = .ok (.iload_n 2, 1) := by decide +kernel
theorem d_Automaton_allows_15 : decode b_Automaton_allows 15 = .ok (.if_icmp .gt 17, 3) := by decide +kernel
theorem d_Automaton_allows_18 : decode b_Automaton_allows 18 = .ok (.iload_n 2, 1) := by decide +kernel
theorem d_Automaton_allows_19 : decode b_Automaton_allows 19 = .ok (.aload_n 0, 1) := by decide +kernel
theorem d_Automaton_allows_20 : decode b_Automaton_allows 20 = .ok (.getfield 15, 3) := by decide +kernel
theorem d_Automaton_allows_23 : decode b_Automaton_allows 23 = .ok (.iload_n 1, 1) := by decide +kernel
theorem d_Automaton_allows_24 : decode b_Automaton_allows 24 = .ok (.iaload, 1) := by decide +kernel
theorem d_Automaton_allows_25 : decode b_Automaton_allows 25 = .ok (.if_icmp .gt 7, 3) := by decide +kernel
theorem d_Automaton_allows_28 : decode b_Automaton_allows 28 = .ok (.iconst 1, 1) := by decide +kernel
theorem d_Automaton_allows_29 : decode b_Automaton_allows 29 = .ok (.goto 4, 3) := by decide +kernel
theorem d_Automaton_allows_32 : decode b_Automaton_allows 32 = .ok (.iconst 0, 1) := by decide +kernel
theorem d_Automaton_allows_33 : decode b_Automaton_allows 33 = .ok (.ireturn, 1) := by decide +kernel
theorem d_Automaton_countRules_0 : decode b_Automaton_countRules 0 = .ok (.iconst 0, 1) := by decide +kernel
theorem d_Automaton_countRules_1 : decode b_Automaton_countRules 1 = .ok (.istore_n 2, 1) := by decide +kernel
theorem d_Automaton_countRules_2 : decode b_Automaton_countRules 2 = .ok (.iconst 0, 1) := by decide +kernel
theorem d_Automaton_countRules_3 : decode b_Automaton_countRules 3 = .ok (.istore_n 3, 1) := by decide +kernel
theorem d_Automaton_countRules_4 : decode b_Automaton_countRules 4 = .ok (.iload_n 3, 1) := by decide +kernel
theorem d_Automaton_countRules_5 : decode b_Automaton_countRules 5 = .ok (.aload_n 0, 1) := by decide +kernel
theorem d_Automaton_countRules_6 : decode b_Automaton_countRules 6 = .ok (.getfield 25, 3) := by decide +kernel
theorem d_Automaton_countRules_9 : decode b_Automaton_countRules 9 = .ok (.if_icmp .ge 24, 3) := by decide +kernel
theorem d_Automaton_countRules_12 : decode b_Automaton_countRules 12 = .ok (.aload_n 0, 1) := by decide +kernel
theorem d_Automaton_countRules_13 : decode b_Automaton_countRules 13 = .ok (.iload_n 3, 1) := by decide +kernel
theorem d_Automaton_countRules_14 : decode b_Automaton_countRules 14 = .ok (.iload_n 1, 1) := by decide +kernel
theorem d_Automaton_countRules_15 : decode b_Automaton_countRules 15 = .ok (.invokestatic 33, 3) := by decide +kernel
theorem d_Automaton_countRules_18 : decode b_Automaton_countRules 18 = .ok (.invokevirtual 29, 3) := by decide +kernel
theorem d_Automaton_countRules_21 : decode b_Automaton_countRules 21 = .ok (.ifCond .eq 6, 3) := by decide +kernel
theorem d_Automaton_countRules_24 : decode b_Automaton_countRules 24 = .ok (.iinc 2 1, 3) := by decide +kernel
theorem d_Automaton_countRules_27 : decode b_Automaton_countRules 27 = .ok (.iinc 3 1, 3) := by decide +kernel
theorem d_Automaton_countRules_30 : decode b_Automaton_countRules 30 = .ok (.goto (-26), 3) := by decide +kernel
theorem d_Automaton_countRules_33 : decode b_Automaton_countRules 33 = .ok (.iload_n 2, 1) := by decide +kernel
theorem d_Automaton_countRules_34 : decode b_Automaton_countRules 34 = .ok (.ireturn, 1) := by decide +kernel
theorem d_Loom_goesElsewhere_0 : decode b_Loom_goesElsewhere 0 = .ok (.iload_n 0, 1) := by decide +kernel
theorem d_Loom_goesElsewhere_1 : decode b_Loom_goesElsewhere 1 = .ok (.bipush 7, 2) := by decide +kernel
theorem d_Loom_goesElsewhere_3 : decode b_Loom_goesElsewhere 3 = .ok (.if_icmp .eq 9, 3) := by decide +kernel
theorem d_Loom_goesElsewhere_6 : decode b_Loom_goesElsewhere 6 = .ok (.iload_n 0, 1) := by decide +kernel
theorem d_Loom_goesElsewhere_7 : decode b_Loom_goesElsewhere 7 = .ok (.bipush 8, 2) := by decide +kernel
theorem d_Loom_goesElsewhere_9 : decode b_Loom_goesElsewhere 9 = .ok (.if_icmp .ne 7, 3) := by decide +kernel
theorem d_Loom_goesElsewhere_12 : decode b_Loom_goesElsewhere 12 = .ok (.iconst 1, 1) := by decide +kernel
theorem d_Loom_goesElsewhere_13 : decode b_Loom_goesElsewhere 13 = .ok (.goto 4, 3) := by decide +kernel
theorem d_Loom_goesElsewhere_16 : decode b_Loom_goesElsewhere 16 = .ok (.iconst 0, 1) := by decide +kernel
theorem d_Loom_goesElsewhere_17 : decode b_Loom_goesElsewhere 17 = .ok (.ireturn, 1) := by decide +kernel
