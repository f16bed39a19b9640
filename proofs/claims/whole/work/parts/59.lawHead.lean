/-! What the law's own methods stand on. -/
set_option maxRecDepth 20000 in
theorem xl_13 : Cond.classLink R_Law 13 iaeS ∈ TG := tg_mem 269 rfl rfl
set_option maxRecDepth 20000 in
theorem xl_15 : Cond.classLink R_Law 15 iobS ∈ TG := tg_mem 270 rfl rfl
set_option maxRecDepth 20000 in
theorem xl_29 : Cond.classLink R_Law 29 iseS ∈ TG := tg_mem 396 rfl rfl
set_option maxRecDepth 20000 in
theorem xb_iaeS : Cond.castable iaeS iaeS ∈ badX := List.mem_of_getElem? (i := 0) rfl
set_option maxRecDepth 20000 in
theorem xb_iobS : Cond.castable iobS iobS ∈ badX := List.mem_of_getElem? (i := 7) rfl
set_option maxRecDepth 20000 in
theorem xb_iseS : Cond.castable iseS iseS ∈ badX := List.mem_of_getElem? (i := 8) rfl
abbrev hh_Law_code : List (Nat × Nat × Nat × Nat) := [(0, 10, 13, 13), (0, 10, 17, 15)]
set_option maxRecDepth 20000 in
theorem ck_Law_59 : ckH R_Law 59 y_Law_code b_Law_code 5 hh_Law_code 4 := ⟨tg_mem 266 rfl rfl, tg_mem 267 rfl rfl, tg_mem 35 rfl rfl, tg_mem 268 rfl rfl, ⟨by decide, by decide, by decide +kernel⟩⟩
abbrev hh_Law_states : List (Nat × Nat × Nat × Nat) := [(0, 5, 8, 13)]
set_option maxRecDepth 20000 in
theorem ck_Law_72 : ckH R_Law 72 y_Law_states b_Law_states 3 hh_Law_states 2 := ⟨tg_mem 363 rfl rfl, tg_mem 364 rfl rfl, tg_mem 35 rfl rfl, tg_mem 365 rfl rfl, ⟨by decide, by decide, by decide +kernel⟩⟩
abbrev hh_Law_rule : List (Nat × Nat × Nat × Nat) := [(0, 11, 14, 13)]
set_option maxRecDepth 20000 in
theorem ck_Law_76 : ckH R_Law 76 y_Law_rule b_Law_rule 7 hh_Law_rule 6 := ⟨tg_mem 372 rfl rfl, tg_mem 373 rfl rfl, tg_mem 35 rfl rfl, tg_mem 374 rfl rfl, ⟨by decide, by decide, by decide +kernel⟩⟩
abbrev hh_Law_height : List (Nat × Nat × Nat × Nat) := [(0, 9, 12, 29), (0, 9, 15, 15)]
set_option maxRecDepth 20000 in
theorem ck_Law_85 : ckH R_Law 85 y_Law_height b_Law_height 4 hh_Law_height 3 := ⟨tg_mem 393 rfl rfl, tg_mem 394 rfl rfl, tg_mem 35 rfl rfl, tg_mem 395 rfl rfl, ⟨by decide, by decide, by decide +kernel⟩⟩
abbrev hh_Law_enforce : List (Nat × Nat × Nat × Nat) := [(0, 8, 11, 29)]
set_option maxRecDepth 20000 in
theorem ck_Law_89 : ckH R_Law 89 y_Law_enforce b_Law_enforce 3 hh_Law_enforce 2 := ⟨tg_mem 422 rfl rfl, tg_mem 423 rfl rfl, tg_mem 35 rfl rfl, tg_mem 424 rfl rfl, ⟨by decide, by decide, by decide +kernel⟩⟩
abbrev hh_Law_enforced : List (Nat × Nat × Nat × Nat) := [(0, 10, 13, 29), (0, 10, 17, 15)]
set_option maxRecDepth 20000 in
theorem ck_Law_93 : ckH R_Law 93 y_Law_enforced b_Law_enforced 5 hh_Law_enforced 4 := ⟨tg_mem 473 rfl rfl, tg_mem 474 rfl rfl, tg_mem 35 rfl rfl, tg_mem 475 rfl rfl, ⟨by decide, by decide, by decide +kernel⟩⟩
abbrev hh_Law_start : List (Nat × Nat × Nat × Nat) := [(0, 6, 9, 29), (0, 6, 12, 13)]
set_option maxRecDepth 20000 in
theorem ck_Law_97 : ckH R_Law 97 y_Law_start b_Law_start 4 hh_Law_start 3 := ⟨tg_mem 480 rfl rfl, tg_mem 481 rfl rfl, tg_mem 35 rfl rfl, tg_mem 482 rfl rfl, ⟨by decide, by decide, by decide +kernel⟩⟩
abbrev hh_Law_step : List (Nat × Nat × Nat × Nat) := [(0, 9, 12, 29), (0, 9, 15, 13)]
set_option maxRecDepth 20000 in
theorem ck_Law_101 : ckH R_Law 101 y_Law_step b_Law_step 4 hh_Law_step 3 := ⟨tg_mem 492 rfl rfl, tg_mem 493 rfl rfl, tg_mem 35 rfl rfl, tg_mem 494 rfl rfl, ⟨by decide, by decide, by decide +kernel⟩⟩
abbrev hh_Law_look : List (Nat × Nat × Nat × Nat) := [(0, 9, 12, 13)]
set_option maxRecDepth 20000 in
theorem ck_Law_104 : ckH R_Law 104 y_Law_look b_Law_look 4 hh_Law_look 3 := ⟨tg_mem 530 rfl rfl, tg_mem 531 rfl rfl, tg_mem 35 rfl rfl, tg_mem 532 rfl rfl, ⟨by decide, by decide, by decide +kernel⟩⟩
abbrev hh_Law_act : List (Nat × Nat × Nat × Nat) := [(0, 10, 13, 15)]
set_option maxRecDepth 20000 in
theorem ck_Law_107 : ckH R_Law 107 y_Law_act b_Law_act 5 hh_Law_act 4 := ⟨tg_mem 542 rfl rfl, tg_mem 543 rfl rfl, tg_mem 35 rfl rfl, tg_mem 544 rfl rfl, ⟨by decide, by decide, by decide +kernel⟩⟩
abbrev hh_Law_cell1 : List (Nat × Nat × Nat × Nat) := [(0, 9, 12, 15)]
set_option maxRecDepth 20000 in
theorem ck_Law_110 : ckH R_Law 110 y_Law_cell1 b_Law_cell1 4 hh_Law_cell1 3 := ⟨tg_mem 550 rfl rfl, tg_mem 551 rfl rfl, tg_mem 35 rfl rfl, tg_mem 552 rfl rfl, ⟨by decide, by decide, by decide +kernel⟩⟩
theorem in14_nI {j : Nat} (h1 : 1 ≤ j) (h2 : j ≤ 4) : in14 (nI j) = true := by
  simp only [in14, decide_eq_true_eq, nI_toInt (show j < 2 ^ 31 by omega)]; omega
/-! Decode rows of the law's methods. -/
theorem d_Law_code_0 : decode b_Law_code 0 = .ok (.aload_n 3, 1) := by decide +kernel
theorem d_Law_code_1 : decode b_Law_code 1 = .ok (.iconst 0, 1) := by decide +kernel
theorem d_Law_code_2 : decode b_Law_code 2 = .ok (.aload_n 0, 1) := by decide +kernel
theorem d_Law_code_3 : decode b_Law_code 3 = .ok (.iload_n 1, 1) := by decide +kernel
theorem d_Law_code_4 : decode b_Law_code 4 = .ok (.iload_n 2, 1) := by decide +kernel
theorem d_Law_code_5 : decode b_Law_code 5 = .ok (.invokevirtual 7, 3) := by decide +kernel
theorem d_Law_code_8 : decode b_Law_code 8 = .ok (.i2l, 1) := by decide +kernel
theorem d_Law_code_9 : decode b_Law_code 9 = .ok (.lastore, 1) := by decide +kernel
theorem d_Law_code_10 : decode b_Law_code 10 = .ok (.goto 11, 3) := by decide +kernel
theorem d_Law_code_13 : decode b_Law_code 13 = .ok (.astore 4, 2) := by decide +kernel
theorem d_Law_code_15 : decode b_Law_code 15 = .ok (.iconst 1, 1) := by decide +kernel
theorem d_Law_code_16 : decode b_Law_code 16 = .ok (.ireturn, 1) := by decide +kernel
theorem d_Law_code_17 : decode b_Law_code 17 = .ok (.astore 4, 2) := by decide +kernel
theorem d_Law_code_19 : decode b_Law_code 19 = .ok (.iconst 2, 1) := by decide +kernel
theorem d_Law_code_20 : decode b_Law_code 20 = .ok (.ireturn, 1) := by decide +kernel
theorem d_Law_code_21 : decode b_Law_code 21 = .ok (.iconst 0, 1) := by decide +kernel
theorem d_Law_code_22 : decode b_Law_code 22 = .ok (.ireturn, 1) := by decide +kernel
theorem d_Law_states_0 : decode b_Law_states 0 = .ok (.aload_n 0, 1) := by decide +kernel
theorem d_Law_states_1 : decode b_Law_states 1 = .ok (.iload_n 1, 1) := by decide +kernel
theorem d_Law_states_2 : decode b_Law_states 2 = .ok (.invokevirtual 17, 3) := by decide +kernel
theorem d_Law_states_5 : decode b_Law_states 5 = .ok (.goto 6, 3) := by decide +kernel
theorem d_Law_states_8 : decode b_Law_states 8 = .ok (.astore_n 2, 1) := by decide +kernel
theorem d_Law_states_9 : decode b_Law_states 9 = .ok (.iconst 1, 1) := by decide +kernel
theorem d_Law_states_10 : decode b_Law_states 10 = .ok (.ireturn, 1) := by decide +kernel
theorem d_Law_states_11 : decode b_Law_states 11 = .ok (.iconst 0, 1) := by decide +kernel
theorem d_Law_states_12 : decode b_Law_states 12 = .ok (.ireturn, 1) := by decide +kernel
theorem d_Law_rule_0 : decode b_Law_rule 0 = .ok (.aload_n 0, 1) := by decide +kernel
theorem d_Law_rule_1 : decode b_Law_rule 1 = .ok (.iload_n 1, 1) := by decide +kernel
theorem d_Law_rule_2 : decode b_Law_rule 2 = .ok (.iload_n 2, 1) := by decide +kernel
theorem d_Law_rule_3 : decode b_Law_rule 3 = .ok (.iload_n 3, 1) := by decide +kernel
theorem d_Law_rule_4 : decode b_Law_rule 4 = .ok (.iload 4, 2) := by decide +kernel
theorem d_Law_rule_6 : decode b_Law_rule 6 = .ok (.iload 5, 2) := by decide +kernel
theorem d_Law_rule_8 : decode b_Law_rule 8 = .ok (.invokevirtual 21, 3) := by decide +kernel
theorem d_Law_rule_11 : decode b_Law_rule 11 = .ok (.goto 7, 3) := by decide +kernel
theorem d_Law_rule_14 : decode b_Law_rule 14 = .ok (.astore 6, 2) := by decide +kernel
theorem d_Law_rule_16 : decode b_Law_rule 16 = .ok (.iconst 1, 1) := by decide +kernel
theorem d_Law_rule_17 : decode b_Law_rule 17 = .ok (.ireturn, 1) := by decide +kernel
theorem d_Law_rule_18 : decode b_Law_rule 18 = .ok (.iconst 0, 1) := by decide +kernel
theorem d_Law_rule_19 : decode b_Law_rule 19 = .ok (.ireturn, 1) := by decide +kernel
theorem d_Law_height_0 : decode b_Law_height 0 = .ok (.aload_n 2, 1) := by decide +kernel
theorem d_Law_height_1 : decode b_Law_height 1 = .ok (.iconst 0, 1) := by decide +kernel
theorem d_Law_height_2 : decode b_Law_height 2 = .ok (.aload_n 0, 1) := by decide +kernel
theorem d_Law_height_3 : decode b_Law_height 3 = .ok (.iload_n 1, 1) := by decide +kernel
theorem d_Law_height_4 : decode b_Law_height 4 = .ok (.invokevirtual 25, 3) := by decide +kernel
theorem d_Law_height_7 : decode b_Law_height 7 = .ok (.i2l, 1) := by decide +kernel
theorem d_Law_height_8 : decode b_Law_height 8 = .ok (.lastore, 1) := by decide +kernel
theorem d_Law_height_9 : decode b_Law_height 9 = .ok (.goto 9, 3) := by decide +kernel
theorem d_Law_height_12 : decode b_Law_height 12 = .ok (.astore_n 3, 1) := by decide +kernel
theorem d_Law_height_13 : decode b_Law_height 13 = .ok (.iconst 1, 1) := by decide +kernel
theorem d_Law_height_14 : decode b_Law_height 14 = .ok (.ireturn, 1) := by decide +kernel
theorem d_Law_height_15 : decode b_Law_height 15 = .ok (.astore_n 3, 1) := by decide +kernel
theorem d_Law_height_16 : decode b_Law_height 16 = .ok (.iconst 2, 1) := by decide +kernel
theorem d_Law_height_17 : decode b_Law_height 17 = .ok (.ireturn, 1) := by decide +kernel
theorem d_Law_height_18 : decode b_Law_height 18 = .ok (.iconst 0, 1) := by decide +kernel
theorem d_Law_height_19 : decode b_Law_height 19 = .ok (.ireturn, 1) := by decide +kernel
theorem d_Law_enforce_0 : decode b_Law_enforce 0 = .ok (.aload_n 1, 1) := by decide +kernel
theorem d_Law_enforce_1 : decode b_Law_enforce 1 = .ok (.iconst 0, 1) := by decide +kernel
theorem d_Law_enforce_2 : decode b_Law_enforce 2 = .ok (.aload_n 0, 1) := by decide +kernel
theorem d_Law_enforce_3 : decode b_Law_enforce 3 = .ok (.invokevirtual 31, 3) := by decide +kernel
theorem d_Law_enforce_6 : decode b_Law_enforce 6 = .ok (.i2l, 1) := by decide +kernel
theorem d_Law_enforce_7 : decode b_Law_enforce 7 = .ok (.lastore, 1) := by decide +kernel
theorem d_Law_enforce_8 : decode b_Law_enforce 8 = .ok (.goto 6, 3) := by decide +kernel
theorem d_Law_enforce_11 : decode b_Law_enforce 11 = .ok (.astore_n 2, 1) := by decide +kernel
theorem d_Law_enforce_12 : decode b_Law_enforce 12 = .ok (.iconst 1, 1) := by decide +kernel
theorem d_Law_enforce_13 : decode b_Law_enforce 13 = .ok (.ireturn, 1) := by decide +kernel
theorem d_Law_enforce_14 : decode b_Law_enforce 14 = .ok (.iconst 0, 1) := by decide +kernel
theorem d_Law_enforce_15 : decode b_Law_enforce 15 = .ok (.ireturn, 1) := by decide +kernel
theorem d_Law_enforced_0 : decode b_Law_enforced 0 = .ok (.aload_n 3, 1) := by decide +kernel
theorem d_Law_enforced_1 : decode b_Law_enforced 1 = .ok (.iconst 0, 1) := by decide +kernel
theorem d_Law_enforced_2 : decode b_Law_enforced 2 = .ok (.aload_n 0, 1) := by decide +kernel
theorem d_Law_enforced_3 : decode b_Law_enforced 3 = .ok (.iload_n 1, 1) := by decide +kernel
theorem d_Law_enforced_4 : decode b_Law_enforced 4 = .ok (.iload_n 2, 1) := by decide +kernel
theorem d_Law_enforced_5 : decode b_Law_enforced 5 = .ok (.invokevirtual 35, 3) := by decide +kernel
theorem d_Law_enforced_8 : decode b_Law_enforced 8 = .ok (.i2l, 1) := by decide +kernel
theorem d_Law_enforced_9 : decode b_Law_enforced 9 = .ok (.lastore, 1) := by decide +kernel
theorem d_Law_enforced_10 : decode b_Law_enforced 10 = .ok (.goto 11, 3) := by decide +kernel
theorem d_Law_enforced_13 : decode b_Law_enforced 13 = .ok (.astore 4, 2) := by decide +kernel
theorem d_Law_enforced_15 : decode b_Law_enforced 15 = .ok (.iconst 1, 1) := by decide +kernel
theorem d_Law_enforced_16 : decode b_Law_enforced 16 = .ok (.ireturn, 1) := by decide +kernel
theorem d_Law_enforced_17 : decode b_Law_enforced 17 = .ok (.astore 4, 2) := by decide +kernel
theorem d_Law_enforced_19 : decode b_Law_enforced 19 = .ok (.iconst 2, 1) := by decide +kernel
theorem d_Law_enforced_20 : decode b_Law_enforced 20 = .ok (.ireturn, 1) := by decide +kernel
theorem d_Law_enforced_21 : decode b_Law_enforced 21 = .ok (.iconst 0, 1) := by decide +kernel
theorem d_Law_enforced_22 : decode b_Law_enforced 22 = .ok (.ireturn, 1) := by decide +kernel
theorem d_Law_start_0 : decode b_Law_start 0 = .ok (.aload_n 0, 1) := by decide +kernel
theorem d_Law_start_1 : decode b_Law_start 1 = .ok (.iload_n 1, 1) := by decide +kernel
theorem d_Law_start_2 : decode b_Law_start 2 = .ok (.iload_n 2, 1) := by decide +kernel
theorem d_Law_start_3 : decode b_Law_start 3 = .ok (.invokevirtual 39, 3) := by decide +kernel
theorem d_Law_start_6 : decode b_Law_start 6 = .ok (.goto 9, 3) := by decide +kernel
theorem d_Law_start_9 : decode b_Law_start 9 = .ok (.astore_n 3, 1) := by decide +kernel
theorem d_Law_start_10 : decode b_Law_start 10 = .ok (.iconst 1, 1) := by decide +kernel
theorem d_Law_start_11 : decode b_Law_start 11 = .ok (.ireturn, 1) := by decide +kernel
theorem d_Law_start_12 : decode b_Law_start 12 = .ok (.astore_n 3, 1) := by decide +kernel
theorem d_Law_start_13 : decode b_Law_start 13 = .ok (.iconst 2, 1) := by decide +kernel
theorem d_Law_start_14 : decode b_Law_start 14 = .ok (.ireturn, 1) := by decide +kernel
theorem d_Law_start_15 : decode b_Law_start 15 = .ok (.iconst 0, 1) := by decide +kernel
theorem d_Law_start_16 : decode b_Law_start 16 = .ok (.ireturn, 1) := by decide +kernel
theorem d_Law_look_0 : decode b_Law_look 0 = .ok (.aload_n 2, 1) := by decide +kernel
theorem d_Law_look_1 : decode b_Law_look 1 = .ok (.iconst 0, 1) := by decide +kernel
theorem d_Law_look_2 : decode b_Law_look 2 = .ok (.aload_n 0, 1) := by decide +kernel
theorem d_Law_look_3 : decode b_Law_look 3 = .ok (.iload_n 1, 1) := by decide +kernel
theorem d_Law_look_4 : decode b_Law_look 4 = .ok (.invokevirtual 46, 3) := by decide +kernel
theorem d_Law_look_7 : decode b_Law_look 7 = .ok (.i2l, 1) := by decide +kernel
theorem d_Law_look_8 : decode b_Law_look 8 = .ok (.lastore, 1) := by decide +kernel
theorem d_Law_look_9 : decode b_Law_look 9 = .ok (.goto 6, 3) := by decide +kernel
theorem d_Law_look_12 : decode b_Law_look 12 = .ok (.astore_n 3, 1) := by decide +kernel
theorem d_Law_look_13 : decode b_Law_look 13 = .ok (.iconst 1, 1) := by decide +kernel
theorem d_Law_look_14 : decode b_Law_look 14 = .ok (.ireturn, 1) := by decide +kernel
theorem d_Law_look_15 : decode b_Law_look 15 = .ok (.iconst 0, 1) := by decide +kernel
theorem d_Law_look_16 : decode b_Law_look 16 = .ok (.ireturn, 1) := by decide +kernel
theorem d_Law_act_0 : decode b_Law_act 0 = .ok (.aload_n 3, 1) := by decide +kernel
theorem d_Law_act_1 : decode b_Law_act 1 = .ok (.iconst 0, 1) := by decide +kernel
theorem d_Law_act_2 : decode b_Law_act 2 = .ok (.aload_n 0, 1) := by decide +kernel
theorem d_Law_act_3 : decode b_Law_act 3 = .ok (.iload_n 1, 1) := by decide +kernel
theorem d_Law_act_4 : decode b_Law_act 4 = .ok (.iload_n 2, 1) := by decide +kernel
theorem d_Law_act_5 : decode b_Law_act 5 = .ok (.invokevirtual 49, 3) := by decide +kernel
theorem d_Law_act_8 : decode b_Law_act 8 = .ok (.i2l, 1) := by decide +kernel
theorem d_Law_act_9 : decode b_Law_act 9 = .ok (.lastore, 1) := by decide +kernel
theorem d_Law_act_10 : decode b_Law_act 10 = .ok (.goto 7, 3) := by decide +kernel
theorem d_Law_act_13 : decode b_Law_act 13 = .ok (.astore 4, 2) := by decide +kernel
theorem d_Law_act_15 : decode b_Law_act 15 = .ok (.iconst 1, 1) := by decide +kernel
theorem d_Law_act_16 : decode b_Law_act 16 = .ok (.ireturn, 1) := by decide +kernel
theorem d_Law_act_17 : decode b_Law_act 17 = .ok (.iconst 0, 1) := by decide +kernel
theorem d_Law_act_18 : decode b_Law_act 18 = .ok (.ireturn, 1) := by decide +kernel
theorem d_Law_cell1_0 : decode b_Law_cell1 0 = .ok (.aload_n 2, 1) := by decide +kernel
theorem d_Law_cell1_1 : decode b_Law_cell1 1 = .ok (.iconst 0, 1) := by decide +kernel
theorem d_Law_cell1_2 : decode b_Law_cell1 2 = .ok (.aload_n 0, 1) := by decide +kernel
theorem d_Law_cell1_3 : decode b_Law_cell1 3 = .ok (.iload_n 1, 1) := by decide +kernel
theorem d_Law_cell1_4 : decode b_Law_cell1 4 = .ok (.invokevirtual 52, 3) := by decide +kernel
theorem d_Law_cell1_7 : decode b_Law_cell1 7 = .ok (.i2l, 1) := by decide +kernel
theorem d_Law_cell1_8 : decode b_Law_cell1 8 = .ok (.lastore, 1) := by decide +kernel
theorem d_Law_cell1_9 : decode b_Law_cell1 9 = .ok (.goto 6, 3) := by decide +kernel
theorem d_Law_cell1_12 : decode b_Law_cell1 12 = .ok (.astore_n 3, 1) := by decide +kernel
theorem d_Law_cell1_13 : decode b_Law_cell1 13 = .ok (.iconst 1, 1) := by decide +kernel
theorem d_Law_cell1_14 : decode b_Law_cell1 14 = .ok (.ireturn, 1) := by decide +kernel
theorem d_Law_cell1_15 : decode b_Law_cell1 15 = .ok (.iconst 0, 1) := by decide +kernel
theorem d_Law_cell1_16 : decode b_Law_cell1 16 = .ok (.ireturn, 1) := by decide +kernel
theorem d_Law_step_0 : decode b_Law_step 0 = .ok (.aload_n 2, 1) := by decide +kernel
theorem d_Law_step_1 : decode b_Law_step 1 = .ok (.iconst 0, 1) := by decide +kernel
theorem d_Law_step_2 : decode b_Law_step 2 = .ok (.aload_n 0, 1) := by decide +kernel
theorem d_Law_step_3 : decode b_Law_step 3 = .ok (.iload_n 1, 1) := by decide +kernel
theorem d_Law_step_4 : decode b_Law_step 4 = .ok (.invokevirtual 43, 3) := by decide +kernel
theorem d_Law_step_7 : decode b_Law_step 7 = .ok (.i2l, 1) := by decide +kernel
theorem d_Law_step_8 : decode b_Law_step 8 = .ok (.lastore, 1) := by decide +kernel
theorem d_Law_step_9 : decode b_Law_step 9 = .ok (.goto 9, 3) := by decide +kernel
theorem d_Law_step_12 : decode b_Law_step 12 = .ok (.astore_n 3, 1) := by decide +kernel
theorem d_Law_step_13 : decode b_Law_step 13 = .ok (.iconst 1, 1) := by decide +kernel
theorem d_Law_step_14 : decode b_Law_step 14 = .ok (.ireturn, 1) := by decide +kernel
theorem d_Law_step_15 : decode b_Law_step 15 = .ok (.astore_n 3, 1) := by decide +kernel
theorem d_Law_step_16 : decode b_Law_step 16 = .ok (.iconst 2, 1) := by decide +kernel
theorem d_Law_step_17 : decode b_Law_step 17 = .ok (.ireturn, 1) := by decide +kernel
theorem d_Law_step_18 : decode b_Law_step 18 = .ok (.iconst 0, 1) := by decide +kernel
theorem d_Law_step_19 : decode b_Law_step 19 = .ok (.ireturn, 1) := by decide +kernel
