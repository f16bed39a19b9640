/-! What the fields and calls of Listing, Automaton, Run, Weaver stand on. -/
set_option maxRecDepth 20000 in
theorem fw_Automaton_9 : fw classes R_Automaton 9 1 0 R_Automaton F_Automaton 4 := ⟨rfl, by decide, uw_Automaton, tg_mem 95 rfl rfl⟩
set_option maxRecDepth 20000 in
theorem fw_Automaton_15 : fw classes R_Automaton 15 1 1 R_Automaton F_Automaton 4 := ⟨rfl, by decide, uw_Automaton, tg_mem 97 rfl rfl⟩
set_option maxRecDepth 20000 in
theorem fw_Automaton_18 : fw classes R_Automaton 18 1 2 R_Automaton F_Automaton 4 := ⟨rfl, by decide, uw_Automaton, tg_mem 99 rfl rfl⟩
set_option maxRecDepth 20000 in
theorem fw_Automaton_25 : fw classes R_Automaton 25 1 3 R_Automaton F_Automaton 4 := ⟨rfl, by decide, uw_Automaton, tg_mem 102 rfl rfl⟩
set_option maxRecDepth 20000 in
theorem fw_Listing_7 : fw classes R_Listing 7 0 0 R_Listing F_Listing 3 := ⟨rfl, by decide, uw_Listing, tg_mem 63 rfl rfl⟩
set_option maxRecDepth 20000 in
theorem fw_Listing_13 : fw classes R_Listing 13 0 1 R_Listing F_Listing 3 := ⟨rfl, by decide, uw_Listing, tg_mem 68 rfl rfl⟩
set_option maxRecDepth 20000 in
theorem fw_Listing_16 : fw classes R_Listing 16 0 2 R_Listing F_Listing 3 := ⟨rfl, by decide, uw_Listing, tg_mem 73 rfl rfl⟩
set_option maxRecDepth 20000 in
theorem fw_Run_9 : fw classes R_Run 9 4 0 R_Run F_Run 10 := ⟨rfl, by decide, uw_Run, tg_mem 156 rfl rfl⟩
set_option maxRecDepth 20000 in
theorem fw_Run_15 : fw classes R_Run 15 4 1 R_Run F_Run 10 := ⟨rfl, by decide, uw_Run, tg_mem 157 rfl rfl⟩
set_option maxRecDepth 20000 in
theorem fw_Run_18 : fw classes R_Run 18 4 2 R_Run F_Run 10 := ⟨rfl, by decide, uw_Run, tg_mem 159 rfl rfl⟩
set_option maxRecDepth 20000 in
theorem fw_Run_21 : fw classes R_Run 21 4 3 R_Run F_Run 10 := ⟨rfl, by decide, uw_Run, tg_mem 161 rfl rfl⟩
set_option maxRecDepth 20000 in
theorem fw_Run_24 : fw classes R_Run 24 4 5 R_Run F_Run 10 := ⟨rfl, by decide, uw_Run, tg_mem 165 rfl rfl⟩
set_option maxRecDepth 20000 in
theorem fw_Run_28 : fw classes R_Run 28 4 4 R_Run F_Run 10 := ⟨rfl, by decide, uw_Run, tg_mem 163 rfl rfl⟩
set_option maxRecDepth 20000 in
theorem fw_Run_31 : fw classes R_Run 31 4 6 R_Run F_Run 10 := ⟨rfl, by decide, uw_Run, tg_mem 167 rfl rfl⟩
set_option maxRecDepth 20000 in
theorem fw_Run_34 : fw classes R_Run 34 4 7 R_Run F_Run 10 := ⟨rfl, by decide, uw_Run, tg_mem 169 rfl rfl⟩
set_option maxRecDepth 20000 in
theorem fw_Run_37 : fw classes R_Run 37 4 8 R_Run F_Run 10 := ⟨rfl, by decide, uw_Run, tg_mem 171 rfl rfl⟩
set_option maxRecDepth 20000 in
theorem fw_Run_40 : fw classes R_Run 40 4 9 R_Run F_Run 10 := ⟨rfl, by decide, uw_Run, tg_mem 172 rfl rfl⟩
set_option maxRecDepth 20000 in
theorem fw_Run_43 : fw classes R_Run 43 0 0 R_Listing F_Listing 3 := ⟨rfl, by decide, uw_Listing, tg_mem 66 rfl rfl⟩
set_option maxRecDepth 20000 in
theorem fw_Run_48 : fw classes R_Run 48 0 1 R_Listing F_Listing 3 := ⟨rfl, by decide, uw_Listing, tg_mem 71 rfl rfl⟩
set_option maxRecDepth 20000 in
theorem fw_Run_72 : fw classes R_Run 72 1 2 R_Automaton F_Automaton 4 := ⟨rfl, by decide, uw_Automaton, tg_mem 100 rfl rfl⟩
set_option maxRecDepth 20000 in
theorem fw_Weaver_14 : fw classes R_Weaver 14 3 0 R_Weaver F_Weaver 2 := ⟨rfl, by decide, uw_Weaver, tg_mem 142 rfl rfl⟩
set_option maxRecDepth 20000 in
theorem fw_Weaver_20 : fw classes R_Weaver 20 3 1 R_Weaver F_Weaver 2 := ⟨rfl, by decide, uw_Weaver, tg_mem 144 rfl rfl⟩
set_option maxRecDepth 20000 in
theorem fw_Weaver_28 : fw classes R_Weaver 28 0 2 R_Listing F_Listing 3 := ⟨rfl, by decide, uw_Listing, tg_mem 75 rfl rfl⟩
set_option maxRecDepth 20000 in
theorem fw_Weaver_32 : fw classes R_Weaver 32 0 0 R_Listing F_Listing 3 := ⟨rfl, by decide, uw_Listing, tg_mem 64 rfl rfl⟩
set_option maxRecDepth 20000 in
theorem fw_Weaver_35 : fw classes R_Weaver 35 0 1 R_Listing F_Listing 3 := ⟨rfl, by decide, uw_Listing, tg_mem 69 rfl rfl⟩
set_option maxRecDepth 20000 in
theorem fw_Weaver_60 : fw classes R_Weaver 60 1 3 R_Automaton F_Automaton 4 := ⟨rfl, by decide, uw_Automaton, tg_mem 103 rfl rfl⟩
set_option maxRecDepth 20000 in
theorem fw_Weaver_71 : fw classes R_Weaver 71 1 0 R_Automaton F_Automaton 4 := ⟨rfl, by decide, uw_Automaton, tg_mem 96 rfl rfl⟩
set_option maxRecDepth 20000 in
theorem fw_Weaver_74 : fw classes R_Weaver 74 1 1 R_Automaton F_Automaton 4 := ⟨rfl, by decide, uw_Automaton, tg_mem 98 rfl rfl⟩
set_option maxRecDepth 20000 in
theorem fw_Weaver_81 : fw classes R_Weaver 81 1 2 R_Automaton F_Automaton 4 := ⟨rfl, by decide, uw_Automaton, tg_mem 101 rfl rfl⟩
set_option maxRecDepth 20000 in
theorem ob_Automaton_3 : ckO R_Automaton 3 := ⟨tg_mem 90 rfl rfl, tg_mem 55 rfl rfl, tg_mem 56 rfl rfl⟩
set_option maxRecDepth 20000 in
theorem ck_Automaton_21 : ckV R_Automaton 21 y_Automaton_reset b_Automaton_reset 3 none 1 := ⟨tg_mem 91 rfl rfl, tg_mem 92 rfl rfl, tg_mem 93 rfl rfl, tg_mem 38 rfl rfl, tg_mem 94 rfl rfl, ⟨by decide, by decide, by decide +kernel⟩⟩
set_option maxRecDepth 20000 in
theorem ck_Automaton_29 : ckV R_Automaton 29 y_Automaton_hasRule b_Automaton_hasRule 2 (some (Jvm.ClassFile.FieldType.boolean)) 1 := ⟨tg_mem 449 rfl rfl, tg_mem 450 rfl rfl, tg_mem 451 rfl rfl, tg_mem 38 rfl rfl, tg_mem 452 rfl rfl, ⟨by decide, by decide, by decide +kernel⟩⟩
set_option maxRecDepth 20000 in
theorem ck_Automaton_33 : ckS R_Automaton 33 y_Automaton_place b_Automaton_place 2 (some (Jvm.ClassFile.FieldType.int)) 2 := ⟨tg_mem 448 rfl rfl, tg_mem 387 rfl rfl, tg_mem 38 rfl rfl, tg_mem 388 rfl rfl, ⟨by decide, by decide, by decide +kernel⟩⟩
set_option maxRecDepth 20000 in
theorem ob_Listing_1 : ckO R_Listing 1 := ⟨tg_mem 62 rfl rfl, tg_mem 55 rfl rfl, tg_mem 56 rfl rfl⟩
set_option maxRecDepth 20000 in
theorem ob_Run_3 : ckO R_Run 3 := ⟨tg_mem 155 rfl rfl, tg_mem 55 rfl rfl, tg_mem 56 rfl rfl⟩
set_option maxRecDepth 20000 in
theorem ck_Run_51 : ckV R_Run 51 y_Run_pop b_Run_pop 1 (some (Jvm.ClassFile.FieldType.int)) 0 := ⟨tg_mem 505 rfl rfl, tg_mem 507 rfl rfl, tg_mem 14 rfl rfl, tg_mem 41 rfl rfl, tg_mem 508 rfl rfl, ⟨by decide, by decide, by decide +kernel⟩⟩
set_option maxRecDepth 20000 in
theorem ck_Run_55 : ckV R_Run 55 y_Run_tryAct b_Run_tryAct 5 none 2 := ⟨tg_mem 509 rfl rfl, tg_mem 511 rfl rfl, tg_mem 15 rfl rfl, tg_mem 41 rfl rfl, tg_mem 512 rfl rfl, ⟨by decide, by decide, by decide +kernel⟩⟩
set_option maxRecDepth 20000 in
theorem ck_Run_59 : ckV R_Run 59 y_Run_work b_Run_work 3 none 2 := ⟨tg_mem 518 rfl rfl, tg_mem 520 rfl rfl, tg_mem 16 rfl rfl, tg_mem 41 rfl rfl, tg_mem 521 rfl rfl, ⟨by decide, by decide, by decide +kernel⟩⟩
set_option maxRecDepth 20000 in
theorem ck_Run_63 : ckS R_Run 63 y_Automaton_place b_Automaton_place 2 (some (Jvm.ClassFile.FieldType.int)) 2 := ⟨tg_mem 513 rfl rfl, tg_mem 387 rfl rfl, tg_mem 38 rfl rfl, tg_mem 388 rfl rfl, ⟨by decide, by decide, by decide +kernel⟩⟩
set_option maxRecDepth 20000 in
theorem ck_Run_68 : ckV R_Run 68 y_Automaton_allows b_Automaton_allows 3 (some (Jvm.ClassFile.FieldType.boolean)) 2 := ⟨tg_mem 514 rfl rfl, tg_mem 515 rfl rfl, tg_mem 516 rfl rfl, tg_mem 38 rfl rfl, tg_mem 517 rfl rfl, ⟨by decide, by decide, by decide +kernel⟩⟩
set_option maxRecDepth 20000 in
theorem ck_Run_75 : ckV R_Run 75 y_Run_push b_Run_push 2 none 1 := ⟨tg_mem 522 rfl rfl, tg_mem 524 rfl rfl, tg_mem 17 rfl rfl, tg_mem 41 rfl rfl, tg_mem 525 rfl rfl, ⟨by decide, by decide, by decide +kernel⟩⟩
set_option maxRecDepth 20000 in
theorem ck_Run_79 : ckV R_Run 79 y_Run_workOnTwo b_Run_workOnTwo 4 none 1 := ⟨tg_mem 526 rfl rfl, tg_mem 528 rfl rfl, tg_mem 18 rfl rfl, tg_mem 41 rfl rfl, tg_mem 529 rfl rfl, ⟨by decide, by decide, by decide +kernel⟩⟩
set_option maxRecDepth 20000 in
theorem ob_Weaver_3 : ckO R_Weaver 3 := ⟨tg_mem 139 rfl rfl, tg_mem 55 rfl rfl, tg_mem 56 rfl rfl⟩
set_option maxRecDepth 20000 in
theorem ck_Weaver_11 : ckI R_Weaver 11 y_Listing_init b_Listing_init 2 1 := ⟨tg_mem 141 rfl rfl, tg_mem 60 rfl rfl, tg_mem 37 rfl rfl, tg_mem 61 rfl rfl, rfl, ⟨by decide, by decide, by decide +kernel⟩⟩
set_option maxRecDepth 20000 in
theorem ck_Weaver_24 : ckV R_Weaver 24 y_Weaver_findFirsts b_Weaver_findFirsts 5 none 2 := ⟨tg_mem 437 rfl rfl, tg_mem 439 rfl rfl, tg_mem 9 rfl rfl, tg_mem 40 rfl rfl, tg_mem 440 rfl rfl, ⟨by decide, by decide, by decide +kernel⟩⟩
set_option maxRecDepth 20000 in
theorem ck_Weaver_38 : ckV R_Weaver 38 y_Weaver_appendGuard b_Weaver_appendGuard 6 none 2 := ⟨tg_mem 453 rfl rfl, tg_mem 455 rfl rfl, tg_mem 10 rfl rfl, tg_mem 40 rfl rfl, tg_mem 456 rfl rfl, ⟨by decide, by decide, by decide +kernel⟩⟩
set_option maxRecDepth 20000 in
theorem ck_Weaver_46 : ckV R_Weaver 46 y_Listing_append b_Listing_append 3 none 2 := ⟨tg_mem 463 rfl rfl, tg_mem 360 rfl rfl, tg_mem 361 rfl rfl, tg_mem 37 rfl rfl, tg_mem 362 rfl rfl, ⟨by decide, by decide, by decide +kernel⟩⟩
set_option maxRecDepth 20000 in
theorem ck_Weaver_50 : ckS R_Weaver 50 y_Weaver_guardLength b_Weaver_guardLength 2 (some (Jvm.ClassFile.FieldType.int)) 2 := ⟨tg_mem 441 rfl rfl, tg_mem 442 rfl rfl, tg_mem 40 rfl rfl, tg_mem 443 rfl rfl, ⟨by decide, by decide, by decide +kernel⟩⟩
set_option maxRecDepth 20000 in
theorem ck_Weaver_54 : ckV R_Weaver 54 y_Automaton_countRules b_Automaton_countRules 4 (some (Jvm.ClassFile.FieldType.int)) 1 := ⟨tg_mem 444 rfl rfl, tg_mem 445 rfl rfl, tg_mem 446 rfl rfl, tg_mem 38 rfl rfl, tg_mem 447 rfl rfl, ⟨by decide, by decide, by decide +kernel⟩⟩
set_option maxRecDepth 20000 in
theorem ck_Weaver_61 : ckS R_Weaver 61 y_Automaton_place b_Automaton_place 2 (some (Jvm.ClassFile.FieldType.int)) 2 := ⟨tg_mem 457 rfl rfl, tg_mem 387 rfl rfl, tg_mem 38 rfl rfl, tg_mem 388 rfl rfl, ⟨by decide, by decide, by decide +kernel⟩⟩
set_option maxRecDepth 20000 in
theorem ck_Weaver_65 : ckV R_Weaver 65 y_Automaton_hasRule b_Automaton_hasRule 2 (some (Jvm.ClassFile.FieldType.boolean)) 1 := ⟨tg_mem 458 rfl rfl, tg_mem 450 rfl rfl, tg_mem 451 rfl rfl, tg_mem 38 rfl rfl, tg_mem 452 rfl rfl, ⟨by decide, by decide, by decide +kernel⟩⟩
set_option maxRecDepth 20000 in
theorem ck_Weaver_68 : ckV R_Weaver 68 y_Weaver_appendStateCheck b_Weaver_appendStateCheck 3 none 2 := ⟨tg_mem 459 rfl rfl, tg_mem 461 rfl rfl, tg_mem 11 rfl rfl, tg_mem 40 rfl rfl, tg_mem 462 rfl rfl, ⟨by decide, by decide, by decide +kernel⟩⟩
set_option maxRecDepth 20000 in
theorem ck_Weaver_77 : ckV R_Weaver 77 y_Weaver_appendRangeCheck b_Weaver_appendRangeCheck 4 none 3 := ⟨tg_mem 464 rfl rfl, tg_mem 466 rfl rfl, tg_mem 12 rfl rfl, tg_mem 40 rfl rfl, tg_mem 467 rfl rfl, ⟨by decide, by decide, by decide +kernel⟩⟩
set_option maxRecDepth 20000 in
theorem ck_Weaver_84 : ckV R_Weaver 84 y_Weaver_appendMove b_Weaver_appendMove 3 none 2 := ⟨tg_mem 468 rfl rfl, tg_mem 470 rfl rfl, tg_mem 13 rfl rfl, tg_mem 40 rfl rfl, tg_mem 471 rfl rfl, ⟨by decide, by decide, by decide +kernel⟩⟩
