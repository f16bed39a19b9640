/-! What the fields and calls of Listing, Automaton, Run, Weaver, Heights, Loom, Model, Law stand on. -/
set_option maxRecDepth 20000 in
theorem fw_Loom_14 : fw classes R_Loom 14 5 0 R_Loom F_Loom 7 := ⟨rfl, by decide, uw_Loom, tg_mem 195 rfl rfl⟩
set_option maxRecDepth 20000 in
theorem fw_Loom_21 : fw classes R_Loom 21 5 1 R_Loom F_Loom 7 := ⟨rfl, by decide, uw_Loom, tg_mem 196 rfl rfl⟩
set_option maxRecDepth 20000 in
theorem fw_Loom_28 : fw classes R_Loom 28 5 2 R_Loom F_Loom 7 := ⟨rfl, by decide, uw_Loom, tg_mem 197 rfl rfl⟩
set_option maxRecDepth 20000 in
theorem fw_Loom_35 : fw classes R_Loom 35 5 3 R_Loom F_Loom 7 := ⟨rfl, by decide, uw_Loom, tg_mem 198 rfl rfl⟩
set_option maxRecDepth 20000 in
theorem fw_Loom_42 : fw classes R_Loom 42 5 4 R_Loom F_Loom 7 := ⟨rfl, by decide, uw_Loom, tg_mem 199 rfl rfl⟩
set_option maxRecDepth 20000 in
theorem fw_Loom_46 : fw classes R_Loom 46 5 5 R_Loom F_Loom 7 := ⟨rfl, by decide, uw_Loom, tg_mem 200 rfl rfl⟩
set_option maxRecDepth 20000 in
theorem fw_Loom_50 : fw classes R_Loom 50 5 6 R_Loom F_Loom 7 := ⟨rfl, by decide, uw_Loom, tg_mem 201 rfl rfl⟩
set_option maxRecDepth 20000 in
theorem fw_Loom_60 : fw classes R_Loom 60 0 2 R_Listing F_Listing 3 := ⟨rfl, by decide, uw_Listing, tg_mem 76 rfl rfl⟩
set_option maxRecDepth 20000 in
theorem fw_Loom_111 : fw classes R_Loom 111 2 0 R_Heights F_Heights 4 := ⟨rfl, by decide, uw_Heights, tg_mem 120 rfl rfl⟩
set_option maxRecDepth 20000 in
theorem fw_Loom_119 : fw classes R_Loom 119 0 1 R_Listing F_Listing 3 := ⟨rfl, by decide, uw_Listing, tg_mem 72 rfl rfl⟩
set_option maxRecDepth 20000 in
theorem fw_Loom_122 : fw classes R_Loom 122 0 0 R_Listing F_Listing 3 := ⟨rfl, by decide, uw_Listing, tg_mem 67 rfl rfl⟩
set_option maxRecDepth 20000 in
theorem fw_Loom_130 : fw classes R_Loom 130 4 5 R_Run F_Run 10 := ⟨rfl, by decide, uw_Run, tg_mem 166 rfl rfl⟩
set_option maxRecDepth 20000 in
theorem fw_Loom_140 : fw classes R_Loom 140 4 4 R_Run F_Run 10 := ⟨rfl, by decide, uw_Run, tg_mem 164 rfl rfl⟩
set_option maxRecDepth 20000 in
theorem fw_Loom_149 : fw classes R_Loom 149 4 6 R_Run F_Run 10 := ⟨rfl, by decide, uw_Run, tg_mem 168 rfl rfl⟩
set_option maxRecDepth 20000 in
theorem fw_Loom_151 : fw classes R_Loom 151 4 7 R_Run F_Run 10 := ⟨rfl, by decide, uw_Run, tg_mem 170 rfl rfl⟩
set_option maxRecDepth 20000 in
theorem fw_Loom_158 : fw classes R_Loom 158 4 9 R_Run F_Run 10 := ⟨rfl, by decide, uw_Run, tg_mem 173 rfl rfl⟩
set_option maxRecDepth 20000 in
theorem fw_Loom_163 : fw classes R_Loom 163 4 3 R_Run F_Run 10 := ⟨rfl, by decide, uw_Run, tg_mem 162 rfl rfl⟩
set_option maxRecDepth 20000 in
theorem fw_Loom_166 : fw classes R_Loom 166 4 2 R_Run F_Run 10 := ⟨rfl, by decide, uw_Run, tg_mem 160 rfl rfl⟩
set_option maxRecDepth 20000 in
theorem fw_Loom_171 : fw classes R_Loom 171 4 1 R_Run F_Run 10 := ⟨rfl, by decide, uw_Run, tg_mem 158 rfl rfl⟩
set_option maxRecDepth 20000 in
theorem fw_Loom_178 : fw classes R_Loom 178 2 3 R_Heights F_Heights 4 := ⟨rfl, by decide, uw_Heights, tg_mem 124 rfl rfl⟩
set_option maxRecDepth 20000 in
theorem fw_Loom_186 : fw classes R_Loom 186 3 0 R_Weaver F_Weaver 2 := ⟨rfl, by decide, uw_Weaver, tg_mem 143 rfl rfl⟩
set_option maxRecDepth 20000 in
theorem fw_Automaton_9 : fw classes R_Automaton 9 1 0 R_Automaton F_Automaton 4 := ⟨rfl, by decide, uw_Automaton, tg_mem 95 rfl rfl⟩
set_option maxRecDepth 20000 in
theorem fw_Automaton_15 : fw classes R_Automaton 15 1 1 R_Automaton F_Automaton 4 := ⟨rfl, by decide, uw_Automaton, tg_mem 97 rfl rfl⟩
set_option maxRecDepth 20000 in
theorem fw_Automaton_18 : fw classes R_Automaton 18 1 2 R_Automaton F_Automaton 4 := ⟨rfl, by decide, uw_Automaton, tg_mem 99 rfl rfl⟩
set_option maxRecDepth 20000 in
theorem fw_Automaton_25 : fw classes R_Automaton 25 1 3 R_Automaton F_Automaton 4 := ⟨rfl, by decide, uw_Automaton, tg_mem 102 rfl rfl⟩
set_option maxRecDepth 20000 in
theorem fw_Heights_9 : fw classes R_Heights 9 2 0 R_Heights F_Heights 4 := ⟨rfl, by decide, uw_Heights, tg_mem 119 rfl rfl⟩
set_option maxRecDepth 20000 in
theorem fw_Heights_15 : fw classes R_Heights 15 2 1 R_Heights F_Heights 4 := ⟨rfl, by decide, uw_Heights, tg_mem 121 rfl rfl⟩
set_option maxRecDepth 20000 in
theorem fw_Heights_18 : fw classes R_Heights 18 2 2 R_Heights F_Heights 4 := ⟨rfl, by decide, uw_Heights, tg_mem 122 rfl rfl⟩
set_option maxRecDepth 20000 in
theorem fw_Heights_22 : fw classes R_Heights 22 2 3 R_Heights F_Heights 4 := ⟨rfl, by decide, uw_Heights, tg_mem 123 rfl rfl⟩
set_option maxRecDepth 20000 in
theorem fw_Heights_26 : fw classes R_Heights 26 0 2 R_Listing F_Listing 3 := ⟨rfl, by decide, uw_Listing, tg_mem 74 rfl rfl⟩
set_option maxRecDepth 20000 in
theorem fw_Heights_38 : fw classes R_Heights 38 0 0 R_Listing F_Listing 3 := ⟨rfl, by decide, uw_Listing, tg_mem 65 rfl rfl⟩
set_option maxRecDepth 20000 in
theorem fw_Heights_41 : fw classes R_Heights 41 0 1 R_Listing F_Listing 3 := ⟨rfl, by decide, uw_Listing, tg_mem 70 rfl rfl⟩
set_option maxRecDepth 20000 in
theorem fs_Heights_56 : Cond.fieldLink R_Heights 56 "PolicyLoom$Heights" "TAKES" "[I" ∈ TG := tg_mem 259 rfl rfl
set_option maxRecDepth 20000 in
theorem fs_Heights_59 : Cond.fieldLink R_Heights 59 "PolicyLoom$Heights" "LEAVES" "[I" ∈ TG := tg_mem 261 rfl rfl
set_option maxRecDepth 20000 in
theorem fw_Listing_7 : fw classes R_Listing 7 0 0 R_Listing F_Listing 3 := ⟨rfl, by decide, uw_Listing, tg_mem 63 rfl rfl⟩
set_option maxRecDepth 20000 in
theorem fw_Listing_13 : fw classes R_Listing 13 0 1 R_Listing F_Listing 3 := ⟨rfl, by decide, uw_Listing, tg_mem 68 rfl rfl⟩
set_option maxRecDepth 20000 in
theorem fw_Listing_16 : fw classes R_Listing 16 0 2 R_Listing F_Listing 3 := ⟨rfl, by decide, uw_Listing, tg_mem 73 rfl rfl⟩
set_option maxRecDepth 20000 in
theorem fw_Run_9 : fw classes R_Run 9 4 0 R_Run F_Run 10 := ⟨rfl, by decide, uw_Run, tg_mem 156 rfl rfl⟩
set_option maxRecDepth 20000 in
theorem fw_Run_15 : fw classes R_Run 15 4 1 R_Run F_Run 10 := ⟨rfl, by decide, uw_Run, tg_mem 157 rfl rfl⟩
set_option maxRecDepth 20000 in
theorem fw_Run_18 : fw classes R_Run 18 4 2 R_Run F_Run 10 := ⟨rfl, by decide, uw_Run, tg_mem 159 rfl rfl⟩
set_option maxRecDepth 20000 in
theorem fw_Run_21 : fw classes R_Run 21 4 3 R_Run F_Run 10 := ⟨rfl, by decide, uw_Run, tg_mem 161 rfl rfl⟩
set_option maxRecDepth 20000 in
theorem fw_Run_24 : fw classes R_Run 24 4 5 R_Run F_Run 10 := ⟨rfl, by decide, uw_Run, tg_mem 165 rfl rfl⟩
set_option maxRecDepth 20000 in
theorem fw_Run_28 : fw classes R_Run 28 4 4 R_Run F_Run 10 := ⟨rfl, by decide, uw_Run, tg_mem 163 rfl rfl⟩
set_option maxRecDepth 20000 in
theorem fw_Run_31 : fw classes R_Run 31 4 6 R_Run F_Run 10 := ⟨rfl, by decide, uw_Run, tg_mem 167 rfl rfl⟩
set_option maxRecDepth 20000 in
theorem fw_Run_34 : fw classes R_Run 34 4 7 R_Run F_Run 10 := ⟨rfl, by decide, uw_Run, tg_mem 169 rfl rfl⟩
set_option maxRecDepth 20000 in
theorem fw_Run_37 : fw classes R_Run 37 4 8 R_Run F_Run 10 := ⟨rfl, by decide, uw_Run, tg_mem 171 rfl rfl⟩
set_option maxRecDepth 20000 in
theorem fw_Run_40 : fw classes R_Run 40 4 9 R_Run F_Run 10 := ⟨rfl, by decide, uw_Run, tg_mem 172 rfl rfl⟩
set_option maxRecDepth 20000 in
theorem fw_Run_43 : fw classes R_Run 43 0 0 R_Listing F_Listing 3 := ⟨rfl, by decide, uw_Listing, tg_mem 66 rfl rfl⟩
set_option maxRecDepth 20000 in
theorem fw_Run_48 : fw classes R_Run 48 0 1 R_Listing F_Listing 3 := ⟨rfl, by decide, uw_Listing, tg_mem 71 rfl rfl⟩
set_option maxRecDepth 20000 in
theorem fw_Run_72 : fw classes R_Run 72 1 2 R_Automaton F_Automaton 4 := ⟨rfl, by decide, uw_Automaton, tg_mem 100 rfl rfl⟩
set_option maxRecDepth 20000 in
theorem fw_Weaver_14 : fw classes R_Weaver 14 3 0 R_Weaver F_Weaver 2 := ⟨rfl, by decide, uw_Weaver, tg_mem 142 rfl rfl⟩
set_option maxRecDepth 20000 in
theorem fw_Weaver_20 : fw classes R_Weaver 20 3 1 R_Weaver F_Weaver 2 := ⟨rfl, by decide, uw_Weaver, tg_mem 144 rfl rfl⟩
set_option maxRecDepth 20000 in
theorem fw_Weaver_28 : fw classes R_Weaver 28 0 2 R_Listing F_Listing 3 := ⟨rfl, by decide, uw_Listing, tg_mem 75 rfl rfl⟩
set_option maxRecDepth 20000 in
theorem fw_Weaver_32 : fw classes R_Weaver 32 0 0 R_Listing F_Listing 3 := ⟨rfl, by decide, uw_Listing, tg_mem 64 rfl rfl⟩
set_option maxRecDepth 20000 in
theorem fw_Weaver_35 : fw classes R_Weaver 35 0 1 R_Listing F_Listing 3 := ⟨rfl, by decide, uw_Listing, tg_mem 69 rfl rfl⟩
set_option maxRecDepth 20000 in
theorem fw_Weaver_60 : fw classes R_Weaver 60 1 3 R_Automaton F_Automaton 4 := ⟨rfl, by decide, uw_Automaton, tg_mem 103 rfl rfl⟩
set_option maxRecDepth 20000 in
theorem fw_Weaver_71 : fw classes R_Weaver 71 1 0 R_Automaton F_Automaton 4 := ⟨rfl, by decide, uw_Automaton, tg_mem 96 rfl rfl⟩
set_option maxRecDepth 20000 in
theorem fw_Weaver_74 : fw classes R_Weaver 74 1 1 R_Automaton F_Automaton 4 := ⟨rfl, by decide, uw_Automaton, tg_mem 98 rfl rfl⟩
set_option maxRecDepth 20000 in
theorem fw_Weaver_81 : fw classes R_Weaver 81 1 2 R_Automaton F_Automaton 4 := ⟨rfl, by decide, uw_Automaton, tg_mem 101 rfl rfl⟩
set_option maxRecDepth 20000 in
theorem fw_Model_7 : fw classes R_Model 7 6 2 R_Model F_Model 23 := ⟨rfl, by decide, uw_Model, tg_mem 566 rfl rfl⟩
set_option maxRecDepth 20000 in
theorem fw_Model_13 : fw classes R_Model 13 6 3 R_Model F_Model 23 := ⟨rfl, by decide, uw_Model, tg_mem 567 rfl rfl⟩
set_option maxRecDepth 20000 in
theorem fw_Model_16 : fw classes R_Model 16 6 4 R_Model F_Model 23 := ⟨rfl, by decide, uw_Model, tg_mem 568 rfl rfl⟩
set_option maxRecDepth 20000 in
theorem fw_Model_19 : fw classes R_Model 19 6 5 R_Model F_Model 23 := ⟨rfl, by decide, uw_Model, tg_mem 569 rfl rfl⟩
set_option maxRecDepth 20000 in
theorem fw_Model_23 : fw classes R_Model 23 6 6 R_Model F_Model 23 := ⟨rfl, by decide, uw_Model, tg_mem 570 rfl rfl⟩
set_option maxRecDepth 20000 in
theorem fw_Model_27 : fw classes R_Model 27 6 7 R_Model F_Model 23 := ⟨rfl, by decide, uw_Model, tg_mem 571 rfl rfl⟩
set_option maxRecDepth 20000 in
theorem fw_Model_30 : fw classes R_Model 30 6 8 R_Model F_Model 23 := ⟨rfl, by decide, uw_Model, tg_mem 572 rfl rfl⟩
set_option maxRecDepth 20000 in
theorem fw_Model_33 : fw classes R_Model 33 6 9 R_Model F_Model 23 := ⟨rfl, by decide, uw_Model, tg_mem 573 rfl rfl⟩
set_option maxRecDepth 20000 in
theorem fw_Model_36 : fw classes R_Model 36 6 18 R_Model F_Model 23 := ⟨rfl, by decide, uw_Model, tg_mem 582 rfl rfl⟩
set_option maxRecDepth 20000 in
theorem fw_Model_39 : fw classes R_Model 39 6 19 R_Model F_Model 23 := ⟨rfl, by decide, uw_Model, tg_mem 583 rfl rfl⟩
set_option maxRecDepth 20000 in
theorem fw_Model_42 : fw classes R_Model 42 6 21 R_Model F_Model 23 := ⟨rfl, by decide, uw_Model, tg_mem 585 rfl rfl⟩
set_option maxRecDepth 20000 in
theorem fw_Model_45 : fw classes R_Model 45 6 22 R_Model F_Model 23 := ⟨rfl, by decide, uw_Model, tg_mem 586 rfl rfl⟩
set_option maxRecDepth 20000 in
theorem fw_Model_48 : fw classes R_Model 48 6 0 R_Model F_Model 23 := ⟨rfl, by decide, uw_Model, tg_mem 564 rfl rfl⟩
set_option maxRecDepth 20000 in
theorem fw_Model_55 : fw classes R_Model 55 6 1 R_Model F_Model 23 := ⟨rfl, by decide, uw_Model, tg_mem 565 rfl rfl⟩
set_option maxRecDepth 20000 in
theorem fw_Model_58 : fw classes R_Model 58 6 12 R_Model F_Model 23 := ⟨rfl, by decide, uw_Model, tg_mem 576 rfl rfl⟩
set_option maxRecDepth 20000 in
theorem fw_Model_91 : fw classes R_Model 91 6 10 R_Model F_Model 23 := ⟨rfl, by decide, uw_Model, tg_mem 574 rfl rfl⟩
set_option maxRecDepth 20000 in
theorem fw_Model_94 : fw classes R_Model 94 6 11 R_Model F_Model 23 := ⟨rfl, by decide, uw_Model, tg_mem 575 rfl rfl⟩
set_option maxRecDepth 20000 in
theorem fw_Model_112 : fw classes R_Model 112 6 13 R_Model F_Model 23 := ⟨rfl, by decide, uw_Model, tg_mem 577 rfl rfl⟩
set_option maxRecDepth 20000 in
theorem fw_Model_115 : fw classes R_Model 115 6 14 R_Model F_Model 23 := ⟨rfl, by decide, uw_Model, tg_mem 578 rfl rfl⟩
set_option maxRecDepth 20000 in
theorem fw_Model_118 : fw classes R_Model 118 6 15 R_Model F_Model 23 := ⟨rfl, by decide, uw_Model, tg_mem 579 rfl rfl⟩
set_option maxRecDepth 20000 in
theorem fw_Model_121 : fw classes R_Model 121 6 16 R_Model F_Model 23 := ⟨rfl, by decide, uw_Model, tg_mem 580 rfl rfl⟩
set_option maxRecDepth 20000 in
theorem fw_Model_124 : fw classes R_Model 124 6 17 R_Model F_Model 23 := ⟨rfl, by decide, uw_Model, tg_mem 581 rfl rfl⟩
set_option maxRecDepth 20000 in
theorem fw_Model_127 : fw classes R_Model 127 6 20 R_Model F_Model 23 := ⟨rfl, by decide, uw_Model, tg_mem 584 rfl rfl⟩
set_option maxRecDepth 20000 in
theorem ob_Loom_3 : ckO R_Loom 3 := ⟨tg_mem 54 rfl rfl, tg_mem 55 rfl rfl, tg_mem 56 rfl rfl⟩
set_option maxRecDepth 20000 in
theorem ck_Loom_11 : ckI R_Loom 11 y_Listing_init b_Listing_init 2 1 := ⟨tg_mem 59 rfl rfl, tg_mem 60 rfl rfl, tg_mem 37 rfl rfl, tg_mem 61 rfl rfl, rfl, ⟨by decide, by decide, by decide +kernel⟩⟩
set_option maxRecDepth 20000 in
theorem ck_Loom_20 : ckI R_Loom 20 y_Automaton_init b_Automaton_init 1 0 := ⟨tg_mem 87 rfl rfl, tg_mem 88 rfl rfl, tg_mem 38 rfl rfl, tg_mem 89 rfl rfl, rfl, ⟨by decide, by decide, by decide +kernel⟩⟩
set_option maxRecDepth 20000 in
theorem ck_Loom_27 : ckI R_Loom 27 y_Heights_init b_Heights_init 1 0 := ⟨tg_mem 115 rfl rfl, tg_mem 116 rfl rfl, tg_mem 39 rfl rfl, tg_mem 117 rfl rfl, rfl, ⟨by decide, by decide, by decide +kernel⟩⟩
set_option maxRecDepth 20000 in
theorem ck_Loom_34 : ckI R_Loom 34 y_Weaver_init b_Weaver_init 1 0 := ⟨tg_mem 136 rfl rfl, tg_mem 137 rfl rfl, tg_mem 40 rfl rfl, tg_mem 138 rfl rfl, rfl, ⟨by decide, by decide, by decide +kernel⟩⟩
set_option maxRecDepth 20000 in
theorem ck_Loom_41 : ckI R_Loom 41 y_Run_init b_Run_init 1 0 := ⟨tg_mem 152 rfl rfl, tg_mem 153 rfl rfl, tg_mem 41 rfl rfl, tg_mem 154 rfl rfl, rfl, ⟨by decide, by decide, by decide +kernel⟩⟩
set_option maxRecDepth 20000 in
theorem ck_Loom_69 : ckV R_Loom 69 y_Loom_forgetWhatHungOnProgram b_Loom_forgetWhatHungOnProgram 1 none 0 := ⟨tg_mem 221 rfl rfl, tg_mem 223 rfl rfl, tg_mem 0 rfl rfl, tg_mem 36 rfl rfl, tg_mem 224 rfl rfl, ⟨by decide, by decide, by decide +kernel⟩⟩
set_option maxRecDepth 20000 in
theorem ck_Loom_72 : ckV R_Loom 72 y_Listing_append b_Listing_append 3 none 2 := ⟨tg_mem 359 rfl rfl, tg_mem 360 rfl rfl, tg_mem 361 rfl rfl, tg_mem 37 rfl rfl, tg_mem 362 rfl rfl, ⟨by decide, by decide, by decide +kernel⟩⟩
set_option maxRecDepth 20000 in
theorem ck_Loom_78 : ckV R_Loom 78 y_Loom_forgetWhatHungOnAutomaton b_Loom_forgetWhatHungOnAutomaton 1 none 0 := ⟨tg_mem 225 rfl rfl, tg_mem 227 rfl rfl, tg_mem 1 rfl rfl, tg_mem 36 rfl rfl, tg_mem 228 rfl rfl, ⟨by decide, by decide, by decide +kernel⟩⟩
set_option maxRecDepth 20000 in
theorem ck_Loom_81 : ckV R_Loom 81 y_Automaton_reset b_Automaton_reset 3 none 1 := ⟨tg_mem 371 rfl rfl, tg_mem 92 rfl rfl, tg_mem 93 rfl rfl, tg_mem 38 rfl rfl, tg_mem 94 rfl rfl, ⟨by decide, by decide, by decide +kernel⟩⟩
set_option maxRecDepth 20000 in
theorem ck_Loom_84 : ckV R_Loom 84 y_Automaton_hasState b_Automaton_hasState 2 (some (Jvm.ClassFile.FieldType.boolean)) 1 := ⟨tg_mem 379 rfl rfl, tg_mem 380 rfl rfl, tg_mem 381 rfl rfl, tg_mem 38 rfl rfl, tg_mem 382 rfl rfl, ⟨by decide, by decide, by decide +kernel⟩⟩
set_option maxRecDepth 20000 in
theorem ck_Loom_94 : ckS R_Loom 94 y_Automaton_place b_Automaton_place 2 (some (Jvm.ClassFile.FieldType.int)) 2 := ⟨tg_mem 386 rfl rfl, tg_mem 387 rfl rfl, tg_mem 38 rfl rfl, tg_mem 388 rfl rfl, ⟨by decide, by decide, by decide +kernel⟩⟩
set_option maxRecDepth 20000 in
theorem ck_Loom_98 : ckV R_Loom 98 y_Automaton_setRule b_Automaton_setRule 5 none 4 := ⟨tg_mem 389 rfl rfl, tg_mem 390 rfl rfl, tg_mem 391 rfl rfl, tg_mem 38 rfl rfl, tg_mem 392 rfl rfl, ⟨by decide, by decide, by decide +kernel⟩⟩
set_option maxRecDepth 20000 in
theorem ck_Loom_102 : ckV R_Loom 102 y_Loom_isWellFormed b_Loom_isWellFormed 1 (some (Jvm.ClassFile.FieldType.boolean)) 0 := ⟨tg_mem 233 rfl rfl, tg_mem 235 rfl rfl, tg_mem 2 rfl rfl, tg_mem 36 rfl rfl, tg_mem 236 rfl rfl, ⟨by decide, by decide, by decide +kernel⟩⟩
set_option maxRecDepth 20000 in
theorem ck_Loom_106 : ckV R_Loom 106 y_Loom_requireWellFormed b_Loom_requireWellFormed 1 none 0 := ⟨tg_mem 401 rfl rfl, tg_mem 403 rfl rfl, tg_mem 7 rfl rfl, tg_mem 36 rfl rfl, tg_mem 404 rfl rfl, ⟨by decide, by decide, by decide +kernel⟩⟩
set_option maxRecDepth 20000 in
theorem ck_Loom_115 : ckV R_Loom 115 y_Loom_wovenListing b_Loom_wovenListing 1 (some ((Jvm.ClassFile.FieldType.object "PolicyLoom$Listing"))) 0 := ⟨tg_mem 429 rfl rfl, tg_mem 431 rfl rfl, tg_mem 8 rfl rfl, tg_mem 36 rfl rfl, tg_mem 432 rfl rfl, ⟨by decide, by decide, by decide +kernel⟩⟩
set_option maxRecDepth 20000 in
theorem ck_Loom_127 : ckV R_Loom 127 y_Run_begin b_Run_begin 4 none 2 := ⟨tg_mem 488 rfl rfl, tg_mem 489 rfl rfl, tg_mem 490 rfl rfl, tg_mem 41 rfl rfl, tg_mem 491 rfl rfl, ⟨by decide, by decide, by decide +kernel⟩⟩
set_option maxRecDepth 20000 in
theorem ck_Loom_143 : ckV R_Loom 143 y_Run_advance b_Run_advance 5 none 2 := ⟨tg_mem 501 rfl rfl, tg_mem 502 rfl rfl, tg_mem 503 rfl rfl, tg_mem 41 rfl rfl, tg_mem 504 rfl rfl, ⟨by decide, by decide, by decide +kernel⟩⟩
set_option maxRecDepth 20000 in
theorem ck_Loom_154 : ckV R_Loom 154 y_Run_policyState b_Run_policyState 1 (some (Jvm.ClassFile.FieldType.int)) 0 := ⟨tg_mem 538 rfl rfl, tg_mem 539 rfl rfl, tg_mem 540 rfl rfl, tg_mem 41 rfl rfl, tg_mem 541 rfl rfl, ⟨by decide, by decide, by decide +kernel⟩⟩
set_option maxRecDepth 20000 in
theorem ck_Loom_174 : ckV R_Loom 174 y_Heights_examine b_Heights_examine 2 none 1 := ⟨tg_mem 237 rfl rfl, tg_mem 238 rfl rfl, tg_mem 239 rfl rfl, tg_mem 39 rfl rfl, tg_mem 240 rfl rfl, ⟨by decide, by decide, by decide +kernel⟩⟩
set_option maxRecDepth 20000 in
theorem ck_Loom_183 : ckV R_Loom 183 y_Weaver_weave b_Weaver_weave 6 none 2 := ⟨tg_mem 433 rfl rfl, tg_mem 434 rfl rfl, tg_mem 435 rfl rfl, tg_mem 40 rfl rfl, tg_mem 436 rfl rfl, ⟨by decide, by decide, by decide +kernel⟩⟩
set_option maxRecDepth 20000 in
theorem ob_Automaton_3 : ckO R_Automaton 3 := ⟨tg_mem 90 rfl rfl, tg_mem 55 rfl rfl, tg_mem 56 rfl rfl⟩
set_option maxRecDepth 20000 in
theorem ck_Automaton_21 : ckV R_Automaton 21 y_Automaton_reset b_Automaton_reset 3 none 1 := ⟨tg_mem 91 rfl rfl, tg_mem 92 rfl rfl, tg_mem 93 rfl rfl, tg_mem 38 rfl rfl, tg_mem 94 rfl rfl, ⟨by decide, by decide, by decide +kernel⟩⟩
set_option maxRecDepth 20000 in
theorem ck_Automaton_29 : ckV R_Automaton 29 y_Automaton_hasRule b_Automaton_hasRule 2 (some (Jvm.ClassFile.FieldType.boolean)) 1 := ⟨tg_mem 449 rfl rfl, tg_mem 450 rfl rfl, tg_mem 451 rfl rfl, tg_mem 38 rfl rfl, tg_mem 452 rfl rfl, ⟨by decide, by decide, by decide +kernel⟩⟩
set_option maxRecDepth 20000 in
theorem ck_Automaton_33 : ckS R_Automaton 33 y_Automaton_place b_Automaton_place 2 (some (Jvm.ClassFile.FieldType.int)) 2 := ⟨tg_mem 448 rfl rfl, tg_mem 387 rfl rfl, tg_mem 38 rfl rfl, tg_mem 388 rfl rfl, ⟨by decide, by decide, by decide +kernel⟩⟩
set_option maxRecDepth 20000 in
theorem ob_Heights_3 : ckO R_Heights 3 := ⟨tg_mem 118 rfl rfl, tg_mem 55 rfl rfl, tg_mem 56 rfl rfl⟩
set_option maxRecDepth 20000 in
theorem ck_Heights_31 : ckS R_Heights 31 y_Heights_numbersFit b_Heights_numbersFit 2 (some (Jvm.ClassFile.FieldType.boolean)) 1 := ⟨tg_mem 241 rfl rfl, tg_mem 242 rfl rfl, tg_mem 39 rfl rfl, tg_mem 243 rfl rfl, ⟨by decide, by decide, by decide +kernel⟩⟩
set_option maxRecDepth 20000 in
theorem ck_Heights_35 : ckV R_Heights 35 y_Heights_heightsFit b_Heights_heightsFit 3 (some (Jvm.ClassFile.FieldType.boolean)) 1 := ⟨tg_mem 247 rfl rfl, tg_mem 249 rfl rfl, tg_mem 3 rfl rfl, tg_mem 39 rfl rfl, tg_mem 250 rfl rfl, ⟨by decide, by decide, by decide +kernel⟩⟩
set_option maxRecDepth 20000 in
theorem ck_Heights_44 : ckS R_Heights 44 y_Heights_numberFits b_Heights_numberFits 3 (some (Jvm.ClassFile.FieldType.boolean)) 3 := ⟨tg_mem 244 rfl rfl, tg_mem 245 rfl rfl, tg_mem 39 rfl rfl, tg_mem 246 rfl rfl, ⟨by decide, by decide, by decide +kernel⟩⟩
set_option maxRecDepth 20000 in
theorem ck_Heights_48 : ckV R_Heights 48 y_Heights_reach b_Heights_reach 4 (some (Jvm.ClassFile.FieldType.boolean)) 3 := ⟨tg_mem 251 rfl rfl, tg_mem 253 rfl rfl, tg_mem 4 rfl rfl, tg_mem 39 rfl rfl, tg_mem 254 rfl rfl, ⟨by decide, by decide, by decide +kernel⟩⟩
set_option maxRecDepth 20000 in
theorem ck_Heights_52 : ckV R_Heights 52 y_Heights_waysOnFit b_Heights_waysOnFit 6 (some (Jvm.ClassFile.FieldType.boolean)) 2 := ⟨tg_mem 255 rfl rfl, tg_mem 257 rfl rfl, tg_mem 5 rfl rfl, tg_mem 39 rfl rfl, tg_mem 258 rfl rfl, ⟨by decide, by decide, by decide +kernel⟩⟩
set_option maxRecDepth 20000 in
theorem ob_Listing_1 : ckO R_Listing 1 := ⟨tg_mem 62 rfl rfl, tg_mem 55 rfl rfl, tg_mem 56 rfl rfl⟩
set_option maxRecDepth 20000 in
theorem ob_Run_3 : ckO R_Run 3 := ⟨tg_mem 155 rfl rfl, tg_mem 55 rfl rfl, tg_mem 56 rfl rfl⟩
set_option maxRecDepth 20000 in
theorem ck_Run_51 : ckV R_Run 51 y_Run_pop b_Run_pop 1 (some (Jvm.ClassFile.FieldType.int)) 0 := ⟨tg_mem 505 rfl rfl, tg_mem 507 rfl rfl, tg_mem 14 rfl rfl, tg_mem 41 rfl rfl, tg_mem 508 rfl rfl, ⟨by decide, by decide, by decide +kernel⟩⟩
set_option maxRecDepth 20000 in
theorem ck_Run_55 : ckV R_Run 55 y_Run_tryAct b_Run_tryAct 5 none 2 := ⟨tg_mem 509 rfl rfl, tg_mem 511 rfl rfl, tg_mem 15 rfl rfl, tg_mem 41 rfl rfl, tg_mem 512 rfl rfl, ⟨by decide, by decide, by decide +kernel⟩⟩
set_option maxRecDepth 20000 in
theorem ck_Run_59 : ckV R_Run 59 y_Run_work b_Run_work 3 none 2 := ⟨tg_mem 518 rfl rfl, tg_mem 520 rfl rfl, tg_mem 16 rfl rfl, tg_mem 41 rfl rfl, tg_mem 521 rfl rfl, ⟨by decide, by decide, by decide +kernel⟩⟩
set_option maxRecDepth 20000 in
theorem ck_Run_63 : ckS R_Run 63 y_Automaton_place b_Automaton_place 2 (some (Jvm.ClassFile.FieldType.int)) 2 := ⟨tg_mem 513 rfl rfl, tg_mem 387 rfl rfl, tg_mem 38 rfl rfl, tg_mem 388 rfl rfl, ⟨by decide, by decide, by decide +kernel⟩⟩
set_option maxRecDepth 20000 in
theorem ck_Run_68 : ckV R_Run 68 y_Automaton_allows b_Automaton_allows 3 (some (Jvm.ClassFile.FieldType.boolean)) 2 := ⟨tg_mem 514 rfl rfl, tg_mem 515 rfl rfl, tg_mem 516 rfl rfl, tg_mem 38 rfl rfl, tg_mem 517 rfl rfl, ⟨by decide, by decide, by decide +kernel⟩⟩
set_option maxRecDepth 20000 in
theorem ck_Run_75 : ckV R_Run 75 y_Run_push b_Run_push 2 none 1 := ⟨tg_mem 522 rfl rfl, tg_mem 524 rfl rfl, tg_mem 17 rfl rfl, tg_mem 41 rfl rfl, tg_mem 525 rfl rfl, ⟨by decide, by decide, by decide +kernel⟩⟩
set_option maxRecDepth 20000 in
theorem ck_Run_79 : ckV R_Run 79 y_Run_workOnTwo b_Run_workOnTwo 4 none 1 := ⟨tg_mem 526 rfl rfl, tg_mem 528 rfl rfl, tg_mem 18 rfl rfl, tg_mem 41 rfl rfl, tg_mem 529 rfl rfl, ⟨by decide, by decide, by decide +kernel⟩⟩
set_option maxRecDepth 20000 in
theorem ob_Weaver_3 : ckO R_Weaver 3 := ⟨tg_mem 139 rfl rfl, tg_mem 55 rfl rfl, tg_mem 56 rfl rfl⟩
set_option maxRecDepth 20000 in
theorem ck_Weaver_11 : ckI R_Weaver 11 y_Listing_init b_Listing_init 2 1 := ⟨tg_mem 141 rfl rfl, tg_mem 60 rfl rfl, tg_mem 37 rfl rfl, tg_mem 61 rfl rfl, rfl, ⟨by decide, by decide, by decide +kernel⟩⟩
set_option maxRecDepth 20000 in
theorem ck_Weaver_24 : ckV R_Weaver 24 y_Weaver_findFirsts b_Weaver_findFirsts 5 none 2 := ⟨tg_mem 437 rfl rfl, tg_mem 439 rfl rfl, tg_mem 9 rfl rfl, tg_mem 40 rfl rfl, tg_mem 440 rfl rfl, ⟨by decide, by decide, by decide +kernel⟩⟩
set_option maxRecDepth 20000 in
theorem ck_Weaver_38 : ckV R_Weaver 38 y_Weaver_appendGuard b_Weaver_appendGuard 6 none 2 := ⟨tg_mem 453 rfl rfl, tg_mem 455 rfl rfl, tg_mem 10 rfl rfl, tg_mem 40 rfl rfl, tg_mem 456 rfl rfl, ⟨by decide, by decide, by decide +kernel⟩⟩
set_option maxRecDepth 20000 in
theorem ck_Weaver_46 : ckV R_Weaver 46 y_Listing_append b_Listing_append 3 none 2 := ⟨tg_mem 463 rfl rfl, tg_mem 360 rfl rfl, tg_mem 361 rfl rfl, tg_mem 37 rfl rfl, tg_mem 362 rfl rfl, ⟨by decide, by decide, by decide +kernel⟩⟩
set_option maxRecDepth 20000 in
theorem ck_Weaver_50 : ckS R_Weaver 50 y_Weaver_guardLength b_Weaver_guardLength 2 (some (Jvm.ClassFile.FieldType.int)) 2 := ⟨tg_mem 441 rfl rfl, tg_mem 442 rfl rfl, tg_mem 40 rfl rfl, tg_mem 443 rfl rfl, ⟨by decide, by decide, by decide +kernel⟩⟩
set_option maxRecDepth 20000 in
theorem ck_Weaver_54 : ckV R_Weaver 54 y_Automaton_countRules b_Automaton_countRules 4 (some (Jvm.ClassFile.FieldType.int)) 1 := ⟨tg_mem 444 rfl rfl, tg_mem 445 rfl rfl, tg_mem 446 rfl rfl, tg_mem 38 rfl rfl, tg_mem 447 rfl rfl, ⟨by decide, by decide, by decide +kernel⟩⟩
set_option maxRecDepth 20000 in
theorem ck_Weaver_61 : ckS R_Weaver 61 y_Automaton_place b_Automaton_place 2 (some (Jvm.ClassFile.FieldType.int)) 2 := ⟨tg_mem 457 rfl rfl, tg_mem 387 rfl rfl, tg_mem 38 rfl rfl, tg_mem 388 rfl rfl, ⟨by decide, by decide, by decide +kernel⟩⟩
set_option maxRecDepth 20000 in
theorem ck_Weaver_65 : ckV R_Weaver 65 y_Automaton_hasRule b_Automaton_hasRule 2 (some (Jvm.ClassFile.FieldType.boolean)) 1 := ⟨tg_mem 458 rfl rfl, tg_mem 450 rfl rfl, tg_mem 451 rfl rfl, tg_mem 38 rfl rfl, tg_mem 452 rfl rfl, ⟨by decide, by decide, by decide +kernel⟩⟩
set_option maxRecDepth 20000 in
theorem ck_Weaver_68 : ckV R_Weaver 68 y_Weaver_appendStateCheck b_Weaver_appendStateCheck 3 none 2 := ⟨tg_mem 459 rfl rfl, tg_mem 461 rfl rfl, tg_mem 11 rfl rfl, tg_mem 40 rfl rfl, tg_mem 462 rfl rfl, ⟨by decide, by decide, by decide +kernel⟩⟩
set_option maxRecDepth 20000 in
theorem ck_Weaver_77 : ckV R_Weaver 77 y_Weaver_appendRangeCheck b_Weaver_appendRangeCheck 4 none 3 := ⟨tg_mem 464 rfl rfl, tg_mem 466 rfl rfl, tg_mem 12 rfl rfl, tg_mem 40 rfl rfl, tg_mem 467 rfl rfl, ⟨by decide, by decide, by decide +kernel⟩⟩
set_option maxRecDepth 20000 in
theorem ck_Weaver_84 : ckV R_Weaver 84 y_Weaver_appendMove b_Weaver_appendMove 3 none 2 := ⟨tg_mem 468 rfl rfl, tg_mem 470 rfl rfl, tg_mem 13 rfl rfl, tg_mem 40 rfl rfl, tg_mem 471 rfl rfl, ⟨by decide, by decide, by decide +kernel⟩⟩
set_option maxRecDepth 20000 in
theorem ck_Law_7 : ckV R_Law 7 y_Loom_code b_Loom_code 3 (some (Jvm.ClassFile.FieldType.int)) 2 := ⟨tg_mem 271 rfl rfl, tg_mem 272 rfl rfl, tg_mem 273 rfl rfl, tg_mem 36 rfl rfl, tg_mem 274 rfl rfl, ⟨by decide, by decide, by decide +kernel⟩⟩
set_option maxRecDepth 20000 in
theorem ck_Law_17 : ckV R_Law 17 y_Loom_states b_Loom_states 2 none 1 := ⟨tg_mem 366 rfl rfl, tg_mem 367 rfl rfl, tg_mem 368 rfl rfl, tg_mem 36 rfl rfl, tg_mem 369 rfl rfl, ⟨by decide, by decide, by decide +kernel⟩⟩
set_option maxRecDepth 20000 in
theorem ck_Law_21 : ckV R_Law 21 y_Loom_rule b_Loom_rule 6 none 5 := ⟨tg_mem 375 rfl rfl, tg_mem 376 rfl rfl, tg_mem 377 rfl rfl, tg_mem 36 rfl rfl, tg_mem 378 rfl rfl, ⟨by decide, by decide, by decide +kernel⟩⟩
set_option maxRecDepth 20000 in
theorem ck_Law_25 : ckV R_Law 25 y_Loom_height b_Loom_height 2 (some (Jvm.ClassFile.FieldType.int)) 1 := ⟨tg_mem 397 rfl rfl, tg_mem 398 rfl rfl, tg_mem 399 rfl rfl, tg_mem 36 rfl rfl, tg_mem 400 rfl rfl, ⟨by decide, by decide, by decide +kernel⟩⟩
set_option maxRecDepth 20000 in
theorem ck_Law_31 : ckV R_Law 31 y_Loom_enforce b_Loom_enforce 1 (some (Jvm.ClassFile.FieldType.int)) 0 := ⟨tg_mem 425 rfl rfl, tg_mem 426 rfl rfl, tg_mem 427 rfl rfl, tg_mem 36 rfl rfl, tg_mem 428 rfl rfl, ⟨by decide, by decide, by decide +kernel⟩⟩
set_option maxRecDepth 20000 in
theorem ck_Law_35 : ckV R_Law 35 y_Loom_enforced b_Loom_enforced 4 (some (Jvm.ClassFile.FieldType.int)) 2 := ⟨tg_mem 476 rfl rfl, tg_mem 477 rfl rfl, tg_mem 478 rfl rfl, tg_mem 36 rfl rfl, tg_mem 479 rfl rfl, ⟨by decide, by decide, by decide +kernel⟩⟩
set_option maxRecDepth 20000 in
theorem ck_Law_39 : ckV R_Law 39 y_Loom_start b_Loom_start 3 none 2 := ⟨tg_mem 483 rfl rfl, tg_mem 484 rfl rfl, tg_mem 485 rfl rfl, tg_mem 36 rfl rfl, tg_mem 486 rfl rfl, ⟨by decide, by decide, by decide +kernel⟩⟩
set_option maxRecDepth 20000 in
theorem ck_Law_43 : ckV R_Law 43 y_Loom_step b_Loom_step 4 (some (Jvm.ClassFile.FieldType.int)) 1 := ⟨tg_mem 495 rfl rfl, tg_mem 496 rfl rfl, tg_mem 497 rfl rfl, tg_mem 36 rfl rfl, tg_mem 498 rfl rfl, ⟨by decide, by decide, by decide +kernel⟩⟩
set_option maxRecDepth 20000 in
theorem ck_Law_46 : ckV R_Law 46 y_Loom_look b_Loom_look 2 (some (Jvm.ClassFile.FieldType.int)) 1 := ⟨tg_mem 533 rfl rfl, tg_mem 534 rfl rfl, tg_mem 535 rfl rfl, tg_mem 36 rfl rfl, tg_mem 536 rfl rfl, ⟨by decide, by decide, by decide +kernel⟩⟩
set_option maxRecDepth 20000 in
theorem ck_Law_49 : ckV R_Law 49 y_Loom_act b_Loom_act 3 (some (Jvm.ClassFile.FieldType.int)) 2 := ⟨tg_mem 545 rfl rfl, tg_mem 546 rfl rfl, tg_mem 547 rfl rfl, tg_mem 36 rfl rfl, tg_mem 548 rfl rfl, ⟨by decide, by decide, by decide +kernel⟩⟩
set_option maxRecDepth 20000 in
theorem ck_Law_52 : ckV R_Law 52 y_Loom_cell b_Loom_cell 2 (some (Jvm.ClassFile.FieldType.int)) 1 := ⟨tg_mem 553 rfl rfl, tg_mem 554 rfl rfl, tg_mem 555 rfl rfl, tg_mem 36 rfl rfl, tg_mem 556 rfl rfl, ⟨by decide, by decide, by decide +kernel⟩⟩
set_option maxRecDepth 20000 in
theorem ck_Law_55 : ckI R_Law 55 y_Loom_init b_Loom_init 1 0 := ⟨tg_mem 51 rfl rfl, tg_mem 52 rfl rfl, tg_mem 36 rfl rfl, tg_mem 53 rfl rfl, rfl, ⟨by decide, by decide, by decide +kernel⟩⟩
set_option maxRecDepth 20000 in
theorem ck_Law_58 : ckI R_Law 58 y_Model_init b_Model_init 1 0 := ⟨tg_mem 560 rfl rfl, tg_mem 561 rfl rfl, tg_mem 42 rfl rfl, tg_mem 562 rfl rfl, rfl, ⟨by decide, by decide, by decide +kernel⟩⟩
set_option maxRecDepth 20000 in
theorem ck_Law_64 : ckV R_Law 64 y_Model_code b_Model_code 3 (some (Jvm.ClassFile.FieldType.int)) 2 := ⟨tg_mem 639 rfl rfl, tg_mem 640 rfl rfl, tg_mem 641 rfl rfl, tg_mem 42 rfl rfl, tg_mem 642 rfl rfl, ⟨by decide, by decide, by decide +kernel⟩⟩
set_option maxRecDepth 20000 in
theorem ck_Law_65 : ckV R_Law 65 y_Model_thrown b_Model_thrown 1 (some (Jvm.ClassFile.FieldType.int)) 0 := ⟨tg_mem 635 rfl rfl, tg_mem 636 rfl rfl, tg_mem 637 rfl rfl, tg_mem 42 rfl rfl, tg_mem 638 rfl rfl, ⟨by decide, by decide, by decide +kernel⟩⟩
set_option maxRecDepth 20000 in
theorem ck_Law_68 : ckV R_Law 68 y_Loom_clear b_Loom_clear 1 none 0 := ⟨tg_mem 217 rfl rfl, tg_mem 218 rfl rfl, tg_mem 219 rfl rfl, tg_mem 36 rfl rfl, tg_mem 220 rfl rfl, ⟨by decide, by decide, by decide +kernel⟩⟩
set_option maxRecDepth 20000 in
theorem ck_Law_71 : ckV R_Law 71 y_Model_clear b_Model_clear 1 none 0 := ⟨tg_mem 647 rfl rfl, tg_mem 648 rfl rfl, tg_mem 649 rfl rfl, tg_mem 42 rfl rfl, tg_mem 650 rfl rfl, ⟨by decide, by decide, by decide +kernel⟩⟩
set_option maxRecDepth 20000 in
theorem ck_Law_75 : ckV R_Law 75 y_Model_states b_Model_states 3 none 1 := ⟨tg_mem 651 rfl rfl, tg_mem 652 rfl rfl, tg_mem 653 rfl rfl, tg_mem 42 rfl rfl, tg_mem 654 rfl rfl, ⟨by decide, by decide, by decide +kernel⟩⟩
set_option maxRecDepth 20000 in
theorem ck_Law_79 : ckV R_Law 79 y_Model_rule b_Model_rule 7 none 5 := ⟨tg_mem 655 rfl rfl, tg_mem 656 rfl rfl, tg_mem 657 rfl rfl, tg_mem 42 rfl rfl, tg_mem 658 rfl rfl, ⟨by decide, by decide, by decide +kernel⟩⟩
set_option maxRecDepth 20000 in
theorem ck_Law_80 : ckV R_Law 80 y_Loom_well b_Loom_well 1 (some (Jvm.ClassFile.FieldType.boolean)) 0 := ⟨tg_mem 229 rfl rfl, tg_mem 230 rfl rfl, tg_mem 231 rfl rfl, tg_mem 36 rfl rfl, tg_mem 232 rfl rfl, ⟨by decide, by decide, by decide +kernel⟩⟩
set_option maxRecDepth 20000 in
theorem ck_Law_84 : ckV R_Law 84 y_Model_well b_Model_well 1 (some (Jvm.ClassFile.FieldType.boolean)) 0 := ⟨tg_mem 663 rfl rfl, tg_mem 664 rfl rfl, tg_mem 665 rfl rfl, tg_mem 42 rfl rfl, tg_mem 666 rfl rfl, ⟨by decide, by decide, by decide +kernel⟩⟩
set_option maxRecDepth 20000 in
theorem ck_Law_88 : ckV R_Law 88 y_Model_height b_Model_height 2 (some (Jvm.ClassFile.FieldType.int)) 1 := ⟨tg_mem 689 rfl rfl, tg_mem 690 rfl rfl, tg_mem 691 rfl rfl, tg_mem 42 rfl rfl, tg_mem 692 rfl rfl, ⟨by decide, by decide, by decide +kernel⟩⟩
set_option maxRecDepth 20000 in
theorem ck_Law_92 : ckV R_Law 92 y_Model_enforce b_Model_enforce 1 (some (Jvm.ClassFile.FieldType.int)) 0 := ⟨tg_mem 693 rfl rfl, tg_mem 694 rfl rfl, tg_mem 695 rfl rfl, tg_mem 42 rfl rfl, tg_mem 696 rfl rfl, ⟨by decide, by decide, by decide +kernel⟩⟩
set_option maxRecDepth 20000 in
theorem ck_Law_96 : ckV R_Law 96 y_Model_enforced b_Model_enforced 3 (some (Jvm.ClassFile.FieldType.int)) 2 := ⟨tg_mem 709 rfl rfl, tg_mem 710 rfl rfl, tg_mem 711 rfl rfl, tg_mem 42 rfl rfl, tg_mem 712 rfl rfl, ⟨by decide, by decide, by decide +kernel⟩⟩
set_option maxRecDepth 20000 in
theorem ck_Law_100 : ckV R_Law 100 y_Model_start b_Model_start 4 none 2 := ⟨tg_mem 725 rfl rfl, tg_mem 726 rfl rfl, tg_mem 727 rfl rfl, tg_mem 42 rfl rfl, tg_mem 728 rfl rfl, ⟨by decide, by decide, by decide +kernel⟩⟩
set_option maxRecDepth 20000 in
theorem ck_Law_103 : ckV R_Law 103 y_Model_step b_Model_step 3 (some (Jvm.ClassFile.FieldType.int)) 1 := ⟨tg_mem 729 rfl rfl, tg_mem 730 rfl rfl, tg_mem 731 rfl rfl, tg_mem 42 rfl rfl, tg_mem 732 rfl rfl, ⟨by decide, by decide, by decide +kernel⟩⟩
set_option maxRecDepth 20000 in
theorem ck_Law_106 : ckV R_Law 106 y_Model_look b_Model_look 2 (some (Jvm.ClassFile.FieldType.int)) 1 := ⟨tg_mem 749 rfl rfl, tg_mem 750 rfl rfl, tg_mem 751 rfl rfl, tg_mem 42 rfl rfl, tg_mem 752 rfl rfl, ⟨by decide, by decide, by decide +kernel⟩⟩
set_option maxRecDepth 20000 in
theorem ck_Law_109 : ckV R_Law 109 y_Model_act b_Model_act 3 (some (Jvm.ClassFile.FieldType.int)) 2 := ⟨tg_mem 753 rfl rfl, tg_mem 754 rfl rfl, tg_mem 755 rfl rfl, tg_mem 42 rfl rfl, tg_mem 756 rfl rfl, ⟨by decide, by decide, by decide +kernel⟩⟩
set_option maxRecDepth 20000 in
theorem ck_Law_112 : ckV R_Law 112 y_Model_cell b_Model_cell 2 (some (Jvm.ClassFile.FieldType.int)) 1 := ⟨tg_mem 757 rfl rfl, tg_mem 758 rfl rfl, tg_mem 759 rfl rfl, tg_mem 42 rfl rfl, tg_mem 760 rfl rfl, ⟨by decide, by decide, by decide +kernel⟩⟩
set_option maxRecDepth 20000 in
theorem ob_Model_1 : ckO R_Model 1 := ⟨tg_mem 563 rfl rfl, tg_mem 55 rfl rfl, tg_mem 56 rfl rfl⟩
set_option maxRecDepth 20000 in
theorem ck_Model_51 : ckV R_Model 51 y_Model_refuse b_Model_refuse 2 (some (Jvm.ClassFile.FieldType.int)) 1 := ⟨tg_mem 643 rfl rfl, tg_mem 645 rfl rfl, tg_mem 19 rfl rfl, tg_mem 42 rfl rfl, tg_mem 646 rfl rfl, ⟨by decide, by decide, by decide +kernel⟩⟩
set_option maxRecDepth 20000 in
theorem ck_Model_61 : ckV R_Model 61 y_Model_isState b_Model_isState 2 (some (Jvm.ClassFile.FieldType.boolean)) 1 := ⟨tg_mem 659 rfl rfl, tg_mem 661 rfl rfl, tg_mem 20 rfl rfl, tg_mem 42 rfl rfl, tg_mem 662 rfl rfl, ⟨by decide, by decide, by decide +kernel⟩⟩
set_option maxRecDepth 20000 in
theorem ck_Model_65 : ckV R_Model 65 y_Model_isPlace b_Model_isPlace 2 (some (Jvm.ClassFile.FieldType.boolean)) 1 := ⟨tg_mem 675 rfl rfl, tg_mem 677 rfl rfl, tg_mem 23 rfl rfl, tg_mem 42 rfl rfl, tg_mem 678 rfl rfl, ⟨by decide, by decide, by decide +kernel⟩⟩
set_option maxRecDepth 20000 in
theorem ck_Model_68 : ckV R_Model 68 y_Model_isK b_Model_isK 4 (some (Jvm.ClassFile.FieldType.boolean)) 1 := ⟨tg_mem 671 rfl rfl, tg_mem 673 rfl rfl, tg_mem 22 rfl rfl, tg_mem 42 rfl rfl, tg_mem 674 rfl rfl, ⟨by decide, by decide, by decide +kernel⟩⟩
set_option maxRecDepth 20000 in
theorem ck_Model_71 : ckS R_Model 71 y_Model_takes b_Model_takes 1 (some (Jvm.ClassFile.FieldType.int)) 1 := ⟨tg_mem 679 rfl rfl, tg_mem 680 rfl rfl, tg_mem 42 rfl rfl, tg_mem 681 rfl rfl, ⟨by decide, by decide, by decide +kernel⟩⟩
set_option maxRecDepth 20000 in
theorem ck_Model_74 : ckS R_Model 74 y_Model_gives b_Model_gives 1 (some (Jvm.ClassFile.FieldType.int)) 1 := ⟨tg_mem 682 rfl rfl, tg_mem 683 rfl rfl, tg_mem 42 rfl rfl, tg_mem 684 rfl rfl, ⟨by decide, by decide, by decide +kernel⟩⟩
set_option maxRecDepth 20000 in
theorem ck_Model_77 : ckV R_Model 77 y_Model_reach b_Model_reach 3 (some (Jvm.ClassFile.FieldType.boolean)) 2 := ⟨tg_mem 685 rfl rfl, tg_mem 687 rfl rfl, tg_mem 24 rfl rfl, tg_mem 42 rfl rfl, tg_mem 688 rfl rfl, ⟨by decide, by decide, by decide +kernel⟩⟩
set_option maxRecDepth 20000 in
theorem ck_Model_81 : ckV R_Model 81 y_Model_isWell b_Model_isWell 7 (some (Jvm.ClassFile.FieldType.boolean)) 0 := ⟨tg_mem 667 rfl rfl, tg_mem 669 rfl rfl, tg_mem 21 rfl rfl, tg_mem 42 rfl rfl, tg_mem 670 rfl rfl, ⟨by decide, by decide, by decide +kernel⟩⟩
set_option maxRecDepth 20000 in
theorem ck_Model_85 : ckV R_Model 85 y_Model_testsOf b_Model_testsOf 4 (some (Jvm.ClassFile.FieldType.int)) 1 := ⟨tg_mem 705 rfl rfl, tg_mem 707 rfl rfl, tg_mem 27 rfl rfl, tg_mem 42 rfl rfl, tg_mem 708 rfl rfl, ⟨by decide, by decide, by decide +kernel⟩⟩
set_option maxRecDepth 20000 in
theorem ck_Model_88 : ckV R_Model 88 y_Model_aheadOf b_Model_aheadOf 2 (some (Jvm.ClassFile.FieldType.int)) 1 := ⟨tg_mem 701 rfl rfl, tg_mem 703 rfl rfl, tg_mem 26 rfl rfl, tg_mem 42 rfl rfl, tg_mem 704 rfl rfl, ⟨by decide, by decide, by decide +kernel⟩⟩
set_option maxRecDepth 20000 in
theorem ck_Model_97 : ckV R_Model 97 y_Model_place b_Model_place 4 (some (Jvm.ClassFile.FieldType.int)) 1 := ⟨tg_mem 697 rfl rfl, tg_mem 699 rfl rfl, tg_mem 25 rfl rfl, tg_mem 42 rfl rfl, tg_mem 700 rfl rfl, ⟨by decide, by decide, by decide +kernel⟩⟩
set_option maxRecDepth 20000 in
theorem ck_Model_100 : ckV R_Model 100 y_Model_set b_Model_set 3 none 2 := ⟨tg_mem 717 rfl rfl, tg_mem 719 rfl rfl, tg_mem 29 rfl rfl, tg_mem 42 rfl rfl, tg_mem 720 rfl rfl, ⟨by decide, by decide, by decide +kernel⟩⟩
set_option maxRecDepth 20000 in
theorem ck_Model_104 : ckV R_Model 104 y_Model_test b_Model_test 9 none 4 := ⟨tg_mem 721 rfl rfl, tg_mem 723 rfl rfl, tg_mem 30 rfl rfl, tg_mem 42 rfl rfl, tg_mem 724 rfl rfl, ⟨by decide, by decide, by decide +kernel⟩⟩
set_option maxRecDepth 20000 in
theorem ck_Model_108 : ckV R_Model 108 y_Model_find b_Model_find 5 none 1 := ⟨tg_mem 713 rfl rfl, tg_mem 715 rfl rfl, tg_mem 28 rfl rfl, tg_mem 42 rfl rfl, tg_mem 716 rfl rfl, ⟨by decide, by decide, by decide +kernel⟩⟩
set_option maxRecDepth 20000 in
theorem ck_Model_130 : ckV R_Model 130 y_Model_pop b_Model_pop 1 (some (Jvm.ClassFile.FieldType.int)) 0 := ⟨tg_mem 737 rfl rfl, tg_mem 739 rfl rfl, tg_mem 32 rfl rfl, tg_mem 42 rfl rfl, tg_mem 740 rfl rfl, ⟨by decide, by decide, by decide +kernel⟩⟩
set_option maxRecDepth 20000 in
theorem ck_Model_134 : ckV R_Model 134 y_Model_push b_Model_push 2 none 1 := ⟨tg_mem 741 rfl rfl, tg_mem 743 rfl rfl, tg_mem 33 rfl rfl, tg_mem 42 rfl rfl, tg_mem 744 rfl rfl, ⟨by decide, by decide, by decide +kernel⟩⟩
set_option maxRecDepth 20000 in
theorem ck_Model_137 : ckV R_Model 137 y_Model_done b_Model_done 4 none 1 := ⟨tg_mem 745 rfl rfl, tg_mem 747 rfl rfl, tg_mem 34 rfl rfl, tg_mem 42 rfl rfl, tg_mem 748 rfl rfl, ⟨by decide, by decide, by decide +kernel⟩⟩
set_option maxRecDepth 20000 in
theorem ck_Model_140 : ckV R_Model 140 y_Model_one b_Model_one 5 none 0 := ⟨tg_mem 733 rfl rfl, tg_mem 735 rfl rfl, tg_mem 31 rfl rfl, tg_mem 42 rfl rfl, tg_mem 736 rfl rfl, ⟨by decide, by decide, by decide +kernel⟩⟩
set_option maxRecDepth 20000 in
theorem cn_Law_8 : cwN classes R_Law 8 5 R_Loom F_Loom 7 t_Loom := ⟨rfl, uw_Loom, fp_Loom.1, tg_mem 49 rfl rfl, tg_mem 50 rfl rfl, tg_mem 36 rfl rfl⟩
set_option maxRecDepth 20000 in
theorem cn_Loom_9 : cwN classes R_Loom 9 0 R_Listing F_Listing 3 t_Listing := ⟨rfl, uw_Listing, fp_Listing.1, tg_mem 57 rfl rfl, tg_mem 58 rfl rfl, tg_mem 37 rfl rfl⟩
set_option maxRecDepth 20000 in
theorem cn_Loom_18 : cwN classes R_Loom 18 1 R_Automaton F_Automaton 4 t_Automaton := ⟨rfl, uw_Automaton, fp_Automaton.1, tg_mem 85 rfl rfl, tg_mem 86 rfl rfl, tg_mem 38 rfl rfl⟩
set_option maxRecDepth 20000 in
theorem cn_Loom_25 : cwN classes R_Loom 25 2 R_Heights F_Heights 4 t_Heights := ⟨rfl, uw_Heights, fp_Heights.1, tg_mem 113 rfl rfl, tg_mem 114 rfl rfl, tg_mem 39 rfl rfl⟩
set_option maxRecDepth 20000 in
theorem cn_Loom_32 : cwN classes R_Loom 32 3 R_Weaver F_Weaver 2 t_Weaver := ⟨rfl, uw_Weaver, fp_Weaver.1, tg_mem 134 rfl rfl, tg_mem 135 rfl rfl, tg_mem 40 rfl rfl⟩
set_option maxRecDepth 20000 in
theorem cn_Weaver_9 : cwN classes R_Weaver 9 0 R_Listing F_Listing 3 t_Listing := ⟨rfl, uw_Listing, fp_Listing.1, tg_mem 140 rfl rfl, tg_mem 58 rfl rfl, tg_mem 37 rfl rfl⟩
set_option maxRecDepth 20000 in
theorem cn_Loom_39 : cwN classes R_Loom 39 4 R_Run F_Run 10 t_Run := ⟨rfl, uw_Run, fp_Run.1, tg_mem 150 rfl rfl, tg_mem 151 rfl rfl, tg_mem 41 rfl rfl⟩
set_option maxRecDepth 20000 in
theorem cn_Law_56 : cwN classes R_Law 56 6 R_Model F_Model 23 t_Model := ⟨rfl, uw_Model, fp_Model.1, tg_mem 558 rfl rfl, tg_mem 559 rfl rfl, tg_mem 42 rfl rfl⟩
set_option maxRecDepth 20000 in
theorem ar_I : Cond.arrayClass .int ∈ TG := tg_mem 84 rfl rfl
set_option maxRecDepth 20000 in
theorem ar_Z : Cond.arrayClass .boolean ∈ TG := tg_mem 634 rfl rfl
set_option maxRecDepth 20000 in
theorem ar_L : Cond.arrayClass .long ∈ TG := tg_mem 761 rfl rfl
