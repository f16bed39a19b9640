/-! What the fields and calls of Listing, Automaton, Run, Weaver, Heights, Loom stand on. -/
set_option maxRecDepth 20000 in
theorem fw_Loom_14 : fw classes R_Loom 14 5 0 R_Loom F_Loom 7 := ⟨rfl, by decide, uw_Loom, tg_mem 195 rfl rfl⟩
set_option maxRecDepth 20000 in
theorem fw_Loom_21 : fw classes R_Loom 21 5 1 R_Loom F_Loom 7 := ⟨rfl, by decide, uw_Loom, tg_mem 196 rfl rfl⟩
set_option maxRecDepth 20000 in
theorem fw_Loom_28 : fw classes R_Loom 28 5 2 R_Loom F_Loom 7 := ⟨rfl, by decide, uw_Loom, tg_mem 197 rfl rfl⟩
set_option maxRecDepth 20000 in
theorem fw_Loom_35 : fw classes R_Loom 35 5 3 R_Loom F_Loom 7 := ⟨rfl, by decide, uw_Loom, tg_mem 198 rfl rfl⟩
set_option maxRecDepth 20000 in
theorem fw_Loom_42 : fw classes R_Loom 42 5 4 R_Loom F_Loom 7 := ⟨rfl, by decide, uw_Loom, tg_mem 199 rfl rfl⟩
set_option maxRecDepth 20000 in
theorem fw_Loom_46 : fw classes R_Loom 46 5 5 R_Loom F_Loom 7 := ⟨rfl, by decide, uw_Loom, tg_mem 200 rfl rfl⟩
set_option maxRecDepth 20000 in
theorem fw_Loom_50 : fw classes R_Loom 50 5 6 R_Loom F_Loom 7 := ⟨rfl, by decide, uw_Loom, tg_mem 201 rfl rfl⟩
set_option maxRecDepth 20000 in
theorem fw_Loom_60 : fw classes R_Loom 60 0 2 R_Listing F_Listing 3 := ⟨rfl, by decide, uw_Listing, tg_mem 76 rfl rfl⟩
set_option maxRecDepth 20000 in
theorem fw_Loom_111 : fw classes R_Loom 111 2 0 R_Heights F_Heights 4 := ⟨rfl, by decide, uw_Heights, tg_mem 120 rfl rfl⟩
set_option maxRecDepth 20000 in
theorem fw_Loom_119 : fw classes R_Loom 119 0 1 R_Listing F_Listing 3 := ⟨rfl, by decide, uw_Listing, tg_mem 72 rfl rfl⟩
set_option maxRecDepth 20000 in
theorem fw_Loom_122 : fw classes R_Loom 122 0 0 R_Listing F_Listing 3 := ⟨rfl, by decide, uw_Listing, tg_mem 67 rfl rfl⟩
set_option maxRecDepth 20000 in
theorem fw_Loom_130 : fw classes R_Loom 130 4 5 R_Run F_Run 10 := ⟨rfl, by decide, uw_Run, tg_mem 166 rfl rfl⟩
set_option maxRecDepth 20000 in
theorem fw_Loom_140 : fw classes R_Loom 140 4 4 R_Run F_Run 10 := ⟨rfl, by decide, uw_Run, tg_mem 164 rfl rfl⟩
set_option maxRecDepth 20000 in
theorem fw_Loom_149 : fw classes R_Loom 149 4 6 R_Run F_Run 10 := ⟨rfl, by decide, uw_Run, tg_mem 168 rfl rfl⟩
set_option maxRecDepth 20000 in
theorem fw_Loom_151 : fw classes R_Loom 151 4 7 R_Run F_Run 10 := ⟨rfl, by decide, uw_Run, tg_mem 170 rfl rfl⟩
set_option maxRecDepth 20000 in
theorem fw_Loom_158 : fw classes R_Loom 158 4 9 R_Run F_Run 10 := ⟨rfl, by decide, uw_Run, tg_mem 173 rfl rfl⟩
set_option maxRecDepth 20000 in
theorem fw_Loom_163 : fw classes R_Loom 163 4 3 R_Run F_Run 10 := ⟨rfl, by decide, uw_Run, tg_mem 162 rfl rfl⟩
set_option maxRecDepth 20000 in
theorem fw_Loom_166 : fw classes R_Loom 166 4 2 R_Run F_Run 10 := ⟨rfl, by decide, uw_Run, tg_mem 160 rfl rfl⟩
set_option maxRecDepth 20000 in
theorem fw_Loom_171 : fw classes R_Loom 171 4 1 R_Run F_Run 10 := ⟨rfl, by decide, uw_Run, tg_mem 158 rfl rfl⟩
set_option maxRecDepth 20000 in
theorem fw_Loom_178 : fw classes R_Loom 178 2 3 R_Heights F_Heights 4 := ⟨rfl, by decide, uw_Heights, tg_mem 124 rfl rfl⟩
set_option maxRecDepth 20000 in
theorem fw_Loom_186 : fw classes R_Loom 186 3 0 R_Weaver F_Weaver 2 := ⟨rfl, by decide, uw_Weaver, tg_mem 143 rfl rfl⟩
set_option maxRecDepth 20000 in
theorem fw_Automaton_9 : fw classes R_Automaton 9 1 0 R_Automaton F_Automaton 4 := ⟨rfl, by decide, uw_Automaton, tg_mem 95 rfl rfl⟩
set_option maxRecDepth 20000 in
theorem fw_Automaton_15 : fw classes R_Automaton 15 1 1 R_Automaton F_Automaton 4 := ⟨rfl, by decide, uw_Automaton, tg_mem 97 rfl rfl⟩
set_option maxRecDepth 20000 in
theorem fw_Automaton_18 : fw classes R_Automaton 18 1 2 R_Automaton F_Automaton 4 := ⟨rfl, by decide, uw_Automaton, tg_mem 99 rfl rfl⟩
set_option maxRecDepth 20000 in
theorem fw_Automaton_25 : fw classes R_Automaton 25 1 3 R_Automaton F_Automaton 4 := ⟨rfl, by decide, uw_Automaton, tg_mem 102 rfl rfl⟩
set_option maxRecDepth 20000 in
theorem fw_Heights_9 : fw classes R_Heights 9 2 0 R_Heights F_Heights 4 := ⟨rfl, by decide, uw_Heights, tg_mem 119 rfl rfl⟩
set_option maxRecDepth 20000 in
theorem fw_Heights_15 : fw classes R_Heights 15 2 1 R_Heights F_Heights 4 := ⟨rfl, by decide, uw_Heights, tg_mem 121 rfl rfl⟩
set_option maxRecDepth 20000 in
theorem fw_Heights_18 : fw classes R_Heights 18 2 2 R_Heights F_Heights 4 := ⟨rfl, by decide, uw_Heights, tg_mem 122 rfl rfl⟩
set_option maxRecDepth 20000 in
theorem fw_Heights_22 : fw classes R_Heights 22 2 3 R_Heights F_Heights 4 := ⟨rfl, by decide, uw_Heights, tg_mem 123 rfl rfl⟩
set_option maxRecDepth 20000 in
theorem fw_Heights_26 : fw classes R_Heights 26 0 2 R_Listing F_Listing 3 := ⟨rfl, by decide, uw_Listing, tg_mem 74 rfl rfl⟩
set_option maxRecDepth 20000 in
theorem fw_Heights_38 : fw classes R_Heights 38 0 0 R_Listing F_Listing 3 := ⟨rfl, by decide, uw_Listing, tg_mem 65 rfl rfl⟩
set_option maxRecDepth 20000 in
theorem fw_Heights_41 : fw classes R_Heights 41 0 1 R_Listing F_Listing 3 := ⟨rfl, by decide, uw_Listing, tg_mem 70 rfl rfl⟩
set_option maxRecDepth 20000 in
theorem fs_Heights_56 : Cond.fieldLink R_Heights 56 "PolicyLoom$Heights" "TAKES" "[I" ∈ TG := tg_mem 259 rfl rfl
set_option maxRecDepth 20000 in
theorem fs_Heights_59 : Cond.fieldLink R_Heights 59 "PolicyLoom$Heights" "LEAVES" "[I" ∈ TG := tg_mem 261 rfl rfl
set_option maxRecDepth 20000 in
theorem fw_Listing_7 : fw classes R_Listing 7 0 0 R_Listing F_Listing 3 := ⟨rfl, by decide, uw_Listing, tg_mem 63 rfl rfl⟩
set_option maxRecDepth 20000 in
theorem fw_Listing_13 : fw classes R_Listing 13 0 1 R_Listing F_Listing 3 := ⟨rfl, by decide, uw_Listing, tg_mem 68 rfl rfl⟩
set_option maxRecDepth 20000 in
theorem fw_Listing_16 : fw classes R_Listing 16 0 2 R_Listing F_Listing 3 := ⟨rfl, by decide, uw_Listing, tg_mem 73 rfl rfl⟩
set_option maxRecDepth 20000 in
theorem fw_Run_9 : fw classes R_Run 9 4 0 R_Run F_Run 10 := ⟨rfl, by decide, uw_Run, tg_mem 156 rfl rfl⟩
set_option maxRecDepth 20000 in
theorem fw_Run_15 : fw classes R_Run 15 4 1 R_Run F_Run 10 := ⟨rfl, by decide, uw_Run, tg_mem 157 rfl rfl⟩
set_option maxRecDepth 20000 in
theorem fw_Run_18 : fw classes R_Run 18 4 2 R_Run F_Run 10 := ⟨rfl, by decide, uw_Run, tg_mem 159 rfl rfl⟩
set_option maxRecDepth 20000 in
theorem fw_Run_21 : fw classes R_Run 21 4 3 R_Run F_Run 10 := ⟨rfl, by decide, uw_Run, tg_mem 161 rfl rfl⟩
set_option maxRecDepth 20000 in
theorem fw_Run_24 : fw classes R_Run 24 4 5 R_Run F_Run 10 := ⟨rfl, by decide, uw_Run, tg_mem 165 rfl rfl⟩
set_option maxRecDepth 20000 in
theorem fw_Run_28 : fw classes R_Run 28 4 4 R_Run F_Run 10 := ⟨rfl, by decide, uw_Run, tg_mem 163 rfl rfl⟩
set_option maxRecDepth 20000 in
theorem fw_Run_31 : fw classes R_Run 31 4 6 R_Run F_Run 10 := ⟨rfl, by decide, uw_Run, tg_mem 167 rfl rfl⟩
set_option maxRecDepth 20000 in
theorem fw_Run_34 : fw classes R_Run 34 4 7 R_Run F_Run 10 := ⟨rfl, by decide, uw_Run, tg_mem 169 rfl rfl⟩
set_option maxRecDepth 20000 in
theorem fw_Run_37 : fw classes R_Run 37 4 8 R_Run F_Run 10 := ⟨rfl, by decide, uw_Run, tg_mem 171 rfl rfl⟩
set_option maxRecDepth 20000 in
theorem fw_Run_40 : fw classes R_Run 40 4 9 R_Run F_Run 10 := ⟨rfl, by decide, uw_Run, tg_mem 172 rfl rfl⟩
set_option maxRecDepth 20000 in
theorem fw_Run_43 : fw classes R_Run 43 0 0 R_Listing F_Listing 3 := ⟨rfl, by decide, uw_Listing, tg_mem 66 rfl rfl⟩
set_option maxRecDepth 20000 in
theorem fw_Run_48 : fw classes R_Run 48 0 1 R_Listing F_Listing 3 := ⟨rfl, by decide, uw_Listing, tg_mem 71 rfl rfl⟩
set_option maxRecDepth 20000 in
theorem fw_Run_72 : fw classes R_Run 72 1 2 R_Automaton F_Automaton 4 := ⟨rfl, by decide, uw_Automaton, tg_mem 100 rfl rfl⟩
set_option maxRecDepth 20000 in
theorem fw_Weaver_14 : fw classes R_Weaver 14 3 0 R_Weaver F_Weaver 2 := ⟨rfl, by decide, uw_Weaver, tg_mem 142 rfl rfl⟩
set_option maxRecDepth 20000 in
theorem fw_Weaver_20 : fw classes R_Weaver 20 3 1 R_Weaver F_Weaver 2 := ⟨rfl, by decide, uw_Weaver, tg_mem 144 rfl rfl⟩
set_option maxRecDepth 20000 in
theorem fw_Weaver_28 : fw classes R_Weaver 28 0 2 R_Listing F_Listing 3 := ⟨rfl, by decide, uw_Listing, tg_mem 75 rfl rfl⟩
set_option maxRecDepth 20000 in
theorem fw_Weaver_32 : fw classes R_Weaver 32 0 0 R_Listing F_Listing 3 := ⟨rfl, by decide, uw_Listing, tg_mem 64 rfl rfl⟩
set_option maxRecDepth 20000 in
theorem fw_Weaver_35 : fw classes R_Weaver 35 0 1 R_Listing F_Listing 3 := ⟨rfl, by decide, uw_Listing, tg_mem 69 rfl rfl⟩
set_option maxRecDepth 20000 in
theorem fw_Weaver_60 : fw classes R_Weaver 60 1 3 R_Automaton F_Automaton 4 := ⟨rfl, by decide, uw_Automaton, tg_mem 103 rfl rfl⟩
set_option maxRecDepth 20000 in
theorem fw_Weaver_71 : fw classes R_Weaver 71 1 0 R_Automaton F_Automaton 4 := ⟨rfl, by decide, uw_Automaton, tg_mem 96 rfl rfl⟩
set_option maxRecDepth 20000 in
theorem fw_Weaver_74 : fw classes R_Weaver 74 1 1 R_Automaton F_Automaton 4 := ⟨rfl, by decide, uw_Automaton, tg_mem 98 rfl rfl⟩
set_option maxRecDepth 20000 in
theorem fw_Weaver_81 : fw classes R_Weaver 81 1 2 R_Automaton F_Automaton 4 := ⟨rfl, by decide, uw_Automaton, tg_mem 101 rfl rfl⟩
set_option maxRecDepth 20000 in
theorem ob_Loom_3 : ckO R_Loom 3 := ⟨tg_mem 54 rfl rfl, tg_mem 55 rfl rfl, tg_mem 56 rfl rfl⟩
set_option maxRecDepth 20000 in
theorem ck_Loom_11 : ckI R_Loom 11 y_Listing_init b_Listing_init 2 1 := ⟨tg_mem 59 rfl rfl, tg_mem 60 rfl rfl, tg_mem 37 rfl rfl, tg_mem 61 rfl rfl, rfl, ⟨by decide, by decide, by decide +kernel⟩⟩
set_option maxRecDepth 20000 in
theorem ck_Loom_20 : ckI R_Loom 20 y_Automaton_init b_Automaton_init 1 0 := ⟨tg_mem 87 rfl rfl, tg_mem 88 rfl rfl, tg_mem 38 rfl rfl, tg_mem 89 rfl rfl, rfl, ⟨by decide, by decide, by decide +kernel⟩⟩
set_option maxRecDepth 20000 in
theorem ck_Loom_27 : ckI R_Loom 27 y_Heights_init b_Heights_init 1 0 := ⟨tg_mem 115 rfl rfl, tg_mem 116 rfl rfl, tg_mem 39 rfl rfl, tg_mem 117 rfl rfl, rfl, ⟨by decide, by decide, by decide +kernel⟩⟩
set_option maxRecDepth 20000 in
theorem ck_Loom_34 : ckI R_Loom 34 y_Weaver_init b_Weaver_init 1 0 := ⟨tg_mem 136 rfl rfl, tg_mem 137 rfl rfl, tg_mem 40 rfl rfl, tg_mem 138 rfl rfl, rfl, ⟨by decide, by decide, by decide +kernel⟩⟩
set_option maxRecDepth 20000 in
theorem ck_Loom_41 : ckI R_Loom 41 y_Run_init b_Run_init 1 0 := ⟨tg_mem 152 rfl rfl, tg_mem 153 rfl rfl, tg_mem 41 rfl rfl, tg_mem 154 rfl rfl, rfl, ⟨by decide, by decide, by decide +kernel⟩⟩
set_option maxRecDepth 20000 in
theorem ck_Loom_69 : ckV R_Loom 69 y_Loom_forgetWhatHungOnProgram b_Loom_forgetWhatHungOnProgram 1 none 0 := ⟨tg_mem 221 rfl rfl, tg_mem 223 rfl rfl, tg_mem 0 rfl rfl, tg_mem 36 rfl rfl, tg_mem 224 rfl rfl, ⟨by decide, by decide, by decide +kernel⟩⟩
set_option maxRecDepth 20000 in
theorem ck_Loom_72 : ckV R_Loom 72 y_Listing_append b_Listing_append 3 none 2 := ⟨tg_mem 359 rfl rfl, tg_mem 360 rfl rfl, tg_mem 361 rfl rfl, tg_mem 37 rfl rfl, tg_mem 362 rfl rfl, ⟨by decide, by decide, by decide +kernel⟩⟩
set_option maxRecDepth 20000 in
theorem ck_Loom_78 : ckV R_Loom 78 y_Loom_forgetWhatHungOnAutomaton b_Loom_forgetWhatHungOnAutomaton 1 none 0 := ⟨tg_mem 225 rfl rfl, tg_mem 227 rfl rfl, tg_mem 1 rfl rfl, tg_mem 36 rfl rfl, tg_mem 228 rfl rfl, ⟨by decide, by decide, by decide +kernel⟩⟩
set_option maxRecDepth 20000 in
theorem ck_Loom_81 : ckV R_Loom 81 y_Automaton_reset b_Automaton_reset 3 none 1 := ⟨tg_mem 371 rfl rfl, tg_mem 92 rfl rfl, tg_mem 93 rfl rfl, tg_mem 38 rfl rfl, tg_mem 94 rfl rfl, ⟨by decide, by decide, by decide +kernel⟩⟩
set_option maxRecDepth 20000 in
theorem ck_Loom_84 : ckV R_Loom 84 y_Automaton_hasState b_Automaton_hasState 2 (some (Jvm.ClassFile.FieldType.boolean)) 1 := ⟨tg_mem 379 rfl rfl, tg_mem 380 rfl rfl, tg_mem 381 rfl rfl, tg_mem 38 rfl rfl, tg_mem 382 rfl rfl, ⟨by decide, by decide, by decide +kernel⟩⟩
set_option maxRecDepth 20000 in
theorem ck_Loom_94 : ckS R_Loom 94 y_Automaton_place b_Automaton_place 2 (some (Jvm.ClassFile.FieldType.int)) 2 := ⟨tg_mem 386 rfl rfl, tg_mem 387 rfl rfl, tg_mem 38 rfl rfl, tg_mem 388 rfl rfl, ⟨by decide, by decide, by decide +kernel⟩⟩
set_option maxRecDepth 20000 in
theorem ck_Loom_98 : ckV R_Loom 98 y_Automaton_setRule b_Automaton_setRule 5 none 4 := ⟨tg_mem 389 rfl rfl, tg_mem 390 rfl rfl, tg_mem 391 rfl rfl, tg_mem 38 rfl rfl, tg_mem 392 rfl rfl, ⟨by decide, by decide, by decide +kernel⟩⟩
set_option maxRecDepth 20000 in
theorem ck_Loom_102 : ckV R_Loom 102 y_Loom_isWellFormed b_Loom_isWellFormed 1 (some (Jvm.ClassFile.FieldType.boolean)) 0 := ⟨tg_mem 233 rfl rfl, tg_mem 235 rfl rfl, tg_mem 2 rfl rfl, tg_mem 36 rfl rfl, tg_mem 236 rfl rfl, ⟨by decide, by decide, by decide +kernel⟩⟩
set_option maxRecDepth 20000 in
theorem ck_Loom_106 : ckV R_Loom 106 y_Loom_requireWellFormed b_Loom_requireWellFormed 1 none 0 := ⟨tg_mem 401 rfl rfl, tg_mem 403 rfl rfl, tg_mem 7 rfl rfl, tg_mem 36 rfl rfl, tg_mem 404 rfl rfl, ⟨by decide, by decide, by decide +kernel⟩⟩
set_option maxRecDepth 20000 in
theorem ck_Loom_115 : ckV R_Loom 115 y_Loom_wovenListing b_Loom_wovenListing 1 (some ((Jvm.ClassFile.FieldType.object "PolicyLoom$Listing"))) 0 := ⟨tg_mem 429 rfl rfl, tg_mem 431 rfl rfl, tg_mem 8 rfl rfl, tg_mem 36 rfl rfl, tg_mem 432 rfl rfl, ⟨by decide, by decide, by decide +kernel⟩⟩
set_option maxRecDepth 20000 in
theorem ck_Loom_127 : ckV R_Loom 127 y_Run_begin b_Run_begin 4 none 2 := ⟨tg_mem 488 rfl rfl, tg_mem 489 rfl rfl, tg_mem 490 rfl rfl, tg_mem 41 rfl rfl, tg_mem 491 rfl rfl, ⟨by decide, by decide, by decide +kernel⟩⟩
set_option maxRecDepth 20000 in
theorem ck_Loom_143 : ckV R_Loom 143 y_Run_advance b_Run_advance 5 none 2 := ⟨tg_mem 501 rfl rfl, tg_mem 502 rfl rfl, tg_mem 503 rfl rfl, tg_mem 41 rfl rfl, tg_mem 504 rfl rfl, ⟨by decide, by decide, by decide +kernel⟩⟩
set_option maxRecDepth 20000 in
theorem ck_Loom_154 : ckV R_Loom 154 y_Run_policyState b_Run_policyState 1 (some (Jvm.ClassFile.FieldType.int)) 0 := ⟨tg_mem 538 rfl rfl, tg_mem 539 rfl rfl, tg_mem 540 rfl rfl, tg_mem 41 rfl rfl, tg_mem 541 rfl rfl, ⟨by decide, by decide, by decide +kernel⟩⟩
set_option maxRecDepth 20000 in
theorem ck_Loom_174 : ckV R_Loom 174 y_Heights_examine b_Heights_examine 2 none 1 := ⟨tg_mem 237 rfl rfl, tg_mem 238 rfl rfl, tg_mem 239 rfl rfl, tg_mem 39 rfl rfl, tg_mem 240 rfl rfl, ⟨by decide, by decide, by decide +kernel⟩⟩
set_option maxRecDepth 20000 in
theorem ck_Loom_183 : ckV R_Loom 183 y_Weaver_weave b_Weaver_weave 6 none 2 := ⟨tg_mem 433 rfl rfl, tg_mem 434 rfl rfl, tg_mem 435 rfl rfl, tg_mem 40 rfl rfl, tg_mem 436 rfl rfl, ⟨by decide, by decide, by decide +kernel⟩⟩
set_option maxRecDepth 20000 in
theorem ob_Automaton_3 : ckO R_Automaton 3 := ⟨tg_mem 90 rfl rfl, tg_mem 55 rfl rfl, tg_mem 56 rfl rfl⟩
set_option maxRecDepth 20000 in
theorem ck_Automaton_21 : ckV R_Automaton 21 y_Automaton_reset b_Automaton_reset 3 none 1 := ⟨tg_mem 91 rfl rfl, tg_mem 92 rfl rfl, tg_mem 93 rfl rfl, tg_mem 38 rfl rfl, tg_mem 94 rfl rfl, ⟨by decide, by decide, by decide +kernel⟩⟩
set_option maxRecDepth 20000 in
theorem ck_Automaton_29 : ckV R_Automaton 29 y_Automaton_hasRule b_Automaton_hasRule 2 (some (Jvm.ClassFile.FieldType.boolean)) 1 := ⟨tg_mem 449 rfl rfl, tg_mem 450 rfl rfl, tg_mem 451 rfl rfl, tg_mem 38 rfl rfl, tg_mem 452 rfl rfl, ⟨by decide, by decide, by decide +kernel⟩⟩
set_option maxRecDepth 20000 in
theorem ck_Automaton_33 : ckS R_Automaton 33 y_Automaton_place b_Automaton_place 2 (some (Jvm.ClassFile.FieldType.int)) 2 := ⟨tg_mem 448 rfl rfl, tg_mem 387 rfl rfl, tg_mem 38 rfl rfl, tg_mem 388 rfl rfl, ⟨by decide, by decide, by decide +kernel⟩⟩
set_option maxRecDepth 20000 in
theorem ob_Heights_3 : ckO R_Heights 3 := ⟨tg_mem 118 rfl rfl, tg_mem 55 rfl rfl, tg_mem 56 rfl rfl⟩
set_option maxRecDepth 20000 in
theorem ck_Heights_31 : ckS R_Heights 31 y_Heights_numbersFit b_Heights_numbersFit 2 (some (Jvm.ClassFile.FieldType.boolean)) 1 := ⟨tg_mem 241 rfl rfl, tg_mem 242 rfl rfl, tg_mem 39 rfl rfl, tg_mem 243 rfl rfl, ⟨by decide, by decide, by decide +kernel⟩⟩
set_option maxRecDepth 20000 in
theorem ck_Heights_35 : ckV R_Heights 35 y_Heights_heightsFit b_Heights_heightsFit 3 (some (Jvm.ClassFile.FieldType.boolean)) 1 := ⟨tg_mem 247 rfl rfl, tg_mem 249 rfl rfl, tg_mem 3 rfl rfl, tg_mem 39 rfl rfl, tg_mem 250 rfl rfl, ⟨by decide, by decide, by decide +kernel⟩⟩
set_option maxRecDepth 20000 in
theorem ck_Heights_44 : ckS R_Heights 44 y_Heights_numberFits b_Heights_numberFits 3 (some (Jvm.ClassFile.FieldType.boolean)) 3 := ⟨tg_mem 244 rfl rfl, tg_mem 245 rfl rfl, tg_mem 39 rfl rfl, tg_mem 246 rfl rfl, ⟨by decide, by decide, by decide +kernel⟩⟩
set_option maxRecDepth 20000 in
theorem ck_Heights_48 : ckV R_Heights 48 y_Heights_reach b_Heights_reach 4 (some (Jvm.ClassFile.FieldType.boolean)) 3 := ⟨tg_mem 251 rfl rfl, tg_mem 253 rfl rfl, tg_mem 4 rfl rfl, tg_mem 39 rfl rfl, tg_mem 254 rfl rfl, ⟨by decide, by decide, by decide +kernel⟩⟩
set_option maxRecDepth 20000 in
theorem ck_Heights_52 : ckV R_Heights 52 y_Heights_waysOnFit b_Heights_waysOnFit 6 (some (Jvm.ClassFile.FieldType.boolean)) 2 := ⟨tg_mem 255 rfl rfl, tg_mem 257 rfl rfl, tg_mem 5 rfl rfl, tg_mem 39 rfl rfl, tg_mem 258 rfl rfl, ⟨by decide, by decide, by decide +kernel⟩⟩
set_option maxRecDepth 20000 in
theorem ob_Listing_1 : ckO R_Listing 1 := ⟨tg_mem 62 rfl rfl, tg_mem 55 rfl rfl, tg_mem 56 rfl rfl⟩
set_option maxRecDepth 20000 in
theorem ob_Run_3 : ckO R_Run 3 := ⟨tg_mem 155 rfl rfl, tg_mem 55 rfl rfl, tg_mem 56 rfl rfl⟩
set_option maxRecDepth 20000 in
theorem ck_Run_51 : ckV R_Run 51 y_Run_pop b_Run_pop 1 (some (Jvm.ClassFile.FieldType.int)) 0 := ⟨tg_mem 505 rfl rfl, tg_mem 507 rfl rfl, tg_mem 14 rfl rfl, tg_mem 41 rfl rfl, tg_mem 508 rfl rfl, ⟨by decide, by decide, by decide +kernel⟩⟩
set_option maxRecDepth 20000 in
theorem ck_Run_55 : ckV R_Run 55 y_Run_tryAct b_Run_tryAct 5 none 2 := ⟨tg_mem 509 rfl rfl, tg_mem 511 rfl rfl, tg_mem 15 rfl rfl, tg_mem 41 rfl rfl, tg_mem 512 rfl rfl, ⟨by decide, by decide, by decide +kernel⟩⟩
set_option maxRecDepth 20000 in
theorem ck_Run_59 : ckV R_Run 59 y_Run_work b_Run_work 3 none 2 := ⟨tg_mem 518 rfl rfl, tg_mem 520 rfl rfl, tg_mem 16 rfl rfl, tg_mem 41 rfl rfl, tg_mem 521 rfl rfl, ⟨by decide, by decide, by decide +kernel⟩⟩
set_option maxRecDepth 20000 in
theorem ck_Run_63 : ckS R_Run 63 y_Automaton_place b_Automaton_place 2 (some (Jvm.ClassFile.FieldType.int)) 2 := ⟨tg_mem 513 rfl rfl, tg_mem 387 rfl rfl, tg_mem 38 rfl rfl, tg_mem 388 rfl rfl, ⟨by decide, by decide, by decide +kernel⟩⟩
set_option maxRecDepth 20000 in
theorem ck_Run_68 : ckV R_Run 68 y_Automaton_allows b_Automaton_allows 3 (some (Jvm.ClassFile.FieldType.boolean)) 2 := ⟨tg_mem 514 rfl rfl, tg_mem 515 rfl rfl, tg_mem 516 rfl rfl, tg_mem 38 rfl rfl, tg_mem 517 rfl rfl, ⟨by decide, by decide, by decide +kernel⟩⟩
set_option maxRecDepth 20000 in
theorem ck_Run_75 : ckV R_Run 75 y_Run_push b_Run_push 2 none 1 := ⟨tg_mem 522 rfl rfl, tg_mem 524 rfl rfl, tg_mem 17 rfl rfl, tg_mem 41 rfl rfl, tg_mem 525 rfl rfl, ⟨by decide, by decide, by decide +kernel⟩⟩
set_option maxRecDepth 20000 in
theorem ck_Run_79 : ckV R_Run 79 y_Run_workOnTwo b_Run_workOnTwo 4 none 1 := ⟨tg_mem 526 rfl rfl, tg_mem 528 rfl rfl, tg_mem 18 rfl rfl, tg_mem 41 rfl rfl, tg_mem 529 rfl rfl, ⟨by decide, by decide, by decide +kernel⟩⟩
set_option maxRecDepth 20000 in
theorem ob_Weaver_3 : ckO R_Weaver 3 := ⟨tg_mem 139 rfl rfl, tg_mem 55 rfl rfl, tg_mem 56 rfl rfl⟩
set_option maxRecDepth 20000 in
theorem ck_Weaver_11 : ckI R_Weaver 11 y_Listing_init b_Listing_init 2 1 := ⟨tg_mem 141 rfl rfl, tg_mem 60 rfl rfl, tg_mem 37 rfl rfl, tg_mem 61 rfl rfl, rfl, ⟨by decide, by decide, by decide +kernel⟩⟩
set_option maxRecDepth 20000 in
theorem ck_Weaver_24 : ckV R_Weaver 24 y_Weaver_findFirsts b_Weaver_findFirsts 5 none 2 := ⟨tg_mem 437 rfl rfl, tg_mem 439 rfl rfl, tg_mem 9 rfl rfl, tg_mem 40 rfl rfl, tg_mem 440 rfl rfl, ⟨by decide, by decide, by decide +kernel⟩⟩
set_option maxRecDepth 20000 in
theorem ck_Weaver_38 : ckV R_Weaver 38 y_Weaver_appendGuard b_Weaver_appendGuard 6 none 2 := ⟨tg_mem 453 rfl rfl, tg_mem 455 rfl rfl, tg_mem 10 rfl rfl, tg_mem 40 rfl rfl, tg_mem 456 rfl rfl, ⟨by decide, by decide, by decide +kernel⟩⟩
set_option maxRecDepth 20000 in
theorem ck_Weaver_46 : ckV R_Weaver 46 y_Listing_append b_Listing_append 3 none 2 := ⟨tg_mem 463 rfl rfl, tg_mem 360 rfl rfl, tg_mem 361 rfl rfl, tg_mem 37 rfl rfl, tg_mem 362 rfl rfl, ⟨by decide, by decide, by decide +kernel⟩⟩
set_option maxRecDepth 20000 in
theorem ck_Weaver_50 : ckS R_Weaver 50 y_Weaver_guardLength b_Weaver_guardLength 2 (some (Jvm.ClassFile.FieldType.int)) 2 := ⟨tg_mem 441 rfl rfl, tg_mem 442 rfl rfl, tg_mem 40 rfl rfl, tg_mem 443 rfl rfl, ⟨by decide, by decide, by decide +kernel⟩⟩
set_option maxRecDepth 20000 in
theorem ck_Weaver_54 : ckV R_Weaver 54 y_Automaton_countRules b_Automaton_countRules 4 (some (Jvm.ClassFile.FieldType.int)) 1 := ⟨tg_mem 444 rfl rfl, tg_mem 445 rfl rfl, tg_mem 446 rfl rfl, tg_mem 38 rfl rfl, tg_mem 447 rfl rfl, ⟨by decide, by decide, by decide +kernel⟩⟩
set_option maxRecDepth 20000 in
theorem ck_Weaver_61 : ckS R_Weaver 61 y_Automaton_place b_Automaton_place 2 (some (Jvm.ClassFile.FieldType.int)) 2 := ⟨tg_mem 457 rfl rfl, tg_mem 387 rfl rfl, tg_mem 38 rfl rfl, tg_mem 388 rfl rfl, ⟨by decide, by decide, by decide +kernel⟩⟩
set_option maxRecDepth 20000 in
theorem ck_Weaver_65 : ckV R_Weaver 65 y_Automaton_hasRule b_Automaton_hasRule 2 (some (Jvm.ClassFile.FieldType.boolean)) 1 := ⟨tg_mem 458 rfl rfl, tg_mem 450 rfl rfl, tg_mem 451 rfl rfl, tg_mem 38 rfl rfl, tg_mem 452 rfl rfl, ⟨by decide, by decide, by decide +kernel⟩⟩
set_option maxRecDepth 20000 in
theorem ck_Weaver_68 : ckV R_Weaver 68 y_Weaver_appendStateCheck b_Weaver_appendStateCheck 3 none 2 := ⟨tg_mem 459 rfl rfl, tg_mem 461 rfl rfl, tg_mem 11 rfl rfl, tg_mem 40 rfl rfl, tg_mem 462 rfl rfl, ⟨by decide, by decide, by decide +kernel⟩⟩
set_option maxRecDepth 20000 in
theorem ck_Weaver_77 : ckV R_Weaver 77 y_Weaver_appendRangeCheck b_Weaver_appendRangeCheck 4 none 3 := ⟨tg_mem 464 rfl rfl, tg_mem 466 rfl rfl, tg_mem 12 rfl rfl, tg_mem 40 rfl rfl, tg_mem 467 rfl rfl, ⟨by decide, by decide, by decide +kernel⟩⟩
set_option maxRecDepth 20000 in
theorem ck_Weaver_84 : ckV R_Weaver 84 y_Weaver_appendMove b_Weaver_appendMove 3 none 2 := ⟨tg_mem 468 rfl rfl, tg_mem 470 rfl rfl, tg_mem 13 rfl rfl, tg_mem 40 rfl rfl, tg_mem 471 rfl rfl, ⟨by decide, by decide, by decide +kernel⟩⟩
