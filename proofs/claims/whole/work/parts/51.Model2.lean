/-! Decode rows of reference. -/
theorem d_Model_isWell_0 : decode b_Model_isWell 0 = .ok (.aload_n 0, 1) := by decide +kernel
theorem d_Model_isWell_1 : decode b_Model_isWell 1 = .ok (.getfield 55, 3) := by decide +kernel
theorem d_Model_isWell_4 : decode b_Model_isWell 4 = .ok (.ifCond .le 7, 3) := by decide +kernel
theorem d_Model_isWell_7 : decode b_Model_isWell 7 = .ok (.iconst 1, 1) := by decide +kernel
theorem d_Model_isWell_8 : decode b_Model_isWell 8 = .ok (.goto 4, 3) := by decide +kernel
theorem d_Model_isWell_11 : decode b_Model_isWell 11 = .ok (.iconst 0, 1) := by decide +kernel
theorem d_Model_isWell_12 : decode b_Model_isWell 12 = .ok (.istore_n 1, 1) := by decide +kernel
theorem d_Model_isWell_13 : decode b_Model_isWell 13 = .ok (.iconst 0, 1) := by decide +kernel
theorem d_Model_isWell_14 : decode b_Model_isWell 14 = .ok (.istore_n 2, 1) := by decide +kernel
theorem d_Model_isWell_15 : decode b_Model_isWell 15 = .ok (.iload_n 2, 1) := by decide +kernel
theorem d_Model_isWell_16 : decode b_Model_isWell 16 = .ok (.aload_n 0, 1) := by decide +kernel
theorem d_Model_isWell_17 : decode b_Model_isWell 17 = .ok (.getfield 55, 3) := by decide +kernel
theorem d_Model_isWell_20 : decode b_Model_isWell 20 = .ok (.if_icmp .ge 34, 3) := by decide +kernel
theorem d_Model_isWell_23 : decode b_Model_isWell 23 = .ok (.iload_n 1, 1) := by decide +kernel
theorem d_Model_isWell_24 : decode b_Model_isWell 24 = .ok (.ifCond .eq 15, 3) := by decide +kernel
theorem d_Model_isWell_27 : decode b_Model_isWell 27 = .ok (.aload_n 0, 1) := by decide +kernel
theorem d_Model_isWell_28 : decode b_Model_isWell 28 = .ok (.iload_n 2, 1) := by decide +kernel
theorem d_Model_isWell_29 : decode b_Model_isWell 29 = .ok (.invokevirtual 68, 3) := by decide +kernel
theorem d_Model_isWell_32 : decode b_Model_isWell 32 = .ok (.ifCond .eq 7, 3) := by decide +kernel
theorem d_Model_isWell_35 : decode b_Model_isWell 35 = .ok (.iconst 1, 1) := by decide +kernel
theorem d_Model_isWell_36 : decode b_Model_isWell 36 = .ok (.goto 4, 3) := by decide +kernel
theorem d_Model_isWell_39 : decode b_Model_isWell 39 = .ok (.iconst 0, 1) := by decide +kernel
theorem d_Model_isWell_40 : decode b_Model_isWell 40 = .ok (.istore_n 1, 1) := by decide +kernel
theorem d_Model_isWell_41 : decode b_Model_isWell 41 = .ok (.aload_n 0, 1) := by decide +kernel
theorem d_Model_isWell_42 : decode b_Model_isWell 42 = .ok (.getfield 16, 3) := by decide +kernel
theorem d_Model_isWell_45 : decode b_Model_isWell 45 = .ok (.iload_n 2, 1) := by decide +kernel
theorem d_Model_isWell_46 : decode b_Model_isWell 46 = .ok (.iconst (-1), 1) := by decide +kernel
theorem d_Model_isWell_47 : decode b_Model_isWell 47 = .ok (.iastore, 1) := by decide +kernel
theorem d_Model_isWell_48 : decode b_Model_isWell 48 = .ok (.iinc 2 1, 3) := by decide +kernel
theorem d_Model_isWell_51 : decode b_Model_isWell 51 = .ok (.goto (-36), 3) := by decide +kernel
theorem d_Model_isWell_54 : decode b_Model_isWell 54 = .ok (.iload_n 1, 1) := by decide +kernel
theorem d_Model_isWell_55 : decode b_Model_isWell 55 = .ok (.ifCond .ne 5, 3) := by decide +kernel
theorem d_Model_isWell_58 : decode b_Model_isWell 58 = .ok (.iconst 0, 1) := by decide +kernel
theorem d_Model_isWell_59 : decode b_Model_isWell 59 = .ok (.ireturn, 1) := by decide +kernel
theorem d_Model_isWell_60 : decode b_Model_isWell 60 = .ok (.aload_n 0, 1) := by decide +kernel
theorem d_Model_isWell_61 : decode b_Model_isWell 61 = .ok (.getfield 16, 3) := by decide +kernel
theorem d_Model_isWell_64 : decode b_Model_isWell 64 = .ok (.iconst 0, 1) := by decide +kernel
theorem d_Model_isWell_65 : decode b_Model_isWell 65 = .ok (.iconst 0, 1) := by decide +kernel
theorem d_Model_isWell_66 : decode b_Model_isWell 66 = .ok (.iastore, 1) := by decide +kernel
theorem d_Model_isWell_67 : decode b_Model_isWell 67 = .ok (.iconst 0, 1) := by decide +kernel
theorem d_Model_isWell_68 : decode b_Model_isWell 68 = .ok (.istore_n 2, 1) := by decide +kernel
theorem d_Model_isWell_69 : decode b_Model_isWell 69 = .ok (.iload_n 2, 1) := by decide +kernel
theorem d_Model_isWell_70 : decode b_Model_isWell 70 = .ok (.aload_n 0, 1) := by decide +kernel
theorem d_Model_isWell_71 : decode b_Model_isWell 71 = .ok (.getfield 55, 3) := by decide +kernel
theorem d_Model_isWell_74 : decode b_Model_isWell 74 = .ok (.if_icmp .ge 166, 3) := by decide +kernel
theorem d_Model_isWell_77 : decode b_Model_isWell 77 = .ok (.iconst 0, 1) := by decide +kernel
theorem d_Model_isWell_78 : decode b_Model_isWell 78 = .ok (.istore_n 3, 1) := by decide +kernel
theorem d_Model_isWell_79 : decode b_Model_isWell 79 = .ok (.iload_n 3, 1) := by decide +kernel
theorem d_Model_isWell_80 : decode b_Model_isWell 80 = .ok (.aload_n 0, 1) := by decide +kernel
theorem d_Model_isWell_81 : decode b_Model_isWell 81 = .ok (.getfield 55, 3) := by decide +kernel
theorem d_Model_isWell_84 : decode b_Model_isWell 84 = .ok (.if_icmp .ge 150, 3) := by decide +kernel
theorem d_Model_isWell_87 : decode b_Model_isWell 87 = .ok (.iload_n 1, 1) := by decide +kernel
theorem d_Model_isWell_88 : decode b_Model_isWell 88 = .ok (.ifCond .eq 146, 3) := by decide +kernel
theorem d_Model_isWell_91 : decode b_Model_isWell 91 = .ok (.aload_n 0, 1) := by decide +kernel
theorem d_Model_isWell_92 : decode b_Model_isWell 92 = .ok (.getfield 7, 3) := by decide +kernel
theorem d_Model_isWell_95 : decode b_Model_isWell 95 = .ok (.iload_n 3, 1) := by decide +kernel
theorem d_Model_isWell_96 : decode b_Model_isWell 96 = .ok (.iaload, 1) := by decide +kernel
theorem d_Model_isWell_97 : decode b_Model_isWell 97 = .ok (.istore 4, 2) := by decide +kernel
theorem d_Model_isWell_99 : decode b_Model_isWell 99 = .ok (.aload_n 0, 1) := by decide +kernel
theorem d_Model_isWell_100 : decode b_Model_isWell 100 = .ok (.getfield 16, 3) := by decide +kernel
theorem d_Model_isWell_103 : decode b_Model_isWell 103 = .ok (.iload_n 3, 1) := by decide +kernel
theorem d_Model_isWell_104 : decode b_Model_isWell 104 = .ok (.iaload, 1) := by decide +kernel
theorem d_Model_isWell_105 : decode b_Model_isWell 105 = .ok (.iload 4, 2) := by decide +kernel
theorem d_Model_isWell_107 : decode b_Model_isWell 107 = .ok (.invokestatic 71, 3) := by decide +kernel
theorem d_Model_isWell_110 : decode b_Model_isWell 110 = .ok (.isub, 1) := by decide +kernel
theorem d_Model_isWell_111 : decode b_Model_isWell 111 = .ok (.istore 5, 2) := by decide +kernel
theorem d_Model_isWell_113 : decode b_Model_isWell 113 = .ok (.aload_n 0, 1) := by decide +kernel
theorem d_Model_isWell_114 : decode b_Model_isWell 114 = .ok (.getfield 16, 3) := by decide +kernel
theorem d_Model_isWell_117 : decode b_Model_isWell 117 = .ok (.iload_n 3, 1) := by decide +kernel
theorem d_Model_isWell_118 : decode b_Model_isWell 118 = .ok (.iaload, 1) := by decide +kernel
theorem d_Model_isWell_119 : decode b_Model_isWell 119 = .ok (.ifCond .lt 109, 3) := by decide +kernel
theorem d_Model_isWell_122 : decode b_Model_isWell 122 = .ok (.iload 4, 2) := by decide +kernel
theorem d_Model_isWell_124 : decode b_Model_isWell 124 = .ok (.bipush 12, 2) := by decide +kernel
theorem d_Model_isWell_126 : decode b_Model_isWell 126 = .ok (.if_icmp .ne 6, 3) := by decide +kernel
theorem d_Model_isWell_129 : decode b_Model_isWell 129 = .ok (.goto 99, 3) := by decide +kernel
theorem d_Model_isWell_132 : decode b_Model_isWell 132 = .ok (.iload 5, 2) := by decide +kernel
theorem d_Model_isWell_134 : decode b_Model_isWell 134 = .ok (.iload 4, 2) := by decide +kernel
theorem d_Model_isWell_136 : decode b_Model_isWell 136 = .ok (.invokestatic 74, 3) := by decide +kernel
theorem d_Model_isWell_139 : decode b_Model_isWell 139 = .ok (.iadd, 1) := by decide +kernel
theorem d_Model_isWell_140 : decode b_Model_isWell 140 = .ok (.istore 6, 2) := by decide +kernel
theorem d_Model_isWell_142 : decode b_Model_isWell 142 = .ok (.iload 5, 2) := by decide +kernel
theorem d_Model_isWell_144 : decode b_Model_isWell 144 = .ok (.ifCond .lt 14, 3) := by decide +kernel
theorem d_Model_isWell_147 : decode b_Model_isWell 147 = .ok (.iload 6, 2) := by decide +kernel
theorem d_Model_isWell_149 : decode b_Model_isWell 149 = .ok (.bipush 12, 2) := by decide +kernel
theorem d_Model_isWell_151 : decode b_Model_isWell 151 = .ok (.if_icmp .gt 7, 3) := by decide +kernel
theorem d_Model_isWell_154 : decode b_Model_isWell 154 = .ok (.iconst 1, 1) := by decide +kernel
theorem d_Model_isWell_155 : decode b_Model_isWell 155 = .ok (.goto 4, 3) := by decide +kernel
theorem d_Model_isWell_158 : decode b_Model_isWell 158 = .ok (.iconst 0, 1) := by decide +kernel
theorem d_Model_isWell_159 : decode b_Model_isWell 159 = .ok (.istore_n 1, 1) := by decide +kernel
theorem d_Model_isWell_160 : decode b_Model_isWell 160 = .ok (.iload 4, 2) := by decide +kernel
theorem d_Model_isWell_162 : decode b_Model_isWell 162 = .ok (.bipush 7, 2) := by decide +kernel
theorem d_Model_isWell_164 : decode b_Model_isWell 164 = .ok (.if_icmp .eq 10, 3) := by decide +kernel
theorem d_Model_isWell_167 : decode b_Model_isWell 167 = .ok (.iload 4, 2) := by decide +kernel
theorem d_Model_isWell_169 : decode b_Model_isWell 169 = .ok (.bipush 8, 2) := by decide +kernel
theorem d_Model_isWell_171 : decode b_Model_isWell 171 = .ok (.if_icmp .ne 28, 3) := by decide +kernel
theorem d_Model_isWell_174 : decode b_Model_isWell 174 = .ok (.iload_n 1, 1) := by decide +kernel
theorem d_Model_isWell_175 : decode b_Model_isWell 175 = .ok (.ifCond .eq 22, 3) := by decide +kernel
theorem d_Model_isWell_178 : decode b_Model_isWell 178 = .ok (.aload_n 0, 1) := by decide +kernel
theorem d_Model_isWell_179 : decode b_Model_isWell 179 = .ok (.aload_n 0, 1) := by decide +kernel
theorem d_Model_isWell_180 : decode b_Model_isWell 180 = .ok (.getfield 13, 3) := by decide +kernel
theorem d_Model_isWell_183 : decode b_Model_isWell 183 = .ok (.iload_n 3, 1) := by decide +kernel
theorem d_Model_isWell_184 : decode b_Model_isWell 184 = .ok (.iaload, 1) := by decide +kernel
theorem d_Model_isWell_185 : decode b_Model_isWell 185 = .ok (.iload 6, 2) := by decide +kernel
theorem d_Model_isWell_187 : decode b_Model_isWell 187 = .ok (.invokevirtual 77, 3) := by decide +kernel
theorem d_Model_isWell_190 : decode b_Model_isWell 190 = .ok (.ifCond .eq 7, 3) := by decide +kernel
theorem d_Model_isWell_193 : decode b_Model_isWell 193 = .ok (.iconst 1, 1) := by decide +kernel
theorem d_Model_isWell_194 : decode b_Model_isWell 194 = .ok (.goto 4, 3) := by decide +kernel
theorem d_Model_isWell_197 : decode b_Model_isWell 197 = .ok (.iconst 0, 1) := by decide +kernel
theorem d_Model_isWell_198 : decode b_Model_isWell 198 = .ok (.istore_n 1, 1) := by decide +kernel
theorem d_Model_isWell_199 : decode b_Model_isWell 199 = .ok (.iload 4, 2) := by decide +kernel
theorem d_Model_isWell_201 : decode b_Model_isWell 201 = .ok (.bipush 7, 2) := by decide +kernel
theorem d_Model_isWell_203 : decode b_Model_isWell 203 = .ok (.if_icmp .eq 25, 3) := by decide +kernel
theorem d_Model_isWell_206 : decode b_Model_isWell 206 = .ok (.iload_n 1, 1) := by decide +kernel
theorem d_Model_isWell_207 : decode b_Model_isWell 207 = .ok (.ifCond .eq 19, 3) := by decide +kernel
theorem d_Model_isWell_210 : decode b_Model_isWell 210 = .ok (.aload_n 0, 1) := by decide +kernel
theorem d_Model_isWell_211 : decode b_Model_isWell 211 = .ok (.iload_n 3, 1) := by decide +kernel
theorem d_Model_isWell_212 : decode b_Model_isWell 212 = .ok (.iconst 1, 1) := by decide +kernel
theorem d_Model_isWell_213 : decode b_Model_isWell 213 = .ok (.iadd, 1) := by decide +kernel
theorem d_Model_isWell_214 : decode b_Model_isWell 214 = .ok (.iload 6, 2) := by decide +kernel
theorem d_Model_isWell_216 : decode b_Model_isWell 216 = .ok (.invokevirtual 77, 3) := by decide +kernel
theorem d_Model_isWell_219 : decode b_Model_isWell 219 = .ok (.ifCond .eq 7, 3) := by decide +kernel
theorem d_Model_isWell_222 : decode b_Model_isWell 222 = .ok (.iconst 1, 1) := by decide +kernel
theorem d_Model_isWell_223 : decode b_Model_isWell 223 = .ok (.goto 4, 3) := by decide +kernel
theorem d_Model_isWell_226 : decode b_Model_isWell 226 = .ok (.iconst 0, 1) := by decide +kernel
theorem d_Model_isWell_227 : decode b_Model_isWell 227 = .ok (.istore_n 1, 1) := by decide +kernel
theorem d_Model_isWell_228 : decode b_Model_isWell 228 = .ok (.iinc 3 1, 3) := by decide +kernel
theorem d_Model_isWell_231 : decode b_Model_isWell 231 = .ok (.goto (-152), 3) := by decide +kernel
theorem d_Model_isWell_234 : decode b_Model_isWell 234 = .ok (.iinc 2 1, 3) := by decide +kernel
theorem d_Model_isWell_237 : decode b_Model_isWell 237 = .ok (.goto (-168), 3) := by decide +kernel
theorem d_Model_isWell_240 : decode b_Model_isWell 240 = .ok (.iload_n 1, 1) := by decide +kernel
theorem d_Model_isWell_241 : decode b_Model_isWell 241 = .ok (.ireturn, 1) := by decide +kernel
theorem c_Model_reach (l : Launch) (D : va_G) (cI cZ cL : ClassId) (m0 o1 o2 o3 o4 o5 o6 o7 o8 o9 o10 o11 : Nat) (P K Hm ru lo hi tm sa ca ta tn : Nat → Int32) (fo1 fk1 : Int32) (co np n stat how pl la stt q dn : Nat) (i h : Nat) (hnp : np ≤ 24) (hi2 : i < 2 ^ 31) (hh : h ≤ 12) (hlb : labs np Hm) : pl_I l y_Model_reach b_Model_reach 3 .boolean ({ frames := 1, cells := 0, slots := 0, locals := 21 } : Room) pl_E0 D classes (TY cI cZ cL) [.ref m0, .int (nI i), .int (nI h)] [(m0, .inr (6, [.int (nI co), .int (nI np), .ref o1, .ref o2, .ref o3, .int (nI n), .ref o4, .ref o5, .ref o6, .ref o7, .int fo1, .int fk1, .int (nI stat), .int (nI how), .int (nI pl), .int (nI la), .int (nI stt), .int (nI q), .ref o8, .ref o9, .int (nI dn), .ref o10, .ref o11])), (o3, .inl (cI, 24, .inl Hm))] (reachP np i h Hm) (fun (u : MW) => [(m0, .inr (6, [.int (nI co), .int (nI np), .ref o1, .ref o2, .ref o3, .int (nI n), .ref o4, .ref o5, .ref o6, .ref o7, .int fo1, .int fk1, .int (nI stat), .int (nI how), .int (nI pl), .int (nI la), .int (nI stt), .int (nI q), .ref o8, .ref o9, .int (nI dn), .ref o10, .ref o11])), (o3, .inl (cI, 24, .inl u.1))]) := by
  by_cases hilt : i < np
  · rcases hlb i hilt with hF | ⟨h2, hb2, hF⟩
    · exact pl_I_conv (c_Model_reach_new l D cI cZ cL m0 o1 o2 o3 o4 o5 o6 o7 o8 o9 o10 o11 P K Hm ru lo hi tm sa ca ta tn fo1 fk1 co np n stat how pl la stt q dn i h hnp hilt hF) (fun _ => (upd Hm i (nI h), true)) (fun r _ e => ⟨e.trans (bI_t rfl), fun _ => ⟨hilt, Or.inl hF, rfl⟩, fun e => nomatch e⟩) (fun _ _ _ => rfl)
    · by_cases hne : h2 = h
      · subst hne
        exact pl_I_conv (c_Model_reach_same l D cI cZ cL m0 o1 o2 o3 o4 o5 o6 o7 o8 o9 o10 o11 P K Hm ru lo hi tm sa ca ta tn fo1 fk1 co np n stat how pl la stt q dn i h2 hnp hilt (by omega) hF) (fun _ => (upd Hm i (nI h2), true)) (fun r _ e => ⟨e.trans (bI_t rfl), fun _ => ⟨hilt, Or.inr hF, rfl⟩, fun e => nomatch e⟩) (fun _ _ _ => rfl)
      · exact pl_I_conv (c_Model_reach_oth l D cI cZ cL m0 o1 o2 o3 o4 o5 o6 o7 o8 o9 o10 o11 P K Hm ru lo hi tm sa ca ta tn fo1 fk1 co np n stat how pl la stt q dn i h h2 hnp hilt (by omega) (by omega) hF hne) (fun _ => (Hm, false)) (fun r _ e => ⟨e.trans (bI_f rfl), (fun e => nomatch e), fun _ => ⟨rfl, fun q => q.2.elim (fun q => absurd (hF.symm.trans q) (nI_nm1 (by omega))) (fun q => hne (nI_inj (by omega) (by omega) (hF.symm.trans q)))⟩⟩) (fun _ _ _ => rfl)
  · exact pl_I_conv (c_Model_reach_out l D cI cZ cL m0 o1 o2 o3 o4 o5 o6 o7 o8 o9 o10 o11 P K Hm ru lo hi tm sa ca ta tn fo1 fk1 co np n stat how pl la stt q dn i h hnp (by omega) hi2) (fun _ => (Hm, false)) (fun r _ e => ⟨e.trans (bI_f rfl), (fun e => nomatch e), fun _ => ⟨rfl, fun q => hilt q.1⟩⟩) (fun _ _ _ => rfl)

set_option maxHeartbeats 4000000 in
set_option maxRecDepth 100000 in
theorem c_Model_isWell (l : Launch) (D : va_G) (cI cZ cL : ClassId) (m0 o1 o2 o3 o4 o5 o6 o7 o8 o9 o10 o11 : Nat) (P K Hm ru lo hi tm sa ca ta tn : Nat → Int32) (fo1 fk1 : Int32) (co np n stat how pl la stt q dn : Nat) (hnp : np ≤ 24) (hop : okP P np) : pl_I l y_Model_isWell b_Model_isWell 7 .boolean ({ frames := 2, cells := 0, slots := 0, locals := 44 } : Room) pl_E0 D classes (TY cI cZ cL) [.ref m0] [(m0, .inr (6, [.int (nI co), .int (nI np), .ref o1, .ref o2, .ref o3, .int (nI n), .ref o4, .ref o5, .ref o6, .ref o7, .int fo1, .int fk1, .int (nI stat), .int (nI how), .int (nI pl), .int (nI la), .int (nI stt), .int (nI q), .ref o8, .ref o9, .int (nI dn), .ref o10, .ref o11])), (o1, .inl (cI, 24, .inl P)), (o2, .inl (cI, 24, .inl K)), (o3, .inl (cI, 24, .inl Hm))] (wellP P K np) (fun (u : MW) => [(m0, .inr (6, [.int (nI co), .int (nI np), .ref o1, .ref o2, .ref o3, .int (nI n), .ref o4, .ref o5, .ref o6, .ref o7, .int fo1, .int fk1, .int (nI stat), .int (nI how), .int (nI pl), .int (nI la), .int (nI stt), .int (nI q), .ref o8, .ref o9, .int (nI dn), .ref o10, .ref o11])), (o1, .inl (cI, 24, .inl P)), (o2, .inl (cI, 24, .inl K)), (o3, .inl (cI, 24, .inl u.1))]) := by
  refine pl_startI (by decide) (Nat.le_of_ble_eq_true rfl) ?_
  intro p e s m args below meth c A ls X hr hlk hin hK hP hD hS hA hE hl
  have X : CallFix p m c b_Model_isWell 7 s args TG R_Model := X
  have hx := X.1
  have hb := X.2.1
  have hl : lv_has ls 7 [(0, .ref m0)] := hl
  refine lv_aload_n hx hb d_Model_isWell_0 rfl (lv_at hl 0 rfl) ?_
  refine pl_get X fw_Model_55 hK hP 0 rfl (v := .int (nI np)) rfl d_Model_isWell_1 ?_
  refine pl_if_le X (by omega) d_Model_isWell_4 rfl (fun g4 => ?_) (fun g4 => ?_)
  · skip
    refine lv_iconst (v := nI 0) hx hb d_Model_isWell_11 (by decide) ?_
    refine lv_istore_n hx hb d_Model_isWell_12 rfl hl (by decide) (lv' := [(1, .int (nI 0)), (0, .ref m0)]) rfl (fun ls hl => ?_)
    refine lv_iconst (v := nI 0) hx hb d_Model_isWell_13 (by decide) ?_
    refine lv_istore_n hx hb d_Model_isWell_14 rfl hl (by decide) (lv' := [(2, .int (nI 0)), (1, .int (nI 0)), (0, .ref m0)]) rfl (fun ls hl => ?_)
    have loop_15 : ∀ (k : Nat) (i : Nat) (g : Nat → Int32) (b : Bool) (H : Heap) (locs : List Loc) (ls : Array Slot), np - i = k → (i ≤ np) → (∀ j, j < i → g j = -1) → (b = true ↔ (0 < np ∧ ∀ j, j < i → numFit (opn P j) (K j) np = true)) → va_P D classes [(m0, .inr (6, [.int (nI co), .int (nI np), .ref o1, .ref o2, .ref o3, .int (nI n), .ref o4, .ref o5, .ref o6, .ref o7, .int fo1, .int fk1, .int (nI stat), .int (nI how), .int (nI pl), .int (nI la), .int (nI stt), .int (nI q), .ref o8, .ref o9, .int (nI dn), .ref o10, .ref o11])), (o1, .inl (cI, 24, .inl P)), (o2, .inl (cI, 24, .inl K)), (o3, .inl (cI, 24, .inl g))] H → va_D A [(m0, .inr (6, [.int (nI co), .int (nI np), .ref o1, .ref o2, .ref o3, .int (nI n), .ref o4, .ref o5, .ref o6, .ref o7, .int fo1, .int fk1, .int (nI stat), .int (nI how), .int (nI pl), .int (nI la), .int (nI stt), .int (nI q), .ref o8, .ref o9, .int (nI dn), .ref o10, .ref o11])), (o1, .inl (cI, 24, .inl P)), (o2, .inl (cI, 24, .inl K)), (o3, .inl (cI, 24, .inl g))] → va_S A s.heap H locs → lv_has ls 7 [(2, .int (nI i)), (1, .int (bI (b))), (0, .ref m0)] → W p l e ({ frames := 2, cells := 0, slots := 0, locals := 44 } : Room) s m args below meth c H locs 0 0 (MQ below (va_Qi (wellP P K np) (fun u => pl_out D classes (TY cI cZ cL) A ((fun (u : MW) => [(m0, .inr (6, [.int (nI co), .int (nI np), .ref o1, .ref o2, .ref o3, .int (nI n), .ref o4, .ref o5, .ref o6, .ref o7, .int fo1, .int fk1, .int (nI stat), .int (nI how), .int (nI pl), .int (nI la), .int (nI stt), .int (nI q), .ref o8, .ref o9, .int (nI dn), .ref o10, .ref o11])), (o1, .inl (cI, 24, .inl P)), (o2, .inl (cI, 24, .inl K)), (o3, .inl (cI, 24, .inl u.1))]) u)) A) args s 0 0 A) (F0 m 15 ls []) := by
      intro k
      induction k using Nat.strongRecOn with
      | _ k ih =>
      intro i g b H locs ls hk hi0 hg hbi hP hD hS hl
      refine lv_iload_n hx hb d_Model_isWell_15 rfl (lv_at hl 0 rfl) ?_
      refine lv_aload_n hx hb d_Model_isWell_16 rfl (lv_at hl 2 rfl) ?_
      refine pl_get X fw_Model_55 hK hP 0 rfl (v := .int (nI np)) rfl d_Model_isWell_17 ?_
      refine pl_icmp_ge X (by omega) (by omega) d_Model_isWell_20 rfl (fun g20 => ?_) (fun g20 => ?_)
      · skip
        refine lv_iload_n hx hb d_Model_isWell_54 rfl (lv_at hl 1 rfl) ?_
        refine pl_ifB_ne X d_Model_isWell_55 rfl (fun g55 => ?_) (fun g55 => ?_)
        · skip
          have hp0 := (hbi.mp g55).1
          have hok : okK P K np := fun j hj => (hbi.mp g55).2 j (by omega)
          refine lv_aload_n hx hb d_Model_isWell_60 rfl (lv_at hl 2 rfl) ?_
          refine pl_get X fw_Model_16 hK hP 0 rfl (v := .ref o3) rfl d_Model_isWell_61 ?_
          refine lv_iconst (v := nI 0) hx hb d_Model_isWell_64 (by decide) ?_
          refine lv_iconst (v := nI 0) hx hb d_Model_isWell_65 (by decide) ?_
          refine pl_iast X hK hP hD hS 3 0 rfl rfl 0 (by omega) (by decide) d_Model_isWell_66 (ws' := [(m0, .inr (6, [.int (nI co), .int (nI np), .ref o1, .ref o2, .ref o3, .int (nI n), .ref o4, .ref o5, .ref o6, .ref o7, .int fo1, .int fk1, .int (nI stat), .int (nI how), .int (nI pl), .int (nI la), .int (nI stt), .int (nI q), .ref o8, .ref o9, .int (nI dn), .ref o10, .ref o11])), (o1, .inl (cI, 24, .inl P)), (o2, .inl (cI, 24, .inl K)), (o3, .inl (cI, 24, .inl (upd g 0 (nI 0))))]) rfl (fun H locs hP hD hS => ?_)
          refine lv_iconst (v := nI 0) hx hb d_Model_isWell_67 (by decide) ?_
          refine lv_istore_n hx hb d_Model_isWell_68 rfl hl (by decide) (lv' := [(2, .int (nI 0)), (1, .int (bI (b))), (0, .ref m0)]) rfl (fun ls hl => ?_)
          have loop_69 : ∀ (k : Nat) (r : Nat) (F : Nat → Int32) (b2 : Bool) (H : Heap) (locs : List Loc) (ls : Array Slot), np - r = k → (r ≤ np) → (mInv P K np F) → (b2 = true → closed P K np F ∨ r + 1 ≤ cntL F np) → (b2 = false → ∀ G, ¬ closed P K np G) → va_P D classes [(m0, .inr (6, [.int (nI co), .int (nI np), .ref o1, .ref o2, .ref o3, .int (nI n), .ref o4, .ref o5, .ref o6, .ref o7, .int fo1, .int fk1, .int (nI stat), .int (nI how), .int (nI pl), .int (nI la), .int (nI stt), .int (nI q), .ref o8, .ref o9, .int (nI dn), .ref o10, .ref o11])), (o1, .inl (cI, 24, .inl P)), (o2, .inl (cI, 24, .inl K)), (o3, .inl (cI, 24, .inl F))] H → va_D A [(m0, .inr (6, [.int (nI co), .int (nI np), .ref o1, .ref o2, .ref o3, .int (nI n), .ref o4, .ref o5, .ref o6, .ref o7, .int fo1, .int fk1, .int (nI stat), .int (nI how), .int (nI pl), .int (nI la), .int (nI stt), .int (nI q), .ref o8, .ref o9, .int (nI dn), .ref o10, .ref o11])), (o1, .inl (cI, 24, .inl P)), (o2, .inl (cI, 24, .inl K)), (o3, .inl (cI, 24, .inl F))] → va_S A s.heap H locs → lv_has ls 7 [(2, .int (nI r)), (1, .int (bI (b2))), (0, .ref m0)] → W p l e ({ frames := 2, cells := 0, slots := 0, locals := 44 } : Room) s m args below meth c H locs 0 0 (MQ below (va_Qi (wellP P K np) (fun u => pl_out D classes (TY cI cZ cL) A ((fun (u : MW) => [(m0, .inr (6, [.int (nI co), .int (nI np), .ref o1, .ref o2, .ref o3, .int (nI n), .ref o4, .ref o5, .ref o6, .ref o7, .int fo1, .int fk1, .int (nI stat), .int (nI how), .int (nI pl), .int (nI la), .int (nI stt), .int (nI q), .ref o8, .ref o9, .int (nI dn), .ref o10, .ref o11])), (o1, .inl (cI, 24, .inl P)), (o2, .inl (cI, 24, .inl K)), (o3, .inl (cI, 24, .inl u.1))]) u)) A) args s 0 0 A) (F0 m 69 ls []) := by
            intro k
            induction k using Nat.strongRecOn with
            | _ k ih69 =>
            intro r F b2 H locs ls hk hr0 hv hbt hbf hP hD hS hl
            refine lv_iload_n hx hb d_Model_isWell_69 rfl (lv_at hl 0 rfl) ?_
            refine lv_aload_n hx hb d_Model_isWell_70 rfl (lv_at hl 2 rfl) ?_
            refine pl_get X fw_Model_55 hK hP 0 rfl (v := .int (nI np)) rfl d_Model_isWell_71 ?_
            refine pl_icmp_ge X (by omega) (by omega) d_Model_isWell_74 rfl (fun g74 => ?_) (fun g74 => ?_)
            · skip
              refine lv_iload_n hx hb d_Model_isWell_240 rfl (lv_at hl 1 rfl) ?_
              exact pl_iret X hr hlk hK (bI_nar _) (F, b2) (wellP_1 hok g74 hv hbt hbf) hP hD hS d_Model_isWell_241
            · skip
              refine lv_iconst (v := nI 0) hx hb d_Model_isWell_77 (by decide) ?_
              refine lv_istore_n hx hb d_Model_isWell_78 rfl hl (by decide) (lv' := [(3, .int (nI 0)), (2, .int (nI r)), (1, .int (bI (b2))), (0, .ref m0)]) rfl (fun ls hl => ?_)
              have loop_79 : ∀ (k : Nat) (i : Nat) (F1 : Nat → Int32) (b1 : Bool) (H : Heap) (locs : List Loc) (ls : Array Slot), np - i = k → (i ≤ np) → (mInv P K np F1) → (hExt np F F1) → (b1 = true → b2 = true ∧ ∀ j, j < i → ∀ h, h ≤ 12 → F j = nI h → clo P K np F1 j h) → (b1 = false → ∀ G, ¬ closed P K np G) → va_P D classes [(m0, .inr (6, [.int (nI co), .int (nI np), .ref o1, .ref o2, .ref o3, .int (nI n), .ref o4, .ref o5, .ref o6, .ref o7, .int fo1, .int fk1, .int (nI stat), .int (nI how), .int (nI pl), .int (nI la), .int (nI stt), .int (nI q), .ref o8, .ref o9, .int (nI dn), .ref o10, .ref o11])), (o1, .inl (cI, 24, .inl P)), (o2, .inl (cI, 24, .inl K)), (o3, .inl (cI, 24, .inl F1))] H → va_D A [(m0, .inr (6, [.int (nI co), .int (nI np), .ref o1, .ref o2, .ref o3, .int (nI n), .ref o4, .ref o5, .ref o6, .ref o7, .int fo1, .int fk1, .int (nI stat), .int (nI how), .int (nI pl), .int (nI la), .int (nI stt), .int (nI q), .ref o8, .ref o9, .int (nI dn), .ref o10, .ref o11])), (o1, .inl (cI, 24, .inl P)), (o2, .inl (cI, 24, .inl K)), (o3, .inl (cI, 24, .inl F1))] → va_S A s.heap H locs → lv_has ls 7 [(3, .int (nI i)), (2, .int (nI r)), (1, .int (bI (b1))), (0, .ref m0)] → W p l e ({ frames := 2, cells := 0, slots := 0, locals := 44 } : Room) s m args below meth c H locs 0 0 (MQ below (va_Qi (wellP P K np) (fun u => pl_out D classes (TY cI cZ cL) A ((fun (u : MW) => [(m0, .inr (6, [.int (nI co), .int (nI np), .ref o1, .ref o2, .ref o3, .int (nI n), .ref o4, .ref o5, .ref o6, .ref o7, .int fo1, .int fk1, .int (nI stat), .int (nI how), .int (nI pl), .int (nI la), .int (nI stt), .int (nI q), .ref o8, .ref o9, .int (nI dn), .ref o10, .ref o11])), (o1, .inl (cI, 24, .inl P)), (o2, .inl (cI, 24, .inl K)), (o3, .inl (cI, 24, .inl u.1))]) u)) A) args s 0 0 A) (F0 m 79 ls []) := by
                intro k
                induction k using Nat.strongRecOn with
                | _ k ih =>
                intro i F1 b1 H locs ls hk hi1 hv1 hx1 hbt1 hbf1 hP hD hS hl
                refine lv_iload_n hx hb d_Model_isWell_79 rfl (lv_at hl 0 rfl) ?_
                refine lv_aload_n hx hb d_Model_isWell_80 rfl (lv_at hl 3 rfl) ?_
                refine pl_get X fw_Model_55 hK hP 0 rfl (v := .int (nI np)) rfl d_Model_isWell_81 ?_
                refine pl_icmp_ge X (by omega) (by omega) d_Model_isWell_84 rfl (fun g84 => ?_) (fun g84 => ?_)
                · skip
                  refine lv_iinc hx hb d_Model_isWell_234 hl (k := 1) rfl (nI_inc1 _) (by decide) (lv' := [(2, .int (nI (r + 1))), (3, .int (nI i)), (1, .int (bI (b1))), (0, .ref m0)]) rfl (fun ls hl => ?_)
                  refine lv_goto hx hb d_Model_isWell_237 rfl ?_
                  exact ih69 _ (by omega) (r + 1) F1 b1 _ _ _ rfl (by omega) hv1 (fun e => mround hv1 hx1 (fun j hj => (hbt1 e).2 j (by omega)) hp0 (hbt (hbt1 e).1)) hbf1 hP hD hS (lv_sub hl [0, 2, 3] rfl)
                · skip
                  refine lv_iload_n hx hb d_Model_isWell_87 rfl (lv_at hl 2 rfl) ?_
                  refine pl_ifB_eq X d_Model_isWell_88 rfl (fun g88 => ?_) (fun g88 => ?_)
                  · skip
                    refine lv_iinc hx hb d_Model_isWell_234 hl (k := 1) rfl (nI_inc1 _) (by decide) (lv' := [(2, .int (nI (r + 1))), (3, .int (nI i)), (1, .int (bI (b1))), (0, .ref m0)]) rfl (fun ls hl => ?_)
                    refine lv_goto hx hb d_Model_isWell_237 rfl ?_
                    exact ih69 _ (by omega) (r + 1) F1 b1 _ _ _ rfl (by omega) hv1 (fun e => absurd e (by rw [g88]; decide)) hbf1 hP hD hS (lv_sub hl [0, 2, 3] rfl)
                  · skip
                    have join_228 : ∀ (F2 : Nat → Int32) (b3 : Bool) (H : Heap) (locs : List Loc) (ls : Array Slot), (mInv P K np F2) → (hExt np F1 F2) → (b3 = true → ∀ h, h ≤ 12 → F1 i = nI h → clo P K np F2 i h) → (b3 = false → ∀ G, ¬ closed P K np G) → va_P D classes [(m0, .inr (6, [.int (nI co), .int (nI np), .ref o1, .ref o2, .ref o3, .int (nI n), .ref o4, .ref o5, .ref o6, .ref o7, .int fo1, .int fk1, .int (nI stat), .int (nI how), .int (nI pl), .int (nI la), .int (nI stt), .int (nI q), .ref o8, .ref o9, .int (nI dn), .ref o10, .ref o11])), (o1, .inl (cI, 24, .inl P)), (o2, .inl (cI, 24, .inl K)), (o3, .inl (cI, 24, .inl F2))] H → va_D A [(m0, .inr (6, [.int (nI co), .int (nI np), .ref o1, .ref o2, .ref o3, .int (nI n), .ref o4, .ref o5, .ref o6, .ref o7, .int fo1, .int fk1, .int (nI stat), .int (nI how), .int (nI pl), .int (nI la), .int (nI stt), .int (nI q), .ref o8, .ref o9, .int (nI dn), .ref o10, .ref o11])), (o1, .inl (cI, 24, .inl P)), (o2, .inl (cI, 24, .inl K)), (o3, .inl (cI, 24, .inl F2))] → va_S A s.heap H locs → lv_has ls 7 [(3, .int (nI i)), (2, .int (nI r)), (1, .int (bI (b3))), (0, .ref m0)] → W p l e ({ frames := 2, cells := 0, slots := 0, locals := 44 } : Room) s m args below meth c H locs 0 0 (MQ below (va_Qi (wellP P K np) (fun u => pl_out D classes (TY cI cZ cL) A ((fun (u : MW) => [(m0, .inr (6, [.int (nI co), .int (nI np), .ref o1, .ref o2, .ref o3, .int (nI n), .ref o4, .ref o5, .ref o6, .ref o7, .int fo1, .int fk1, .int (nI stat), .int (nI how), .int (nI pl), .int (nI la), .int (nI stt), .int (nI q), .ref o8, .ref o9, .int (nI dn), .ref o10, .ref o11])), (o1, .inl (cI, 24, .inl P)), (o2, .inl (cI, 24, .inl K)), (o3, .inl (cI, 24, .inl u.1))]) u)) A) args s 0 0 A) (F0 m 228 ls []) := by
                      intro F2 b3 H locs ls hv2 hx2 hbt2 hbf2 hP hD hS hl
                      refine lv_iinc hx hb d_Model_isWell_228 hl (k := 0) rfl (nI_inc1 _) (by decide) (lv' := [(3, .int (nI (i + 1))), (2, .int (nI r)), (1, .int (bI (b3))), (0, .ref m0)]) rfl (fun ls hl => ?_)
                      refine lv_goto hx hb d_Model_isWell_231 rfl ?_
                      exact ih _ (by omega) (i + 1) F2 b3 _ _ _ rfl (by omega) hv2 (hx1.trans hx2) (fun e => ⟨(hbt1 g88).1, fun j hj h hh q => by rcases Nat.lt_succ_iff_lt_or_eq.mp hj with t | t; (exact ((hbt1 g88).2 j t h hh q).ext hx2); (subst t; exact hbt2 e h hh (by rw [hx1 j g84 (by rw [q]; exact nI_nm1 (by omega))]; exact q))⟩) hbf2 hP hD hS hl
                    obtain ⟨ho1, ho2⟩ := hop i g84
                    have htk := tkN_le (opn P i)
                    have hlv := lvN_le (opn P i)
                    refine lv_aload_n hx hb d_Model_isWell_91 rfl (lv_at hl 3 rfl) ?_
                    refine pl_get X fw_Model_7 hK hP 0 rfl (v := .ref o1) rfl d_Model_isWell_92 ?_
                    refine lv_iload_n hx hb d_Model_isWell_95 rfl (lv_at hl 0 rfl) ?_
                    refine pl_iald X hK hP 1 0 rfl rfl i (by omega) (by decide) (z := nI (opn P i)) ho1 d_Model_isWell_96 ?_
                    refine lv_istore hx hb d_Model_isWell_97 hl (by decide) (lv' := [(4, .int (nI (opn P i))), (3, .int (nI i)), (2, .int (nI r)), (1, .int (bI (b1))), (0, .ref m0)]) rfl (fun ls hl => ?_)
                    rcases hv1.2.1 i g84 with ge | ⟨h0, hh0, ge⟩
                    · skip
                      refine lv_aload_n hx hb d_Model_isWell_99 rfl (lv_at hl 4 rfl) ?_
                      refine pl_get X fw_Model_16 hK hP 0 rfl (v := .ref o3) rfl d_Model_isWell_100 ?_
                      refine lv_iload_n hx hb d_Model_isWell_103 rfl (lv_at hl 1 rfl) ?_
                      refine pl_iald X hK hP 3 0 rfl rfl i (by omega) (by decide) (z := -1) ge d_Model_isWell_104 ?_
                      refine lv_iload hx hb d_Model_isWell_105 (lv_at hl 0 rfl) ?_
                      refine pl_callSI X (rest := [.int (-1)]) (As := [.int (nI (opn P i))]) (c_Model_takes l D cI cZ cL (opn P i) ho2) ck_Model_71 pl_E0_ok trivial hK hP hD hS hA [] [0, 1, 2, 3] [0, 1, 2, 3] rfl (by decide) (wr := [(m0, .inr (6, [.int (nI co), .int (nI np), .ref o1, .ref o2, .ref o3, .int (nI n), .ref o4, .ref o5, .ref o6, .ref o7, .int fo1, .int fk1, .int (nI stat), .int (nI how), .int (nI pl), .int (nI la), .int (nI stt), .int (nI q), .ref o8, .ref o9, .int (nI dn), .ref o10, .ref o11])), (o1, .inl (cI, 24, .inl P)), (o2, .inl (cI, 24, .inl K)), (o3, .inl (cI, 24, .inl F1))]) rfl (by decide) (by decide) (wf := fun _ => [(m0, .inr (6, [.int (nI co), .int (nI np), .ref o1, .ref o2, .ref o3, .int (nI n), .ref o4, .ref o5, .ref o6, .ref o7, .int fo1, .int fk1, .int (nI stat), .int (nI how), .int (nI pl), .int (nI la), .int (nI stt), .int (nI q), .ref o8, .ref o9, .int (nI dn), .ref o10, .ref o11])), (o1, .inl (cI, 24, .inl P)), (o2, .inl (cI, 24, .inl K)), (o3, .inl (cI, 24, .inl F1))]) (fun _ => rfl) (by decide) rfl hl.1 rfl (Nat.le_of_ble_eq_true rfl) (by decide) (by decide) d_Model_isWell_107 (fun r u0 H locs hcq hP hD hS => ?_)
                      subst hcq
                      refine pl_isub X d_Model_isWell_110 (z := (-1) - nI (tkN (opn P i))) rfl ?_
                      refine lv_istore hx hb d_Model_isWell_111 hl (by decide) (lv' := [(5, .int ((-1) - nI (tkN (opn P i)))), (4, .int (nI (opn P i))), (3, .int (nI i)), (2, .int (nI r)), (1, .int (bI (b1))), (0, .ref m0)]) rfl (fun ls hl => ?_)
                      refine lv_aload_n hx hb d_Model_isWell_113 rfl (lv_at hl 5 rfl) ?_
                      refine pl_get X fw_Model_16 hK hP 0 rfl (v := .ref o3) rfl d_Model_isWell_114 ?_
                      refine lv_iload_n hx hb d_Model_isWell_117 rfl (lv_at hl 2 rfl) ?_
                      refine pl_iald X hK hP 3 0 rfl rfl i (by omega) (by decide) (z := -1) ge d_Model_isWell_118 ?_
                      refine lv_if_lt hx hb d_Model_isWell_119 rfl (fun g119 => ?_) (fun g119 => ?_)
                      · skip
                        exact join_228 F1 b1 _ _ _ hv1 hExt.refl (fun _ h8 hh8 e8 => absurd (ge.symm.trans e8).symm (nI_nm1 (by omega))) hbf1 hP hD hS (lv_sub hl [2, 3, 4, 5] rfl)
                      · skip
                        exact absurd (by decide) g119
                    · skip
                      refine lv_aload_n hx hb d_Model_isWell_99 rfl (lv_at hl 4 rfl) ?_
                      refine pl_get X fw_Model_16 hK hP 0 rfl (v := .ref o3) rfl d_Model_isWell_100 ?_
                      refine lv_iload_n hx hb d_Model_isWell_103 rfl (lv_at hl 1 rfl) ?_
                      refine pl_iald X hK hP 3 0 rfl rfl i (by omega) (by decide) (z := nI h0) ge d_Model_isWell_104 ?_
                      refine lv_iload hx hb d_Model_isWell_105 (lv_at hl 0 rfl) ?_
                      refine pl_callSI X (rest := [.int (nI h0)]) (As := [.int (nI (opn P i))]) (c_Model_takes l D cI cZ cL (opn P i) ho2) ck_Model_71 pl_E0_ok trivial hK hP hD hS hA [] [0, 1, 2, 3] [0, 1, 2, 3] rfl (by decide) (wr := [(m0, .inr (6, [.int (nI co), .int (nI np), .ref o1, .ref o2, .ref o3, .int (nI n), .ref o4, .ref o5, .ref o6, .ref o7, .int fo1, .int fk1, .int (nI stat), .int (nI how), .int (nI pl), .int (nI la), .int (nI stt), .int (nI q), .ref o8, .ref o9, .int (nI dn), .ref o10, .ref o11])), (o1, .inl (cI, 24, .inl P)), (o2, .inl (cI, 24, .inl K)), (o3, .inl (cI, 24, .inl F1))]) rfl (by decide) (by decide) (wf := fun _ => [(m0, .inr (6, [.int (nI co), .int (nI np), .ref o1, .ref o2, .ref o3, .int (nI n), .ref o4, .ref o5, .ref o6, .ref o7, .int fo1, .int fk1, .int (nI stat), .int (nI how), .int (nI pl), .int (nI la), .int (nI stt), .int (nI q), .ref o8, .ref o9, .int (nI dn), .ref o10, .ref o11])), (o1, .inl (cI, 24, .inl P)), (o2, .inl (cI, 24, .inl K)), (o3, .inl (cI, 24, .inl F1))]) (fun _ => rfl) (by decide) rfl hl.1 rfl (Nat.le_of_ble_eq_true rfl) (by decide) (by decide) d_Model_isWell_107 (fun r u0 H locs hcq hP hD hS => ?_)
                      subst hcq
                      by_cases gb : tkN (opn P i) ≤ h0
                      · skip
                        refine pl_isub X d_Model_isWell_110 (z := nI (h0 - tkN (opn P i))) (pk_sub gb) ?_
                        refine lv_istore hx hb d_Model_isWell_111 hl (by decide) (lv' := [(5, .int (nI (h0 - tkN (opn P i)))), (4, .int (nI (opn P i))), (3, .int (nI i)), (2, .int (nI r)), (1, .int (bI (b1))), (0, .ref m0)]) rfl (fun ls hl => ?_)
                        refine lv_aload_n hx hb d_Model_isWell_113 rfl (lv_at hl 5 rfl) ?_
                        refine pl_get X fw_Model_16 hK hP 0 rfl (v := .ref o3) rfl d_Model_isWell_114 ?_
                        refine lv_iload_n hx hb d_Model_isWell_117 rfl (lv_at hl 2 rfl) ?_
                        refine pl_iald X hK hP 3 0 rfl rfl i (by omega) (by decide) (z := nI h0) ge d_Model_isWell_118 ?_
                        refine pl_if_lt X (by omega) d_Model_isWell_119 rfl ?_
                        refine lv_iload hx hb d_Model_isWell_122 (lv_at hl 1 rfl) ?_
                        refine lv_bipush (v := nI 12) hx hb d_Model_isWell_124 (by decide) ?_
                        refine pl_icmp_ne X (by omega) (by decide) d_Model_isWell_126 rfl (fun g126 => ?_) (fun g126 => ?_)
                        · skip
                          refine lv_iload hx hb d_Model_isWell_132 (lv_at hl 0 rfl) ?_
                          refine lv_iload hx hb d_Model_isWell_134 (lv_at hl 1 rfl) ?_
                          refine pl_callSI X (rest := [.int (nI (h0 - tkN (opn P i)))]) (As := [.int (nI (opn P i))]) (c_Model_gives l D cI cZ cL (opn P i) ho2) ck_Model_74 pl_E0_ok trivial hK hP hD hS hA [] [0, 1, 2, 3] [0, 1, 2, 3] rfl (by decide) (wr := [(m0, .inr (6, [.int (nI co), .int (nI np), .ref o1, .ref o2, .ref o3, .int (nI n), .ref o4, .ref o5, .ref o6, .ref o7, .int fo1, .int fk1, .int (nI stat), .int (nI how), .int (nI pl), .int (nI la), .int (nI stt), .int (nI q), .ref o8, .ref o9, .int (nI dn), .ref o10, .ref o11])), (o1, .inl (cI, 24, .inl P)), (o2, .inl (cI, 24, .inl K)), (o3, .inl (cI, 24, .inl F1))]) rfl (by decide) (by decide) (wf := fun _ => [(m0, .inr (6, [.int (nI co), .int (nI np), .ref o1, .ref o2, .ref o3, .int (nI n), .ref o4, .ref o5, .ref o6, .ref o7, .int fo1, .int fk1, .int (nI stat), .int (nI how), .int (nI pl), .int (nI la), .int (nI stt), .int (nI q), .ref o8, .ref o9, .int (nI dn), .ref o10, .ref o11])), (o1, .inl (cI, 24, .inl P)), (o2, .inl (cI, 24, .inl K)), (o3, .inl (cI, 24, .inl F1))]) (fun _ => rfl) (by decide) rfl hl.1 rfl (Nat.le_of_ble_eq_true rfl) (by decide) (by decide) d_Model_isWell_136 (fun r u0 H locs hcq hP hD hS => ?_)
                          subst hcq
                          refine pl_iadd X d_Model_isWell_139 (z := nI (h0 - tkN (opn P i) + lvN (opn P i))) (nI_add _ _) ?_
                          refine lv_istore hx hb d_Model_isWell_140 hl (by decide) (lv' := [(6, .int (nI (h0 - tkN (opn P i) + lvN (opn P i)))), (5, .int (nI (h0 - tkN (opn P i)))), (4, .int (nI (opn P i))), (3, .int (nI i)), (2, .int (nI r)), (1, .int (bI (b1))), (0, .ref m0)]) rfl (fun ls hl => ?_)
                          refine lv_iload hx hb d_Model_isWell_142 (lv_at hl 1 rfl) ?_
                          refine pl_if_lt X (by omega) d_Model_isWell_144 rfl ?_
                          refine lv_iload hx hb d_Model_isWell_147 (lv_at hl 0 rfl) ?_
                          refine lv_bipush (v := nI 12) hx hb d_Model_isWell_149 (by decide) ?_
                          refine pl_icmp_gt X (by omega) (by decide) d_Model_isWell_151 rfl (fun g151 => ?_) (fun g151 => ?_)
                          · skip
                            refine lv_iconst (v := nI 0) hx hb d_Model_isWell_158 (by decide) ?_
                            refine lv_istore_n hx hb d_Model_isWell_159 rfl hl (by decide) (lv' := [(1, .int (nI 0)), (6, .int (nI (h0 - tkN (opn P i) + lvN (opn P i)))), (5, .int (nI (h0 - tkN (opn P i)))), (4, .int (nI (opn P i))), (3, .int (nI i)), (2, .int (nI r)), (0, .ref m0)]) rfl (fun ls hl => ?_)
                            refine lv_iload hx hb d_Model_isWell_160 (lv_at hl 3 rfl) ?_
                            refine lv_bipush (v := nI 7) hx hb d_Model_isWell_162 (by decide) ?_
                            refine pl_icmp_eq X (by omega) (by decide) d_Model_isWell_164 rfl (fun g164 => ?_) (fun g164 => ?_)
                            · skip
                              have hgo : opn P i = 7 ∨ opn P i = 8 := by omega
                              obtain ⟨hk1, hk2⟩ := okK_7 (by omega) hok g84 hgo
                              refine lv_iload_n hx hb d_Model_isWell_174 rfl (lv_at hl 0 rfl) ?_
                              refine pl_if_eq X (by decide) d_Model_isWell_175 rfl (fun gL => ?_) (fun gL => ?_)
                              · skip
                                refine lv_iconst (v := nI 0) hx hb d_Model_isWell_197 (by decide) ?_
                                refine lv_istore_n hx hb d_Model_isWell_198 rfl hl (by decide) (lv' := [(1, .int (nI 0)), (6, .int (nI (h0 - tkN (opn P i) + lvN (opn P i)))), (5, .int (nI (h0 - tkN (opn P i)))), (4, .int (nI (opn P i))), (3, .int (nI i)), (2, .int (nI r)), (0, .ref m0)]) rfl (fun ls hl => ?_)
                                refine lv_iload hx hb d_Model_isWell_199 (lv_at hl 3 rfl) ?_
                                refine lv_bipush (v := nI 7) hx hb d_Model_isWell_201 (by decide) ?_
                                refine pl_icmp_eq X (by omega) (by decide) d_Model_isWell_203 rfl (fun g203 => ?_) (fun g203 => ?_)
                                · skip
                                  exact join_228 F1 false _ _ _ hv1 hExt.refl ((fun e => nomatch e)) (fun _ G g => absurd (mcl hv1 g84 hh0 ge g).2.1 (Nat.not_le.mpr g151)) hP hD hS (lv_sub hl [4, 5, 0, 6] rfl)
                                · skip
                                  exact absurd g164 g203
                              · skip
                                exact absurd gL (by decide)
                            · skip
                              refine lv_iload hx hb d_Model_isWell_167 (lv_at hl 3 rfl) ?_
                              refine lv_bipush (v := nI 8) hx hb d_Model_isWell_169 (by decide) ?_
                              refine pl_icmp_ne X (by omega) (by decide) d_Model_isWell_171 rfl (fun g171 => ?_) (fun g171 => ?_)
                              · skip
                                refine lv_iload hx hb d_Model_isWell_199 (lv_at hl 3 rfl) ?_
                                refine lv_bipush (v := nI 7) hx hb d_Model_isWell_201 (by decide) ?_
                                refine pl_icmp_eq X (by omega) (by decide) d_Model_isWell_203 rfl (fun g203 => ?_) (fun g203 => ?_)
                                · skip
                                  exact absurd g203 g164
                                · skip
                                  refine lv_iload_n hx hb d_Model_isWell_206 rfl (lv_at hl 0 rfl) ?_
                                  refine pl_if_eq X (by decide) d_Model_isWell_207 rfl (fun gL => ?_) (fun gL => ?_)
                                  · skip
                                    refine lv_iconst (v := nI 0) hx hb d_Model_isWell_226 (by decide) ?_
                                    refine lv_istore_n hx hb d_Model_isWell_227 rfl hl (by decide) (lv' := [(1, .int (nI 0)), (6, .int (nI (h0 - tkN (opn P i) + lvN (opn P i)))), (5, .int (nI (h0 - tkN (opn P i)))), (4, .int (nI (opn P i))), (3, .int (nI i)), (2, .int (nI r)), (0, .ref m0)]) rfl (fun ls hl => ?_)
                                    exact join_228 F1 false _ _ _ hv1 hExt.refl ((fun e => nomatch e)) (fun _ G g => absurd (mcl hv1 g84 hh0 ge g).2.1 (Nat.not_le.mpr g151)) hP hD hS (lv_sub hl [4, 5, 0, 6] rfl)
                                  · skip
                                    exact absurd gL (by decide)
                              · skip
                                have hgo : opn P i = 7 ∨ opn P i = 8 := by omega
                                obtain ⟨hk1, hk2⟩ := okK_7 (by omega) hok g84 hgo
                                refine lv_iload_n hx hb d_Model_isWell_174 rfl (lv_at hl 0 rfl) ?_
                                refine pl_if_eq X (by decide) d_Model_isWell_175 rfl (fun gL => ?_) (fun gL => ?_)
                                · skip
                                  refine lv_iconst (v := nI 0) hx hb d_Model_isWell_197 (by decide) ?_
                                  refine lv_istore_n hx hb d_Model_isWell_198 rfl hl (by decide) (lv' := [(1, .int (nI 0)), (6, .int (nI (h0 - tkN (opn P i) + lvN (opn P i)))), (5, .int (nI (h0 - tkN (opn P i)))), (4, .int (nI (opn P i))), (3, .int (nI i)), (2, .int (nI r)), (0, .ref m0)]) rfl (fun ls hl => ?_)
                                  refine lv_iload hx hb d_Model_isWell_199 (lv_at hl 3 rfl) ?_
                                  refine lv_bipush (v := nI 7) hx hb d_Model_isWell_201 (by decide) ?_
                                  refine pl_icmp_eq X (by omega) (by decide) d_Model_isWell_203 rfl (fun g203 => ?_) (fun g203 => ?_)
                                  · skip
                                    exact absurd g203 g164
                                  · skip
                                    refine lv_iload_n hx hb d_Model_isWell_206 rfl (lv_at hl 0 rfl) ?_
                                    refine pl_if_eq X (by decide) d_Model_isWell_207 rfl (fun gL => ?_) (fun gL => ?_)
                                    · skip
                                      refine lv_iconst (v := nI 0) hx hb d_Model_isWell_226 (by decide) ?_
                                      refine lv_istore_n hx hb d_Model_isWell_227 rfl hl (by decide) (lv' := [(1, .int (nI 0)), (6, .int (nI (h0 - tkN (opn P i) + lvN (opn P i)))), (5, .int (nI (h0 - tkN (opn P i)))), (4, .int (nI (opn P i))), (3, .int (nI i)), (2, .int (nI r)), (0, .ref m0)]) rfl (fun ls hl => ?_)
                                      exact join_228 F1 false _ _ _ hv1 hExt.refl ((fun e => nomatch e)) (fun _ G g => absurd (mcl hv1 g84 hh0 ge g).2.1 (Nat.not_le.mpr g151)) hP hD hS (lv_sub hl [4, 5, 0, 6] rfl)
                                    · skip
                                      exact absurd gL (by decide)
                                · skip
                                  exact absurd gL (by decide)
                          · skip
                            refine lv_iconst (v := nI 1) hx hb d_Model_isWell_154 (by decide) ?_
                            refine lv_goto hx hb d_Model_isWell_155 rfl ?_
                            refine lv_istore_n hx hb d_Model_isWell_159 rfl hl (by decide) (lv' := [(1, .int (nI 1)), (6, .int (nI (h0 - tkN (opn P i) + lvN (opn P i)))), (5, .int (nI (h0 - tkN (opn P i)))), (4, .int (nI (opn P i))), (3, .int (nI i)), (2, .int (nI r)), (0, .ref m0)]) rfl (fun ls hl => ?_)
                            refine lv_iload hx hb d_Model_isWell_160 (lv_at hl 3 rfl) ?_
                            refine lv_bipush (v := nI 7) hx hb d_Model_isWell_162 (by decide) ?_
                            refine pl_icmp_eq X (by omega) (by decide) d_Model_isWell_164 rfl (fun g164 => ?_) (fun g164 => ?_)
                            · skip
                              have hgo : opn P i = 7 ∨ opn P i = 8 := by omega
                              obtain ⟨hk1, hk2⟩ := okK_7 (by omega) hok g84 hgo
                              refine lv_iload_n hx hb d_Model_isWell_174 rfl (lv_at hl 0 rfl) ?_
                              refine pl_if_eq X (by decide) d_Model_isWell_175 rfl (fun gL => ?_) (fun gL => ?_)
                              · skip
                                exact absurd gL (by decide)
                              · skip
                                refine lv_aload_n hx hb d_Model_isWell_178 rfl (lv_at hl 6 rfl) ?_
                                refine lv_aload_n hx hb d_Model_isWell_179 rfl (lv_at hl 6 rfl) ?_
                                refine pl_get X fw_Model_13 hK hP 0 rfl (v := .ref o2) rfl d_Model_isWell_180 ?_
                                refine lv_iload_n hx hb d_Model_isWell_183 rfl (lv_at hl 4 rfl) ?_
                                refine pl_iald X hK hP 2 0 rfl rfl i (by omega) (by decide) (z := nI (kn K i)) hk1 d_Model_isWell_184 ?_
                                refine lv_iload hx hb d_Model_isWell_185 (lv_at hl 1 rfl) ?_
                                refine pl_callVI X (rest := []) (As := [.int (nI (kn K i)), .int (nI (h0 - tkN (opn P i) + lvN (opn P i)))]) (b := m0) (c_Model_reach l D cI cZ cL m0 o1 o2 o3 o4 o5 o6 o7 o8 o9 o10 o11 P K F1 ru lo hi tm sa ca ta tn fo1 fk1 co np n stat how pl la stt q dn (kn K i) (h0 - tkN (opn P i) + lvN (opn P i)) hnp (by omega) g151 hv1.2.1) ck_Model_77 pl_E0_ok trivial hK hP hD hS hA (T := F_Model) (N := N_Model) (ci := 6) rfl 0 rfl [0, 3] [1, 2] [2, 0, 1, 3] rfl (by decide) (wr := [(o1, .inl (cI, 24, .inl P)), (o2, .inl (cI, 24, .inl K))]) rfl (by decide) (by decide) (wf := fun (u : MW) => [(m0, .inr (6, [.int (nI co), .int (nI np), .ref o1, .ref o2, .ref o3, .int (nI n), .ref o4, .ref o5, .ref o6, .ref o7, .int fo1, .int fk1, .int (nI stat), .int (nI how), .int (nI pl), .int (nI la), .int (nI stt), .int (nI q), .ref o8, .ref o9, .int (nI dn), .ref o10, .ref o11])), (o1, .inl (cI, 24, .inl P)), (o2, .inl (cI, 24, .inl K)), (o3, .inl (cI, 24, .inl u.1))]) (fun _ => rfl) (by decide) rfl hl.1 rfl (Nat.le_of_ble_eq_true rfl) (by decide) (by decide) d_Model_isWell_187 (fun r u H locs hcq hP hD hS => ?_)
                                have hr1 := mreach hv1 (show h0 - tkN (opn P i) + lvN (opn P i) ≤ 12 from g151) (fun G g => (mcl hv1 g84 hh0 ge g).2.2.1 hgo) hcq
                                obtain ⟨hcq, -, -⟩ := hcq
                                subst hcq
                                refine pl_ifB_eq X d_Model_isWell_190 rfl (fun g190 => ?_) (fun g190 => ?_)
                                · skip
                                  refine lv_iconst (v := nI 0) hx hb d_Model_isWell_197 (by decide) ?_
                                  refine lv_istore_n hx hb d_Model_isWell_198 rfl hl (by decide) (lv' := [(1, .int (nI 0)), (6, .int (nI (h0 - tkN (opn P i) + lvN (opn P i)))), (5, .int (nI (h0 - tkN (opn P i)))), (4, .int (nI (opn P i))), (3, .int (nI i)), (2, .int (nI r)), (0, .ref m0)]) rfl (fun ls hl => ?_)
                                  refine lv_iload hx hb d_Model_isWell_199 (lv_at hl 3 rfl) ?_
                                  refine lv_bipush (v := nI 7) hx hb d_Model_isWell_201 (by decide) ?_
                                  refine pl_icmp_eq X (by omega) (by decide) d_Model_isWell_203 rfl (fun g203 => ?_) (fun g203 => ?_)
                                  · skip
                                    exact join_228 u.1 false _ _ _ hr1.1 hr1.2.1 ((fun e => nomatch e)) (fun _ => hr1.2.2.2 g190) hP hD hS (lv_sub hl [4, 5, 0, 6] rfl)
                                  · skip
                                    exact absurd g164 g203
                                · skip
                                  refine lv_iconst (v := nI 1) hx hb d_Model_isWell_193 (by decide) ?_
                                  refine lv_goto hx hb d_Model_isWell_194 rfl ?_
                                  refine lv_istore_n hx hb d_Model_isWell_198 rfl hl (by decide) (lv' := [(1, .int (nI 1)), (6, .int (nI (h0 - tkN (opn P i) + lvN (opn P i)))), (5, .int (nI (h0 - tkN (opn P i)))), (4, .int (nI (opn P i))), (3, .int (nI i)), (2, .int (nI r)), (0, .ref m0)]) rfl (fun ls hl => ?_)
                                  refine lv_iload hx hb d_Model_isWell_199 (lv_at hl 3 rfl) ?_
                                  refine lv_bipush (v := nI 7) hx hb d_Model_isWell_201 (by decide) ?_
                                  refine pl_icmp_eq X (by omega) (by decide) d_Model_isWell_203 rfl (fun g203 => ?_) (fun g203 => ?_)
                                  · skip
                                    exact join_228 u.1 true _ _ _ hr1.1 hr1.2.1 (fun _ h8 hh8 e8 => by have e9 := nI_inj (by omega) (by omega) (ge.symm.trans e8); subst e9; exact ⟨gb, g151, fun _ => hr1.2.2.1 g190, fun o => absurd g203 o⟩) (fun e => nomatch e) hP hD hS (lv_sub hl [4, 5, 0, 6] rfl)
                                  · skip
                                    exact absurd g164 g203
                            · skip
                              refine lv_iload hx hb d_Model_isWell_167 (lv_at hl 3 rfl) ?_
                              refine lv_bipush (v := nI 8) hx hb d_Model_isWell_169 (by decide) ?_
                              refine pl_icmp_ne X (by omega) (by decide) d_Model_isWell_171 rfl (fun g171 => ?_) (fun g171 => ?_)
                              · skip
                                refine lv_iload hx hb d_Model_isWell_199 (lv_at hl 3 rfl) ?_
                                refine lv_bipush (v := nI 7) hx hb d_Model_isWell_201 (by decide) ?_
                                refine pl_icmp_eq X (by omega) (by decide) d_Model_isWell_203 rfl (fun g203 => ?_) (fun g203 => ?_)
                                · skip
                                  exact absurd g203 g164
                                · skip
                                  refine lv_iload_n hx hb d_Model_isWell_206 rfl (lv_at hl 0 rfl) ?_
                                  refine pl_if_eq X (by decide) d_Model_isWell_207 rfl (fun gL => ?_) (fun gL => ?_)
                                  · skip
                                    exact absurd gL (by decide)
                                  · skip
                                    refine lv_aload_n hx hb d_Model_isWell_210 rfl (lv_at hl 6 rfl) ?_
                                    refine lv_iload_n hx hb d_Model_isWell_211 rfl (lv_at hl 4 rfl) ?_
                                    refine lv_iconst (v := nI 1) hx hb d_Model_isWell_212 (by decide) ?_
                                    refine pl_iadd X d_Model_isWell_213 (z := nI (i + 1)) (nI_add _ _) ?_
                                    refine lv_iload hx hb d_Model_isWell_214 (lv_at hl 1 rfl) ?_
                                    refine pl_callVI X (rest := []) (As := [.int (nI (i + 1)), .int (nI (h0 - tkN (opn P i) + lvN (opn P i)))]) (b := m0) (c_Model_reach l D cI cZ cL m0 o1 o2 o3 o4 o5 o6 o7 o8 o9 o10 o11 P K F1 ru lo hi tm sa ca ta tn fo1 fk1 co np n stat how pl la stt q dn (i + 1) (h0 - tkN (opn P i) + lvN (opn P i)) hnp (by omega) g151 hv1.2.1) ck_Model_77 pl_E0_ok trivial hK hP hD hS hA (T := F_Model) (N := N_Model) (ci := 6) rfl 0 rfl [0, 3] [1, 2] [2, 0, 1, 3] rfl (by decide) (wr := [(o1, .inl (cI, 24, .inl P)), (o2, .inl (cI, 24, .inl K))]) rfl (by decide) (by decide) (wf := fun (v : MW) => [(m0, .inr (6, [.int (nI co), .int (nI np), .ref o1, .ref o2, .ref o3, .int (nI n), .ref o4, .ref o5, .ref o6, .ref o7, .int fo1, .int fk1, .int (nI stat), .int (nI how), .int (nI pl), .int (nI la), .int (nI stt), .int (nI q), .ref o8, .ref o9, .int (nI dn), .ref o10, .ref o11])), (o1, .inl (cI, 24, .inl P)), (o2, .inl (cI, 24, .inl K)), (o3, .inl (cI, 24, .inl v.1))]) (fun _ => rfl) (by decide) rfl hl.1 rfl (Nat.le_of_ble_eq_true rfl) (by decide) (by decide) d_Model_isWell_216 (fun r v H locs hcq hP hD hS => ?_)
                                    have hr2 := mreach hv1 (show h0 - tkN (opn P i) + lvN (opn P i) ≤ 12 from g151) (fun G g => (mcl hv1 g84 hh0 ge g).2.2.2 g203 g126) hcq
                                    obtain ⟨hcq, -, -⟩ := hcq
                                    subst hcq
                                    refine pl_ifB_eq X d_Model_isWell_219 rfl (fun g219 => ?_) (fun g219 => ?_)
                                    · skip
                                      refine lv_iconst (v := nI 0) hx hb d_Model_isWell_226 (by decide) ?_
                                      refine lv_istore_n hx hb d_Model_isWell_227 rfl hl (by decide) (lv' := [(1, .int (nI 0)), (6, .int (nI (h0 - tkN (opn P i) + lvN (opn P i)))), (5, .int (nI (h0 - tkN (opn P i)))), (4, .int (nI (opn P i))), (3, .int (nI i)), (2, .int (nI r)), (0, .ref m0)]) rfl (fun ls hl => ?_)
                                      exact join_228 v.1 false _ _ _ hr2.1 hr2.2.1 ((fun e => nomatch e)) (fun _ => hr2.2.2.2 g219) hP hD hS (lv_sub hl [4, 5, 0, 6] rfl)
                                    · skip
                                      refine lv_iconst (v := nI 1) hx hb d_Model_isWell_222 (by decide) ?_
                                      refine lv_goto hx hb d_Model_isWell_223 rfl ?_
                                      refine lv_istore_n hx hb d_Model_isWell_227 rfl hl (by decide) (lv' := [(1, .int (nI 1)), (6, .int (nI (h0 - tkN (opn P i) + lvN (opn P i)))), (5, .int (nI (h0 - tkN (opn P i)))), (4, .int (nI (opn P i))), (3, .int (nI i)), (2, .int (nI r)), (0, .ref m0)]) rfl (fun ls hl => ?_)
                                      exact join_228 v.1 true _ _ _ hr2.1 hr2.2.1 (fun _ h8 hh8 e8 => by have e9 := nI_inj (by omega) (by omega) (ge.symm.trans e8); subst e9; exact ⟨gb, g151, fun o => absurd o (by omega), fun _ _ => hr2.2.2.1 g219⟩) (fun e => nomatch e) hP hD hS (lv_sub hl [4, 5, 0, 6] rfl)
                              · skip
                                have hgo : opn P i = 7 ∨ opn P i = 8 := by omega
                                obtain ⟨hk1, hk2⟩ := okK_7 (by omega) hok g84 hgo
                                refine lv_iload_n hx hb d_Model_isWell_174 rfl (lv_at hl 0 rfl) ?_
                                refine pl_if_eq X (by decide) d_Model_isWell_175 rfl (fun gL => ?_) (fun gL => ?_)
                                · skip
                                  exact absurd gL (by decide)
                                · skip
                                  refine lv_aload_n hx hb d_Model_isWell_178 rfl (lv_at hl 6 rfl) ?_
                                  refine lv_aload_n hx hb d_Model_isWell_179 rfl (lv_at hl 6 rfl) ?_
                                  refine pl_get X fw_Model_13 hK hP 0 rfl (v := .ref o2) rfl d_Model_isWell_180 ?_
                                  refine lv_iload_n hx hb d_Model_isWell_183 rfl (lv_at hl 4 rfl) ?_
                                  refine pl_iald X hK hP 2 0 rfl rfl i (by omega) (by decide) (z := nI (kn K i)) hk1 d_Model_isWell_184 ?_
                                  refine lv_iload hx hb d_Model_isWell_185 (lv_at hl 1 rfl) ?_
                                  refine pl_callVI X (rest := []) (As := [.int (nI (kn K i)), .int (nI (h0 - tkN (opn P i) + lvN (opn P i)))]) (b := m0) (c_Model_reach l D cI cZ cL m0 o1 o2 o3 o4 o5 o6 o7 o8 o9 o10 o11 P K F1 ru lo hi tm sa ca ta tn fo1 fk1 co np n stat how pl la stt q dn (kn K i) (h0 - tkN (opn P i) + lvN (opn P i)) hnp (by omega) g151 hv1.2.1) ck_Model_77 pl_E0_ok trivial hK hP hD hS hA (T := F_Model) (N := N_Model) (ci := 6) rfl 0 rfl [0, 3] [1, 2] [2, 0, 1, 3] rfl (by decide) (wr := [(o1, .inl (cI, 24, .inl P)), (o2, .inl (cI, 24, .inl K))]) rfl (by decide) (by decide) (wf := fun (u : MW) => [(m0, .inr (6, [.int (nI co), .int (nI np), .ref o1, .ref o2, .ref o3, .int (nI n), .ref o4, .ref o5, .ref o6, .ref o7, .int fo1, .int fk1, .int (nI stat), .int (nI how), .int (nI pl), .int (nI la), .int (nI stt), .int (nI q), .ref o8, .ref o9, .int (nI dn), .ref o10, .ref o11])), (o1, .inl (cI, 24, .inl P)), (o2, .inl (cI, 24, .inl K)), (o3, .inl (cI, 24, .inl u.1))]) (fun _ => rfl) (by decide) rfl hl.1 rfl (Nat.le_of_ble_eq_true rfl) (by decide) (by decide) d_Model_isWell_187 (fun r u H locs hcq hP hD hS => ?_)
                                  have hr1 := mreach hv1 (show h0 - tkN (opn P i) + lvN (opn P i) ≤ 12 from g151) (fun G g => (mcl hv1 g84 hh0 ge g).2.2.1 hgo) hcq
                                  obtain ⟨hcq, -, -⟩ := hcq
                                  subst hcq
                                  refine pl_ifB_eq X d_Model_isWell_190 rfl (fun g190 => ?_) (fun g190 => ?_)
                                  · skip
                                    refine lv_iconst (v := nI 0) hx hb d_Model_isWell_197 (by decide) ?_
                                    refine lv_istore_n hx hb d_Model_isWell_198 rfl hl (by decide) (lv' := [(1, .int (nI 0)), (6, .int (nI (h0 - tkN (opn P i) + lvN (opn P i)))), (5, .int (nI (h0 - tkN (opn P i)))), (4, .int (nI (opn P i))), (3, .int (nI i)), (2, .int (nI r)), (0, .ref m0)]) rfl (fun ls hl => ?_)
                                    refine lv_iload hx hb d_Model_isWell_199 (lv_at hl 3 rfl) ?_
                                    refine lv_bipush (v := nI 7) hx hb d_Model_isWell_201 (by decide) ?_
                                    refine pl_icmp_eq X (by omega) (by decide) d_Model_isWell_203 rfl (fun g203 => ?_) (fun g203 => ?_)
                                    · skip
                                      exact absurd g203 g164
                                    · skip
                                      refine lv_iload_n hx hb d_Model_isWell_206 rfl (lv_at hl 0 rfl) ?_
                                      refine pl_if_eq X (by decide) d_Model_isWell_207 rfl (fun gL => ?_) (fun gL => ?_)
                                      · skip
                                        refine lv_iconst (v := nI 0) hx hb d_Model_isWell_226 (by decide) ?_
                                        refine lv_istore_n hx hb d_Model_isWell_227 rfl hl (by decide) (lv' := [(1, .int (nI 0)), (6, .int (nI (h0 - tkN (opn P i) + lvN (opn P i)))), (5, .int (nI (h0 - tkN (opn P i)))), (4, .int (nI (opn P i))), (3, .int (nI i)), (2, .int (nI r)), (0, .ref m0)]) rfl (fun ls hl => ?_)
                                        exact join_228 u.1 false _ _ _ hr1.1 hr1.2.1 ((fun e => nomatch e)) (fun _ => hr1.2.2.2 g190) hP hD hS (lv_sub hl [4, 5, 0, 6] rfl)
                                      · skip
                                        exact absurd gL (by decide)
                                  · skip
                                    refine lv_iconst (v := nI 1) hx hb d_Model_isWell_193 (by decide) ?_
                                    refine lv_goto hx hb d_Model_isWell_194 rfl ?_
                                    refine lv_istore_n hx hb d_Model_isWell_198 rfl hl (by decide) (lv' := [(1, .int (nI 1)), (6, .int (nI (h0 - tkN (opn P i) + lvN (opn P i)))), (5, .int (nI (h0 - tkN (opn P i)))), (4, .int (nI (opn P i))), (3, .int (nI i)), (2, .int (nI r)), (0, .ref m0)]) rfl (fun ls hl => ?_)
                                    refine lv_iload hx hb d_Model_isWell_199 (lv_at hl 3 rfl) ?_
                                    refine lv_bipush (v := nI 7) hx hb d_Model_isWell_201 (by decide) ?_
                                    refine pl_icmp_eq X (by omega) (by decide) d_Model_isWell_203 rfl (fun g203 => ?_) (fun g203 => ?_)
                                    · skip
                                      exact absurd g203 g164
                                    · skip
                                      refine lv_iload_n hx hb d_Model_isWell_206 rfl (lv_at hl 0 rfl) ?_
                                      refine pl_if_eq X (by decide) d_Model_isWell_207 rfl (fun gL => ?_) (fun gL => ?_)
                                      · skip
                                        exact absurd gL (by decide)
                                      · skip
                                        refine lv_aload_n hx hb d_Model_isWell_210 rfl (lv_at hl 6 rfl) ?_
                                        refine lv_iload_n hx hb d_Model_isWell_211 rfl (lv_at hl 4 rfl) ?_
                                        refine lv_iconst (v := nI 1) hx hb d_Model_isWell_212 (by decide) ?_
                                        refine pl_iadd X d_Model_isWell_213 (z := nI (i + 1)) (nI_add _ _) ?_
                                        refine lv_iload hx hb d_Model_isWell_214 (lv_at hl 1 rfl) ?_
                                        refine pl_callVI X (rest := []) (As := [.int (nI (i + 1)), .int (nI (h0 - tkN (opn P i) + lvN (opn P i)))]) (b := m0) (c_Model_reach l D cI cZ cL m0 o1 o2 o3 o4 o5 o6 o7 o8 o9 o10 o11 P K u.1 ru lo hi tm sa ca ta tn fo1 fk1 co np n stat how pl la stt q dn (i + 1) (h0 - tkN (opn P i) + lvN (opn P i)) hnp (by omega) g151 hr1.1.2.1) ck_Model_77 pl_E0_ok trivial hK hP hD hS hA (T := F_Model) (N := N_Model) (ci := 6) rfl 0 rfl [0, 3] [1, 2] [2, 0, 1, 3] rfl (by decide) (wr := [(o1, .inl (cI, 24, .inl P)), (o2, .inl (cI, 24, .inl K))]) rfl (by decide) (by decide) (wf := fun (v : MW) => [(m0, .inr (6, [.int (nI co), .int (nI np), .ref o1, .ref o2, .ref o3, .int (nI n), .ref o4, .ref o5, .ref o6, .ref o7, .int fo1, .int fk1, .int (nI stat), .int (nI how), .int (nI pl), .int (nI la), .int (nI stt), .int (nI q), .ref o8, .ref o9, .int (nI dn), .ref o10, .ref o11])), (o1, .inl (cI, 24, .inl P)), (o2, .inl (cI, 24, .inl K)), (o3, .inl (cI, 24, .inl v.1))]) (fun _ => rfl) (by decide) rfl hl.1 rfl (Nat.le_of_ble_eq_true rfl) (by decide) (by decide) d_Model_isWell_216 (fun r v H locs hcq hP hD hS => ?_)
                                        have hr2 := mreach hr1.1 (show h0 - tkN (opn P i) + lvN (opn P i) ≤ 12 from g151) (fun G g => (mcl hv1 g84 hh0 ge g).2.2.2 g203 g126) hcq
                                        obtain ⟨hcq, -, -⟩ := hcq
                                        subst hcq
                                        refine pl_ifB_eq X d_Model_isWell_219 rfl (fun g219 => ?_) (fun g219 => ?_)
                                        · skip
                                          refine lv_iconst (v := nI 0) hx hb d_Model_isWell_226 (by decide) ?_
                                          refine lv_istore_n hx hb d_Model_isWell_227 rfl hl (by decide) (lv' := [(1, .int (nI 0)), (6, .int (nI (h0 - tkN (opn P i) + lvN (opn P i)))), (5, .int (nI (h0 - tkN (opn P i)))), (4, .int (nI (opn P i))), (3, .int (nI i)), (2, .int (nI r)), (0, .ref m0)]) rfl (fun ls hl => ?_)
                                          exact join_228 v.1 false _ _ _ hr2.1 ((hr1.2.1.trans hr2.2.1)) ((fun e => nomatch e)) (fun _ => hr2.2.2.2 g219) hP hD hS (lv_sub hl [4, 5, 0, 6] rfl)
                                        · skip
                                          refine lv_iconst (v := nI 1) hx hb d_Model_isWell_222 (by decide) ?_
                                          refine lv_goto hx hb d_Model_isWell_223 rfl ?_
                                          refine lv_istore_n hx hb d_Model_isWell_227 rfl hl (by decide) (lv' := [(1, .int (nI 1)), (6, .int (nI (h0 - tkN (opn P i) + lvN (opn P i)))), (5, .int (nI (h0 - tkN (opn P i)))), (4, .int (nI (opn P i))), (3, .int (nI i)), (2, .int (nI r)), (0, .ref m0)]) rfl (fun ls hl => ?_)
                                          exact join_228 v.1 true _ _ _ hr2.1 ((hr1.2.1.trans hr2.2.1)) (fun _ h8 hh8 e8 => by have e9 := nI_inj (by omega) (by omega) (ge.symm.trans e8); subst e9; exact ⟨gb, g151, fun o => ⟨(hr1.2.2.1 g190).1, (hr2.2.1 _ (hr1.2.2.1 g190).1 (by rw [(hr1.2.2.1 g190).2]; exact nI_nm1 (by omega))).trans (hr1.2.2.1 g190).2⟩, fun _ _ => hr2.2.2.1 g219⟩) (fun e => nomatch e) hP hD hS (lv_sub hl [4, 5, 0, 6] rfl)
                        · skip
                          refine lv_goto hx hb d_Model_isWell_129 rfl ?_
                          exact join_228 F1 b1 _ _ _ hv1 hExt.refl (fun _ h8 hh8 e8 => clo_end hh8 g126) hbf1 hP hD hS (lv_sub hl [2, 3, 4, 5] rfl)
                      · skip
                        refine pl_isub X d_Model_isWell_110 (z := (nI h0) - nI (tkN (opn P i))) rfl ?_
                        refine lv_istore hx hb d_Model_isWell_111 hl (by decide) (lv' := [(5, .int ((nI h0) - nI (tkN (opn P i)))), (4, .int (nI (opn P i))), (3, .int (nI i)), (2, .int (nI r)), (1, .int (bI (b1))), (0, .ref m0)]) rfl (fun ls hl => ?_)
                        refine lv_aload_n hx hb d_Model_isWell_113 rfl (lv_at hl 5 rfl) ?_
                        refine pl_get X fw_Model_16 hK hP 0 rfl (v := .ref o3) rfl d_Model_isWell_114 ?_
                        refine lv_iload_n hx hb d_Model_isWell_117 rfl (lv_at hl 2 rfl) ?_
                        refine pl_iald X hK hP 3 0 rfl rfl i (by omega) (by decide) (z := nI h0) ge d_Model_isWell_118 ?_
                        refine pl_if_lt X (by omega) d_Model_isWell_119 rfl ?_
                        refine lv_iload hx hb d_Model_isWell_122 (lv_at hl 1 rfl) ?_
                        refine lv_bipush (v := nI 12) hx hb d_Model_isWell_124 (by decide) ?_
                        refine pl_icmp_ne X (by omega) (by decide) d_Model_isWell_126 rfl (fun g126 => ?_) (fun g126 => ?_)
                        · skip
                          refine lv_iload hx hb d_Model_isWell_132 (lv_at hl 0 rfl) ?_
                          refine lv_iload hx hb d_Model_isWell_134 (lv_at hl 1 rfl) ?_
                          refine pl_callSI X (rest := [.int ((nI h0) - nI (tkN (opn P i)))]) (As := [.int (nI (opn P i))]) (c_Model_gives l D cI cZ cL (opn P i) ho2) ck_Model_74 pl_E0_ok trivial hK hP hD hS hA [] [0, 1, 2, 3] [0, 1, 2, 3] rfl (by decide) (wr := [(m0, .inr (6, [.int (nI co), .int (nI np), .ref o1, .ref o2, .ref o3, .int (nI n), .ref o4, .ref o5, .ref o6, .ref o7, .int fo1, .int fk1, .int (nI stat), .int (nI how), .int (nI pl), .int (nI la), .int (nI stt), .int (nI q), .ref o8, .ref o9, .int (nI dn), .ref o10, .ref o11])), (o1, .inl (cI, 24, .inl P)), (o2, .inl (cI, 24, .inl K)), (o3, .inl (cI, 24, .inl F1))]) rfl (by decide) (by decide) (wf := fun _ => [(m0, .inr (6, [.int (nI co), .int (nI np), .ref o1, .ref o2, .ref o3, .int (nI n), .ref o4, .ref o5, .ref o6, .ref o7, .int fo1, .int fk1, .int (nI stat), .int (nI how), .int (nI pl), .int (nI la), .int (nI stt), .int (nI q), .ref o8, .ref o9, .int (nI dn), .ref o10, .ref o11])), (o1, .inl (cI, 24, .inl P)), (o2, .inl (cI, 24, .inl K)), (o3, .inl (cI, 24, .inl F1))]) (fun _ => rfl) (by decide) rfl hl.1 rfl (Nat.le_of_ble_eq_true rfl) (by decide) (by decide) d_Model_isWell_136 (fun r u0 H locs hcq hP hD hS => ?_)
                          subst hcq
                          refine pl_iadd X d_Model_isWell_139 (z := ((nI h0) - nI (tkN (opn P i))) + nI (lvN (opn P i))) rfl ?_
                          refine lv_istore hx hb d_Model_isWell_140 hl (by decide) (lv' := [(6, .int (((nI h0) - nI (tkN (opn P i))) + nI (lvN (opn P i)))), (5, .int ((nI h0) - nI (tkN (opn P i)))), (4, .int (nI (opn P i))), (3, .int (nI i)), (2, .int (nI r)), (1, .int (bI (b1))), (0, .ref m0)]) rfl (fun ls hl => ?_)
                          refine lv_iload hx hb d_Model_isWell_142 (lv_at hl 1 rfl) ?_
                          refine lv_if_lt hx hb d_Model_isWell_144 rfl (fun g144 => ?_) (fun g144 => ?_)
                          · skip
                            refine lv_iconst (v := nI 0) hx hb d_Model_isWell_158 (by decide) ?_
                            refine lv_istore_n hx hb d_Model_isWell_159 rfl hl (by decide) (lv' := [(1, .int (nI 0)), (6, .int (((nI h0) - nI (tkN (opn P i))) + nI (lvN (opn P i)))), (5, .int ((nI h0) - nI (tkN (opn P i)))), (4, .int (nI (opn P i))), (3, .int (nI i)), (2, .int (nI r)), (0, .ref m0)]) rfl (fun ls hl => ?_)
                            refine lv_iload hx hb d_Model_isWell_160 (lv_at hl 3 rfl) ?_
                            refine lv_bipush (v := nI 7) hx hb d_Model_isWell_162 (by decide) ?_
                            refine pl_icmp_eq X (by omega) (by decide) d_Model_isWell_164 rfl (fun g164 => ?_) (fun g164 => ?_)
                            · skip
                              have hgo : opn P i = 7 ∨ opn P i = 8 := by omega
                              obtain ⟨hk1, hk2⟩ := okK_7 (by omega) hok g84 hgo
                              refine lv_iload_n hx hb d_Model_isWell_174 rfl (lv_at hl 0 rfl) ?_
                              refine pl_if_eq X (by decide) d_Model_isWell_175 rfl (fun gL => ?_) (fun gL => ?_)
                              · skip
                                refine lv_iconst (v := nI 0) hx hb d_Model_isWell_197 (by decide) ?_
                                refine lv_istore_n hx hb d_Model_isWell_198 rfl hl (by decide) (lv' := [(1, .int (nI 0)), (6, .int (((nI h0) - nI (tkN (opn P i))) + nI (lvN (opn P i)))), (5, .int ((nI h0) - nI (tkN (opn P i)))), (4, .int (nI (opn P i))), (3, .int (nI i)), (2, .int (nI r)), (0, .ref m0)]) rfl (fun ls hl => ?_)
                                refine lv_iload hx hb d_Model_isWell_199 (lv_at hl 3 rfl) ?_
                                refine lv_bipush (v := nI 7) hx hb d_Model_isWell_201 (by decide) ?_
                                refine pl_icmp_eq X (by omega) (by decide) d_Model_isWell_203 rfl (fun g203 => ?_) (fun g203 => ?_)
                                · skip
                                  exact join_228 F1 false _ _ _ hv1 hExt.refl ((fun e => nomatch e)) (fun _ G g => gb (mcl hv1 g84 hh0 ge g).1) hP hD hS (lv_sub hl [4, 5, 0, 6] rfl)
                                · skip
                                  exact absurd g164 g203
                              · skip
                                exact absurd gL (by decide)
                            · skip
                              refine lv_iload hx hb d_Model_isWell_167 (lv_at hl 3 rfl) ?_
                              refine lv_bipush (v := nI 8) hx hb d_Model_isWell_169 (by decide) ?_
                              refine pl_icmp_ne X (by omega) (by decide) d_Model_isWell_171 rfl (fun g171 => ?_) (fun g171 => ?_)
                              · skip
                                refine lv_iload hx hb d_Model_isWell_199 (lv_at hl 3 rfl) ?_
                                refine lv_bipush (v := nI 7) hx hb d_Model_isWell_201 (by decide) ?_
                                refine pl_icmp_eq X (by omega) (by decide) d_Model_isWell_203 rfl (fun g203 => ?_) (fun g203 => ?_)
                                · skip
                                  exact absurd g203 g164
                                · skip
                                  refine lv_iload_n hx hb d_Model_isWell_206 rfl (lv_at hl 0 rfl) ?_
                                  refine pl_if_eq X (by decide) d_Model_isWell_207 rfl (fun gL => ?_) (fun gL => ?_)
                                  · skip
                                    refine lv_iconst (v := nI 0) hx hb d_Model_isWell_226 (by decide) ?_
                                    refine lv_istore_n hx hb d_Model_isWell_227 rfl hl (by decide) (lv' := [(1, .int (nI 0)), (6, .int (((nI h0) - nI (tkN (opn P i))) + nI (lvN (opn P i)))), (5, .int ((nI h0) - nI (tkN (opn P i)))), (4, .int (nI (opn P i))), (3, .int (nI i)), (2, .int (nI r)), (0, .ref m0)]) rfl (fun ls hl => ?_)
                                    exact join_228 F1 false _ _ _ hv1 hExt.refl ((fun e => nomatch e)) (fun _ G g => gb (mcl hv1 g84 hh0 ge g).1) hP hD hS (lv_sub hl [4, 5, 0, 6] rfl)
                                  · skip
                                    exact absurd gL (by decide)
                              · skip
                                have hgo : opn P i = 7 ∨ opn P i = 8 := by omega
                                obtain ⟨hk1, hk2⟩ := okK_7 (by omega) hok g84 hgo
                                refine lv_iload_n hx hb d_Model_isWell_174 rfl (lv_at hl 0 rfl) ?_
                                refine pl_if_eq X (by decide) d_Model_isWell_175 rfl (fun gL => ?_) (fun gL => ?_)
                                · skip
                                  refine lv_iconst (v := nI 0) hx hb d_Model_isWell_197 (by decide) ?_
                                  refine lv_istore_n hx hb d_Model_isWell_198 rfl hl (by decide) (lv' := [(1, .int (nI 0)), (6, .int (((nI h0) - nI (tkN (opn P i))) + nI (lvN (opn P i)))), (5, .int ((nI h0) - nI (tkN (opn P i)))), (4, .int (nI (opn P i))), (3, .int (nI i)), (2, .int (nI r)), (0, .ref m0)]) rfl (fun ls hl => ?_)
                                  refine lv_iload hx hb d_Model_isWell_199 (lv_at hl 3 rfl) ?_
                                  refine lv_bipush (v := nI 7) hx hb d_Model_isWell_201 (by decide) ?_
                                  refine pl_icmp_eq X (by omega) (by decide) d_Model_isWell_203 rfl (fun g203 => ?_) (fun g203 => ?_)
                                  · skip
                                    exact absurd g203 g164
                                  · skip
                                    refine lv_iload_n hx hb d_Model_isWell_206 rfl (lv_at hl 0 rfl) ?_
                                    refine pl_if_eq X (by decide) d_Model_isWell_207 rfl (fun gL => ?_) (fun gL => ?_)
                                    · skip
                                      refine lv_iconst (v := nI 0) hx hb d_Model_isWell_226 (by decide) ?_
                                      refine lv_istore_n hx hb d_Model_isWell_227 rfl hl (by decide) (lv' := [(1, .int (nI 0)), (6, .int (((nI h0) - nI (tkN (opn P i))) + nI (lvN (opn P i)))), (5, .int ((nI h0) - nI (tkN (opn P i)))), (4, .int (nI (opn P i))), (3, .int (nI i)), (2, .int (nI r)), (0, .ref m0)]) rfl (fun ls hl => ?_)
                                      exact join_228 F1 false _ _ _ hv1 hExt.refl ((fun e => nomatch e)) (fun _ G g => gb (mcl hv1 g84 hh0 ge g).1) hP hD hS (lv_sub hl [4, 5, 0, 6] rfl)
                                    · skip
                                      exact absurd gL (by decide)
                                · skip
                                  exact absurd gL (by decide)
                          · skip
                            exact absurd (pk_sneg (by omega) (by omega)) g144
                        · skip
                          refine lv_goto hx hb d_Model_isWell_129 rfl ?_
                          exact join_228 F1 b1 _ _ _ hv1 hExt.refl (fun _ h8 hh8 e8 => clo_end hh8 g126) hbf1 hP hD hS (lv_sub hl [2, 3, 4, 5] rfl)
              exact loop_79 _ 0 F b2 _ _ _ rfl (Nat.zero_le _) hv hExt.refl (fun e => ⟨e, fun j hj => absurd hj (Nat.not_lt_zero j)⟩) hbf hP hD hS hl
          exact loop_69 _ 0 (upd g 0 (nI 0)) b _ _ _ rfl (Nat.zero_le _) ((mInv.init hp0 (fun j hj => hg j (by omega))).1) (fun _ => Or.inr (mInv.init (P := P) (K := K) hp0 (fun j hj => hg j (by omega))).2) (fun e => absurd e (by rw [g55]; decide)) hP hD hS hl
        · skip
          refine lv_iconst (v := nI 0) hx hb d_Model_isWell_58 (by decide) ?_
          exact pl_iret X hr hlk hK rfl (g, false) (wellP_0 (fun q => absurd (hbi.mpr ⟨q.1, fun j hj => q.2 j (by omega)⟩) (by rw [g55]; decide))) hP hD hS d_Model_isWell_59
      · skip
        refine lv_iload_n hx hb d_Model_isWell_23 rfl (lv_at hl 1 rfl) ?_
        refine pl_ifB_eq X d_Model_isWell_24 rfl (fun g24 => ?_) (fun g24 => ?_)
        · skip
          refine lv_iconst (v := nI 0) hx hb d_Model_isWell_39 (by decide) ?_
          refine lv_istore_n hx hb d_Model_isWell_40 rfl hl (by decide) (lv' := [(1, .int (nI 0)), (2, .int (nI i)), (0, .ref m0)]) rfl (fun ls hl => ?_)
          refine lv_aload_n hx hb d_Model_isWell_41 rfl (lv_at hl 2 rfl) ?_
          refine pl_get X fw_Model_16 hK hP 0 rfl (v := .ref o3) rfl d_Model_isWell_42 ?_
          refine lv_iload_n hx hb d_Model_isWell_45 rfl (lv_at hl 1 rfl) ?_
          refine lv_iconst (v := -1) hx hb d_Model_isWell_46 (by decide) ?_
          refine pl_iast X hK hP hD hS 3 0 rfl rfl i (by omega) (by decide) d_Model_isWell_47 (ws' := [(m0, .inr (6, [.int (nI co), .int (nI np), .ref o1, .ref o2, .ref o3, .int (nI n), .ref o4, .ref o5, .ref o6, .ref o7, .int fo1, .int fk1, .int (nI stat), .int (nI how), .int (nI pl), .int (nI la), .int (nI stt), .int (nI q), .ref o8, .ref o9, .int (nI dn), .ref o10, .ref o11])), (o1, .inl (cI, 24, .inl P)), (o2, .inl (cI, 24, .inl K)), (o3, .inl (cI, 24, .inl (upd g i (-1))))]) rfl (fun H locs hP hD hS => ?_)
          refine lv_iinc hx hb d_Model_isWell_48 hl (k := 1) rfl (nI_inc1 _) (by decide) (lv' := [(2, .int (nI (i + 1))), (1, .int (nI 0)), (0, .ref m0)]) rfl (fun ls hl => ?_)
          refine lv_goto hx hb d_Model_isWell_51 rfl ?_
          exact ih _ (by omega) (i + 1) (upd g i (-1)) false _ _ _ rfl (by omega) (fun j hj => by rcases Nat.lt_succ_iff_lt_or_eq.mp hj with q | q; (rw [upd_n (Nat.ne_of_lt q)]; exact hg j q); (rw [q]; exact upd_s)) (⟨(fun e => nomatch e), fun q => absurd (hbi.mpr ⟨q.1, fun j hj => q.2 j (by omega)⟩) (by rw [g24]; decide)⟩) hP hD hS hl
        · skip
          refine lv_aload_n hx hb d_Model_isWell_27 rfl (lv_at hl 2 rfl) ?_
          refine lv_iload_n hx hb d_Model_isWell_28 rfl (lv_at hl 0 rfl) ?_
          refine pl_callVI X (rest := []) (As := [.int (nI i)]) (b := m0) (c_Model_isK l D cI cZ cL m0 o1 o2 o3 o4 o5 o6 o7 o8 o9 o10 o11 P K g ru lo hi tm sa ca ta tn fo1 fk1 co np n stat how pl la stt q dn i hnp g20 hop) ck_Model_68 pl_E0_ok trivial hK hP hD hS hA (T := F_Model) (N := N_Model) (ci := 6) rfl 0 rfl [0, 1, 2] [3] [1, 2, 3, 0] rfl (by decide) (wr := [(o3, .inl (cI, 24, .inl g))]) rfl (by decide) (by decide) (wf := fun _ => [(m0, .inr (6, [.int (nI co), .int (nI np), .ref o1, .ref o2, .ref o3, .int (nI n), .ref o4, .ref o5, .ref o6, .ref o7, .int fo1, .int fk1, .int (nI stat), .int (nI how), .int (nI pl), .int (nI la), .int (nI stt), .int (nI q), .ref o8, .ref o9, .int (nI dn), .ref o10, .ref o11])), (o1, .inl (cI, 24, .inl P)), (o2, .inl (cI, 24, .inl K)), (o3, .inl (cI, 24, .inl g))]) (fun _ => rfl) (by decide) rfl hl.1 rfl (Nat.le_of_ble_eq_true rfl) (by decide) (by decide) d_Model_isWell_29 (fun r u0 H locs hcq hP hD hS => ?_)
          subst hcq
          refine pl_ifB_eq X d_Model_isWell_32 rfl (fun g32 => ?_) (fun g32 => ?_)
          · skip
            refine lv_iconst (v := nI 0) hx hb d_Model_isWell_39 (by decide) ?_
            refine lv_istore_n hx hb d_Model_isWell_40 rfl hl (by decide) (lv' := [(1, .int (nI 0)), (2, .int (nI i)), (0, .ref m0)]) rfl (fun ls hl => ?_)
            refine lv_aload_n hx hb d_Model_isWell_41 rfl (lv_at hl 2 rfl) ?_
            refine pl_get X fw_Model_16 hK hP 0 rfl (v := .ref o3) rfl d_Model_isWell_42 ?_
            refine lv_iload_n hx hb d_Model_isWell_45 rfl (lv_at hl 1 rfl) ?_
            refine lv_iconst (v := -1) hx hb d_Model_isWell_46 (by decide) ?_
            refine pl_iast X hK hP hD hS 3 0 rfl rfl i (by omega) (by decide) d_Model_isWell_47 (ws' := [(m0, .inr (6, [.int (nI co), .int (nI np), .ref o1, .ref o2, .ref o3, .int (nI n), .ref o4, .ref o5, .ref o6, .ref o7, .int fo1, .int fk1, .int (nI stat), .int (nI how), .int (nI pl), .int (nI la), .int (nI stt), .int (nI q), .ref o8, .ref o9, .int (nI dn), .ref o10, .ref o11])), (o1, .inl (cI, 24, .inl P)), (o2, .inl (cI, 24, .inl K)), (o3, .inl (cI, 24, .inl (upd g i (-1))))]) rfl (fun H locs hP hD hS => ?_)
            refine lv_iinc hx hb d_Model_isWell_48 hl (k := 1) rfl (nI_inc1 _) (by decide) (lv' := [(2, .int (nI (i + 1))), (1, .int (nI 0)), (0, .ref m0)]) rfl (fun ls hl => ?_)
            refine lv_goto hx hb d_Model_isWell_51 rfl ?_
            exact ih _ (by omega) (i + 1) (upd g i (-1)) false _ _ _ rfl (by omega) (fun j hj => by rcases Nat.lt_succ_iff_lt_or_eq.mp hj with q | q; (rw [upd_n (Nat.ne_of_lt q)]; exact hg j q); (rw [q]; exact upd_s)) (⟨(fun e => nomatch e), fun q => absurd (q.2 i (by omega)) (by rw [g32]; decide)⟩) hP hD hS hl
          · skip
            refine lv_iconst (v := nI 1) hx hb d_Model_isWell_35 (by decide) ?_
            refine lv_goto hx hb d_Model_isWell_36 rfl ?_
            refine lv_istore_n hx hb d_Model_isWell_40 rfl hl (by decide) (lv' := [(1, .int (nI 1)), (2, .int (nI i)), (0, .ref m0)]) rfl (fun ls hl => ?_)
            refine lv_aload_n hx hb d_Model_isWell_41 rfl (lv_at hl 2 rfl) ?_
            refine pl_get X fw_Model_16 hK hP 0 rfl (v := .ref o3) rfl d_Model_isWell_42 ?_
            refine lv_iload_n hx hb d_Model_isWell_45 rfl (lv_at hl 1 rfl) ?_
            refine lv_iconst (v := -1) hx hb d_Model_isWell_46 (by decide) ?_
            refine pl_iast X hK hP hD hS 3 0 rfl rfl i (by omega) (by decide) d_Model_isWell_47 (ws' := [(m0, .inr (6, [.int (nI co), .int (nI np), .ref o1, .ref o2, .ref o3, .int (nI n), .ref o4, .ref o5, .ref o6, .ref o7, .int fo1, .int fk1, .int (nI stat), .int (nI how), .int (nI pl), .int (nI la), .int (nI stt), .int (nI q), .ref o8, .ref o9, .int (nI dn), .ref o10, .ref o11])), (o1, .inl (cI, 24, .inl P)), (o2, .inl (cI, 24, .inl K)), (o3, .inl (cI, 24, .inl (upd g i (-1))))]) rfl (fun H locs hP hD hS => ?_)
            refine lv_iinc hx hb d_Model_isWell_48 hl (k := 1) rfl (nI_inc1 _) (by decide) (lv' := [(2, .int (nI (i + 1))), (1, .int (nI 1)), (0, .ref m0)]) rfl (fun ls hl => ?_)
            refine lv_goto hx hb d_Model_isWell_51 rfl ?_
            exact ih _ (by omega) (i + 1) (upd g i (-1)) true _ _ _ rfl (by omega) (fun j hj => by rcases Nat.lt_succ_iff_lt_or_eq.mp hj with q | q; (rw [upd_n (Nat.ne_of_lt q)]; exact hg j q); (rw [q]; exact upd_s)) (⟨fun _ => ⟨(hbi.mp g24).1, fun j hj => by rcases Nat.lt_succ_iff_lt_or_eq.mp hj with q | q; (exact (hbi.mp g24).2 j q); (rw [q]; exact g32)⟩, fun _ => rfl⟩) hP hD hS hl
    exact loop_15 _ 0 Hm false _ _ _ rfl (Nat.zero_le _) (fun j hj => absurd hj (Nat.not_lt_zero j)) (⟨(fun e => nomatch e), fun q => absurd q.1 (by omega)⟩) hP hD hS hl
  · skip
    refine lv_iconst (v := nI 1) hx hb d_Model_isWell_7 (by decide) ?_
    refine lv_goto hx hb d_Model_isWell_8 rfl ?_
    refine lv_istore_n hx hb d_Model_isWell_12 rfl hl (by decide) (lv' := [(1, .int (nI 1)), (0, .ref m0)]) rfl (fun ls hl => ?_)
    refine lv_iconst (v := nI 0) hx hb d_Model_isWell_13 (by decide) ?_
    refine lv_istore_n hx hb d_Model_isWell_14 rfl hl (by decide) (lv' := [(2, .int (nI 0)), (1, .int (nI 1)), (0, .ref m0)]) rfl (fun ls hl => ?_)
    have loop_15 : ∀ (k : Nat) (i : Nat) (g : Nat → Int32) (b : Bool) (H : Heap) (locs : List Loc) (ls : Array Slot), np - i = k → (i ≤ np) → (∀ j, j < i → g j = -1) → (b = true ↔ (0 < np ∧ ∀ j, j < i → numFit (opn P j) (K j) np = true)) → va_P D classes [(m0, .inr (6, [.int (nI co), .int (nI np), .ref o1, .ref o2, .ref o3, .int (nI n), .ref o4, .ref o5, .ref o6, .ref o7, .int fo1, .int fk1, .int (nI stat), .int (nI how), .int (nI pl), .int (nI la), .int (nI stt), .int (nI q), .ref o8, .ref o9, .int (nI dn), .ref o10, .ref o11])), (o1, .inl (cI, 24, .inl P)), (o2, .inl (cI, 24, .inl K)), (o3, .inl (cI, 24, .inl g))] H → va_D A [(m0, .inr (6, [.int (nI co), .int (nI np), .ref o1, .ref o2, .ref o3, .int (nI n), .ref o4, .ref o5, .ref o6, .ref o7, .int fo1, .int fk1, .int (nI stat), .int (nI how), .int (nI pl), .int (nI la), .int (nI stt), .int (nI q), .ref o8, .ref o9, .int (nI dn), .ref o10, .ref o11])), (o1, .inl (cI, 24, .inl P)), (o2, .inl (cI, 24, .inl K)), (o3, .inl (cI, 24, .inl g))] → va_S A s.heap H locs → lv_has ls 7 [(2, .int (nI i)), (1, .int (bI (b))), (0, .ref m0)] → W p l e ({ frames := 2, cells := 0, slots := 0, locals := 44 } : Room) s m args below meth c H locs 0 0 (MQ below (va_Qi (wellP P K np) (fun u => pl_out D classes (TY cI cZ cL) A ((fun (u : MW) => [(m0, .inr (6, [.int (nI co), .int (nI np), .ref o1, .ref o2, .ref o3, .int (nI n), .ref o4, .ref o5, .ref o6, .ref o7, .int fo1, .int fk1, .int (nI stat), .int (nI how), .int (nI pl), .int (nI la), .int (nI stt), .int (nI q), .ref o8, .ref o9, .int (nI dn), .ref o10, .ref o11])), (o1, .inl (cI, 24, .inl P)), (o2, .inl (cI, 24, .inl K)), (o3, .inl (cI, 24, .inl u.1))]) u)) A) args s 0 0 A) (F0 m 15 ls []) := by
      intro k
      induction k using Nat.strongRecOn with
      | _ k ih =>
      intro i g b H locs ls hk hi0 hg hbi hP hD hS hl
      refine lv_iload_n hx hb d_Model_isWell_15 rfl (lv_at hl 0 rfl) ?_
      refine lv_aload_n hx hb d_Model_isWell_16 rfl (lv_at hl 2 rfl) ?_
      refine pl_get X fw_Model_55 hK hP 0 rfl (v := .int (nI np)) rfl d_Model_isWell_17 ?_
      refine pl_icmp_ge X (by omega) (by omega) d_Model_isWell_20 rfl (fun g20 => ?_) (fun g20 => ?_)
      · skip
        refine lv_iload_n hx hb d_Model_isWell_54 rfl (lv_at hl 1 rfl) ?_
        refine pl_ifB_ne X d_Model_isWell_55 rfl (fun g55 => ?_) (fun g55 => ?_)
        · skip
          have hp0 := (hbi.mp g55).1
          have hok : okK P K np := fun j hj => (hbi.mp g55).2 j (by omega)
          refine lv_aload_n hx hb d_Model_isWell_60 rfl (lv_at hl 2 rfl) ?_
          refine pl_get X fw_Model_16 hK hP 0 rfl (v := .ref o3) rfl d_Model_isWell_61 ?_
          refine lv_iconst (v := nI 0) hx hb d_Model_isWell_64 (by decide) ?_
          refine lv_iconst (v := nI 0) hx hb d_Model_isWell_65 (by decide) ?_
          refine pl_iast X hK hP hD hS 3 0 rfl rfl 0 (by omega) (by decide) d_Model_isWell_66 (ws' := [(m0, .inr (6, [.int (nI co), .int (nI np), .ref o1, .ref o2, .ref o3, .int (nI n), .ref o4, .ref o5, .ref o6, .ref o7, .int fo1, .int fk1, .int (nI stat), .int (nI how), .int (nI pl), .int (nI la), .int (nI stt), .int (nI q), .ref o8, .ref o9, .int (nI dn), .ref o10, .ref o11])), (o1, .inl (cI, 24, .inl P)), (o2, .inl (cI, 24, .inl K)), (o3, .inl (cI, 24, .inl (upd g 0 (nI 0))))]) rfl (fun H locs hP hD hS => ?_)
          refine lv_iconst (v := nI 0) hx hb d_Model_isWell_67 (by decide) ?_
          refine lv_istore_n hx hb d_Model_isWell_68 rfl hl (by decide) (lv' := [(2, .int (nI 0)), (1, .int (bI (b))), (0, .ref m0)]) rfl (fun ls hl => ?_)
          have loop_69 : ∀ (k : Nat) (r : Nat) (F : Nat → Int32) (b2 : Bool) (H : Heap) (locs : List Loc) (ls : Array Slot), np - r = k → (r ≤ np) → (mInv P K np F) → (b2 = true → closed P K np F ∨ r + 1 ≤ cntL F np) → (b2 = false → ∀ G, ¬ closed P K np G) → va_P D classes [(m0, .inr (6, [.int (nI co), .int (nI np), .ref o1, .ref o2, .ref o3, .int (nI n), .ref o4, .ref o5, .ref o6, .ref o7, .int fo1, .int fk1, .int (nI stat), .int (nI how), .int (nI pl), .int (nI la), .int (nI stt), .int (nI q), .ref o8, .ref o9, .int (nI dn), .ref o10, .ref o11])), (o1, .inl (cI, 24, .inl P)), (o2, .inl (cI, 24, .inl K)), (o3, .inl (cI, 24, .inl F))] H → va_D A [(m0, .inr (6, [.int (nI co), .int (nI np), .ref o1, .ref o2, .ref o3, .int (nI n), .ref o4, .ref o5, .ref o6, .ref o7, .int fo1, .int fk1, .int (nI stat), .int (nI how), .int (nI pl), .int (nI la), .int (nI stt), .int (nI q), .ref o8, .ref o9, .int (nI dn), .ref o10, .ref o11])), (o1, .inl (cI, 24, .inl P)), (o2, .inl (cI, 24, .inl K)), (o3, .inl (cI, 24, .inl F))] → va_S A s.heap H locs → lv_has ls 7 [(2, .int (nI r)), (1, .int (bI (b2))), (0, .ref m0)] → W p l e ({ frames := 2, cells := 0, slots := 0, locals := 44 } : Room) s m args below meth c H locs 0 0 (MQ below (va_Qi (wellP P K np) (fun u => pl_out D classes (TY cI cZ cL) A ((fun (u : MW) => [(m0, .inr (6, [.int (nI co), .int (nI np), .ref o1, .ref o2, .ref o3, .int (nI n), .ref o4, .ref o5, .ref o6, .ref o7, .int fo1, .int fk1, .int (nI stat), .int (nI how), .int (nI pl), .int (nI la), .int (nI stt), .int (nI q), .ref o8, .ref o9, .int (nI dn), .ref o10, .ref o11])), (o1, .inl (cI, 24, .inl P)), (o2, .inl (cI, 24, .inl K)), (o3, .inl (cI, 24, .inl u.1))]) u)) A) args s 0 0 A) (F0 m 69 ls []) := by
            intro k
            induction k using Nat.strongRecOn with
            | _ k ih69 =>
            intro r F b2 H locs ls hk hr0 hv hbt hbf hP hD hS hl
            refine lv_iload_n hx hb d_Model_isWell_69 rfl (lv_at hl 0 rfl) ?_
            refine lv_aload_n hx hb d_Model_isWell_70 rfl (lv_at hl 2 rfl) ?_
            refine pl_get X fw_Model_55 hK hP 0 rfl (v := .int (nI np)) rfl d_Model_isWell_71 ?_
            refine pl_icmp_ge X (by omega) (by omega) d_Model_isWell_74 rfl (fun g74 => ?_) (fun g74 => ?_)
            · skip
              refine lv_iload_n hx hb d_Model_isWell_240 rfl (lv_at hl 1 rfl) ?_
              exact pl_iret X hr hlk hK (bI_nar _) (F, b2) (wellP_1 hok g74 hv hbt hbf) hP hD hS d_Model_isWell_241
            · skip
              refine lv_iconst (v := nI 0) hx hb d_Model_isWell_77 (by decide) ?_
              refine lv_istore_n hx hb d_Model_isWell_78 rfl hl (by decide) (lv' := [(3, .int (nI 0)), (2, .int (nI r)), (1, .int (bI (b2))), (0, .ref m0)]) rfl (fun ls hl => ?_)
              have loop_79 : ∀ (k : Nat) (i : Nat) (F1 : Nat → Int32) (b1 : Bool) (H : Heap) (locs : List Loc) (ls : Array Slot), np - i = k → (i ≤ np) → (mInv P K np F1) → (hExt np F F1) → (b1 = true → b2 = true ∧ ∀ j, j < i → ∀ h, h ≤ 12 → F j = nI h → clo P K np F1 j h) → (b1 = false → ∀ G, ¬ closed P K np G) → va_P D classes [(m0, .inr (6, [.int (nI co), .int (nI np), .ref o1, .ref o2, .ref o3, .int (nI n), .ref o4, .ref o5, .ref o6, .ref o7, .int fo1, .int fk1, .int (nI stat), .int (nI how), .int (nI pl), .int (nI la), .int (nI stt), .int (nI q), .ref o8, .ref o9, .int (nI dn), .ref o10, .ref o11])), (o1, .inl (cI, 24, .inl P)), (o2, .inl (cI, 24, .inl K)), (o3, .inl (cI, 24, .inl F1))] H → va_D A [(m0, .inr (6, [.int (nI co), .int (nI np), .ref o1, .ref o2, .ref o3, .int (nI n), .ref o4, .ref o5, .ref o6, .ref o7, .int fo1, .int fk1, .int (nI stat), .int (nI how), .int (nI pl), .int (nI la), .int (nI stt), .int (nI q), .ref o8, .ref o9, .int (nI dn), .ref o10, .ref o11])), (o1, .inl (cI, 24, .inl P)), (o2, .inl (cI, 24, .inl K)), (o3, .inl (cI, 24, .inl F1))] → va_S A s.heap H locs → lv_has ls 7 [(3, .int (nI i)), (2, .int (nI r)), (1, .int (bI (b1))), (0, .ref m0)] → W p l e ({ frames := 2, cells := 0, slots := 0, locals := 44 } : Room) s m args below meth c H locs 0 0 (MQ below (va_Qi (wellP P K np) (fun u => pl_out D classes (TY cI cZ cL) A ((fun (u : MW) => [(m0, .inr (6, [.int (nI co), .int (nI np), .ref o1, .ref o2, .ref o3, .int (nI n), .ref o4, .ref o5, .ref o6, .ref o7, .int fo1, .int fk1, .int (nI stat), .int (nI how), .int (nI pl), .int (nI la), .int (nI stt), .int (nI q), .ref o8, .ref o9, .int (nI dn), .ref o10, .ref o11])), (o1, .inl (cI, 24, .inl P)), (o2, .inl (cI, 24, .inl K)), (o3, .inl (cI, 24, .inl u.1))]) u)) A) args s 0 0 A) (F0 m 79 ls []) := by
                intro k
                induction k using Nat.strongRecOn with
                | _ k ih =>
                intro i F1 b1 H locs ls hk hi1 hv1 hx1 hbt1 hbf1 hP hD hS hl
                refine lv_iload_n hx hb d_Model_isWell_79 rfl (lv_at hl 0 rfl) ?_
                refine lv_aload_n hx hb d_Model_isWell_80 rfl (lv_at hl 3 rfl) ?_
                refine pl_get X fw_Model_55 hK hP 0 rfl (v := .int (nI np)) rfl d_Model_isWell_81 ?_
                refine pl_icmp_ge X (by omega) (by omega) d_Model_isWell_84 rfl (fun g84 => ?_) (fun g84 => ?_)
                · skip
                  refine lv_iinc hx hb d_Model_isWell_234 hl (k := 1) rfl (nI_inc1 _) (by decide) (lv' := [(2, .int (nI (r + 1))), (3, .int (nI i)), (1, .int (bI (b1))), (0, .ref m0)]) rfl (fun ls hl => ?_)
                  refine lv_goto hx hb d_Model_isWell_237 rfl ?_
                  exact ih69 _ (by omega) (r + 1) F1 b1 _ _ _ rfl (by omega) hv1 (fun e => mround hv1 hx1 (fun j hj => (hbt1 e).2 j (by omega)) hp0 (hbt (hbt1 e).1)) hbf1 hP hD hS (lv_sub hl [0, 2, 3] rfl)
                · skip
                  refine lv_iload_n hx hb d_Model_isWell_87 rfl (lv_at hl 2 rfl) ?_
                  refine pl_ifB_eq X d_Model_isWell_88 rfl (fun g88 => ?_) (fun g88 => ?_)
                  · skip
                    refine lv_iinc hx hb d_Model_isWell_234 hl (k := 1) rfl (nI_inc1 _) (by decide) (lv' := [(2, .int (nI (r + 1))), (3, .int (nI i)), (1, .int (bI (b1))), (0, .ref m0)]) rfl (fun ls hl => ?_)
                    refine lv_goto hx hb d_Model_isWell_237 rfl ?_
                    exact ih69 _ (by omega) (r + 1) F1 b1 _ _ _ rfl (by omega) hv1 (fun e => absurd e (by rw [g88]; decide)) hbf1 hP hD hS (lv_sub hl [0, 2, 3] rfl)
                  · skip
                    have join_228 : ∀ (F2 : Nat → Int32) (b3 : Bool) (H : Heap) (locs : List Loc) (ls : Array Slot), (mInv P K np F2) → (hExt np F1 F2) → (b3 = true → ∀ h, h ≤ 12 → F1 i = nI h → clo P K np F2 i h) → (b3 = false → ∀ G, ¬ closed P K np G) → va_P D classes [(m0, .inr (6, [.int (nI co), .int (nI np), .ref o1, .ref o2, .ref o3, .int (nI n), .ref o4, .ref o5, .ref o6, .ref o7, .int fo1, .int fk1, .int (nI stat), .int (nI how), .int (nI pl), .int (nI la), .int (nI stt), .int (nI q), .ref o8, .ref o9, .int (nI dn), .ref o10, .ref o11])), (o1, .inl (cI, 24, .inl P)), (o2, .inl (cI, 24, .inl K)), (o3, .inl (cI, 24, .inl F2))] H → va_D A [(m0, .inr (6, [.int (nI co), .int (nI np), .ref o1, .ref o2, .ref o3, .int (nI n), .ref o4, .ref o5, .ref o6, .ref o7, .int fo1, .int fk1, .int (nI stat), .int (nI how), .int (nI pl), .int (nI la), .int (nI stt), .int (nI q), .ref o8, .ref o9, .int (nI dn), .ref o10, .ref o11])), (o1, .inl (cI, 24, .inl P)), (o2, .inl (cI, 24, .inl K)), (o3, .inl (cI, 24, .inl F2))] → va_S A s.heap H locs → lv_has ls 7 [(3, .int (nI i)), (2, .int (nI r)), (1, .int (bI (b3))), (0, .ref m0)] → W p l e ({ frames := 2, cells := 0, slots := 0, locals := 44 } : Room) s m args below meth c H locs 0 0 (MQ below (va_Qi (wellP P K np) (fun u => pl_out D classes (TY cI cZ cL) A ((fun (u : MW) => [(m0, .inr (6, [.int (nI co), .int (nI np), .ref o1, .ref o2, .ref o3, .int (nI n), .ref o4, .ref o5, .ref o6, .ref o7, .int fo1, .int fk1, .int (nI stat), .int (nI how), .int (nI pl), .int (nI la), .int (nI stt), .int (nI q), .ref o8, .ref o9, .int (nI dn), .ref o10, .ref o11])), (o1, .inl (cI, 24, .inl P)), (o2, .inl (cI, 24, .inl K)), (o3, .inl (cI, 24, .inl u.1))]) u)) A) args s 0 0 A) (F0 m 228 ls []) := by
                      intro F2 b3 H locs ls hv2 hx2 hbt2 hbf2 hP hD hS hl
                      refine lv_iinc hx hb d_Model_isWell_228 hl (k := 0) rfl (nI_inc1 _) (by decide) (lv' := [(3, .int (nI (i + 1))), (2, .int (nI r)), (1, .int (bI (b3))), (0, .ref m0)]) rfl (fun ls hl => ?_)
                      refine lv_goto hx hb d_Model_isWell_231 rfl ?_
                      exact ih _ (by omega) (i + 1) F2 b3 _ _ _ rfl (by omega) hv2 (hx1.trans hx2) (fun e => ⟨(hbt1 g88).1, fun j hj h hh q => by rcases Nat.lt_succ_iff_lt_or_eq.mp hj with t | t; (exact ((hbt1 g88).2 j t h hh q).ext hx2); (subst t; exact hbt2 e h hh (by rw [hx1 j g84 (by rw [q]; exact nI_nm1 (by omega))]; exact q))⟩) hbf2 hP hD hS hl
                    obtain ⟨ho1, ho2⟩ := hop i g84
                    have htk := tkN_le (opn P i)
                    have hlv := lvN_le (opn P i)
                    refine lv_aload_n hx hb d_Model_isWell_91 rfl (lv_at hl 3 rfl) ?_
                    refine pl_get X fw_Model_7 hK hP 0 rfl (v := .ref o1) rfl d_Model_isWell_92 ?_
                    refine lv_iload_n hx hb d_Model_isWell_95 rfl (lv_at hl 0 rfl) ?_
                    refine pl_iald X hK hP 1 0 rfl rfl i (by omega) (by decide) (z := nI (opn P i)) ho1 d_Model_isWell_96 ?_
                    refine lv_istore hx hb d_Model_isWell_97 hl (by decide) (lv' := [(4, .int (nI (opn P i))), (3, .int (nI i)), (2, .int (nI r)), (1, .int (bI (b1))), (0, .ref m0)]) rfl (fun ls hl => ?_)
                    rcases hv1.2.1 i g84 with ge | ⟨h0, hh0, ge⟩
                    · skip
                      refine lv_aload_n hx hb d_Model_isWell_99 rfl (lv_at hl 4 rfl) ?_
                      refine pl_get X fw_Model_16 hK hP 0 rfl (v := .ref o3) rfl d_Model_isWell_100 ?_
                      refine lv_iload_n hx hb d_Model_isWell_103 rfl (lv_at hl 1 rfl) ?_
                      refine pl_iald X hK hP 3 0 rfl rfl i (by omega) (by decide) (z := -1) ge d_Model_isWell_104 ?_
                      refine lv_iload hx hb d_Model_isWell_105 (lv_at hl 0 rfl) ?_
                      refine pl_callSI X (rest := [.int (-1)]) (As := [.int (nI (opn P i))]) (c_Model_takes l D cI cZ cL (opn P i) ho2) ck_Model_71 pl_E0_ok trivial hK hP hD hS hA [] [0, 1, 2, 3] [0, 1, 2, 3] rfl (by decide) (wr := [(m0, .inr (6, [.int (nI co), .int (nI np), .ref o1, .ref o2, .ref o3, .int (nI n), .ref o4, .ref o5, .ref o6, .ref o7, .int fo1, .int fk1, .int (nI stat), .int (nI how), .int (nI pl), .int (nI la), .int (nI stt), .int (nI q), .ref o8, .ref o9, .int (nI dn), .ref o10, .ref o11])), (o1, .inl (cI, 24, .inl P)), (o2, .inl (cI, 24, .inl K)), (o3, .inl (cI, 24, .inl F1))]) rfl (by decide) (by decide) (wf := fun _ => [(m0, .inr (6, [.int (nI co), .int (nI np), .ref o1, .ref o2, .ref o3, .int (nI n), .ref o4, .ref o5, .ref o6, .ref o7, .int fo1, .int fk1, .int (nI stat), .int (nI how), .int (nI pl), .int (nI la), .int (nI stt), .int (nI q), .ref o8, .ref o9, .int (nI dn), .ref o10, .ref o11])), (o1, .inl (cI, 24, .inl P)), (o2, .inl (cI, 24, .inl K)), (o3, .inl (cI, 24, .inl F1))]) (fun _ => rfl) (by decide) rfl hl.1 rfl (Nat.le_of_ble_eq_true rfl) (by decide) (by decide) d_Model_isWell_107 (fun r u0 H locs hcq hP hD hS => ?_)
                      subst hcq
                      refine pl_isub X d_Model_isWell_110 (z := (-1) - nI (tkN (opn P i))) rfl ?_
                      refine lv_istore hx hb d_Model_isWell_111 hl (by decide) (lv' := [(5, .int ((-1) - nI (tkN (opn P i)))), (4, .int (nI (opn P i))), (3, .int (nI i)), (2, .int (nI r)), (1, .int (bI (b1))), (0, .ref m0)]) rfl (fun ls hl => ?_)
                      refine lv_aload_n hx hb d_Model_isWell_113 rfl (lv_at hl 5 rfl) ?_
                      refine pl_get X fw_Model_16 hK hP 0 rfl (v := .ref o3) rfl d_Model_isWell_114 ?_
                      refine lv_iload_n hx hb d_Model_isWell_117 rfl (lv_at hl 2 rfl) ?_
                      refine pl_iald X hK hP 3 0 rfl rfl i (by omega) (by decide) (z := -1) ge d_Model_isWell_118 ?_
                      refine lv_if_lt hx hb d_Model_isWell_119 rfl (fun g119 => ?_) (fun g119 => ?_)
                      · skip
                        exact join_228 F1 b1 _ _ _ hv1 hExt.refl (fun _ h8 hh8 e8 => absurd (ge.symm.trans e8).symm (nI_nm1 (by omega))) hbf1 hP hD hS (lv_sub hl [2, 3, 4, 5] rfl)
                      · skip
                        exact absurd (by decide) g119
                    · skip
                      refine lv_aload_n hx hb d_Model_isWell_99 rfl (lv_at hl 4 rfl) ?_
                      refine pl_get X fw_Model_16 hK hP 0 rfl (v := .ref o3) rfl d_Model_isWell_100 ?_
                      refine lv_iload_n hx hb d_Model_isWell_103 rfl (lv_at hl 1 rfl) ?_
                      refine pl_iald X hK hP 3 0 rfl rfl i (by omega) (by decide) (z := nI h0) ge d_Model_isWell_104 ?_
                      refine lv_iload hx hb d_Model_isWell_105 (lv_at hl 0 rfl) ?_
                      refine pl_callSI X (rest := [.int (nI h0)]) (As := [.int (nI (opn P i))]) (c_Model_takes l D cI cZ cL (opn P i) ho2) ck_Model_71 pl_E0_ok trivial hK hP hD hS hA [] [0, 1, 2, 3] [0, 1, 2, 3] rfl (by decide) (wr := [(m0, .inr (6, [.int (nI co), .int (nI np), .ref o1, .ref o2, .ref o3, .int (nI n), .ref o4, .ref o5, .ref o6, .ref o7, .int fo1, .int fk1, .int (nI stat), .int (nI how), .int (nI pl), .int (nI la), .int (nI stt), .int (nI q), .ref o8, .ref o9, .int (nI dn), .ref o10, .ref o11])), (o1, .inl (cI, 24, .inl P)), (o2, .inl (cI, 24, .inl K)), (o3, .inl (cI, 24, .inl F1))]) rfl (by decide) (by decide) (wf := fun _ => [(m0, .inr (6, [.int (nI co), .int (nI np), .ref o1, .ref o2, .ref o3, .int (nI n), .ref o4, .ref o5, .ref o6, .ref o7, .int fo1, .int fk1, .int (nI stat), .int (nI how), .int (nI pl), .int (nI la), .int (nI stt), .int (nI q), .ref o8, .ref o9, .int (nI dn), .ref o10, .ref o11])), (o1, .inl (cI, 24, .inl P)), (o2, .inl (cI, 24, .inl K)), (o3, .inl (cI, 24, .inl F1))]) (fun _ => rfl) (by decide) rfl hl.1 rfl (Nat.le_of_ble_eq_true rfl) (by decide) (by decide) d_Model_isWell_107 (fun r u0 H locs hcq hP hD hS => ?_)
                      subst hcq
                      by_cases gb : tkN (opn P i) ≤ h0
                      · skip
                        refine pl_isub X d_Model_isWell_110 (z := nI (h0 - tkN (opn P i))) (pk_sub gb) ?_
                        refine lv_istore hx hb d_Model_isWell_111 hl (by decide) (lv' := [(5, .int (nI (h0 - tkN (opn P i)))), (4, .int (nI (opn P i))), (3, .int (nI i)), (2, .int (nI r)), (1, .int (bI (b1))), (0, .ref m0)]) rfl (fun ls hl => ?_)
                        refine lv_aload_n hx hb d_Model_isWell_113 rfl (lv_at hl 5 rfl) ?_
                        refine pl_get X fw_Model_16 hK hP 0 rfl (v := .ref o3) rfl d_Model_isWell_114 ?_
                        refine lv_iload_n hx hb d_Model_isWell_117 rfl (lv_at hl 2 rfl) ?_
                        refine pl_iald X hK hP 3 0 rfl rfl i (by omega) (by decide) (z := nI h0) ge d_Model_isWell_118 ?_
                        refine pl_if_lt X (by omega) d_Model_isWell_119 rfl ?_
                        refine lv_iload hx hb d_Model_isWell_122 (lv_at hl 1 rfl) ?_
                        refine lv_bipush (v := nI 12) hx hb d_Model_isWell_124 (by decide) ?_
                        refine pl_icmp_ne X (by omega) (by decide) d_Model_isWell_126 rfl (fun g126 => ?_) (fun g126 => ?_)
                        · skip
                          refine lv_iload hx hb d_Model_isWell_132 (lv_at hl 0 rfl) ?_
                          refine lv_iload hx hb d_Model_isWell_134 (lv_at hl 1 rfl) ?_
                          refine pl_callSI X (rest := [.int (nI (h0 - tkN (opn P i)))]) (As := [.int (nI (opn P i))]) (c_Model_gives l D cI cZ cL (opn P i) ho2) ck_Model_74 pl_E0_ok trivial hK hP hD hS hA [] [0, 1, 2, 3] [0, 1, 2, 3] rfl (by decide) (wr := [(m0, .inr (6, [.int (nI co), .int (nI np), .ref o1, .ref o2, .ref o3, .int (nI n), .ref o4, .ref o5, .ref o6, .ref o7, .int fo1, .int fk1, .int (nI stat), .int (nI how), .int (nI pl), .int (nI la), .int (nI stt), .int (nI q), .ref o8, .ref o9, .int (nI dn), .ref o10, .ref o11])), (o1, .inl (cI, 24, .inl P)), (o2, .inl (cI, 24, .inl K)), (o3, .inl (cI, 24, .inl F1))]) rfl (by decide) (by decide) (wf := fun _ => [(m0, .inr (6, [.int (nI co), .int (nI np), .ref o1, .ref o2, .ref o3, .int (nI n), .ref o4, .ref o5, .ref o6, .ref o7, .int fo1, .int fk1, .int (nI stat), .int (nI how), .int (nI pl), .int (nI la), .int (nI stt), .int (nI q), .ref o8, .ref o9, .int (nI dn), .ref o10, .ref o11])), (o1, .inl (cI, 24, .inl P)), (o2, .inl (cI, 24, .inl K)), (o3, .inl (cI, 24, .inl F1))]) (fun _ => rfl) (by decide) rfl hl.1 rfl (Nat.le_of_ble_eq_true rfl) (by decide) (by decide) d_Model_isWell_136 (fun r u0 H locs hcq hP hD hS => ?_)
                          subst hcq
                          refine pl_iadd X d_Model_isWell_139 (z := nI (h0 - tkN (opn P i) + lvN (opn P i))) (nI_add _ _) ?_
                          refine lv_istore hx hb d_Model_isWell_140 hl (by decide) (lv' := [(6, .int (nI (h0 - tkN (opn P i) + lvN (opn P i)))), (5, .int (nI (h0 - tkN (opn P i)))), (4, .int (nI (opn P i))), (3, .int (nI i)), (2, .int (nI r)), (1, .int (bI (b1))), (0, .ref m0)]) rfl (fun ls hl => ?_)
                          refine lv_iload hx hb d_Model_isWell_142 (lv_at hl 1 rfl) ?_
                          refine pl_if_lt X (by omega) d_Model_isWell_144 rfl ?_
                          refine lv_iload hx hb d_Model_isWell_147 (lv_at hl 0 rfl) ?_
                          refine lv_bipush (v := nI 12) hx hb d_Model_isWell_149 (by decide) ?_
                          refine pl_icmp_gt X (by omega) (by decide) d_Model_isWell_151 rfl (fun g151 => ?_) (fun g151 => ?_)
                          · skip
                            refine lv_iconst (v := nI 0) hx hb d_Model_isWell_158 (by decide) ?_
                            refine lv_istore_n hx hb d_Model_isWell_159 rfl hl (by decide) (lv' := [(1, .int (nI 0)), (6, .int (nI (h0 - tkN (opn P i) + lvN (opn P i)))), (5, .int (nI (h0 - tkN (opn P i)))), (4, .int (nI (opn P i))), (3, .int (nI i)), (2, .int (nI r)), (0, .ref m0)]) rfl (fun ls hl => ?_)
                            refine lv_iload hx hb d_Model_isWell_160 (lv_at hl 3 rfl) ?_
                            refine lv_bipush (v := nI 7) hx hb d_Model_isWell_162 (by decide) ?_
                            refine pl_icmp_eq X (by omega) (by decide) d_Model_isWell_164 rfl (fun g164 => ?_) (fun g164 => ?_)
                            · skip
                              have hgo : opn P i = 7 ∨ opn P i = 8 := by omega
                              obtain ⟨hk1, hk2⟩ := okK_7 (by omega) hok g84 hgo
                              refine lv_iload_n hx hb d_Model_isWell_174 rfl (lv_at hl 0 rfl) ?_
                              refine pl_if_eq X (by decide) d_Model_isWell_175 rfl (fun gL => ?_) (fun gL => ?_)
                              · skip
                                refine lv_iconst (v := nI 0) hx hb d_Model_isWell_197 (by decide) ?_
                                refine lv_istore_n hx hb d_Model_isWell_198 rfl hl (by decide) (lv' := [(1, .int (nI 0)), (6, .int (nI (h0 - tkN (opn P i) + lvN (opn P i)))), (5, .int (nI (h0 - tkN (opn P i)))), (4, .int (nI (opn P i))), (3, .int (nI i)), (2, .int (nI r)), (0, .ref m0)]) rfl (fun ls hl => ?_)
                                refine lv_iload hx hb d_Model_isWell_199 (lv_at hl 3 rfl) ?_
                                refine lv_bipush (v := nI 7) hx hb d_Model_isWell_201 (by decide) ?_
                                refine pl_icmp_eq X (by omega) (by decide) d_Model_isWell_203 rfl (fun g203 => ?_) (fun g203 => ?_)
                                · skip
                                  exact join_228 F1 false _ _ _ hv1 hExt.refl ((fun e => nomatch e)) (fun _ G g => absurd (mcl hv1 g84 hh0 ge g).2.1 (Nat.not_le.mpr g151)) hP hD hS (lv_sub hl [4, 5, 0, 6] rfl)
                                · skip
                                  exact absurd g164 g203
                              · skip
                                exact absurd gL (by decide)
                            · skip
                              refine lv_iload hx hb d_Model_isWell_167 (lv_at hl 3 rfl) ?_
                              refine lv_bipush (v := nI 8) hx hb d_Model_isWell_169 (by decide) ?_
                              refine pl_icmp_ne X (by omega) (by decide) d_Model_isWell_171 rfl (fun g171 => ?_) (fun g171 => ?_)
                              · skip
                                refine lv_iload hx hb d_Model_isWell_199 (lv_at hl 3 rfl) ?_
                                refine lv_bipush (v := nI 7) hx hb d_Model_isWell_201 (by decide) ?_
                                refine pl_icmp_eq X (by omega) (by decide) d_Model_isWell_203 rfl (fun g203 => ?_) (fun g203 => ?_)
                                · skip
                                  exact absurd g203 g164
                                · skip
                                  refine lv_iload_n hx hb d_Model_isWell_206 rfl (lv_at hl 0 rfl) ?_
                                  refine pl_if_eq X (by decide) d_Model_isWell_207 rfl (fun gL => ?_) (fun gL => ?_)
                                  · skip
                                    refine lv_iconst (v := nI 0) hx hb d_Model_isWell_226 (by decide) ?_
                                    refine lv_istore_n hx hb d_Model_isWell_227 rfl hl (by decide) (lv' := [(1, .int (nI 0)), (6, .int (nI (h0 - tkN (opn P i) + lvN (opn P i)))), (5, .int (nI (h0 - tkN (opn P i)))), (4, .int (nI (opn P i))), (3, .int (nI i)), (2, .int (nI r)), (0, .ref m0)]) rfl (fun ls hl => ?_)
                                    exact join_228 F1 false _ _ _ hv1 hExt.refl ((fun e => nomatch e)) (fun _ G g => absurd (mcl hv1 g84 hh0 ge g).2.1 (Nat.not_le.mpr g151)) hP hD hS (lv_sub hl [4, 5, 0, 6] rfl)
                                  · skip
                                    exact absurd gL (by decide)
                              · skip
                                have hgo : opn P i = 7 ∨ opn P i = 8 := by omega
                                obtain ⟨hk1, hk2⟩ := okK_7 (by omega) hok g84 hgo
                                refine lv_iload_n hx hb d_Model_isWell_174 rfl (lv_at hl 0 rfl) ?_
                                refine pl_if_eq X (by decide) d_Model_isWell_175 rfl (fun gL => ?_) (fun gL => ?_)
                                · skip
                                  refine lv_iconst (v := nI 0) hx hb d_Model_isWell_197 (by decide) ?_
                                  refine lv_istore_n hx hb d_Model_isWell_198 rfl hl (by decide) (lv' := [(1, .int (nI 0)), (6, .int (nI (h0 - tkN (opn P i) + lvN (opn P i)))), (5, .int (nI (h0 - tkN (opn P i)))), (4, .int (nI (opn P i))), (3, .int (nI i)), (2, .int (nI r)), (0, .ref m0)]) rfl (fun ls hl => ?_)
                                  refine lv_iload hx hb d_Model_isWell_199 (lv_at hl 3 rfl) ?_
                                  refine lv_bipush (v := nI 7) hx hb d_Model_isWell_201 (by decide) ?_
                                  refine pl_icmp_eq X (by omega) (by decide) d_Model_isWell_203 rfl (fun g203 => ?_) (fun g203 => ?_)
                                  · skip
                                    exact absurd g203 g164
                                  · skip
                                    refine lv_iload_n hx hb d_Model_isWell_206 rfl (lv_at hl 0 rfl) ?_
                                    refine pl_if_eq X (by decide) d_Model_isWell_207 rfl (fun gL => ?_) (fun gL => ?_)
                                    · skip
                                      refine lv_iconst (v := nI 0) hx hb d_Model_isWell_226 (by decide) ?_
                                      refine lv_istore_n hx hb d_Model_isWell_227 rfl hl (by decide) (lv' := [(1, .int (nI 0)), (6, .int (nI (h0 - tkN (opn P i) + lvN (opn P i)))), (5, .int (nI (h0 - tkN (opn P i)))), (4, .int (nI (opn P i))), (3, .int (nI i)), (2, .int (nI r)), (0, .ref m0)]) rfl (fun ls hl => ?_)
                                      exact join_228 F1 false _ _ _ hv1 hExt.refl ((fun e => nomatch e)) (fun _ G g => absurd (mcl hv1 g84 hh0 ge g).2.1 (Nat.not_le.mpr g151)) hP hD hS (lv_sub hl [4, 5, 0, 6] rfl)
                                    · skip
                                      exact absurd gL (by decide)
                                · skip
                                  exact absurd gL (by decide)
                          · skip
                            refine lv_iconst (v := nI 1) hx hb d_Model_isWell_154 (by decide) ?_
                            refine lv_goto hx hb d_Model_isWell_155 rfl ?_
                            refine lv_istore_n hx hb d_Model_isWell_159 rfl hl (by decide) (lv' := [(1, .int (nI 1)), (6, .int (nI (h0 - tkN (opn P i) + lvN (opn P i)))), (5, .int (nI (h0 - tkN (opn P i)))), (4, .int (nI (opn P i))), (3, .int (nI i)), (2, .int (nI r)), (0, .ref m0)]) rfl (fun ls hl => ?_)
                            refine lv_iload hx hb d_Model_isWell_160 (lv_at hl 3 rfl) ?_
                            refine lv_bipush (v := nI 7) hx hb d_Model_isWell_162 (by decide) ?_
                            refine pl_icmp_eq X (by omega) (by decide) d_Model_isWell_164 rfl (fun g164 => ?_) (fun g164 => ?_)
                            · skip
                              have hgo : opn P i = 7 ∨ opn P i = 8 := by omega
                              obtain ⟨hk1, hk2⟩ := okK_7 (by omega) hok g84 hgo
                              refine lv_iload_n hx hb d_Model_isWell_174 rfl (lv_at hl 0 rfl) ?_
                              refine pl_if_eq X (by decide) d_Model_isWell_175 rfl (fun gL => ?_) (fun gL => ?_)
                              · skip
                                exact absurd gL (by decide)
                              · skip
                                refine lv_aload_n hx hb d_Model_isWell_178 rfl (lv_at hl 6 rfl) ?_
                                refine lv_aload_n hx hb d_Model_isWell_179 rfl (lv_at hl 6 rfl) ?_
                                refine pl_get X fw_Model_13 hK hP 0 rfl (v := .ref o2) rfl d_Model_isWell_180 ?_
                                refine lv_iload_n hx hb d_Model_isWell_183 rfl (lv_at hl 4 rfl) ?_
                                refine pl_iald X hK hP 2 0 rfl rfl i (by omega) (by decide) (z := nI (kn K i)) hk1 d_Model_isWell_184 ?_
                                refine lv_iload hx hb d_Model_isWell_185 (lv_at hl 1 rfl) ?_
                                refine pl_callVI X (rest := []) (As := [.int (nI (kn K i)), .int (nI (h0 - tkN (opn P i) + lvN (opn P i)))]) (b := m0) (c_Model_reach l D cI cZ cL m0 o1 o2 o3 o4 o5 o6 o7 o8 o9 o10 o11 P K F1 ru lo hi tm sa ca ta tn fo1 fk1 co np n stat how pl la stt q dn (kn K i) (h0 - tkN (opn P i) + lvN (opn P i)) hnp (by omega) g151 hv1.2.1) ck_Model_77 pl_E0_ok trivial hK hP hD hS hA (T := F_Model) (N := N_Model) (ci := 6) rfl 0 rfl [0, 3] [1, 2] [2, 0, 1, 3] rfl (by decide) (wr := [(o1, .inl (cI, 24, .inl P)), (o2, .inl (cI, 24, .inl K))]) rfl (by decide) (by decide) (wf := fun (u : MW) => [(m0, .inr (6, [.int (nI co), .int (nI np), .ref o1, .ref o2, .ref o3, .int (nI n), .ref o4, .ref o5, .ref o6, .ref o7, .int fo1, .int fk1, .int (nI stat), .int (nI how), .int (nI pl), .int (nI la), .int (nI stt), .int (nI q), .ref o8, .ref o9, .int (nI dn), .ref o10, .ref o11])), (o1, .inl (cI, 24, .inl P)), (o2, .inl (cI, 24, .inl K)), (o3, .inl (cI, 24, .inl u.1))]) (fun _ => rfl) (by decide) rfl hl.1 rfl (Nat.le_of_ble_eq_true rfl) (by decide) (by decide) d_Model_isWell_187 (fun r u H locs hcq hP hD hS => ?_)
                                have hr1 := mreach hv1 (show h0 - tkN (opn P i) + lvN (opn P i) ≤ 12 from g151) (fun G g => (mcl hv1 g84 hh0 ge g).2.2.1 hgo) hcq
                                obtain ⟨hcq, -, -⟩ := hcq
                                subst hcq
                                refine pl_ifB_eq X d_Model_isWell_190 rfl (fun g190 => ?_) (fun g190 => ?_)
                                · skip
                                  refine lv_iconst (v := nI 0) hx hb d_Model_isWell_197 (by decide) ?_
                                  refine lv_istore_n hx hb d_Model_isWell_198 rfl hl (by decide) (lv' := [(1, .int (nI 0)), (6, .int (nI (h0 - tkN (opn P i) + lvN (opn P i)))), (5, .int (nI (h0 - tkN (opn P i)))), (4, .int (nI (opn P i))), (3, .int (nI i)), (2, .int (nI r)), (0, .ref m0)]) rfl (fun ls hl => ?_)
                                  refine lv_iload hx hb d_Model_isWell_199 (lv_at hl 3 rfl) ?_
                                  refine lv_bipush (v := nI 7) hx hb d_Model_isWell_201 (by decide) ?_
                                  refine pl_icmp_eq X (by omega) (by decide) d_Model_isWell_203 rfl (fun g203 => ?_) (fun g203 => ?_)
                                  · skip
                                    exact join_228 u.1 false _ _ _ hr1.1 hr1.2.1 ((fun e => nomatch e)) (fun _ => hr1.2.2.2 g190) hP hD hS (lv_sub hl [4, 5, 0, 6] rfl)
                                  · skip
                                    exact absurd g164 g203
                                · skip
                                  refine lv_iconst (v := nI 1) hx hb d_Model_isWell_193 (by decide) ?_
                                  refine lv_goto hx hb d_Model_isWell_194 rfl ?_
                                  refine lv_istore_n hx hb d_Model_isWell_198 rfl hl (by decide) (lv' := [(1, .int (nI 1)), (6, .int (nI (h0 - tkN (opn P i) + lvN (opn P i)))), (5, .int (nI (h0 - tkN (opn P i)))), (4, .int (nI (opn P i))), (3, .int (nI i)), (2, .int (nI r)), (0, .ref m0)]) rfl (fun ls hl => ?_)
                                  refine lv_iload hx hb d_Model_isWell_199 (lv_at hl 3 rfl) ?_
                                  refine lv_bipush (v := nI 7) hx hb d_Model_isWell_201 (by decide) ?_
                                  refine pl_icmp_eq X (by omega) (by decide) d_Model_isWell_203 rfl (fun g203 => ?_) (fun g203 => ?_)
                                  · skip
                                    exact join_228 u.1 true _ _ _ hr1.1 hr1.2.1 (fun _ h8 hh8 e8 => by have e9 := nI_inj (by omega) (by omega) (ge.symm.trans e8); subst e9; exact ⟨gb, g151, fun _ => hr1.2.2.1 g190, fun o => absurd g203 o⟩) (fun e => nomatch e) hP hD hS (lv_sub hl [4, 5, 0, 6] rfl)
                                  · skip
                                    exact absurd g164 g203
                            · skip
                              refine lv_iload hx hb d_Model_isWell_167 (lv_at hl 3 rfl) ?_
                              refine lv_bipush (v := nI 8) hx hb d_Model_isWell_169 (by decide) ?_
                              refine pl_icmp_ne X (by omega) (by decide) d_Model_isWell_171 rfl (fun g171 => ?_) (fun g171 => ?_)
                              · skip
                                refine lv_iload hx hb d_Model_isWell_199 (lv_at hl 3 rfl) ?_
                                refine lv_bipush (v := nI 7) hx hb d_Model_isWell_201 (by decide) ?_
                                refine pl_icmp_eq X (by omega) (by decide) d_Model_isWell_203 rfl (fun g203 => ?_) (fun g203 => ?_)
                                · skip
                                  exact absurd g203 g164
                                · skip
                                  refine lv_iload_n hx hb d_Model_isWell_206 rfl (lv_at hl 0 rfl) ?_
                                  refine pl_if_eq X (by decide) d_Model_isWell_207 rfl (fun gL => ?_) (fun gL => ?_)
                                  · skip
                                    exact absurd gL (by decide)
                                  · skip
                                    refine lv_aload_n hx hb d_Model_isWell_210 rfl (lv_at hl 6 rfl) ?_
                                    refine lv_iload_n hx hb d_Model_isWell_211 rfl (lv_at hl 4 rfl) ?_
                                    refine lv_iconst (v := nI 1) hx hb d_Model_isWell_212 (by decide) ?_
                                    refine pl_iadd X d_Model_isWell_213 (z := nI (i + 1)) (nI_add _ _) ?_
                                    refine lv_iload hx hb d_Model_isWell_214 (lv_at hl 1 rfl) ?_
                                    refine pl_callVI X (rest := []) (As := [.int (nI (i + 1)), .int (nI (h0 - tkN (opn P i) + lvN (opn P i)))]) (b := m0) (c_Model_reach l D cI cZ cL m0 o1 o2 o3 o4 o5 o6 o7 o8 o9 o10 o11 P K F1 ru lo hi tm sa ca ta tn fo1 fk1 co np n stat how pl la stt q dn (i + 1) (h0 - tkN (opn P i) + lvN (opn P i)) hnp (by omega) g151 hv1.2.1) ck_Model_77 pl_E0_ok trivial hK hP hD hS hA (T := F_Model) (N := N_Model) (ci := 6) rfl 0 rfl [0, 3] [1, 2] [2, 0, 1, 3] rfl (by decide) (wr := [(o1, .inl (cI, 24, .inl P)), (o2, .inl (cI, 24, .inl K))]) rfl (by decide) (by decide) (wf := fun (v : MW) => [(m0, .inr (6, [.int (nI co), .int (nI np), .ref o1, .ref o2, .ref o3, .int (nI n), .ref o4, .ref o5, .ref o6, .ref o7, .int fo1, .int fk1, .int (nI stat), .int (nI how), .int (nI pl), .int (nI la), .int (nI stt), .int (nI q), .ref o8, .ref o9, .int (nI dn), .ref o10, .ref o11])), (o1, .inl (cI, 24, .inl P)), (o2, .inl (cI, 24, .inl K)), (o3, .inl (cI, 24, .inl v.1))]) (fun _ => rfl) (by decide) rfl hl.1 rfl (Nat.le_of_ble_eq_true rfl) (by decide) (by decide) d_Model_isWell_216 (fun r v H locs hcq hP hD hS => ?_)
                                    have hr2 := mreach hv1 (show h0 - tkN (opn P i) + lvN (opn P i) ≤ 12 from g151) (fun G g => (mcl hv1 g84 hh0 ge g).2.2.2 g203 g126) hcq
                                    obtain ⟨hcq, -, -⟩ := hcq
                                    subst hcq
                                    refine pl_ifB_eq X d_Model_isWell_219 rfl (fun g219 => ?_) (fun g219 => ?_)
                                    · skip
                                      refine lv_iconst (v := nI 0) hx hb d_Model_isWell_226 (by decide) ?_
                                      refine lv_istore_n hx hb d_Model_isWell_227 rfl hl (by decide) (lv' := [(1, .int (nI 0)), (6, .int (nI (h0 - tkN (opn P i) + lvN (opn P i)))), (5, .int (nI (h0 - tkN (opn P i)))), (4, .int (nI (opn P i))), (3, .int (nI i)), (2, .int (nI r)), (0, .ref m0)]) rfl (fun ls hl => ?_)
                                      exact join_228 v.1 false _ _ _ hr2.1 hr2.2.1 ((fun e => nomatch e)) (fun _ => hr2.2.2.2 g219) hP hD hS (lv_sub hl [4, 5, 0, 6] rfl)
                                    · skip
                                      refine lv_iconst (v := nI 1) hx hb d_Model_isWell_222 (by decide) ?_
                                      refine lv_goto hx hb d_Model_isWell_223 rfl ?_
                                      refine lv_istore_n hx hb d_Model_isWell_227 rfl hl (by decide) (lv' := [(1, .int (nI 1)), (6, .int (nI (h0 - tkN (opn P i) + lvN (opn P i)))), (5, .int (nI (h0 - tkN (opn P i)))), (4, .int (nI (opn P i))), (3, .int (nI i)), (2, .int (nI r)), (0, .ref m0)]) rfl (fun ls hl => ?_)
                                      exact join_228 v.1 true _ _ _ hr2.1 hr2.2.1 (fun _ h8 hh8 e8 => by have e9 := nI_inj (by omega) (by omega) (ge.symm.trans e8); subst e9; exact ⟨gb, g151, fun o => absurd o (by omega), fun _ _ => hr2.2.2.1 g219⟩) (fun e => nomatch e) hP hD hS (lv_sub hl [4, 5, 0, 6] rfl)
                              · skip
                                have hgo : opn P i = 7 ∨ opn P i = 8 := by omega
                                obtain ⟨hk1, hk2⟩ := okK_7 (by omega) hok g84 hgo
                                refine lv_iload_n hx hb d_Model_isWell_174 rfl (lv_at hl 0 rfl) ?_
                                refine pl_if_eq X (by decide) d_Model_isWell_175 rfl (fun gL => ?_) (fun gL => ?_)
                                · skip
                                  exact absurd gL (by decide)
                                · skip
                                  refine lv_aload_n hx hb d_Model_isWell_178 rfl (lv_at hl 6 rfl) ?_
                                  refine lv_aload_n hx hb d_Model_isWell_179 rfl (lv_at hl 6 rfl) ?_
                                  refine pl_get X fw_Model_13 hK hP 0 rfl (v := .ref o2) rfl d_Model_isWell_180 ?_
                                  refine lv_iload_n hx hb d_Model_isWell_183 rfl (lv_at hl 4 rfl) ?_
                                  refine pl_iald X hK hP 2 0 rfl rfl i (by omega) (by decide) (z := nI (kn K i)) hk1 d_Model_isWell_184 ?_
                                  refine lv_iload hx hb d_Model_isWell_185 (lv_at hl 1 rfl) ?_
                                  refine pl_callVI X (rest := []) (As := [.int (nI (kn K i)), .int (nI (h0 - tkN (opn P i) + lvN (opn P i)))]) (b := m0) (c_Model_reach l D cI cZ cL m0 o1 o2 o3 o4 o5 o6 o7 o8 o9 o10 o11 P K F1 ru lo hi tm sa ca ta tn fo1 fk1 co np n stat how pl la stt q dn (kn K i) (h0 - tkN (opn P i) + lvN (opn P i)) hnp (by omega) g151 hv1.2.1) ck_Model_77 pl_E0_ok trivial hK hP hD hS hA (T := F_Model) (N := N_Model) (ci := 6) rfl 0 rfl [0, 3] [1, 2] [2, 0, 1, 3] rfl (by decide) (wr := [(o1, .inl (cI, 24, .inl P)), (o2, .inl (cI, 24, .inl K))]) rfl (by decide) (by decide) (wf := fun (u : MW) => [(m0, .inr (6, [.int (nI co), .int (nI np), .ref o1, .ref o2, .ref o3, .int (nI n), .ref o4, .ref o5, .ref o6, .ref o7, .int fo1, .int fk1, .int (nI stat), .int (nI how), .int (nI pl), .int (nI la), .int (nI stt), .int (nI q), .ref o8, .ref o9, .int (nI dn), .ref o10, .ref o11])), (o1, .inl (cI, 24, .inl P)), (o2, .inl (cI, 24, .inl K)), (o3, .inl (cI, 24, .inl u.1))]) (fun _ => rfl) (by decide) rfl hl.1 rfl (Nat.le_of_ble_eq_true rfl) (by decide) (by decide) d_Model_isWell_187 (fun r u H locs hcq hP hD hS => ?_)
                                  have hr1 := mreach hv1 (show h0 - tkN (opn P i) + lvN (opn P i) ≤ 12 from g151) (fun G g => (mcl hv1 g84 hh0 ge g).2.2.1 hgo) hcq
                                  obtain ⟨hcq, -, -⟩ := hcq
                                  subst hcq
                                  refine pl_ifB_eq X d_Model_isWell_190 rfl (fun g190 => ?_) (fun g190 => ?_)
                                  · skip
                                    refine lv_iconst (v := nI 0) hx hb d_Model_isWell_197 (by decide) ?_
                                    refine lv_istore_n hx hb d_Model_isWell_198 rfl hl (by decide) (lv' := [(1, .int (nI 0)), (6, .int (nI (h0 - tkN (opn P i) + lvN (opn P i)))), (5, .int (nI (h0 - tkN (opn P i)))), (4, .int (nI (opn P i))), (3, .int (nI i)), (2, .int (nI r)), (0, .ref m0)]) rfl (fun ls hl => ?_)
                                    refine lv_iload hx hb d_Model_isWell_199 (lv_at hl 3 rfl) ?_
                                    refine lv_bipush (v := nI 7) hx hb d_Model_isWell_201 (by decide) ?_
                                    refine pl_icmp_eq X (by omega) (by decide) d_Model_isWell_203 rfl (fun g203 => ?_) (fun g203 => ?_)
                                    · skip
                                      exact absurd g203 g164
                                    · skip
                                      refine lv_iload_n hx hb d_Model_isWell_206 rfl (lv_at hl 0 rfl) ?_
                                      refine pl_if_eq X (by decide) d_Model_isWell_207 rfl (fun gL => ?_) (fun gL => ?_)
                                      · skip
                                        refine lv_iconst (v := nI 0) hx hb d_Model_isWell_226 (by decide) ?_
                                        refine lv_istore_n hx hb d_Model_isWell_227 rfl hl (by decide) (lv' := [(1, .int (nI 0)), (6, .int (nI (h0 - tkN (opn P i) + lvN (opn P i)))), (5, .int (nI (h0 - tkN (opn P i)))), (4, .int (nI (opn P i))), (3, .int (nI i)), (2, .int (nI r)), (0, .ref m0)]) rfl (fun ls hl => ?_)
                                        exact join_228 u.1 false _ _ _ hr1.1 hr1.2.1 ((fun e => nomatch e)) (fun _ => hr1.2.2.2 g190) hP hD hS (lv_sub hl [4, 5, 0, 6] rfl)
                                      · skip
                                        exact absurd gL (by decide)
                                  · skip
                                    refine lv_iconst (v := nI 1) hx hb d_Model_isWell_193 (by decide) ?_
                                    refine lv_goto hx hb d_Model_isWell_194 rfl ?_
                                    refine lv_istore_n hx hb d_Model_isWell_198 rfl hl (by decide) (lv' := [(1, .int (nI 1)), (6, .int (nI (h0 - tkN (opn P i) + lvN (opn P i)))), (5, .int (nI (h0 - tkN (opn P i)))), (4, .int (nI (opn P i))), (3, .int (nI i)), (2, .int (nI r)), (0, .ref m0)]) rfl (fun ls hl => ?_)
                                    refine lv_iload hx hb d_Model_isWell_199 (lv_at hl 3 rfl) ?_
                                    refine lv_bipush (v := nI 7) hx hb d_Model_isWell_201 (by decide) ?_
                                    refine pl_icmp_eq X (by omega) (by decide) d_Model_isWell_203 rfl (fun g203 => ?_) (fun g203 => ?_)
                                    · skip
                                      exact absurd g203 g164
                                    · skip
                                      refine lv_iload_n hx hb d_Model_isWell_206 rfl (lv_at hl 0 rfl) ?_
                                      refine pl_if_eq X (by decide) d_Model_isWell_207 rfl (fun gL => ?_) (fun gL => ?_)
                                      · skip
                                        exact absurd gL (by decide)
                                      · skip
                                        refine lv_aload_n hx hb d_Model_isWell_210 rfl (lv_at hl 6 rfl) ?_
                                        refine lv_iload_n hx hb d_Model_isWell_211 rfl (lv_at hl 4 rfl) ?_
                                        refine lv_iconst (v := nI 1) hx hb d_Model_isWell_212 (by decide) ?_
                                        refine pl_iadd X d_Model_isWell_213 (z := nI (i + 1)) (nI_add _ _) ?_
                                        refine lv_iload hx hb d_Model_isWell_214 (lv_at hl 1 rfl) ?_
                                        refine pl_callVI X (rest := []) (As := [.int (nI (i + 1)), .int (nI (h0 - tkN (opn P i) + lvN (opn P i)))]) (b := m0) (c_Model_reach l D cI cZ cL m0 o1 o2 o3 o4 o5 o6 o7 o8 o9 o10 o11 P K u.1 ru lo hi tm sa ca ta tn fo1 fk1 co np n stat how pl la stt q dn (i + 1) (h0 - tkN (opn P i) + lvN (opn P i)) hnp (by omega) g151 hr1.1.2.1) ck_Model_77 pl_E0_ok trivial hK hP hD hS hA (T := F_Model) (N := N_Model) (ci := 6) rfl 0 rfl [0, 3] [1, 2] [2, 0, 1, 3] rfl (by decide) (wr := [(o1, .inl (cI, 24, .inl P)), (o2, .inl (cI, 24, .inl K))]) rfl (by decide) (by decide) (wf := fun (v : MW) => [(m0, .inr (6, [.int (nI co), .int (nI np), .ref o1, .ref o2, .ref o3, .int (nI n), .ref o4, .ref o5, .ref o6, .ref o7, .int fo1, .int fk1, .int (nI stat), .int (nI how), .int (nI pl), .int (nI la), .int (nI stt), .int (nI q), .ref o8, .ref o9, .int (nI dn), .ref o10, .ref o11])), (o1, .inl (cI, 24, .inl P)), (o2, .inl (cI, 24, .inl K)), (o3, .inl (cI, 24, .inl v.1))]) (fun _ => rfl) (by decide) rfl hl.1 rfl (Nat.le_of_ble_eq_true rfl) (by decide) (by decide) d_Model_isWell_216 (fun r v H locs hcq hP hD hS => ?_)
                                        have hr2 := mreach hr1.1 (show h0 - tkN (opn P i) + lvN (opn P i) ≤ 12 from g151) (fun G g => (mcl hv1 g84 hh0 ge g).2.2.2 g203 g126) hcq
                                        obtain ⟨hcq, -, -⟩ := hcq
                                        subst hcq
                                        refine pl_ifB_eq X d_Model_isWell_219 rfl (fun g219 => ?_) (fun g219 => ?_)
                                        · skip
                                          refine lv_iconst (v := nI 0) hx hb d_Model_isWell_226 (by decide) ?_
                                          refine lv_istore_n hx hb d_Model_isWell_227 rfl hl (by decide) (lv' := [(1, .int (nI 0)), (6, .int (nI (h0 - tkN (opn P i) + lvN (opn P i)))), (5, .int (nI (h0 - tkN (opn P i)))), (4, .int (nI (opn P i))), (3, .int (nI i)), (2, .int (nI r)), (0, .ref m0)]) rfl (fun ls hl => ?_)
                                          exact join_228 v.1 false _ _ _ hr2.1 ((hr1.2.1.trans hr2.2.1)) ((fun e => nomatch e)) (fun _ => hr2.2.2.2 g219) hP hD hS (lv_sub hl [4, 5, 0, 6] rfl)
                                        · skip
                                          refine lv_iconst (v := nI 1) hx hb d_Model_isWell_222 (by decide) ?_
                                          refine lv_goto hx hb d_Model_isWell_223 rfl ?_
                                          refine lv_istore_n hx hb d_Model_isWell_227 rfl hl (by decide) (lv' := [(1, .int (nI 1)), (6, .int (nI (h0 - tkN (opn P i) + lvN (opn P i)))), (5, .int (nI (h0 - tkN (opn P i)))), (4, .int (nI (opn P i))), (3, .int (nI i)), (2, .int (nI r)), (0, .ref m0)]) rfl (fun ls hl => ?_)
                                          exact join_228 v.1 true _ _ _ hr2.1 ((hr1.2.1.trans hr2.2.1)) (fun _ h8 hh8 e8 => by have e9 := nI_inj (by omega) (by omega) (ge.symm.trans e8); subst e9; exact ⟨gb, g151, fun o => ⟨(hr1.2.2.1 g190).1, (hr2.2.1 _ (hr1.2.2.1 g190).1 (by rw [(hr1.2.2.1 g190).2]; exact nI_nm1 (by omega))).trans (hr1.2.2.1 g190).2⟩, fun _ _ => hr2.2.2.1 g219⟩) (fun e => nomatch e) hP hD hS (lv_sub hl [4, 5, 0, 6] rfl)
                        · skip
                          refine lv_goto hx hb d_Model_isWell_129 rfl ?_
                          exact join_228 F1 b1 _ _ _ hv1 hExt.refl (fun _ h8 hh8 e8 => clo_end hh8 g126) hbf1 hP hD hS (lv_sub hl [2, 3, 4, 5] rfl)
                      · skip
                        refine pl_isub X d_Model_isWell_110 (z := (nI h0) - nI (tkN (opn P i))) rfl ?_
                        refine lv_istore hx hb d_Model_isWell_111 hl (by decide) (lv' := [(5, .int ((nI h0) - nI (tkN (opn P i)))), (4, .int (nI (opn P i))), (3, .int (nI i)), (2, .int (nI r)), (1, .int (bI (b1))), (0, .ref m0)]) rfl (fun ls hl => ?_)
                        refine lv_aload_n hx hb d_Model_isWell_113 rfl (lv_at hl 5 rfl) ?_
                        refine pl_get X fw_Model_16 hK hP 0 rfl (v := .ref o3) rfl d_Model_isWell_114 ?_
                        refine lv_iload_n hx hb d_Model_isWell_117 rfl (lv_at hl 2 rfl) ?_
                        refine pl_iald X hK hP 3 0 rfl rfl i (by omega) (by decide) (z := nI h0) ge d_Model_isWell_118 ?_
                        refine pl_if_lt X (by omega) d_Model_isWell_119 rfl ?_
                        refine lv_iload hx hb d_Model_isWell_122 (lv_at hl 1 rfl) ?_
                        refine lv_bipush (v := nI 12) hx hb d_Model_isWell_124 (by decide) ?_
                        refine pl_icmp_ne X (by omega) (by decide) d_Model_isWell_126 rfl (fun g126 => ?_) (fun g126 => ?_)
                        · skip
                          refine lv_iload hx hb d_Model_isWell_132 (lv_at hl 0 rfl) ?_
                          refine lv_iload hx hb d_Model_isWell_134 (lv_at hl 1 rfl) ?_
                          refine pl_callSI X (rest := [.int ((nI h0) - nI (tkN (opn P i)))]) (As := [.int (nI (opn P i))]) (c_Model_gives l D cI cZ cL (opn P i) ho2) ck_Model_74 pl_E0_ok trivial hK hP hD hS hA [] [0, 1, 2, 3] [0, 1, 2, 3] rfl (by decide) (wr := [(m0, .inr (6, [.int (nI co), .int (nI np), .ref o1, .ref o2, .ref o3, .int (nI n), .ref o4, .ref o5, .ref o6, .ref o7, .int fo1, .int fk1, .int (nI stat), .int (nI how), .int (nI pl), .int (nI la), .int (nI stt), .int (nI q), .ref o8, .ref o9, .int (nI dn), .ref o10, .ref o11])), (o1, .inl (cI, 24, .inl P)), (o2, .inl (cI, 24, .inl K)), (o3, .inl (cI, 24, .inl F1))]) rfl (by decide) (by decide) (wf := fun _ => [(m0, .inr (6, [.int (nI co), .int (nI np), .ref o1, .ref o2, .ref o3, .int (nI n), .ref o4, .ref o5, .ref o6, .ref o7, .int fo1, .int fk1, .int (nI stat), .int (nI how), .int (nI pl), .int (nI la), .int (nI stt), .int (nI q), .ref o8, .ref o9, .int (nI dn), .ref o10, .ref o11])), (o1, .inl (cI, 24, .inl P)), (o2, .inl (cI, 24, .inl K)), (o3, .inl (cI, 24, .inl F1))]) (fun _ => rfl) (by decide) rfl hl.1 rfl (Nat.le_of_ble_eq_true rfl) (by decide) (by decide) d_Model_isWell_136 (fun r u0 H locs hcq hP hD hS => ?_)
                          subst hcq
                          refine pl_iadd X d_Model_isWell_139 (z := ((nI h0) - nI (tkN (opn P i))) + nI (lvN (opn P i))) rfl ?_
                          refine lv_istore hx hb d_Model_isWell_140 hl (by decide) (lv' := [(6, .int (((nI h0) - nI (tkN (opn P i))) + nI (lvN (opn P i)))), (5, .int ((nI h0) - nI (tkN (opn P i)))), (4, .int (nI (opn P i))), (3, .int (nI i)), (2, .int (nI r)), (1, .int (bI (b1))), (0, .ref m0)]) rfl (fun ls hl => ?_)
                          refine lv_iload hx hb d_Model_isWell_142 (lv_at hl 1 rfl) ?_
                          refine lv_if_lt hx hb d_Model_isWell_144 rfl (fun g144 => ?_) (fun g144 => ?_)
                          · skip
                            refine lv_iconst (v := nI 0) hx hb d_Model_isWell_158 (by decide) ?_
                            refine lv_istore_n hx hb d_Model_isWell_159 rfl hl (by decide) (lv' := [(1, .int (nI 0)), (6, .int (((nI h0) - nI (tkN (opn P i))) + nI (lvN (opn P i)))), (5, .int ((nI h0) - nI (tkN (opn P i)))), (4, .int (nI (opn P i))), (3, .int (nI i)), (2, .int (nI r)), (0, .ref m0)]) rfl (fun ls hl => ?_)
                            refine lv_iload hx hb d_Model_isWell_160 (lv_at hl 3 rfl) ?_
                            refine lv_bipush (v := nI 7) hx hb d_Model_isWell_162 (by decide) ?_
                            refine pl_icmp_eq X (by omega) (by decide) d_Model_isWell_164 rfl (fun g164 => ?_) (fun g164 => ?_)
                            · skip
                              have hgo : opn P i = 7 ∨ opn P i = 8 := by omega
                              obtain ⟨hk1, hk2⟩ := okK_7 (by omega) hok g84 hgo
                              refine lv_iload_n hx hb d_Model_isWell_174 rfl (lv_at hl 0 rfl) ?_
                              refine pl_if_eq X (by decide) d_Model_isWell_175 rfl (fun gL => ?_) (fun gL => ?_)
                              · skip
                                refine lv_iconst (v := nI 0) hx hb d_Model_isWell_197 (by decide) ?_
                                refine lv_istore_n hx hb d_Model_isWell_198 rfl hl (by decide) (lv' := [(1, .int (nI 0)), (6, .int (((nI h0) - nI (tkN (opn P i))) + nI (lvN (opn P i)))), (5, .int ((nI h0) - nI (tkN (opn P i)))), (4, .int (nI (opn P i))), (3, .int (nI i)), (2, .int (nI r)), (0, .ref m0)]) rfl (fun ls hl => ?_)
                                refine lv_iload hx hb d_Model_isWell_199 (lv_at hl 3 rfl) ?_
                                refine lv_bipush (v := nI 7) hx hb d_Model_isWell_201 (by decide) ?_
                                refine pl_icmp_eq X (by omega) (by decide) d_Model_isWell_203 rfl (fun g203 => ?_) (fun g203 => ?_)
                                · skip
                                  exact join_228 F1 false _ _ _ hv1 hExt.refl ((fun e => nomatch e)) (fun _ G g => gb (mcl hv1 g84 hh0 ge g).1) hP hD hS (lv_sub hl [4, 5, 0, 6] rfl)
                                · skip
                                  exact absurd g164 g203
                              · skip
                                exact absurd gL (by decide)
                            · skip
                              refine lv_iload hx hb d_Model_isWell_167 (lv_at hl 3 rfl) ?_
                              refine lv_bipush (v := nI 8) hx hb d_Model_isWell_169 (by decide) ?_
                              refine pl_icmp_ne X (by omega) (by decide) d_Model_isWell_171 rfl (fun g171 => ?_) (fun g171 => ?_)
                              · skip
                                refine lv_iload hx hb d_Model_isWell_199 (lv_at hl 3 rfl) ?_
                                refine lv_bipush (v := nI 7) hx hb d_Model_isWell_201 (by decide) ?_
                                refine pl_icmp_eq X (by omega) (by decide) d_Model_isWell_203 rfl (fun g203 => ?_) (fun g203 => ?_)
                                · skip
                                  exact absurd g203 g164
                                · skip
                                  refine lv_iload_n hx hb d_Model_isWell_206 rfl (lv_at hl 0 rfl) ?_
                                  refine pl_if_eq X (by decide) d_Model_isWell_207 rfl (fun gL => ?_) (fun gL => ?_)
                                  · skip
                                    refine lv_iconst (v := nI 0) hx hb d_Model_isWell_226 (by decide) ?_
                                    refine lv_istore_n hx hb d_Model_isWell_227 rfl hl (by decide) (lv' := [(1, .int (nI 0)), (6, .int (((nI h0) - nI (tkN (opn P i))) + nI (lvN (opn P i)))), (5, .int ((nI h0) - nI (tkN (opn P i)))), (4, .int (nI (opn P i))), (3, .int (nI i)), (2, .int (nI r)), (0, .ref m0)]) rfl (fun ls hl => ?_)
                                    exact join_228 F1 false _ _ _ hv1 hExt.refl ((fun e => nomatch e)) (fun _ G g => gb (mcl hv1 g84 hh0 ge g).1) hP hD hS (lv_sub hl [4, 5, 0, 6] rfl)
                                  · skip
                                    exact absurd gL (by decide)
                              · skip
                                have hgo : opn P i = 7 ∨ opn P i = 8 := by omega
                                obtain ⟨hk1, hk2⟩ := okK_7 (by omega) hok g84 hgo
                                refine lv_iload_n hx hb d_Model_isWell_174 rfl (lv_at hl 0 rfl) ?_
                                refine pl_if_eq X (by decide) d_Model_isWell_175 rfl (fun gL => ?_) (fun gL => ?_)
                                · skip
                                  refine lv_iconst (v := nI 0) hx hb d_Model_isWell_197 (by decide) ?_
                                  refine lv_istore_n hx hb d_Model_isWell_198 rfl hl (by decide) (lv' := [(1, .int (nI 0)), (6, .int (((nI h0) - nI (tkN (opn P i))) + nI (lvN (opn P i)))), (5, .int ((nI h0) - nI (tkN (opn P i)))), (4, .int (nI (opn P i))), (3, .int (nI i)), (2, .int (nI r)), (0, .ref m0)]) rfl (fun ls hl => ?_)
                                  refine lv_iload hx hb d_Model_isWell_199 (lv_at hl 3 rfl) ?_
                                  refine lv_bipush (v := nI 7) hx hb d_Model_isWell_201 (by decide) ?_
                                  refine pl_icmp_eq X (by omega) (by decide) d_Model_isWell_203 rfl (fun g203 => ?_) (fun g203 => ?_)
                                  · skip
                                    exact absurd g203 g164
                                  · skip
                                    refine lv_iload_n hx hb d_Model_isWell_206 rfl (lv_at hl 0 rfl) ?_
                                    refine pl_if_eq X (by decide) d_Model_isWell_207 rfl (fun gL => ?_) (fun gL => ?_)
                                    · skip
                                      refine lv_iconst (v := nI 0) hx hb d_Model_isWell_226 (by decide) ?_
                                      refine lv_istore_n hx hb d_Model_isWell_227 rfl hl (by decide) (lv' := [(1, .int (nI 0)), (6, .int (((nI h0) - nI (tkN (opn P i))) + nI (lvN (opn P i)))), (5, .int ((nI h0) - nI (tkN (opn P i)))), (4, .int (nI (opn P i))), (3, .int (nI i)), (2, .int (nI r)), (0, .ref m0)]) rfl (fun ls hl => ?_)
                                      exact join_228 F1 false _ _ _ hv1 hExt.refl ((fun e => nomatch e)) (fun _ G g => gb (mcl hv1 g84 hh0 ge g).1) hP hD hS (lv_sub hl [4, 5, 0, 6] rfl)
                                    · skip
                                      exact absurd gL (by decide)
                                · skip
                                  exact absurd gL (by decide)
                          · skip
                            exact absurd (pk_sneg (by omega) (by omega)) g144
                        · skip
                          refine lv_goto hx hb d_Model_isWell_129 rfl ?_
                          exact join_228 F1 b1 _ _ _ hv1 hExt.refl (fun _ h8 hh8 e8 => clo_end hh8 g126) hbf1 hP hD hS (lv_sub hl [2, 3, 4, 5] rfl)
              exact loop_79 _ 0 F b2 _ _ _ rfl (Nat.zero_le _) hv hExt.refl (fun e => ⟨e, fun j hj => absurd hj (Nat.not_lt_zero j)⟩) hbf hP hD hS hl
          exact loop_69 _ 0 (upd g 0 (nI 0)) b _ _ _ rfl (Nat.zero_le _) ((mInv.init hp0 (fun j hj => hg j (by omega))).1) (fun _ => Or.inr (mInv.init (P := P) (K := K) hp0 (fun j hj => hg j (by omega))).2) (fun e => absurd e (by rw [g55]; decide)) hP hD hS hl
        · skip
          refine lv_iconst (v := nI 0) hx hb d_Model_isWell_58 (by decide) ?_
          exact pl_iret X hr hlk hK rfl (g, false) (wellP_0 (fun q => absurd (hbi.mpr ⟨q.1, fun j hj => q.2 j (by omega)⟩) (by rw [g55]; decide))) hP hD hS d_Model_isWell_59
      · skip
        refine lv_iload_n hx hb d_Model_isWell_23 rfl (lv_at hl 1 rfl) ?_
        refine pl_ifB_eq X d_Model_isWell_24 rfl (fun g24 => ?_) (fun g24 => ?_)
        · skip
          refine lv_iconst (v := nI 0) hx hb d_Model_isWell_39 (by decide) ?_
          refine lv_istore_n hx hb d_Model_isWell_40 rfl hl (by decide) (lv' := [(1, .int (nI 0)), (2, .int (nI i)), (0, .ref m0)]) rfl (fun ls hl => ?_)
          refine lv_aload_n hx hb d_Model_isWell_41 rfl (lv_at hl 2 rfl) ?_
          refine pl_get X fw_Model_16 hK hP 0 rfl (v := .ref o3) rfl d_Model_isWell_42 ?_
          refine lv_iload_n hx hb d_Model_isWell_45 rfl (lv_at hl 1 rfl) ?_
          refine lv_iconst (v := -1) hx hb d_Model_isWell_46 (by decide) ?_
          refine pl_iast X hK hP hD hS 3 0 rfl rfl i (by omega) (by decide) d_Model_isWell_47 (ws' := [(m0, .inr (6, [.int (nI co), .int (nI np), .ref o1, .ref o2, .ref o3, .int (nI n), .ref o4, .ref o5, .ref o6, .ref o7, .int fo1, .int fk1, .int (nI stat), .int (nI how), .int (nI pl), .int (nI la), .int (nI stt), .int (nI q), .ref o8, .ref o9, .int (nI dn), .ref o10, .ref o11])), (o1, .inl (cI, 24, .inl P)), (o2, .inl (cI, 24, .inl K)), (o3, .inl (cI, 24, .inl (upd g i (-1))))]) rfl (fun H locs hP hD hS => ?_)
          refine lv_iinc hx hb d_Model_isWell_48 hl (k := 1) rfl (nI_inc1 _) (by decide) (lv' := [(2, .int (nI (i + 1))), (1, .int (nI 0)), (0, .ref m0)]) rfl (fun ls hl => ?_)
          refine lv_goto hx hb d_Model_isWell_51 rfl ?_
          exact ih _ (by omega) (i + 1) (upd g i (-1)) false _ _ _ rfl (by omega) (fun j hj => by rcases Nat.lt_succ_iff_lt_or_eq.mp hj with q | q; (rw [upd_n (Nat.ne_of_lt q)]; exact hg j q); (rw [q]; exact upd_s)) (⟨(fun e => nomatch e), fun q => absurd (hbi.mpr ⟨q.1, fun j hj => q.2 j (by omega)⟩) (by rw [g24]; decide)⟩) hP hD hS hl
        · skip
          refine lv_aload_n hx hb d_Model_isWell_27 rfl (lv_at hl 2 rfl) ?_
          refine lv_iload_n hx hb d_Model_isWell_28 rfl (lv_at hl 0 rfl) ?_
          refine pl_callVI X (rest := []) (As := [.int (nI i)]) (b := m0) (c_Model_isK l D cI cZ cL m0 o1 o2 o3 o4 o5 o6 o7 o8 o9 o10 o11 P K g ru lo hi tm sa ca ta tn fo1 fk1 co np n stat how pl la stt q dn i hnp g20 hop) ck_Model_68 pl_E0_ok trivial hK hP hD hS hA (T := F_Model) (N := N_Model) (ci := 6) rfl 0 rfl [0, 1, 2] [3] [1, 2, 3, 0] rfl (by decide) (wr := [(o3, .inl (cI, 24, .inl g))]) rfl (by decide) (by decide) (wf := fun _ => [(m0, .inr (6, [.int (nI co), .int (nI np), .ref o1, .ref o2, .ref o3, .int (nI n), .ref o4, .ref o5, .ref o6, .ref o7, .int fo1, .int fk1, .int (nI stat), .int (nI how), .int (nI pl), .int (nI la), .int (nI stt), .int (nI q), .ref o8, .ref o9, .int (nI dn), .ref o10, .ref o11])), (o1, .inl (cI, 24, .inl P)), (o2, .inl (cI, 24, .inl K)), (o3, .inl (cI, 24, .inl g))]) (fun _ => rfl) (by decide) rfl hl.1 rfl (Nat.le_of_ble_eq_true rfl) (by decide) (by decide) d_Model_isWell_29 (fun r u0 H locs hcq hP hD hS => ?_)
          subst hcq
          refine pl_ifB_eq X d_Model_isWell_32 rfl (fun g32 => ?_) (fun g32 => ?_)
          · skip
            refine lv_iconst (v := nI 0) hx hb d_Model_isWell_39 (by decide) ?_
            refine lv_istore_n hx hb d_Model_isWell_40 rfl hl (by decide) (lv' := [(1, .int (nI 0)), (2, .int (nI i)), (0, .ref m0)]) rfl (fun ls hl => ?_)
            refine lv_aload_n hx hb d_Model_isWell_41 rfl (lv_at hl 2 rfl) ?_
            refine pl_get X fw_Model_16 hK hP 0 rfl (v := .ref o3) rfl d_Model_isWell_42 ?_
            refine lv_iload_n hx hb d_Model_isWell_45 rfl (lv_at hl 1 rfl) ?_
            refine lv_iconst (v := -1) hx hb d_Model_isWell_46 (by decide) ?_
            refine pl_iast X hK hP hD hS 3 0 rfl rfl i (by omega) (by decide) d_Model_isWell_47 (ws' := [(m0, .inr (6, [.int (nI co), .int (nI np), .ref o1, .ref o2, .ref o3, .int (nI n), .ref o4, .ref o5, .ref o6, .ref o7, .int fo1, .int fk1, .int (nI stat), .int (nI how), .int (nI pl), .int (nI la), .int (nI stt), .int (nI q), .ref o8, .ref o9, .int (nI dn), .ref o10, .ref o11])), (o1, .inl (cI, 24, .inl P)), (o2, .inl (cI, 24, .inl K)), (o3, .inl (cI, 24, .inl (upd g i (-1))))]) rfl (fun H locs hP hD hS => ?_)
            refine lv_iinc hx hb d_Model_isWell_48 hl (k := 1) rfl (nI_inc1 _) (by decide) (lv' := [(2, .int (nI (i + 1))), (1, .int (nI 0)), (0, .ref m0)]) rfl (fun ls hl => ?_)
            refine lv_goto hx hb d_Model_isWell_51 rfl ?_
            exact ih _ (by omega) (i + 1) (upd g i (-1)) false _ _ _ rfl (by omega) (fun j hj => by rcases Nat.lt_succ_iff_lt_or_eq.mp hj with q | q; (rw [upd_n (Nat.ne_of_lt q)]; exact hg j q); (rw [q]; exact upd_s)) (⟨(fun e => nomatch e), fun q => absurd (q.2 i (by omega)) (by rw [g32]; decide)⟩) hP hD hS hl
          · skip
            refine lv_iconst (v := nI 1) hx hb d_Model_isWell_35 (by decide) ?_
            refine lv_goto hx hb d_Model_isWell_36 rfl ?_
            refine lv_istore_n hx hb d_Model_isWell_40 rfl hl (by decide) (lv' := [(1, .int (nI 1)), (2, .int (nI i)), (0, .ref m0)]) rfl (fun ls hl => ?_)
            refine lv_aload_n hx hb d_Model_isWell_41 rfl (lv_at hl 2 rfl) ?_
            refine pl_get X fw_Model_16 hK hP 0 rfl (v := .ref o3) rfl d_Model_isWell_42 ?_
            refine lv_iload_n hx hb d_Model_isWell_45 rfl (lv_at hl 1 rfl) ?_
            refine lv_iconst (v := -1) hx hb d_Model_isWell_46 (by decide) ?_
            refine pl_iast X hK hP hD hS 3 0 rfl rfl i (by omega) (by decide) d_Model_isWell_47 (ws' := [(m0, .inr (6, [.int (nI co), .int (nI np), .ref o1, .ref o2, .ref o3, .int (nI n), .ref o4, .ref o5, .ref o6, .ref o7, .int fo1, .int fk1, .int (nI stat), .int (nI how), .int (nI pl), .int (nI la), .int (nI stt), .int (nI q), .ref o8, .ref o9, .int (nI dn), .ref o10, .ref o11])), (o1, .inl (cI, 24, .inl P)), (o2, .inl (cI, 24, .inl K)), (o3, .inl (cI, 24, .inl (upd g i (-1))))]) rfl (fun H locs hP hD hS => ?_)
            refine lv_iinc hx hb d_Model_isWell_48 hl (k := 1) rfl (nI_inc1 _) (by decide) (lv' := [(2, .int (nI (i + 1))), (1, .int (nI 1)), (0, .ref m0)]) rfl (fun ls hl => ?_)
            refine lv_goto hx hb d_Model_isWell_51 rfl ?_
            exact ih _ (by omega) (i + 1) (upd g i (-1)) true _ _ _ rfl (by omega) (fun j hj => by rcases Nat.lt_succ_iff_lt_or_eq.mp hj with q | q; (rw [upd_n (Nat.ne_of_lt q)]; exact hg j q); (rw [q]; exact upd_s)) (⟨fun _ => ⟨(hbi.mp g24).1, fun j hj => by rcases Nat.lt_succ_iff_lt_or_eq.mp hj with q | q; (exact (hbi.mp g24).2 j q); (rw [q]; exact g32)⟩, fun _ => rfl⟩) hP hD hS hl
    exact loop_15 _ 0 Hm true _ _ _ rfl (Nat.zero_le _) (fun j hj => absurd hj (Nat.not_lt_zero j)) (⟨fun _ => ⟨g4, fun j hj => absurd hj (Nat.not_lt_zero j)⟩, fun _ => rfl⟩) hP hD hS hl
