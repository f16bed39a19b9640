theorem nI_inc6 (a : Nat) : nI a + Int32.ofInt 6 = nI (a + 6) := by rw [show Int32.ofInt 6 = nI 6 by decide, nI_add]
theorem sub_lt {a b i : Nat} (h : a < b) (hb : b < 2 ^ 30) (h2 : i < 2 ^ 31) : nI a - nI b < nI i := by
  have h1 := i_lt0.mp (show nI a - nI b < 0 from pk_sneg (by omega) (by omega))
  rw [i_lt, nI_toInt h2]; omega
set_option maxHeartbeats 8000000 in
set_option maxRecDepth 100000 in
theorem law_loop {p : Program} {l : Launch} {e : Env} {s : State} {m : MethodId} {args : Array Value} {below : List Frame} {meth : Method} {c : Code} {D : va_G} {cI cZ cL : ClassId} {A : Nat → Prop} {Q : State → Prop} (t1 t2 bS L : Nat) (xs : Nat → Int32) (x0 p0 p1 p2 h a1 a2 a3 e0 e1 e2 w w1 v v1 v2 r b1 b2 b3 b4 m0 o1 o2 o3 o4 o5 o6 o7 o8 o9 o10 o11 ou : Nat) (hl0 : l.stackTraces = false) (X : CallFix p m c b_Law_law 7 s args TG R_Law) (hK : va_K D classes (TY cI cZ cL) s) (hA : ∀ q, s.heap.size ≤ q → A q) (hE : EL t1 t2 A s s.heap) (hX : va_X bS L xs s s.heap) (hbl : bS < s.heap.size) (hbA : ¬ A bS) (hL : L ≤ 3072) (kend : ∀ (H : Heap) (locs : List Loc) (ls : Array Slot), va_S A s.heap H locs → W p l e room_1 s m args below meth c H locs 601024 7293034 Q (F0 m 810 ls [])) : ∀ (k i : Nat) (P K lo hi th F Qu fo f g sa ca ta tn Hm ru tm : Nat → Int32) (fo1 fk1 : Int32) (np n qd z how stat pl q stt dn co pm lm : Nat) (b ex wv : Bool) (ov : Int64) (cells slots : Nat) (H : Heap) (locs : List Loc) (ls : Array Slot), L + 6 - i = k → i ≤ 3078 → cells ≤ 1000 + 2 * i → slots ≤ 50000 + 12 * i → LI P K lo hi th F Qu f g sa ca ta tn ru tm np n qd z how stat pl q stt dn pm lm b ex wv → va_P D classes [(x0, .inr (5, [.ref p0, .ref h, .ref e0, .ref w, .ref r, .int (bI (ex)), .int (bI (wv))])), (p0, .inr (0, [.ref p1, .ref p2, .int (nI np)])), (p1, .inl (cI, 24, .inl P)), (p2, .inl (cI, 24, .inl K)), (h, .inr (1, [.ref a1, .ref a2, .ref a3, .int (nI n)])), (a1, .inl (cI, 32, .inl lo)), (a2, .inl (cI, 32, .inl hi)), (a3, .inl (cI, 32, .inl th)), (e0, .inr (2, [.ref e1, .ref e2, .int (nI qd), .int (bI (b))])), (e1, .inl (cI, 24, .inl F)), (e2, .inl (cI, 24, .inl Qu)), (w, .inr (3, [.ref v, .ref w1])), (w1, .inl (cI, 24, .inl fo)), (v, .inr (0, [.ref v1, .ref v2, .int (nI z)])), (v1, .inl (cI, 1584, .inl f)), (v2, .inl (cI, 1584, .inl g)), (r, .inr (4, [.ref b1, .ref b2, .ref b3, .ref b4, .int (nI how), .int (nI stat), .int (nI pl), .int (nI q), .int (nI stt), .int (nI dn)])), (b1, .inl (cI, 14, .inl sa)), (b2, .inl (cI, 8, .inl ca)), (b3, .inl (cI, 60, .inl ta)), (b4, .inl (cI, 60, .inl tn)), (m0, .inr (6, [.int (nI co), .int (nI np), .ref o1, .ref o2, .ref o3, .int (nI n), .ref o4, .ref o5, .ref o6, .ref o7, .int fo1, .int fk1, .int (nI stat), .int (nI how), .int (nI pm), .int (nI lm), .int (nI stt), .int (nI q), .ref o8, .ref o9, .int (nI dn), .ref o10, .ref o11])), (o1, .inl (cI, 24, .inl P)), (o2, .inl (cI, 24, .inl K)), (o3, .inl (cI, 24, .inl Hm)), (o4, .inl (cZ, 32, .inl ru)), (o5, .inl (cI, 32, .inl lo)), (o6, .inl (cI, 32, .inl hi)), (o7, .inl (cI, 32, .inl tm)), (o8, .inl (cI, 20, .inl sa)), (o9, .inl (cI, 8, .inl ca)), (o10, .inl (cI, 60, .inl ta)), (o11, .inl (cI, 60, .inl tn)), (ou, .inl (cL, 1, .inr (.inl (fun _ => ov))))] H → va_D A [(x0, .inr (5, [.ref p0, .ref h, .ref e0, .ref w, .ref r, .int (bI (ex)), .int (bI (wv))])), (p0, .inr (0, [.ref p1, .ref p2, .int (nI np)])), (p1, .inl (cI, 24, .inl P)), (p2, .inl (cI, 24, .inl K)), (h, .inr (1, [.ref a1, .ref a2, .ref a3, .int (nI n)])), (a1, .inl (cI, 32, .inl lo)), (a2, .inl (cI, 32, .inl hi)), (a3, .inl (cI, 32, .inl th)), (e0, .inr (2, [.ref e1, .ref e2, .int (nI qd), .int (bI (b))])), (e1, .inl (cI, 24, .inl F)), (e2, .inl (cI, 24, .inl Qu)), (w, .inr (3, [.ref v, .ref w1])), (w1, .inl (cI, 24, .inl fo)), (v, .inr (0, [.ref v1, .ref v2, .int (nI z)])), (v1, .inl (cI, 1584, .inl f)), (v2, .inl (cI, 1584, .inl g)), (r, .inr (4, [.ref b1, .ref b2, .ref b3, .ref b4, .int (nI how), .int (nI stat), .int (nI pl), .int (nI q), .int (nI stt), .int (nI dn)])), (b1, .inl (cI, 14, .inl sa)), (b2, .inl (cI, 8, .inl ca)), (b3, .inl (cI, 60, .inl ta)), (b4, .inl (cI, 60, .inl tn)), (m0, .inr (6, [.int (nI co), .int (nI np), .ref o1, .ref o2, .ref o3, .int (nI n), .ref o4, .ref o5, .ref o6, .ref o7, .int fo1, .int fk1, .int (nI stat), .int (nI how), .int (nI pm), .int (nI lm), .int (nI stt), .int (nI q), .ref o8, .ref o9, .int (nI dn), .ref o10, .ref o11])), (o1, .inl (cI, 24, .inl P)), (o2, .inl (cI, 24, .inl K)), (o3, .inl (cI, 24, .inl Hm)), (o4, .inl (cZ, 32, .inl ru)), (o5, .inl (cI, 32, .inl lo)), (o6, .inl (cI, 32, .inl hi)), (o7, .inl (cI, 32, .inl tm)), (o8, .inl (cI, 20, .inl sa)), (o9, .inl (cI, 8, .inl ca)), (o10, .inl (cI, 60, .inl ta)), (o11, .inl (cI, 60, .inl tn)), (ou, .inl (cL, 1, .inr (.inl (fun _ => ov))))] → va_S A s.heap H locs → lv_has ls 7 [(4, .int (nI i)), (3, .ref ou), (2, .ref m0), (1, .ref x0), (0, .ref bS)] → W p l e room_1 s m args below meth c H locs cells slots Q (F0 m 23 ls []) := by
  have hx := X.1
  have hb := X.2.1
  intro k
  induction k using Nat.strongRecOn with
  | _ k ih =>
  intro i P K lo hi th F Qu fo f g sa ca ta tn Hm ru tm fo1 fk1 np n qd z how stat pl q stt dn co pm lm b ex wv ov cells slots H locs ls hk hiB hc0 hs0 hI hP hD hS hl
  have KON (hiL : i + 6 ≤ L) : ∀ (P K lo hi th F Qu fo f g sa ca ta tn Hm ru tm : Nat → Int32) (fo1 fk1 : Int32) (np n qd z how stat pl q stt dn co pm lm : Nat) (b ex wv : Bool) (ov : Int64) (H : Heap) (locs : List Loc) (ls : Array Slot), LI P K lo hi th F Qu f g sa ca ta tn ru tm np n qd z how stat pl q stt dn pm lm b ex wv → va_P D classes [(x0, .inr (5, [.ref p0, .ref h, .ref e0, .ref w, .ref r, .int (bI (ex)), .int (bI (wv))])), (p0, .inr (0, [.ref p1, .ref p2, .int (nI np)])), (p1, .inl (cI, 24, .inl P)), (p2, .inl (cI, 24, .inl K)), (h, .inr (1, [.ref a1, .ref a2, .ref a3, .int (nI n)])), (a1, .inl (cI, 32, .inl lo)), (a2, .inl (cI, 32, .inl hi)), (a3, .inl (cI, 32, .inl th)), (e0, .inr (2, [.ref e1, .ref e2, .int (nI qd), .int (bI (b))])), (e1, .inl (cI, 24, .inl F)), (e2, .inl (cI, 24, .inl Qu)), (w, .inr (3, [.ref v, .ref w1])), (w1, .inl (cI, 24, .inl fo)), (v, .inr (0, [.ref v1, .ref v2, .int (nI z)])), (v1, .inl (cI, 1584, .inl f)), (v2, .inl (cI, 1584, .inl g)), (r, .inr (4, [.ref b1, .ref b2, .ref b3, .ref b4, .int (nI how), .int (nI stat), .int (nI pl), .int (nI q), .int (nI stt), .int (nI dn)])), (b1, .inl (cI, 14, .inl sa)), (b2, .inl (cI, 8, .inl ca)), (b3, .inl (cI, 60, .inl ta)), (b4, .inl (cI, 60, .inl tn)), (m0, .inr (6, [.int (nI co), .int (nI np), .ref o1, .ref o2, .ref o3, .int (nI n), .ref o4, .ref o5, .ref o6, .ref o7, .int fo1, .int fk1, .int (nI stat), .int (nI how), .int (nI pm), .int (nI lm), .int (nI stt), .int (nI q), .ref o8, .ref o9, .int (nI dn), .ref o10, .ref o11])), (o1, .inl (cI, 24, .inl P)), (o2, .inl (cI, 24, .inl K)), (o3, .inl (cI, 24, .inl Hm)), (o4, .inl (cZ, 32, .inl ru)), (o5, .inl (cI, 32, .inl lo)), (o6, .inl (cI, 32, .inl hi)), (o7, .inl (cI, 32, .inl tm)), (o8, .inl (cI, 20, .inl sa)), (o9, .inl (cI, 8, .inl ca)), (o10, .inl (cI, 60, .inl ta)), (o11, .inl (cI, 60, .inl tn)), (ou, .inl (cL, 1, .inr (.inl (fun _ => ov))))] H → va_D A [(x0, .inr (5, [.ref p0, .ref h, .ref e0, .ref w, .ref r, .int (bI (ex)), .int (bI (wv))])), (p0, .inr (0, [.ref p1, .ref p2, .int (nI np)])), (p1, .inl (cI, 24, .inl P)), (p2, .inl (cI, 24, .inl K)), (h, .inr (1, [.ref a1, .ref a2, .ref a3, .int (nI n)])), (a1, .inl (cI, 32, .inl lo)), (a2, .inl (cI, 32, .inl hi)), (a3, .inl (cI, 32, .inl th)), (e0, .inr (2, [.ref e1, .ref e2, .int (nI qd), .int (bI (b))])), (e1, .inl (cI, 24, .inl F)), (e2, .inl (cI, 24, .inl Qu)), (w, .inr (3, [.ref v, .ref w1])), (w1, .inl (cI, 24, .inl fo)), (v, .inr (0, [.ref v1, .ref v2, .int (nI z)])), (v1, .inl (cI, 1584, .inl f)), (v2, .inl (cI, 1584, .inl g)), (r, .inr (4, [.ref b1, .ref b2, .ref b3, .ref b4, .int (nI how), .int (nI stat), .int (nI pl), .int (nI q), .int (nI stt), .int (nI dn)])), (b1, .inl (cI, 14, .inl sa)), (b2, .inl (cI, 8, .inl ca)), (b3, .inl (cI, 60, .inl ta)), (b4, .inl (cI, 60, .inl tn)), (m0, .inr (6, [.int (nI co), .int (nI np), .ref o1, .ref o2, .ref o3, .int (nI n), .ref o4, .ref o5, .ref o6, .ref o7, .int fo1, .int fk1, .int (nI stat), .int (nI how), .int (nI pm), .int (nI lm), .int (nI stt), .int (nI q), .ref o8, .ref o9, .int (nI dn), .ref o10, .ref o11])), (o1, .inl (cI, 24, .inl P)), (o2, .inl (cI, 24, .inl K)), (o3, .inl (cI, 24, .inl Hm)), (o4, .inl (cZ, 32, .inl ru)), (o5, .inl (cI, 32, .inl lo)), (o6, .inl (cI, 32, .inl hi)), (o7, .inl (cI, 32, .inl tm)), (o8, .inl (cI, 20, .inl sa)), (o9, .inl (cI, 8, .inl ca)), (o10, .inl (cI, 60, .inl ta)), (o11, .inl (cI, 60, .inl tn)), (ou, .inl (cL, 1, .inr (.inl (fun _ => ov))))] → va_S A s.heap H locs → lv_has ls 7 [(4, .int (nI i)), (3, .ref ou), (2, .ref m0), (1, .ref x0), (0, .ref bS)] → W p l e room_1 s m args below meth c H locs (cells + 2) (slots + 12) Q (F0 m 804 ls []) := by
    intro P K lo hi th F Qu fo f g sa ca ta tn Hm ru tm fo1 fk1 np n qd z how stat pl q stt dn co pm lm b ex wv ov H locs ls hI hP hD hS hl
    refine lv_iinc hx hb d_Law_law_804 hl (k := 0) rfl (nI_inc6 _) (by decide) (lv' := [(4, .int (nI (i + 6))), (3, .ref ou), (2, .ref m0), (1, .ref x0), (0, .ref bS)]) rfl (fun ls hl => ?_)
    refine lv_goto hx hb d_Law_law_807 rfl ?_
    exact ih _ (by omega) (i + 6) P K lo hi th F Qu fo f g sa ca ta tn Hm ru tm fo1 fk1 np n qd z how stat pl q stt dn co pm lm b ex wv ov (cells + 2) (slots + 12) _ _ _ rfl (by omega) (by omega) (by omega) hI hP hD hS hl
  refine lv_iload hx hb d_Law_law_23 (lv_at hl 0 rfl) ?_
  refine lv_aload_n hx hb d_Law_law_25 rfl (lv_at hl 4 rfl) ?_
  refine pl_slen X hX hbl hbA hS d_Law_law_26 ?_
  refine lv_bipush (v := nI 6) hx hb d_Law_law_27 (by decide) ?_
  by_cases h6 : 6 ≤ L
  · skip
    refine pl_isub X d_Law_law_29 (z := nI (L - 6)) (pk_sub h6) ?_
    refine pl_icmp_gt X (by omega) (by omega) d_Law_law_30 rfl (fun g30 => ?_) (fun g30 => ?_)
    · skip
      refine W.widen (by omega) (by omega) (kend H locs ls hS)
    · skip
      have hiL : i + 6 ≤ L := by omega
      refine lv_aload_n hx hb d_Law_law_33 rfl (lv_at hl 4 rfl) ?_
      refine lv_iload hx hb d_Law_law_34 (lv_at hl 0 rfl) ?_
      refine pl_sld X hX hbl hbA hS i (by omega) (by omega) (z := xs i) rfl d_Law_law_36 ?_
      refine lv_bipush (v := nI 15) hx hb d_Law_law_37 (by decide) ?_
      refine lv_iand hx hb d_Law_law_39 ?_
      obtain ⟨d, hd, ed⟩ := and15 (xs i); rw [ed]; rcases (show d = 0 ∨ d = 1 ∨ d = 2 ∨ d = 3 ∨ d = 4 ∨ d = 5 ∨ d = 6 ∨ d = 7 ∨ d = 8 ∨ d = 9 ∨ d = 10 ∨ d = 11 ∨ d = 12 ∨ d = 13 ∨ d = 14 ∨ d = 15 by omega) with rfl | rfl | rfl | rfl | rfl | rfl | rfl | rfl | rfl | rfl | rfl | rfl | rfl | rfl | rfl | rfl
      · skip
        refine lv_tableIn hx hb d_Law_law_40 (by decide) (by decide) (off := 68) (by decide) (tgt := 108) rfl ?_
        exact lc_code t1 t2 bS L xs x0 p0 p1 p2 h a1 a2 a3 e0 e1 e2 w w1 v v1 v2 r b1 b2 b3 b4 m0 o1 o2 o3 o4 o5 o6 o7 o8 o9 o10 o11 ou hl0 X hK hA hE hX hbl hbA i hiL hL cells slots (by omega) (by omega) (KON hiL) P K lo hi th F Qu fo f g sa ca ta tn Hm ru tm fo1 fk1 np n qd z how stat pl q stt dn co pm lm b ex wv ov H locs ls hI hP hD hS hl
      · skip
        refine lv_tableIn hx hb d_Law_law_40 (by decide) (by decide) (off := 136) (by decide) (tgt := 176) rfl ?_
        exact lc_clear t1 t2 bS L xs x0 p0 p1 p2 h a1 a2 a3 e0 e1 e2 w w1 v v1 v2 r b1 b2 b3 b4 m0 o1 o2 o3 o4 o5 o6 o7 o8 o9 o10 o11 ou hl0 X hK hA hE hX hbl hbA i hiL hL cells slots (by omega) (by omega) (KON hiL) P K lo hi th F Qu fo f g sa ca ta tn Hm ru tm fo1 fk1 np n qd z how stat pl q stt dn co pm lm b ex wv ov H locs ls hI hP hD hS hl
      · skip
        refine lv_tableIn hx hb d_Law_law_40 (by decide) (by decide) (off := 147) (by decide) (tgt := 187) rfl ?_
        exact lc_states t1 t2 bS L xs x0 p0 p1 p2 h a1 a2 a3 e0 e1 e2 w w1 v v1 v2 r b1 b2 b3 b4 m0 o1 o2 o3 o4 o5 o6 o7 o8 o9 o10 o11 ou hl0 X hK hA hE hX hbl hbA i hiL hL cells slots (by omega) (by omega) (KON hiL) P K lo hi th F Qu fo f g sa ca ta tn Hm ru tm fo1 fk1 np n qd z how stat pl q stt dn co pm lm b ex wv ov H locs ls hI hP hD hS hl
      · skip
        refine lv_tableIn hx hb d_Law_law_40 (by decide) (by decide) (off := 183) (by decide) (tgt := 223) rfl ?_
        exact lc_rule t1 t2 bS L xs x0 p0 p1 p2 h a1 a2 a3 e0 e1 e2 w w1 v v1 v2 r b1 b2 b3 b4 m0 o1 o2 o3 o4 o5 o6 o7 o8 o9 o10 o11 ou hl0 X hK hA hE hX hbl hbA i hiL hL cells slots (by omega) (by omega) (KON hiL) P K lo hi th F Qu fo f g sa ca ta tn Hm ru tm fo1 fk1 np n qd z how stat pl q stt dn co pm lm b ex wv ov H locs ls hI hP hD hS hl
      · skip
        refine lv_tableIn hx hb d_Law_law_40 (by decide) (by decide) (off := 267) (by decide) (tgt := 307) rfl ?_
        exact lc_well t1 t2 bS L xs x0 p0 p1 p2 h a1 a2 a3 e0 e1 e2 w w1 v v1 v2 r b1 b2 b3 b4 m0 o1 o2 o3 o4 o5 o6 o7 o8 o9 o10 o11 ou hl0 X hK hA hE hX hbl hbA i hiL hL cells slots (by omega) (by omega) (KON hiL) P K lo hi th F Qu fo f g sa ca ta tn Hm ru tm fo1 fk1 np n qd z how stat pl q stt dn co pm lm b ex wv ov H locs ls hI hP hD hS hl
      · skip
        refine lv_tableIn hx hb d_Law_law_40 (by decide) (by decide) (off := 280) (by decide) (tgt := 320) rfl ?_
        exact lc_height t1 t2 bS L xs x0 p0 p1 p2 h a1 a2 a3 e0 e1 e2 w w1 v v1 v2 r b1 b2 b3 b4 m0 o1 o2 o3 o4 o5 o6 o7 o8 o9 o10 o11 ou hl0 X hK hA hE hX hbl hbA i hiL hL cells slots (by omega) (by omega) (KON hiL) P K lo hi th F Qu fo f g sa ca ta tn Hm ru tm fo1 fk1 np n qd z how stat pl q stt dn co pm lm b ex wv ov H locs ls hI hP hD hS hl
      · skip
        refine lv_tableIn hx hb d_Law_law_40 (by decide) (by decide) (off := 336) (by decide) (tgt := 376) rfl ?_
        exact lc_enforce t1 t2 bS L xs x0 p0 p1 p2 h a1 a2 a3 e0 e1 e2 w w1 v v1 v2 r b1 b2 b3 b4 m0 o1 o2 o3 o4 o5 o6 o7 o8 o9 o10 o11 ou hl0 X hK hA hE hX hbl hbA i hiL hL cells slots (by omega) (by omega) (KON hiL) P K lo hi th F Qu fo f g sa ca ta tn Hm ru tm fo1 fk1 np n qd z how stat pl q stt dn co pm lm b ex wv ov H locs ls hI hP hD hS hl
      · skip
        refine lv_tableIn hx hb d_Law_law_40 (by decide) (by decide) (off := 380) (by decide) (tgt := 420) rfl ?_
        exact lc_enforced t1 t2 bS L xs x0 p0 p1 p2 h a1 a2 a3 e0 e1 e2 w w1 v v1 v2 r b1 b2 b3 b4 m0 o1 o2 o3 o4 o5 o6 o7 o8 o9 o10 o11 ou hl0 X hK hA hE hX hbl hbA i hiL hL cells slots (by omega) (by omega) (KON hiL) P K lo hi th F Qu fo f g sa ca ta tn Hm ru tm fo1 fk1 np n qd z how stat pl q stt dn co pm lm b ex wv ov H locs ls hI hP hD hS hl
      · skip
        refine lv_tableIn hx hb d_Law_law_40 (by decide) (by decide) (off := 464) (by decide) (tgt := 504) rfl ?_
        exact lc_start t1 t2 bS L xs x0 p0 p1 p2 h a1 a2 a3 e0 e1 e2 w w1 v v1 v2 r b1 b2 b3 b4 m0 o1 o2 o3 o4 o5 o6 o7 o8 o9 o10 o11 ou hl0 X hK hA hE hX hbl hbA i hiL hL cells slots (by omega) (by omega) (KON hiL) P K lo hi th F Qu fo f g sa ca ta tn Hm ru tm fo1 fk1 np n qd z how stat pl q stt dn co pm lm b ex wv ov H locs ls hI hP hD hS hl
      · skip
        refine lv_tableIn hx hb d_Law_law_40 (by decide) (by decide) (off := 512) (by decide) (tgt := 552) rfl ?_
        exact lc_step t1 t2 bS L xs x0 p0 p1 p2 h a1 a2 a3 e0 e1 e2 w w1 v v1 v2 r b1 b2 b3 b4 m0 o1 o2 o3 o4 o5 o6 o7 o8 o9 o10 o11 ou hl0 X hK hA hE hX hbl hbA i hiL hL cells slots (by omega) (by omega) (KON hiL) P K lo hi th F Qu fo f g sa ca ta tn Hm ru tm fo1 fk1 np n qd z how stat pl q stt dn co pm lm b ex wv ov H locs ls hI hP hD hS hl
      · skip
        refine lv_tableIn hx hb d_Law_law_40 (by decide) (by decide) (off := 568) (by decide) (tgt := 608) rfl ?_
        exact lc_look t1 t2 bS L xs x0 p0 p1 p2 h a1 a2 a3 e0 e1 e2 w w1 v v1 v2 r b1 b2 b3 b4 m0 o1 o2 o3 o4 o5 o6 o7 o8 o9 o10 o11 ou hl0 X hK hA hE hX hbl hbA i hiL hL cells slots (by omega) (by omega) (KON hiL) P K lo hi th F Qu fo f g sa ca ta tn Hm ru tm fo1 fk1 np n qd z how stat pl q stt dn co pm lm b ex wv ov H locs ls hI hP hD hS hl
      · skip
        refine lv_tableIn hx hb d_Law_law_40 (by decide) (by decide) (off := 624) (by decide) (tgt := 664) rfl ?_
        exact lc_act t1 t2 bS L xs x0 p0 p1 p2 h a1 a2 a3 e0 e1 e2 w w1 v v1 v2 r b1 b2 b3 b4 m0 o1 o2 o3 o4 o5 o6 o7 o8 o9 o10 o11 ou hl0 X hK hA hE hX hbl hbA i hiL hL cells slots (by omega) (by omega) (KON hiL) P K lo hi th F Qu fo f g sa ca ta tn Hm ru tm fo1 fk1 np n qd z how stat pl q stt dn co pm lm b ex wv ov H locs ls hI hP hD hS hl
      · skip
        refine lv_tableIn hx hb d_Law_law_40 (by decide) (by decide) (off := 708) (by decide) (tgt := 748) rfl ?_
        exact lc_cell t1 t2 bS L xs x0 p0 p1 p2 h a1 a2 a3 e0 e1 e2 w w1 v v1 v2 r b1 b2 b3 b4 m0 o1 o2 o3 o4 o5 o6 o7 o8 o9 o10 o11 ou hl0 X hK hA hE hX hbl hbA i hiL hL cells slots (by omega) (by omega) (KON hiL) P K lo hi th F Qu fo f g sa ca ta tn Hm ru tm fo1 fk1 np n qd z how stat pl q stt dn co pm lm b ex wv ov H locs ls hI hP hD hS hl
      · skip
        refine lv_tableOut hx hb d_Law_law_40 (by decide) (tgt := 804) rfl ?_
        refine W.widen (Nat.le_add_right _ 2) (Nat.le_add_right _ 12) ?_
        exact KON hiL P K lo hi th F Qu fo f g sa ca ta tn Hm ru tm fo1 fk1 np n qd z how stat pl q stt dn co pm lm b ex wv ov H locs ls hI hP hD hS hl
      · skip
        refine lv_tableOut hx hb d_Law_law_40 (by decide) (tgt := 804) rfl ?_
        refine W.widen (Nat.le_add_right _ 2) (Nat.le_add_right _ 12) ?_
        exact KON hiL P K lo hi th F Qu fo f g sa ca ta tn Hm ru tm fo1 fk1 np n qd z how stat pl q stt dn co pm lm b ex wv ov H locs ls hI hP hD hS hl
      · skip
        refine lv_tableOut hx hb d_Law_law_40 (by decide) (tgt := 804) rfl ?_
        refine W.widen (Nat.le_add_right _ 2) (Nat.le_add_right _ 12) ?_
        exact KON hiL P K lo hi th F Qu fo f g sa ca ta tn Hm ru tm fo1 fk1 np n qd z how stat pl q stt dn co pm lm b ex wv ov H locs ls hI hP hD hS hl
  · skip
    refine pl_isub X d_Law_law_29 (z := nI L - nI 6) rfl ?_
    refine lv_icmp_gt hx hb d_Law_law_30 rfl (fun g30 => ?_) (fun g30 => ?_)
    · skip
      refine W.widen (by omega) (by omega) (kend H locs ls hS)
    · skip
      exact absurd (sub_lt (by omega) (by omega) (by omega)) g30
