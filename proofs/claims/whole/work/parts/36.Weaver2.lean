set_option maxHeartbeats 4000000 in
set_option maxRecDepth 100000 in
theorem c_Weaver_findFirsts (l : Launch) (D : va_G) (cI cZ cL : ClassId) (w w1 v : Nat) (fo : Nat → Int32) (p0 p1 p2 np : Nat) (P K : Nat → Int32) (h a1 a2 a3 n : Nat) (lo hi th : Nat → Int32) (hn : n ≤ 4) (hnp : np ≤ 24) (hop : okP P np) (hok : okK P K np) : pl_V l y_Weaver_findFirsts b_Weaver_findFirsts 5 ({ frames := 3, cells := 0, slots := 0, locals := 65 } : Room) pl_E0 D classes (TY cI cZ cL) [.ref w, .ref p0, .ref h] [(w, .inr (3, [.ref v, .ref w1])), (w1, .inl (cI, 24, .inl fo)), (p0, .inr (0, [.ref p1, .ref p2, .int (nI np)])), (p1, .inl (cI, 24, .inl P)), (p2, .inl (cI, 24, .inl K)), (h, .inr (1, [.ref a1, .ref a2, .ref a3, .int (nI n)])), (a1, .inl (cI, 32, .inl lo)), (a2, .inl (cI, 32, .inl hi)), (a3, .inl (cI, 32, .inl th))] (fun u : Nat → Int32 => ∀ j, j < np → u j = nI (plc P K th n j)) (fun (u : Nat → Int32) => [(w, .inr (3, [.ref v, .ref w1])), (w1, .inl (cI, 24, .inl u)), (p0, .inr (0, [.ref p1, .ref p2, .int (nI np)])), (p1, .inl (cI, 24, .inl P)), (p2, .inl (cI, 24, .inl K)), (h, .inr (1, [.ref a1, .ref a2, .ref a3, .int (nI n)])), (a1, .inl (cI, 32, .inl lo)), (a2, .inl (cI, 32, .inl hi)), (a3, .inl (cI, 32, .inl th))]) := by
  refine pl_startV (by decide) (Nat.le_of_ble_eq_true rfl) ?_
  intro p e s m args below meth c A ls X hr hlk hin hK hP hD hS hA hE hl
  have X : CallFix p m c b_Weaver_findFirsts 5 s args TG R_Weaver := X
  have hx := X.1
  have hb := X.2.1
  have hl : lv_has ls 5 [(0, .ref w), (1, .ref p0), (2, .ref h)] := hl
  refine lv_iconst (v := nI 0) hx hb d_Weaver_findFirsts_0 (by decide) ?_
  refine lv_istore_n hx hb d_Weaver_findFirsts_1 rfl hl (by decide) (lv' := [(3, .int (nI 0)), (0, .ref w), (1, .ref p0), (2, .ref h)]) rfl (fun ls hl => ?_)
  refine lv_iconst (v := nI 0) hx hb d_Weaver_findFirsts_2 (by decide) ?_
  refine lv_istore hx hb d_Weaver_findFirsts_3 hl (by decide) (lv' := [(4, .int (nI 0)), (3, .int (nI 0)), (0, .ref w), (1, .ref p0), (2, .ref h)]) rfl (fun ls hl => ?_)
  have loop_5 : ∀ (k : Nat) (i c0 : Nat) (g : Nat → Int32) (H : Heap) (locs : List Loc) (ls : Array Slot), np - i = k → (i ≤ np) → (c0 = plc P K th n i) → (∀ j, j < i → g j = nI (plc P K th n j)) → va_P D classes [(w, .inr (3, [.ref v, .ref w1])), (w1, .inl (cI, 24, .inl g)), (p0, .inr (0, [.ref p1, .ref p2, .int (nI np)])), (p1, .inl (cI, 24, .inl P)), (p2, .inl (cI, 24, .inl K)), (h, .inr (1, [.ref a1, .ref a2, .ref a3, .int (nI n)])), (a1, .inl (cI, 32, .inl lo)), (a2, .inl (cI, 32, .inl hi)), (a3, .inl (cI, 32, .inl th))] H → va_D A [(w, .inr (3, [.ref v, .ref w1])), (w1, .inl (cI, 24, .inl g)), (p0, .inr (0, [.ref p1, .ref p2, .int (nI np)])), (p1, .inl (cI, 24, .inl P)), (p2, .inl (cI, 24, .inl K)), (h, .inr (1, [.ref a1, .ref a2, .ref a3, .int (nI n)])), (a1, .inl (cI, 32, .inl lo)), (a2, .inl (cI, 32, .inl hi)), (a3, .inl (cI, 32, .inl th))] → va_S A s.heap H locs → lv_has ls 5 [(4, .int (nI i)), (3, .int (nI c0)), (0, .ref w), (1, .ref p0), (2, .ref h)] → W p l e ({ frames := 3, cells := 0, slots := 0, locals := 65 } : Room) s m args below meth c H locs 0 0 (MQ below (va_Qv (fun u : Nat → Int32 => ∀ j, j < np → u j = nI (plc P K th n j)) (fun u => pl_out D classes (TY cI cZ cL) A ((fun (u : Nat → Int32) => [(w, .inr (3, [.ref v, .ref w1])), (w1, .inl (cI, 24, .inl u)), (p0, .inr (0, [.ref p1, .ref p2, .int (nI np)])), (p1, .inl (cI, 24, .inl P)), (p2, .inl (cI, 24, .inl K)), (h, .inr (1, [.ref a1, .ref a2, .ref a3, .int (nI n)])), (a1, .inl (cI, 32, .inl lo)), (a2, .inl (cI, 32, .inl hi)), (a3, .inl (cI, 32, .inl th))]) u)) A) args s 0 0 A) (F0 m 5 ls []) := by
    intro k
    induction k using Nat.strongRecOn with
    | _ k ih =>
    intro i c0 g H locs ls hk hi0 hc hg hP hD hS hl
    refine lv_iload hx hb d_Weaver_findFirsts_5 (lv_at hl 0 rfl) ?_
    refine lv_aload_n hx hb d_Weaver_findFirsts_7 rfl (lv_at hl 3 rfl) ?_
    refine pl_get X fw_Weaver_28 hK hP 2 rfl (v := .int (nI np)) rfl d_Weaver_findFirsts_8 ?_
    refine pl_icmp_ge X (by omega) (by omega) d_Weaver_findFirsts_11 rfl (fun g11 => ?_) (fun g11 => ?_)
    · skip
      exact pl_vret X hr hlk hK g (fun j hj => hg j (by omega)) hP hD hS d_Weaver_findFirsts_57
    · skip
      obtain ⟨ho1, ho2⟩ := hop i g11
      refine lv_aload_n hx hb d_Weaver_findFirsts_14 rfl (lv_at hl 2 rfl) ?_
      refine pl_get X fw_Weaver_20 hK hP 0 rfl (v := .ref w1) rfl d_Weaver_findFirsts_15 ?_
      refine lv_iload hx hb d_Weaver_findFirsts_18 (lv_at hl 0 rfl) ?_
      refine lv_iload_n hx hb d_Weaver_findFirsts_20 rfl (lv_at hl 1 rfl) ?_
      refine pl_iast X hK hP hD hS 1 0 rfl rfl i (by omega) (by decide) d_Weaver_findFirsts_21 (ws' := [(w, .inr (3, [.ref v, .ref w1])), (w1, .inl (cI, 24, .inl (upd g i (nI c0)))), (p0, .inr (0, [.ref p1, .ref p2, .int (nI np)])), (p1, .inl (cI, 24, .inl P)), (p2, .inl (cI, 24, .inl K)), (h, .inr (1, [.ref a1, .ref a2, .ref a3, .int (nI n)])), (a1, .inl (cI, 32, .inl lo)), (a2, .inl (cI, 32, .inl hi)), (a3, .inl (cI, 32, .inl th))]) rfl (fun H locs hP hD hS => ?_)
      refine lv_aload_n hx hb d_Weaver_findFirsts_22 rfl (lv_at hl 3 rfl) ?_
      refine pl_get X fw_Weaver_32 hK hP 2 rfl (v := .ref p1) rfl d_Weaver_findFirsts_23 ?_
      refine lv_iload hx hb d_Weaver_findFirsts_26 (lv_at hl 0 rfl) ?_
      refine pl_iald X hK hP 3 0 rfl rfl i (by omega) (by decide) (z := nI (opn P i)) ho1 d_Weaver_findFirsts_28 ?_
      refine lv_bipush (v := nI 9) hx hb d_Weaver_findFirsts_29 (by decide) ?_
      refine pl_icmp_ne X (by omega) (by decide) d_Weaver_findFirsts_31 rfl (fun g31 => ?_) (fun g31 => ?_)
      · skip
        refine lv_iinc hx hb d_Weaver_findFirsts_48 hl (k := 1) rfl (nI_inc1 _) (by decide) (lv' := [(3, .int (nI (c0 + 1))), (4, .int (nI i)), (0, .ref w), (1, .ref p0), (2, .ref h)]) rfl (fun ls hl => ?_)
        refine lv_iinc hx hb d_Weaver_findFirsts_51 hl (k := 1) rfl (nI_inc1 _) (by decide) (lv' := [(4, .int (nI (i + 1))), (3, .int (nI (c0 + 1))), (0, .ref w), (1, .ref p0), (2, .ref h)]) rfl (fun ls hl => ?_)
        refine lv_goto hx hb d_Weaver_findFirsts_54 rfl ?_
        exact ih _ (by omega) (i + 1) (c0 + 1) (upd g i (nI c0)) _ _ _ rfl (by omega) (by subst hc; simp only [plc, ahd]; rw [if_neg g31]) (fun j hj => by rcases Nat.lt_succ_iff_lt_or_eq.mp hj with q | q; (rw [upd_n (Nat.ne_of_lt q)]; exact hg j q); (rw [q, upd_s, hc])) hP hD hS hl
      · skip
        obtain ⟨hk1, hk2⟩ := okK_9 hok g11 g31
        refine lv_iload_n hx hb d_Weaver_findFirsts_34 rfl (lv_at hl 1 rfl) ?_
        refine lv_aload_n hx hb d_Weaver_findFirsts_35 rfl (lv_at hl 4 rfl) ?_
        refine lv_aload_n hx hb d_Weaver_findFirsts_36 rfl (lv_at hl 3 rfl) ?_
        refine pl_get X fw_Weaver_35 hK hP 2 rfl (v := .ref p2) rfl d_Weaver_findFirsts_37 ?_
        refine lv_iload hx hb d_Weaver_findFirsts_40 (lv_at hl 0 rfl) ?_
        refine pl_iald X hK hP 4 0 rfl rfl i (by omega) (by decide) (z := nI (kn K i)) hk1 d_Weaver_findFirsts_42 ?_
        refine pl_callSI X (rest := [.int (nI c0)]) (As := [.ref h, .int (nI (kn K i))]) (c_Weaver_guardLength l D cI cZ cL h a1 a2 a3 n lo hi th (kn K i) hn hk2) ck_Weaver_50 pl_E0_ok trivial hK hP hD hS hA [5, 6, 7, 8] [0, 1, 2, 3, 4] [0, 1, 2, 3, 4, 5, 6, 7, 8] rfl (by decide) (wr := [(w, .inr (3, [.ref v, .ref w1])), (w1, .inl (cI, 24, .inl (upd g i (nI c0)))), (p0, .inr (0, [.ref p1, .ref p2, .int (nI np)])), (p1, .inl (cI, 24, .inl P)), (p2, .inl (cI, 24, .inl K))]) rfl (by decide) (by decide) (wf := fun _ => [(w, .inr (3, [.ref v, .ref w1])), (w1, .inl (cI, 24, .inl (upd g i (nI c0)))), (p0, .inr (0, [.ref p1, .ref p2, .int (nI np)])), (p1, .inl (cI, 24, .inl P)), (p2, .inl (cI, 24, .inl K)), (h, .inr (1, [.ref a1, .ref a2, .ref a3, .int (nI n)])), (a1, .inl (cI, 32, .inl lo)), (a2, .inl (cI, 32, .inl hi)), (a3, .inl (cI, 32, .inl th))]) (fun _ => rfl) (by decide) rfl hl.1 rfl (Nat.le_of_ble_eq_true rfl) (by decide) (by decide) d_Weaver_findFirsts_43 (fun r u0 H locs hcq hP hD hS => ?_)
        subst hcq
        refine pl_iadd X d_Weaver_findFirsts_46 (z := nI (c0 + (cntR th (kn K i) n * 16 + 1))) (nI_add _ _) ?_
        refine lv_istore_n hx hb d_Weaver_findFirsts_47 rfl hl (by decide) (lv' := [(3, .int (nI (c0 + (cntR th (kn K i) n * 16 + 1)))), (4, .int (nI i)), (0, .ref w), (1, .ref p0), (2, .ref h)]) rfl (fun ls hl => ?_)
        refine lv_iinc hx hb d_Weaver_findFirsts_48 hl (k := 0) rfl (nI_inc1 _) (by decide) (lv' := [(3, .int (nI (c0 + (cntR th (kn K i) n * 16 + 1) + 1))), (4, .int (nI i)), (0, .ref w), (1, .ref p0), (2, .ref h)]) rfl (fun ls hl => ?_)
        refine lv_iinc hx hb d_Weaver_findFirsts_51 hl (k := 1) rfl (nI_inc1 _) (by decide) (lv' := [(4, .int (nI (i + 1))), (3, .int (nI (c0 + (cntR th (kn K i) n * 16 + 1) + 1))), (0, .ref w), (1, .ref p0), (2, .ref h)]) rfl (fun ls hl => ?_)
        refine lv_goto hx hb d_Weaver_findFirsts_54 rfl ?_
        exact ih _ (by omega) (i + 1) (c0 + (cntR th (kn K i) n * 16 + 1) + 1) (upd g i (nI c0)) _ _ _ rfl (by omega) (by subst hc; simp only [plc, ahd]; rw [if_pos g31]) (fun j hj => by rcases Nat.lt_succ_iff_lt_or_eq.mp hj with q | q; (rw [upd_n (Nat.ne_of_lt q)]; exact hg j q); (rw [q, upd_s, hc])) hP hD hS hl
  exact loop_5 _ 0 0 fo _ _ _ rfl (Nat.zero_le _) rfl (fun j hj => absurd hj (Nat.not_lt_zero j)) hP hD hS hl

set_option maxHeartbeats 4000000 in
set_option maxRecDepth 100000 in
theorem c_Weaver_weave (l : Launch) (D : va_G) (cI cZ cL : ClassId) (t1 t2 : Nat) (w w1 v v1 v2 M z : Nat) (fo f g : Nat → Int32) (p0 p1 p2 np : Nat) (P K : Nat → Int32) (h a1 a2 a3 n : Nat) (lo hi th : Nat → Int32) (hM : M < 2 ^ 31) (hz : plc P K th n np ≤ M) (hn : n ≤ 4) (hnp : np ≤ 24) (hop : okP P np) (hok : okK P K np) : pl_V l y_Weaver_weave b_Weaver_weave 6 ({ frames := 4, cells := 0, slots := 0, locals := 90 } : Room) (EV t1 t2) D classes (TY cI cZ cL) [.ref w, .ref p0, .ref h] [(w, .inr (3, [.ref v, .ref w1])), (w1, .inl (cI, 24, .inl fo)), (v, .inr (0, [.ref v1, .ref v2, .int (nI z)])), (v1, .inl (cI, M, .inl f)), (v2, .inl (cI, M, .inl g)), (p0, .inr (0, [.ref p1, .ref p2, .int (nI np)])), (p1, .inl (cI, 24, .inl P)), (p2, .inl (cI, 24, .inl K)), (h, .inr (1, [.ref a1, .ref a2, .ref a3, .int (nI n)])), (a1, .inl (cI, 32, .inl lo)), (a2, .inl (cI, 32, .inl hi)), (a3, .inl (cI, 32, .inl th))] (fun u : Nat → Int32 => ∀ j, j < np → u j = nI (plc P K th n j)) (fun (u : Nat → Int32) => [(w, .inr (3, [.ref v, .ref w1])), (w1, .inl (cI, 24, .inl u)), (v, .inr (0, [.ref v1, .ref v2, .int (nI (plc P K th n np))])), (v1, .inl (cI, M, .inl (apd f 0 (wO P K th n np)))), (v2, .inl (cI, M, .inl (apd g 0 (wK P K lo hi th n np)))), (p0, .inr (0, [.ref p1, .ref p2, .int (nI np)])), (p1, .inl (cI, 24, .inl P)), (p2, .inl (cI, 24, .inl K)), (h, .inr (1, [.ref a1, .ref a2, .ref a3, .int (nI n)])), (a1, .inl (cI, 32, .inl lo)), (a2, .inl (cI, 32, .inl hi)), (a3, .inl (cI, 32, .inl th))]) := by
  refine pl_startV (by decide) (Nat.le_of_ble_eq_true rfl) ?_
  intro p e s m args below meth c A ls X hr hlk hin hK hP hD hS hA hE hl
  have X : CallFix p m c b_Weaver_weave 6 s args TG R_Weaver := X
  have hx := X.1
  have hb := X.2.1
  have hl : lv_has ls 6 [(0, .ref w), (1, .ref p0), (2, .ref h)] := hl
  refine lv_aload_n hx hb d_Weaver_weave_0 rfl (lv_at hl 0 rfl) ?_
  refine lv_aload_n hx hb d_Weaver_weave_1 rfl (lv_at hl 1 rfl) ?_
  refine lv_aload_n hx hb d_Weaver_weave_2 rfl (lv_at hl 2 rfl) ?_
  refine pl_callVV X (rest := []) (As := [.ref p0, .ref h]) (b := w) (c_Weaver_findFirsts l D cI cZ cL w w1 v fo p0 p1 p2 np P K h a1 a2 a3 n lo hi th hn hnp hop hok) ck_Weaver_24 pl_E0_ok trivial hK hP hD hS hA (T := F_Weaver) (N := N_Weaver) (ci := 3) rfl 0 rfl [0, 1, 5, 6, 7, 8, 9, 10, 11] [2, 3, 4] [3, 4, 0, 1, 2, 5, 6, 7, 8, 9, 10, 11] rfl (by decide) (wr := [(v, .inr (0, [.ref v1, .ref v2, .int (nI z)])), (v1, .inl (cI, M, .inl f)), (v2, .inl (cI, M, .inl g))]) rfl (by decide) (by decide) (wf := fun (u : Nat → Int32) => [(w, .inr (3, [.ref v, .ref w1])), (w1, .inl (cI, 24, .inl u)), (v, .inr (0, [.ref v1, .ref v2, .int (nI z)])), (v1, .inl (cI, M, .inl f)), (v2, .inl (cI, M, .inl g)), (p0, .inr (0, [.ref p1, .ref p2, .int (nI np)])), (p1, .inl (cI, 24, .inl P)), (p2, .inl (cI, 24, .inl K)), (h, .inr (1, [.ref a1, .ref a2, .ref a3, .int (nI n)])), (a1, .inl (cI, 32, .inl lo)), (a2, .inl (cI, 32, .inl hi)), (a3, .inl (cI, 32, .inl th))]) (fun _ => rfl) (by decide) rfl hl.1 rfl (Nat.le_of_ble_eq_true rfl) (by decide) (by decide) d_Weaver_weave_3 (fun u H locs hcq hP hD hS => ?_)
  have hfo := hcq
  refine lv_aload_n hx hb d_Weaver_weave_6 rfl (lv_at hl 0 rfl) ?_
  refine pl_get X fw_Weaver_14 hK hP 0 rfl (v := .ref v) rfl d_Weaver_weave_7 ?_
  refine lv_iconst (v := nI 0) hx hb d_Weaver_weave_10 (by decide) ?_
  refine pl_put X fw_Weaver_28 fp_Listing rfl hK hP hD hS 2 rfl (v := .int (nI 0)) rfl rfl (Nat.le_of_ble_eq_true rfl) d_Weaver_weave_11 (ws' := [(w, .inr (3, [.ref v, .ref w1])), (w1, .inl (cI, 24, .inl u)), (v, .inr (0, [.ref v1, .ref v2, .int (nI 0)])), (v1, .inl (cI, M, .inl f)), (v2, .inl (cI, M, .inl g)), (p0, .inr (0, [.ref p1, .ref p2, .int (nI np)])), (p1, .inl (cI, 24, .inl P)), (p2, .inl (cI, 24, .inl K)), (h, .inr (1, [.ref a1, .ref a2, .ref a3, .int (nI n)])), (a1, .inl (cI, 32, .inl lo)), (a2, .inl (cI, 32, .inl hi)), (a3, .inl (cI, 32, .inl th))]) rfl (fun H locs hP hD hS => ?_)
  refine lv_iconst (v := nI 0) hx hb d_Weaver_weave_14 (by decide) ?_
  refine lv_istore_n hx hb d_Weaver_weave_15 rfl hl (by decide) (lv' := [(3, .int (nI 0)), (0, .ref w), (1, .ref p0), (2, .ref h)]) rfl (fun ls hl => ?_)
  have loop_16 : ∀ (k : Nat) (i : Nat) (H : Heap) (locs : List Loc) (ls : Array Slot), np - i = k → (i ≤ np) → va_P D classes [(w, .inr (3, [.ref v, .ref w1])), (w1, .inl (cI, 24, .inl u)), (v, .inr (0, [.ref v1, .ref v2, .int (nI (plc P K th n i))])), (v1, .inl (cI, M, .inl (apd f 0 (wO P K th n i)))), (v2, .inl (cI, M, .inl (apd g 0 (wK P K lo hi th n i)))), (p0, .inr (0, [.ref p1, .ref p2, .int (nI np)])), (p1, .inl (cI, 24, .inl P)), (p2, .inl (cI, 24, .inl K)), (h, .inr (1, [.ref a1, .ref a2, .ref a3, .int (nI n)])), (a1, .inl (cI, 32, .inl lo)), (a2, .inl (cI, 32, .inl hi)), (a3, .inl (cI, 32, .inl th))] H → va_D A [(w, .inr (3, [.ref v, .ref w1])), (w1, .inl (cI, 24, .inl u)), (v, .inr (0, [.ref v1, .ref v2, .int (nI (plc P K th n i))])), (v1, .inl (cI, M, .inl (apd f 0 (wO P K th n i)))), (v2, .inl (cI, M, .inl (apd g 0 (wK P K lo hi th n i)))), (p0, .inr (0, [.ref p1, .ref p2, .int (nI np)])), (p1, .inl (cI, 24, .inl P)), (p2, .inl (cI, 24, .inl K)), (h, .inr (1, [.ref a1, .ref a2, .ref a3, .int (nI n)])), (a1, .inl (cI, 32, .inl lo)), (a2, .inl (cI, 32, .inl hi)), (a3, .inl (cI, 32, .inl th))] → va_S A s.heap H locs → lv_has ls 6 [(3, .int (nI i)), (0, .ref w), (1, .ref p0), (2, .ref h)] → W p l e ({ frames := 4, cells := 0, slots := 0, locals := 90 } : Room) s m args below meth c H locs 0 0 (MQ below (va_Qv (fun u : Nat → Int32 => ∀ j, j < np → u j = nI (plc P K th n j)) (fun u => pl_out D classes (TY cI cZ cL) A ((fun (u : Nat → Int32) => [(w, .inr (3, [.ref v, .ref w1])), (w1, .inl (cI, 24, .inl u)), (v, .inr (0, [.ref v1, .ref v2, .int (nI (plc P K th n np))])), (v1, .inl (cI, M, .inl (apd f 0 (wO P K th n np)))), (v2, .inl (cI, M, .inl (apd g 0 (wK P K lo hi th n np)))), (p0, .inr (0, [.ref p1, .ref p2, .int (nI np)])), (p1, .inl (cI, 24, .inl P)), (p2, .inl (cI, 24, .inl K)), (h, .inr (1, [.ref a1, .ref a2, .ref a3, .int (nI n)])), (a1, .inl (cI, 32, .inl lo)), (a2, .inl (cI, 32, .inl hi)), (a3, .inl (cI, 32, .inl th))]) u)) A) args s 0 0 A) (F0 m 16 ls []) := by
    intro k
    induction k using Nat.strongRecOn with
    | _ k ih =>
    intro i H locs ls hk hi0 hP hD hS hl
    refine lv_iload_n hx hb d_Weaver_weave_16 rfl (lv_at hl 0 rfl) ?_
    refine lv_aload_n hx hb d_Weaver_weave_17 rfl (lv_at hl 2 rfl) ?_
    refine pl_get X fw_Weaver_28 hK hP 5 rfl (v := .int (nI np)) rfl d_Weaver_weave_18 ?_
    refine pl_icmp_ge X (by omega) (by omega) d_Weaver_weave_21 rfl (fun g21 => ?_) (fun g21 => ?_)
    · skip
      have hin2 : np = i := by omega
      subst hin2
      exact pl_vret X hr hlk hK u hfo hP hD hS d_Weaver_weave_89
    · skip
      obtain ⟨ho1, ho2⟩ := hop i g21
      refine lv_aload_n hx hb d_Weaver_weave_24 rfl (lv_at hl 2 rfl) ?_
      refine pl_get X fw_Weaver_32 hK hP 5 rfl (v := .ref p1) rfl d_Weaver_weave_25 ?_
      refine lv_iload_n hx hb d_Weaver_weave_28 rfl (lv_at hl 0 rfl) ?_
      refine pl_iald X hK hP 6 0 rfl rfl i (by omega) (by decide) (z := nI (opn P i)) ho1 d_Weaver_weave_29 ?_
      refine lv_istore hx hb d_Weaver_weave_30 hl (by decide) (lv' := [(4, .int (nI (opn P i))), (3, .int (nI i)), (0, .ref w), (1, .ref p0), (2, .ref h)]) rfl (fun ls hl => ?_)
      refine lv_aload_n hx hb d_Weaver_weave_32 rfl (lv_at hl 3 rfl) ?_
      refine pl_get X fw_Weaver_35 hK hP 5 rfl (v := .ref p2) rfl d_Weaver_weave_33 ?_
      refine lv_iload_n hx hb d_Weaver_weave_36 rfl (lv_at hl 1 rfl) ?_
      refine pl_iald X hK hP 7 0 rfl rfl i (by omega) (by decide) (z := K i) rfl d_Weaver_weave_37 ?_
      refine lv_istore hx hb d_Weaver_weave_38 hl (by decide) (lv' := [(5, .int (K i)), (4, .int (nI (opn P i))), (3, .int (nI i)), (0, .ref w), (1, .ref p0), (2, .ref h)]) rfl (fun ls hl => ?_)
      refine lv_iload hx hb d_Weaver_weave_40 (lv_at hl 1 rfl) ?_
      refine lv_bipush (v := nI 9) hx hb d_Weaver_weave_42 (by decide) ?_
      refine pl_icmp_ne X (by omega) (by decide) d_Weaver_weave_44 rfl (fun g44 => ?_) (fun g44 => ?_)
      · skip
        have e3 := plc_n (K := K) (th := th) (ns := n) g44
        have hm1 := plc_mono P K th n (show i + 1 ≤ np by omega)
        refine lv_aload_n hx hb d_Weaver_weave_54 rfl (lv_at hl 3 rfl) ?_
        refine pl_get X fw_Weaver_14 hK hP 0 rfl (v := .ref v) rfl d_Weaver_weave_55 ?_
        refine lv_iload hx hb d_Weaver_weave_58 (lv_at hl 1 rfl) ?_
        refine lv_iload hx hb d_Weaver_weave_60 (lv_at hl 1 rfl) ?_
        refine pl_callNI X (rest := [.int (nI (opn P i)), .ref v]) (As := [.int (nI (opn P i))]) (c_Loom_goesElsewhere l D cI cZ cL (opn P i) (by omega)) ckN_goes hE.2.1 pl_E0_ok trivial hK hP hD hS hA [] [0, 1, 2, 3, 4, 5, 6, 7, 8, 9, 10, 11] [0, 1, 2, 3, 4, 5, 6, 7, 8, 9, 10, 11] rfl (by decide) (wr := [(w, .inr (3, [.ref v, .ref w1])), (w1, .inl (cI, 24, .inl u)), (v, .inr (0, [.ref v1, .ref v2, .int (nI (plc P K th n i))])), (v1, .inl (cI, M, .inl (apd f 0 (wO P K th n i)))), (v2, .inl (cI, M, .inl (apd g 0 (wK P K lo hi th n i)))), (p0, .inr (0, [.ref p1, .ref p2, .int (nI np)])), (p1, .inl (cI, 24, .inl P)), (p2, .inl (cI, 24, .inl K)), (h, .inr (1, [.ref a1, .ref a2, .ref a3, .int (nI n)])), (a1, .inl (cI, 32, .inl lo)), (a2, .inl (cI, 32, .inl hi)), (a3, .inl (cI, 32, .inl th))]) rfl (by decide) (by decide) (wf := fun _ => [(w, .inr (3, [.ref v, .ref w1])), (w1, .inl (cI, 24, .inl u)), (v, .inr (0, [.ref v1, .ref v2, .int (nI (plc P K th n i))])), (v1, .inl (cI, M, .inl (apd f 0 (wO P K th n i)))), (v2, .inl (cI, M, .inl (apd g 0 (wK P K lo hi th n i)))), (p0, .inr (0, [.ref p1, .ref p2, .int (nI np)])), (p1, .inl (cI, 24, .inl P)), (p2, .inl (cI, 24, .inl K)), (h, .inr (1, [.ref a1, .ref a2, .ref a3, .int (nI n)])), (a1, .inl (cI, 32, .inl lo)), (a2, .inl (cI, 32, .inl hi)), (a3, .inl (cI, 32, .inl th))]) (fun _ => rfl) (by decide) rfl hl.1 rfl (Nat.le_of_ble_eq_true rfl) (by decide) (by decide) d_Weaver_weave_62 (fun r u0 H locs hcq hP hD hS => ?_)
        subst hcq
        refine pl_ifB_eq X d_Weaver_weave_65 rfl (fun g65 => ?_) (fun g65 => ?_)
        · skip
          have hgo := of_decide_eq_false g65
          refine lv_iload hx hb d_Weaver_weave_78 (lv_at hl 0 rfl) ?_
          refine pl_callVV X (rest := []) (As := [.int (nI (opn P i)), .int (K i)]) (b := v) (c_Listing_append l D cI cZ cL v v1 v2 M (plc P K th n i) (apd f 0 (wO P K th n i)) (apd g 0 (wK P K lo hi th n i)) (nI (opn P i)) (K i) hM (by omega)) ck_Weaver_46 pl_E0_ok trivial hK hP hD hS hA (T := F_Listing) (N := N_Listing) (ci := 0) rfl 2 rfl [2, 3, 4] [0, 1, 5, 6, 7, 8, 9, 10, 11] [0, 1, 9, 10, 11, 2, 3, 4, 5, 6, 7, 8] rfl (by decide) (wr := [(w, .inr (3, [.ref v, .ref w1])), (w1, .inl (cI, 24, .inl u)), (p0, .inr (0, [.ref p1, .ref p2, .int (nI np)])), (p1, .inl (cI, 24, .inl P)), (p2, .inl (cI, 24, .inl K)), (h, .inr (1, [.ref a1, .ref a2, .ref a3, .int (nI n)])), (a1, .inl (cI, 32, .inl lo)), (a2, .inl (cI, 32, .inl hi)), (a3, .inl (cI, 32, .inl th))]) rfl (by decide) (by decide) (wf := fun _ => [(w, .inr (3, [.ref v, .ref w1])), (w1, .inl (cI, 24, .inl u)), (v, .inr (0, [.ref v1, .ref v2, .int (nI (plc P K th n i + 1))])), (v1, .inl (cI, M, .inl (upd (apd f 0 (wO P K th n i)) (plc P K th n i) (nI (opn P i))))), (v2, .inl (cI, M, .inl (upd (apd g 0 (wK P K lo hi th n i)) (plc P K th n i) (K i)))), (p0, .inr (0, [.ref p1, .ref p2, .int (nI np)])), (p1, .inl (cI, 24, .inl P)), (p2, .inl (cI, 24, .inl K)), (h, .inr (1, [.ref a1, .ref a2, .ref a3, .int (nI n)])), (a1, .inl (cI, 32, .inl lo)), (a2, .inl (cI, 32, .inl hi)), (a3, .inl (cI, 32, .inl th))]) (fun _ => rfl) (by decide) rfl hl.1 rfl (Nat.le_of_ble_eq_true rfl) (by decide) (by decide) d_Weaver_weave_80 (fun u0 H locs hcq hP hD hS => ?_)
          have e1 := wO_n (K := K) (th := th) (ns := n) f g44
          have e2 := wK_n (K := K) (lo := lo) (hi := hi) (th := th) (ns := n) g g44
          have e4 : tgt P K th n i = K i := tgt_n hgo
          have hP : va_P D classes [(w, .inr (3, [.ref v, .ref w1])), (w1, .inl (cI, 24, .inl u)), (v, .inr (0, [.ref v1, .ref v2, .int (nI (plc P K th n (i + 1)))])), (v1, .inl (cI, M, .inl (apd f 0 (wO P K th n (i + 1))))), (v2, .inl (cI, M, .inl (apd g 0 (wK P K lo hi th n (i + 1))))), (p0, .inr (0, [.ref p1, .ref p2, .int (nI np)])), (p1, .inl (cI, 24, .inl P)), (p2, .inl (cI, 24, .inl K)), (h, .inr (1, [.ref a1, .ref a2, .ref a3, .int (nI n)])), (a1, .inl (cI, 32, .inl lo)), (a2, .inl (cI, 32, .inl hi)), (a3, .inl (cI, 32, .inl th))] H := by rw [e1, e2, e3, e4]; exact hP
          have hD : va_D A [(w, .inr (3, [.ref v, .ref w1])), (w1, .inl (cI, 24, .inl u)), (v, .inr (0, [.ref v1, .ref v2, .int (nI (plc P K th n (i + 1)))])), (v1, .inl (cI, M, .inl (apd f 0 (wO P K th n (i + 1))))), (v2, .inl (cI, M, .inl (apd g 0 (wK P K lo hi th n (i + 1))))), (p0, .inr (0, [.ref p1, .ref p2, .int (nI np)])), (p1, .inl (cI, 24, .inl P)), (p2, .inl (cI, 24, .inl K)), (h, .inr (1, [.ref a1, .ref a2, .ref a3, .int (nI n)])), (a1, .inl (cI, 32, .inl lo)), (a2, .inl (cI, 32, .inl hi)), (a3, .inl (cI, 32, .inl th))] := by rw [e1, e2, e3, e4]; exact hD
          refine lv_iinc hx hb d_Weaver_weave_83 hl (k := 2) rfl (nI_inc1 _) (by decide) (lv' := [(3, .int (nI (i + 1))), (5, .int (K i)), (4, .int (nI (opn P i))), (0, .ref w), (1, .ref p0), (2, .ref h)]) rfl (fun ls hl => ?_)
          refine lv_goto hx hb d_Weaver_weave_86 rfl ?_
          exact ih _ (by omega) (i + 1) _ _ _ rfl (by omega) hP hD hS (lv_sub hl [0, 3, 4, 5] rfl)
        · skip
          have hgo := of_decide_eq_true g65
          obtain ⟨hk1, hk2⟩ := okK_7 (by omega) hok g21 hgo
          have hl : lv_has ls 6 [(5, .int (nI (kn K i))), (4, .int (nI (opn P i))), (3, .int (nI i)), (0, .ref w), (1, .ref p0), (2, .ref h)] := by rw [← hk1]; exact hl
          refine lv_aload_n hx hb d_Weaver_weave_68 rfl (lv_at hl 3 rfl) ?_
          refine pl_get X fw_Weaver_20 hK hP 0 rfl (v := .ref w1) rfl d_Weaver_weave_69 ?_
          refine lv_iload hx hb d_Weaver_weave_72 (lv_at hl 0 rfl) ?_
          refine pl_iald X hK hP 1 0 rfl rfl (kn K i) (by omega) (by decide) (z := nI (plc P K th n (kn K i))) (hfo _ hk2) d_Weaver_weave_74 ?_
          refine lv_goto hx hb d_Weaver_weave_75 rfl ?_
          refine pl_callVV X (rest := []) (As := [.int (nI (opn P i)), .int (nI (plc P K th n (kn K i)))]) (b := v) (c_Listing_append l D cI cZ cL v v1 v2 M (plc P K th n i) (apd f 0 (wO P K th n i)) (apd g 0 (wK P K lo hi th n i)) (nI (opn P i)) (nI (plc P K th n (kn K i))) hM (by omega)) ck_Weaver_46 pl_E0_ok trivial hK hP hD hS hA (T := F_Listing) (N := N_Listing) (ci := 0) rfl 2 rfl [2, 3, 4] [0, 1, 5, 6, 7, 8, 9, 10, 11] [0, 1, 9, 10, 11, 2, 3, 4, 5, 6, 7, 8] rfl (by decide) (wr := [(w, .inr (3, [.ref v, .ref w1])), (w1, .inl (cI, 24, .inl u)), (p0, .inr (0, [.ref p1, .ref p2, .int (nI np)])), (p1, .inl (cI, 24, .inl P)), (p2, .inl (cI, 24, .inl K)), (h, .inr (1, [.ref a1, .ref a2, .ref a3, .int (nI n)])), (a1, .inl (cI, 32, .inl lo)), (a2, .inl (cI, 32, .inl hi)), (a3, .inl (cI, 32, .inl th))]) rfl (by decide) (by decide) (wf := fun _ => [(w, .inr (3, [.ref v, .ref w1])), (w1, .inl (cI, 24, .inl u)), (v, .inr (0, [.ref v1, .ref v2, .int (nI (plc P K th n i + 1))])), (v1, .inl (cI, M, .inl (upd (apd f 0 (wO P K th n i)) (plc P K th n i) (nI (opn P i))))), (v2, .inl (cI, M, .inl (upd (apd g 0 (wK P K lo hi th n i)) (plc P K th n i) (nI (plc P K th n (kn K i)))))), (p0, .inr (0, [.ref p1, .ref p2, .int (nI np)])), (p1, .inl (cI, 24, .inl P)), (p2, .inl (cI, 24, .inl K)), (h, .inr (1, [.ref a1, .ref a2, .ref a3, .int (nI n)])), (a1, .inl (cI, 32, .inl lo)), (a2, .inl (cI, 32, .inl hi)), (a3, .inl (cI, 32, .inl th))]) (fun _ => rfl) (by decide) rfl hl.1 rfl (Nat.le_of_ble_eq_true rfl) (by decide) (by decide) d_Weaver_weave_80 (fun u0 H locs hcq hP hD hS => ?_)
          have e1 := wO_n (K := K) (th := th) (ns := n) f g44
          have e2 := wK_n (K := K) (lo := lo) (hi := hi) (th := th) (ns := n) g g44
          have e4 : tgt P K th n i = nI (plc P K th n (kn K i)) := tgt_g hgo
          have hP : va_P D classes [(w, .inr (3, [.ref v, .ref w1])), (w1, .inl (cI, 24, .inl u)), (v, .inr (0, [.ref v1, .ref v2, .int (nI (plc P K th n (i + 1)))])), (v1, .inl (cI, M, .inl (apd f 0 (wO P K th n (i + 1))))), (v2, .inl (cI, M, .inl (apd g 0 (wK P K lo hi th n (i + 1))))), (p0, .inr (0, [.ref p1, .ref p2, .int (nI np)])), (p1, .inl (cI, 24, .inl P)), (p2, .inl (cI, 24, .inl K)), (h, .inr (1, [.ref a1, .ref a2, .ref a3, .int (nI n)])), (a1, .inl (cI, 32, .inl lo)), (a2, .inl (cI, 32, .inl hi)), (a3, .inl (cI, 32, .inl th))] H := by rw [e1, e2, e3, e4]; exact hP
          have hD : va_D A [(w, .inr (3, [.ref v, .ref w1])), (w1, .inl (cI, 24, .inl u)), (v, .inr (0, [.ref v1, .ref v2, .int (nI (plc P K th n (i + 1)))])), (v1, .inl (cI, M, .inl (apd f 0 (wO P K th n (i + 1))))), (v2, .inl (cI, M, .inl (apd g 0 (wK P K lo hi th n (i + 1))))), (p0, .inr (0, [.ref p1, .ref p2, .int (nI np)])), (p1, .inl (cI, 24, .inl P)), (p2, .inl (cI, 24, .inl K)), (h, .inr (1, [.ref a1, .ref a2, .ref a3, .int (nI n)])), (a1, .inl (cI, 32, .inl lo)), (a2, .inl (cI, 32, .inl hi)), (a3, .inl (cI, 32, .inl th))] := by rw [e1, e2, e3, e4]; exact hD
          refine lv_iinc hx hb d_Weaver_weave_83 hl (k := 2) rfl (nI_inc1 _) (by decide) (lv' := [(3, .int (nI (i + 1))), (5, .int (nI (kn K i))), (4, .int (nI (opn P i))), (0, .ref w), (1, .ref p0), (2, .ref h)]) rfl (fun ls hl => ?_)
          refine lv_goto hx hb d_Weaver_weave_86 rfl ?_
          exact ih _ (by omega) (i + 1) _ _ _ rfl (by omega) hP hD hS (lv_sub hl [0, 3, 4, 5] rfl)
      · skip
        obtain ⟨hk1, hk2⟩ := okK_9 hok g21 g44
        have hl : lv_has ls 6 [(5, .int (nI (kn K i))), (4, .int (nI (opn P i))), (3, .int (nI i)), (0, .ref w), (1, .ref p0), (2, .ref h)] := by rw [← hk1]; exact hl
        have e3 := plc_9 (K := K) (th := th) (ns := n) g44
        have hm1 := plc_mono P K th n (show i + 1 ≤ np by omega)
        refine lv_aload_n hx hb d_Weaver_weave_47 rfl (lv_at hl 3 rfl) ?_
        refine lv_aload_n hx hb d_Weaver_weave_48 rfl (lv_at hl 5 rfl) ?_
        refine lv_iload hx hb d_Weaver_weave_49 (lv_at hl 0 rfl) ?_
        refine pl_callVV X (rest := []) (As := [.ref h, .int (nI (kn K i))]) (b := w) (c_Weaver_appendGuard l D cI cZ cL w w1 v v1 v2 M (plc P K th n i) u (apd f 0 (wO P K th n i)) (apd g 0 (wK P K lo hi th n i)) h a1 a2 a3 n lo hi th (kn K i) hM hn hk2 (by omega)) ck_Weaver_38 pl_E0_ok trivial hK hP hD hS hA (T := F_Weaver) (N := N_Weaver) (ci := 3) rfl 0 rfl [0, 1, 2, 3, 4, 8, 9, 10, 11] [5, 6, 7] [3, 4, 5, 6, 7, 0, 1, 2, 8, 9, 10, 11] rfl (by decide) (wr := [(p0, .inr (0, [.ref p1, .ref p2, .int (nI np)])), (p1, .inl (cI, 24, .inl P)), (p2, .inl (cI, 24, .inl K))]) rfl (by decide) (by decide) (wf := fun _ => [(w, .inr (3, [.ref v, .ref w1])), (w1, .inl (cI, 24, .inl u)), (v, .inr (0, [.ref v1, .ref v2, .int (nI (plc P K th n i + 16 * cntR th (kn K i) n + 1))])), (v1, .inl (cI, M, .inl (apd (apd f 0 (wO P K th n i)) (plc P K th n i) (gO th (kn K i) n ++ [nI 12])))), (v2, .inl (cI, M, .inl (apd (apd g 0 (wK P K lo hi th n i)) (plc P K th n i) (gK lo hi th (kn K i) (plc P K th n i) (plc P K th n i + cntR th (kn K i) n * 16) n ++ [nI 0])))), (p0, .inr (0, [.ref p1, .ref p2, .int (nI np)])), (p1, .inl (cI, 24, .inl P)), (p2, .inl (cI, 24, .inl K)), (h, .inr (1, [.ref a1, .ref a2, .ref a3, .int (nI n)])), (a1, .inl (cI, 32, .inl lo)), (a2, .inl (cI, 32, .inl hi)), (a3, .inl (cI, 32, .inl th))]) (fun _ => rfl) (by decide) rfl hl.1 rfl (Nat.le_of_ble_eq_true rfl) (by decide) (by decide) d_Weaver_weave_51 (fun u0 H locs hcq hP hD hS => ?_)
        refine lv_aload_n hx hb d_Weaver_weave_54 rfl (lv_at hl 3 rfl) ?_
        refine pl_get X fw_Weaver_14 hK hP 0 rfl (v := .ref v) rfl d_Weaver_weave_55 ?_
        refine lv_iload hx hb d_Weaver_weave_58 (lv_at hl 1 rfl) ?_
        refine lv_iload hx hb d_Weaver_weave_60 (lv_at hl 1 rfl) ?_
        refine pl_callNI X (rest := [.int (nI (opn P i)), .ref v]) (As := [.int (nI (opn P i))]) (c_Loom_goesElsewhere l D cI cZ cL (opn P i) (by omega)) ckN_goes hE.2.1 pl_E0_ok trivial hK hP hD hS hA [] [0, 1, 2, 3, 4, 5, 6, 7, 8, 9, 10, 11] [0, 1, 2, 3, 4, 5, 6, 7, 8, 9, 10, 11] rfl (by decide) (wr := [(w, .inr (3, [.ref v, .ref w1])), (w1, .inl (cI, 24, .inl u)), (v, .inr (0, [.ref v1, .ref v2, .int (nI (plc P K th n i + 16 * cntR th (kn K i) n + 1))])), (v1, .inl (cI, M, .inl (apd (apd f 0 (wO P K th n i)) (plc P K th n i) (gO th (kn K i) n ++ [nI 12])))), (v2, .inl (cI, M, .inl (apd (apd g 0 (wK P K lo hi th n i)) (plc P K th n i) (gK lo hi th (kn K i) (plc P K th n i) (plc P K th n i + cntR th (kn K i) n * 16) n ++ [nI 0])))), (p0, .inr (0, [.ref p1, .ref p2, .int (nI np)])), (p1, .inl (cI, 24, .inl P)), (p2, .inl (cI, 24, .inl K)), (h, .inr (1, [.ref a1, .ref a2, .ref a3, .int (nI n)])), (a1, .inl (cI, 32, .inl lo)), (a2, .inl (cI, 32, .inl hi)), (a3, .inl (cI, 32, .inl th))]) rfl (by decide) (by decide) (wf := fun _ => [(w, .inr (3, [.ref v, .ref w1])), (w1, .inl (cI, 24, .inl u)), (v, .inr (0, [.ref v1, .ref v2, .int (nI (plc P K th n i + 16 * cntR th (kn K i) n + 1))])), (v1, .inl (cI, M, .inl (apd (apd f 0 (wO P K th n i)) (plc P K th n i) (gO th (kn K i) n ++ [nI 12])))), (v2, .inl (cI, M, .inl (apd (apd g 0 (wK P K lo hi th n i)) (plc P K th n i) (gK lo hi th (kn K i) (plc P K th n i) (plc P K th n i + cntR th (kn K i) n * 16) n ++ [nI 0])))), (p0, .inr (0, [.ref p1, .ref p2, .int (nI np)])), (p1, .inl (cI, 24, .inl P)), (p2, .inl (cI, 24, .inl K)), (h, .inr (1, [.ref a1, .ref a2, .ref a3, .int (nI n)])), (a1, .inl (cI, 32, .inl lo)), (a2, .inl (cI, 32, .inl hi)), (a3, .inl (cI, 32, .inl th))]) (fun _ => rfl) (by decide) rfl hl.1 rfl (Nat.le_of_ble_eq_true rfl) (by decide) (by decide) d_Weaver_weave_62 (fun r u0 H locs hcq hP hD hS => ?_)
        subst hcq
        refine pl_ifB_eq X d_Weaver_weave_65 rfl (fun g65 => ?_) (fun g65 => ?_)
        · skip
          have hgo := of_decide_eq_false g65
          refine lv_iload hx hb d_Weaver_weave_78 (lv_at hl 0 rfl) ?_
          refine pl_callVV X (rest := []) (As := [.int (nI (opn P i)), .int (nI (kn K i))]) (b := v) (c_Listing_append l D cI cZ cL v v1 v2 M (plc P K th n i + 16 * cntR th (kn K i) n + 1) (apd (apd f 0 (wO P K th n i)) (plc P K th n i) (gO th (kn K i) n ++ [nI 12])) (apd (apd g 0 (wK P K lo hi th n i)) (plc P K th n i) (gK lo hi th (kn K i) (plc P K th n i) (plc P K th n i + cntR th (kn K i) n * 16) n ++ [nI 0])) (nI (opn P i)) (nI (kn K i)) hM (by omega)) ck_Weaver_46 pl_E0_ok trivial hK hP hD hS hA (T := F_Listing) (N := N_Listing) (ci := 0) rfl 2 rfl [2, 3, 4] [0, 1, 5, 6, 7, 8, 9, 10, 11] [0, 1, 9, 10, 11, 2, 3, 4, 5, 6, 7, 8] rfl (by decide) (wr := [(w, .inr (3, [.ref v, .ref w1])), (w1, .inl (cI, 24, .inl u)), (p0, .inr (0, [.ref p1, .ref p2, .int (nI np)])), (p1, .inl (cI, 24, .inl P)), (p2, .inl (cI, 24, .inl K)), (h, .inr (1, [.ref a1, .ref a2, .ref a3, .int (nI n)])), (a1, .inl (cI, 32, .inl lo)), (a2, .inl (cI, 32, .inl hi)), (a3, .inl (cI, 32, .inl th))]) rfl (by decide) (by decide) (wf := fun _ => [(w, .inr (3, [.ref v, .ref w1])), (w1, .inl (cI, 24, .inl u)), (v, .inr (0, [.ref v1, .ref v2, .int (nI (plc P K th n i + 16 * cntR th (kn K i) n + 1 + 1))])), (v1, .inl (cI, M, .inl (upd (apd (apd f 0 (wO P K th n i)) (plc P K th n i) (gO th (kn K i) n ++ [nI 12])) (plc P K th n i + 16 * cntR th (kn K i) n + 1) (nI (opn P i))))), (v2, .inl (cI, M, .inl (upd (apd (apd g 0 (wK P K lo hi th n i)) (plc P K th n i) (gK lo hi th (kn K i) (plc P K th n i) (plc P K th n i + cntR th (kn K i) n * 16) n ++ [nI 0])) (plc P K th n i + 16 * cntR th (kn K i) n + 1) (nI (kn K i))))), (p0, .inr (0, [.ref p1, .ref p2, .int (nI np)])), (p1, .inl (cI, 24, .inl P)), (p2, .inl (cI, 24, .inl K)), (h, .inr (1, [.ref a1, .ref a2, .ref a3, .int (nI n)])), (a1, .inl (cI, 32, .inl lo)), (a2, .inl (cI, 32, .inl hi)), (a3, .inl (cI, 32, .inl th))]) (fun _ => rfl) (by decide) rfl hl.1 rfl (Nat.le_of_ble_eq_true rfl) (by decide) (by decide) d_Weaver_weave_80 (fun u0 H locs hcq hP hD hS => ?_)
          have e1 := wO_9 (K := K) (th := th) (ns := n) f g44
          have e2 := wK_9 (K := K) (lo := lo) (hi := hi) (th := th) (ns := n) g g44
          have e4 : tgt P K th n i = nI (kn K i) := (tgt_n hgo).trans hk1
          have hP : va_P D classes [(w, .inr (3, [.ref v, .ref w1])), (w1, .inl (cI, 24, .inl u)), (v, .inr (0, [.ref v1, .ref v2, .int (nI (plc P K th n (i + 1)))])), (v1, .inl (cI, M, .inl (apd f 0 (wO P K th n (i + 1))))), (v2, .inl (cI, M, .inl (apd g 0 (wK P K lo hi th n (i + 1))))), (p0, .inr (0, [.ref p1, .ref p2, .int (nI np)])), (p1, .inl (cI, 24, .inl P)), (p2, .inl (cI, 24, .inl K)), (h, .inr (1, [.ref a1, .ref a2, .ref a3, .int (nI n)])), (a1, .inl (cI, 32, .inl lo)), (a2, .inl (cI, 32, .inl hi)), (a3, .inl (cI, 32, .inl th))] H := by rw [e1, e2, e3, e4]; exact hP
          have hD : va_D A [(w, .inr (3, [.ref v, .ref w1])), (w1, .inl (cI, 24, .inl u)), (v, .inr (0, [.ref v1, .ref v2, .int (nI (plc P K th n (i + 1)))])), (v1, .inl (cI, M, .inl (apd f 0 (wO P K th n (i + 1))))), (v2, .inl (cI, M, .inl (apd g 0 (wK P K lo hi th n (i + 1))))), (p0, .inr (0, [.ref p1, .ref p2, .int (nI np)])), (p1, .inl (cI, 24, .inl P)), (p2, .inl (cI, 24, .inl K)), (h, .inr (1, [.ref a1, .ref a2, .ref a3, .int (nI n)])), (a1, .inl (cI, 32, .inl lo)), (a2, .inl (cI, 32, .inl hi)), (a3, .inl (cI, 32, .inl th))] := by rw [e1, e2, e3, e4]; exact hD
          refine lv_iinc hx hb d_Weaver_weave_83 hl (k := 2) rfl (nI_inc1 _) (by decide) (lv' := [(3, .int (nI (i + 1))), (5, .int (nI (kn K i))), (4, .int (nI (opn P i))), (0, .ref w), (1, .ref p0), (2, .ref h)]) rfl (fun ls hl => ?_)
          refine lv_goto hx hb d_Weaver_weave_86 rfl ?_
          exact ih _ (by omega) (i + 1) _ _ _ rfl (by omega) hP hD hS (lv_sub hl [0, 3, 4, 5] rfl)
        · skip
          exact absurd g65 (by rw [g44]; decide)
  exact loop_16 _ 0 _ _ _ rfl (Nat.zero_le _) hP hD hS hl
