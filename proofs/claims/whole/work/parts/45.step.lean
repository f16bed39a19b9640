/-! Decode rows of PolicyLoom.step. -/
theorem d_Loom_step_0 : decode b_Loom_step 0 = .ok (.aload_n 0, 1) := by decide +kernel
theorem d_Loom_step_1 : decode b_Loom_step 1 = .ok (.getfield 42, 3) := by decide +kernel
theorem d_Loom_step_4 : decode b_Loom_step 4 = .ok (.getfield 130, 3) := by decide +kernel
theorem d_Loom_step_7 : decode b_Loom_step 7 = .ok (.ifCond .ne 13, 3) := by decide +kernel
theorem d_Loom_step_10 : decode b_Loom_step 10 = .ok (.new 133, 3) := by decide +kernel
theorem d_Loom_step_13 : decode b_Loom_step 13 = .ok (.dup, 1) := by decide +kernel
theorem d_Loom_step_14 : decode b_Loom_step 14 = .ok (.ldc 135, 2) := by decide +kernel
theorem d_Loom_step_16 : decode b_Loom_step 16 = .ok (.invokespecial 137, 3) := by decide +kernel
theorem d_Loom_step_19 : decode b_Loom_step 19 = .ok (.athrow, 1) := by decide +kernel
theorem d_Loom_step_20 : decode b_Loom_step 20 = .ok (.iload_n 1, 1) := by decide +kernel
theorem d_Loom_step_21 : decode b_Loom_step 21 = .ok (.ifCond .lt 10, 3) := by decide +kernel
theorem d_Loom_step_24 : decode b_Loom_step 24 = .ok (.iload_n 1, 1) := by decide +kernel
theorem d_Loom_step_25 : decode b_Loom_step 25 = .ok (.sipush 2000, 3) := by decide +kernel
theorem d_Loom_step_28 : decode b_Loom_step 28 = .ok (.if_icmp .le 13, 3) := by decide +kernel
theorem d_Loom_step_31 : decode b_Loom_step 31 = .ok (.new 53, 3) := by decide +kernel
theorem d_Loom_step_34 : decode b_Loom_step 34 = .ok (.dup, 1) := by decide +kernel
theorem d_Loom_step_35 : decode b_Loom_step 35 = .ok (.ldc 138, 2) := by decide +kernel
theorem d_Loom_step_37 : decode b_Loom_step 37 = .ok (.invokespecial 57, 3) := by decide +kernel
theorem d_Loom_step_40 : decode b_Loom_step 40 = .ok (.athrow, 1) := by decide +kernel
theorem d_Loom_step_41 : decode b_Loom_step 41 = .ok (.aload_n 0, 1) := by decide +kernel
theorem d_Loom_step_42 : decode b_Loom_step 42 = .ok (.getfield 42, 3) := by decide +kernel
theorem d_Loom_step_45 : decode b_Loom_step 45 = .ok (.getfield 140, 3) := by decide +kernel
theorem d_Loom_step_48 : decode b_Loom_step 48 = .ok (.iconst 1, 1) := by decide +kernel
theorem d_Loom_step_49 : decode b_Loom_step 49 = .ok (.if_icmp .ne 10, 3) := by decide +kernel
theorem d_Loom_step_52 : decode b_Loom_step 52 = .ok (.aload_n 0, 1) := by decide +kernel
theorem d_Loom_step_53 : decode b_Loom_step 53 = .ok (.invokevirtual 115, 3) := by decide +kernel
theorem d_Loom_step_56 : decode b_Loom_step 56 = .ok (.goto 7, 3) := by decide +kernel
theorem d_Loom_step_59 : decode b_Loom_step 59 = .ok (.aload_n 0, 1) := by decide +kernel
theorem d_Loom_step_60 : decode b_Loom_step 60 = .ok (.getfield 14, 3) := by decide +kernel
theorem d_Loom_step_63 : decode b_Loom_step 63 = .ok (.astore_n 2, 1) := by decide +kernel
theorem d_Loom_step_64 : decode b_Loom_step 64 = .ok (.iconst 0, 1) := by decide +kernel
theorem d_Loom_step_65 : decode b_Loom_step 65 = .ok (.istore_n 3, 1) := by decide +kernel
theorem d_Loom_step_66 : decode b_Loom_step 66 = .ok (.iload_n 3, 1) := by decide +kernel
theorem d_Loom_step_67 : decode b_Loom_step 67 = .ok (.iload_n 1, 1) := by decide +kernel
theorem d_Loom_step_68 : decode b_Loom_step 68 = .ok (.if_icmp .ge 34, 3) := by decide +kernel
theorem d_Loom_step_71 : decode b_Loom_step 71 = .ok (.aload_n 0, 1) := by decide +kernel
theorem d_Loom_step_72 : decode b_Loom_step 72 = .ok (.getfield 42, 3) := by decide +kernel
theorem d_Loom_step_75 : decode b_Loom_step 75 = .ok (.getfield 130, 3) := by decide +kernel
theorem d_Loom_step_78 : decode b_Loom_step 78 = .ok (.iconst 1, 1) := by decide +kernel
theorem d_Loom_step_79 : decode b_Loom_step 79 = .ok (.if_icmp .eq 5, 3) := by decide +kernel
theorem d_Loom_step_82 : decode b_Loom_step 82 = .ok (.iload_n 3, 1) := by decide +kernel
theorem d_Loom_step_83 : decode b_Loom_step 83 = .ok (.ireturn, 1) := by decide +kernel
theorem d_Loom_step_84 : decode b_Loom_step 84 = .ok (.aload_n 0, 1) := by decide +kernel
theorem d_Loom_step_85 : decode b_Loom_step 85 = .ok (.getfield 42, 3) := by decide +kernel
theorem d_Loom_step_88 : decode b_Loom_step 88 = .ok (.aload_n 2, 1) := by decide +kernel
theorem d_Loom_step_89 : decode b_Loom_step 89 = .ok (.aload_n 0, 1) := by decide +kernel
theorem d_Loom_step_90 : decode b_Loom_step 90 = .ok (.getfield 21, 3) := by decide +kernel
theorem d_Loom_step_93 : decode b_Loom_step 93 = .ok (.invokevirtual 143, 3) := by decide +kernel
theorem d_Loom_step_96 : decode b_Loom_step 96 = .ok (.iinc 3 1, 3) := by decide +kernel
theorem d_Loom_step_99 : decode b_Loom_step 99 = .ok (.goto (-33), 3) := by decide +kernel
theorem d_Loom_step_102 : decode b_Loom_step 102 = .ok (.iload_n 1, 1) := by decide +kernel
theorem d_Loom_step_103 : decode b_Loom_step 103 = .ok (.ireturn, 1) := by decide +kernel
set_option maxHeartbeats 4000000 in
theorem c_Run_advance (l : Launch) (D : va_G) (cI cZ cL : ClassId) (r b1 b2 b3 b4 : Nat) (sa ca ta tn : Nat → Int32) (how stat pl : Nat) (sk stt dn : Nat) (v v1 v2 M z : Nat) (P K : Nat → Int32) (h a1 a2 a3 n : Nat) (lo hi th : Nat → Int32) (o : Nat) (hM : M < 2 ^ 31) (hp : pl < M) (ho : P pl = nI o) (hs : okStep how th o (K pl) sk stt dn) : pl_V l y_Run_advance b_Run_advance 5 ({ frames := 3, cells := 0, slots := 0, locals := 67 } : Room) pl_E0 D classes (TY cI cZ cL) [.ref r, .ref v, .ref h] [(r, .inr (4, [.ref b1, .ref b2, .ref b3, .ref b4, .int (nI how), .int (nI 1), .int (nI pl), .int (nI sk), .int (nI stt), .int (nI dn)])), (b1, .inl (cI, 14, .inl sa)), (b2, .inl (cI, 8, .inl ca)), (b3, .inl (cI, 60, .inl ta)), (b4, .inl (cI, 60, .inl tn)), (v, .inr (0, [.ref v1, .ref v2, .int (nI z)])), (v1, .inl (cI, M, .inl P)), (v2, .inl (cI, M, .inl K)), (h, .inr (1, [.ref a1, .ref a2, .ref a3, .int (nI n)])), (a1, .inl (cI, 32, .inl lo)), (a2, .inl (cI, 32, .inl hi)), (a3, .inl (cI, 32, .inl th))] (fun u : RS => u = rstep how lo hi th o (K pl) pl sk stt dn sa ca ta tn) (fun (u : RS) => [(r, .inr (4, [.ref b1, .ref b2, .ref b3, .ref b4, .int (nI how), .int (nI u.1), .int (nI u.2.1), .int (nI u.2.2.1), .int (nI u.2.2.2.1), .int (nI u.2.2.2.2.1)])), (b1, .inl (cI, 14, .inl u.2.2.2.2.2.1)), (b2, .inl (cI, 8, .inl u.2.2.2.2.2.2.1)), (b3, .inl (cI, 60, .inl u.2.2.2.2.2.2.2.1)), (b4, .inl (cI, 60, .inl u.2.2.2.2.2.2.2.2)), (v, .inr (0, [.ref v1, .ref v2, .int (nI z)])), (v1, .inl (cI, M, .inl P)), (v2, .inl (cI, M, .inl K)), (h, .inr (1, [.ref a1, .ref a2, .ref a3, .int (nI n)])), (a1, .inl (cI, 32, .inl lo)), (a2, .inl (cI, 32, .inl hi)), (a3, .inl (cI, 32, .inl th))]) := by
  obtain ⟨s1, s2, s3, s4, s5, s6, s7, s8, s9, s10⟩ := hs
  rcases (show o = 0 ∨ o = 1 ∨ o = 2 ∨ o = 3 ∨ o = 4 ∨ o = 5 ∨ o = 6 ∨ o = 7 ∨ o = 8 ∨ o = 9 ∨ o = 10 ∨ o = 11 ∨ o = 12 by omega) with rfl | rfl | rfl | rfl | rfl | rfl | rfl | rfl | rfl | rfl | rfl | rfl | rfl
  · skip
    have s3 : sk + 1 ≤ 14 := by have e := s3; simp only [tkN, lvN, List.getD_cons_zero, List.getD_cons_succ] at e; omega
    exact pl_V_conv (c_Run_advance_0 l D cI cZ cL r b1 b2 b3 b4 sa ca ta tn how stat pl sk stt dn v v1 v2 M z P K h a1 a2 a3 n lo hi th hM hp ho (by omega)) (fun _ => (1, pl + 1, sk + 1, stt, dn, upd sa sk (K pl), ca, ta, tn)) (fun _ _ => rfl) (fun _ _ => rfl)
  · skip
    obtain ⟨q, rfl⟩ : ∃ q, sk = q + 1 := ⟨sk - 1, by have : 1 ≤ sk := s2; omega⟩
    have s3 : q ≤ 14 := by have e := s3; simp only [tkN, lvN, List.getD_cons_zero, List.getD_cons_succ] at e; omega
    exact pl_V_conv (c_Run_advance_1 l D cI cZ cL r b1 b2 b3 b4 sa ca ta tn how stat pl q stt dn v v1 v2 M z P K h a1 a2 a3 n lo hi th hM hp ho ) (fun _ => (1, pl + 1, q, stt, dn, sa, ca, ta, tn)) (fun _ _ => rfl) (fun _ _ => rfl)
  · skip
    obtain ⟨q, rfl⟩ : ∃ q, sk = q + 2 := ⟨sk - 2, by have : 2 ≤ sk := s2; omega⟩
    have s3 : q + 1 ≤ 14 := by have e := s3; simp only [tkN, lvN, List.getD_cons_zero, List.getD_cons_succ] at e; omega
    exact pl_V_conv (c_Run_advance_2 l D cI cZ cL r b1 b2 b3 b4 sa ca ta tn how stat pl q stt dn v v1 v2 M z P K h a1 a2 a3 n lo hi th hM hp ho (by omega)) (fun _ => (1, pl + 1, q + 1, stt, dn, upd sa q (sa q + sa (q + 1)), ca, ta, tn)) (fun _ _ => rfl) (fun _ _ => rfl)
  · skip
    obtain ⟨q, rfl⟩ : ∃ q, sk = q + 2 := ⟨sk - 2, by have : 2 ≤ sk := s2; omega⟩
    have s3 : q + 1 ≤ 14 := by have e := s3; simp only [tkN, lvN, List.getD_cons_zero, List.getD_cons_succ] at e; omega
    exact pl_V_conv (c_Run_advance_3 l D cI cZ cL r b1 b2 b3 b4 sa ca ta tn how stat pl q stt dn v v1 v2 M z P K h a1 a2 a3 n lo hi th hM hp ho (by omega)) (fun _ => (1, pl + 1, q + 1, stt, dn, upd sa q (sa q - sa (q + 1)), ca, ta, tn)) (fun _ _ => rfl) (fun _ _ => rfl)
  · skip
    obtain ⟨q, rfl⟩ : ∃ q, sk = q + 2 := ⟨sk - 2, by have : 2 ≤ sk := s2; omega⟩
    have s3 : q + 1 ≤ 14 := by have e := s3; simp only [tkN, lvN, List.getD_cons_zero, List.getD_cons_succ] at e; omega
    exact pl_V_conv (c_Run_advance_4 l D cI cZ cL r b1 b2 b3 b4 sa ca ta tn how stat pl q stt dn v v1 v2 M z P K h a1 a2 a3 n lo hi th hM hp ho (by omega)) (fun _ => (1, pl + 1, q + 1, stt, dn, upd sa q (if sa q < sa (q + 1) then 1 else 0), ca, ta, tn)) (fun _ _ => rfl) (fun _ _ => rfl)
  · skip
    have s3 : sk + 1 ≤ 14 := by have e := s3; simp only [tkN, lvN, List.getD_cons_zero, List.getD_cons_succ] at e; omega
    obtain ⟨k1, k2⟩ := kn_of (by omega) (s8 (by omega))
    exact pl_V_conv (c_Run_advance_5 l D cI cZ cL r b1 b2 b3 b4 sa ca ta tn how stat pl sk stt dn v v1 v2 M z P K h a1 a2 a3 n lo hi th (kn K pl) hM hp ho (by omega) k2 k1) (fun _ => (1, pl + 1, sk + 1, stt, dn, upd sa sk (ca (kn K pl)), ca, ta, tn)) (fun _ _ => rfl) (fun _ _ => rfl)
  · skip
    obtain ⟨q, rfl⟩ : ∃ q, sk = q + 1 := ⟨sk - 1, by have : 1 ≤ sk := s2; omega⟩
    have s3 : q ≤ 14 := by have e := s3; simp only [tkN, lvN, List.getD_cons_zero, List.getD_cons_succ] at e; omega
    obtain ⟨k1, k2⟩ := kn_of (by omega) (s8 (by omega))
    exact pl_V_conv (c_Run_advance_6 l D cI cZ cL r b1 b2 b3 b4 sa ca ta tn how stat pl q stt dn v v1 v2 M z P K h a1 a2 a3 n lo hi th (kn K pl) hM hp ho (by omega) k2 k1) (fun _ => (1, pl + 1, q, stt, dn, sa, upd ca (kn K pl) (sa q), ta, tn)) (fun _ _ => rfl) (fun _ _ => rfl)
  · skip
    have s3 : sk ≤ 14 := by have e := s3; simp only [tkN, lvN, List.getD_cons_zero, List.getD_cons_succ] at e; omega
    obtain ⟨k1, k2⟩ := kn_of (by omega) (s9 (by omega))
    exact pl_V_conv (c_Run_advance_7 l D cI cZ cL r b1 b2 b3 b4 sa ca ta tn how stat pl sk stt dn v v1 v2 M z P K h a1 a2 a3 n lo hi th (kn K pl) hM hp ho k1) (fun _ => (1, kn K pl, sk, stt, dn, sa, ca, ta, tn)) (fun _ _ => rfl) (fun _ _ => rfl)
  · skip
    obtain ⟨q, rfl⟩ : ∃ q, sk = q + 1 := ⟨sk - 1, by have : 1 ≤ sk := s2; omega⟩
    have s3 : q ≤ 14 := by have e := s3; simp only [tkN, lvN, List.getD_cons_zero, List.getD_cons_succ] at e; omega
    obtain ⟨k1, k2⟩ := kn_of (by omega) (s9 (by omega))
    exact pl_V_conv (c_Run_advance_8 l D cI cZ cL r b1 b2 b3 b4 sa ca ta tn how stat pl q stt dn v v1 v2 M z P K h a1 a2 a3 n lo hi th (kn K pl) hM hp ho (by omega) k1) (fun _ => (1, (if sa q = 0 then pl + 1 else kn K pl), q, stt, dn, sa, ca, ta, tn)) (fun _ _ => rfl) (fun _ _ => rfl)
  · skip
    obtain ⟨q, rfl⟩ : ∃ q, sk = q + 1 := ⟨sk - 1, by have : 1 ≤ sk := s2; omega⟩
    have s3 : q ≤ 14 := by have e := s3; simp only [tkN, lvN, List.getD_cons_zero, List.getD_cons_succ] at e; omega
    obtain ⟨k1, k2⟩ := kn_of (by omega) (s10 rfl).1
    exact pl_V_conv (c_Run_advance_9 l D cI cZ cL r b1 b2 b3 b4 sa ca ta tn how stat pl q stt dn v v1 v2 M z P K h a1 a2 a3 n lo hi th (kn K pl) (th (stt * 8 + kn K pl)).toNatClampNeg hM hp ho s5 (by omega) s6 k2 s7 (s10 rfl).2 k1) (fun u => (u.1, u.2.1, u.2.2.1, u.2.2.2.1, u.2.2.2.2.1, sa, ca, u.2.2.2.2.2.1, u.2.2.2.2.2.2)) (fun u hu => by rw [hu]; rfl) (fun u hu => rfl)
  · skip
    obtain ⟨q, rfl⟩ : ∃ q, sk = q + 2 := ⟨sk - 2, by have : 2 ≤ sk := s2; omega⟩
    have s3 : q + 2 ≤ 14 := by have e := s3; simp only [tkN, lvN, List.getD_cons_zero, List.getD_cons_succ] at e; omega
    exact pl_V_conv (c_Run_advance_10 l D cI cZ cL r b1 b2 b3 b4 sa ca ta tn how stat pl q stt dn v v1 v2 M z P K h a1 a2 a3 n lo hi th hM hp ho (by omega)) (fun _ => (1, pl + 1, q + 2, stt, dn, upd (upd sa q (sa (q + 1))) (q + 1) (sa q), ca, ta, tn)) (fun _ _ => rfl) (fun _ _ => rfl)
  · skip
    obtain ⟨q, rfl⟩ : ∃ q, sk = q + 1 := ⟨sk - 1, by have : 1 ≤ sk := s2; omega⟩
    have s3 : q + 2 ≤ 14 := by have e := s3; simp only [tkN, lvN, List.getD_cons_zero, List.getD_cons_succ] at e; omega
    exact pl_V_conv (c_Run_advance_11 l D cI cZ cL r b1 b2 b3 b4 sa ca ta tn how stat pl q stt dn v v1 v2 M z P K h a1 a2 a3 n lo hi th hM hp ho (by omega)) (fun _ => (1, pl + 1, q + 2, stt, dn, upd sa (q + 1) (sa q), ca, ta, tn)) (fun _ _ => rfl) (fun _ _ => rfl)
  · skip
    have s3 : sk ≤ 14 := by have e := s3; simp only [tkN, lvN, List.getD_cons_zero, List.getD_cons_succ] at e; omega
    exact pl_V_conv (c_Run_advance_12 l D cI cZ cL r b1 b2 b3 b4 sa ca ta tn how stat pl sk stt dn v v1 v2 M z P K h a1 a2 a3 n lo hi th hM hp ho ) (fun _ => (2, pl, sk, stt, dn, sa, ca, ta, tn)) (fun _ _ => rfl) (fun _ _ => rfl)

set_option maxHeartbeats 4000000 in
set_option maxRecDepth 100000 in
theorem c_Loom_step_p (l : Launch) (D : va_G) (cI cZ cL : ClassId) (t1 t2 : Nat) (x0 p0 p1 p2 h a1 a2 a3 e0 e1 e2 w w1 v v1 v2 r b1 b2 b3 b4 : Nat) (P K lo hi th F Qu fo f g sa ca ta tn : Nat → Int32) (np n qd z how stat pl q stt dn : Nat) (b ex wv : Bool) (x : Int32) (hl0 : l.stackTraces = false) (J : RS → Prop) (hJ4 : ∀ s, J s → s.1 ≤ 4) (hJ : ∀ s, J s → s.1 = 1 → s.2.1 < 24 ∧ P s.2.1 = nI (opn P s.2.1) ∧ okStep how th (opn P s.2.1) (K s.2.1) s.2.2.1 s.2.2.2.1 s.2.2.2.2.1 ∧ J ((stepF how lo hi th P K) s)) (h0 : J (stat, pl, q, stt, dn, sa, ca, ta, tn)) (hhow : ¬ how = 1) (hh2 : how ≤ 2) : pl_TI l y_Loom_step b_Loom_step 4 .int ({ frames := 6, cells := 1, slots := 6, locals := 135 } : Room) (EX t1 t2) D classes (TY cI cZ cL) [.ref x0, .int x] [(x0, .inr (5, [.ref p0, .ref h, .ref e0, .ref w, .ref r, .int (bI (ex)), .int (bI (wv))])), (p0, .inr (0, [.ref p1, .ref p2, .int (nI np)])), (p1, .inl (cI, 24, .inl P)), (p2, .inl (cI, 24, .inl K)), (h, .inr (1, [.ref a1, .ref a2, .ref a3, .int (nI n)])), (a1, .inl (cI, 32, .inl lo)), (a2, .inl (cI, 32, .inl hi)), (a3, .inl (cI, 32, .inl th)), (r, .inr (4, [.ref b1, .ref b2, .ref b3, .ref b4, .int (nI how), .int (nI stat), .int (nI pl), .int (nI q), .int (nI stt), .int (nI dn)])), (b1, .inl (cI, 14, .inl sa)), (b2, .inl (cI, 8, .inl ca)), (b3, .inl (cI, 60, .inl ta)), (b4, .inl (cI, 60, .inl tn))] (fun (rr : Int32) (u : RS) => ∃ N0, N0 ≤ 2000 ∧ x = nI N0 ∧ ¬ stat = 0 ∧ rr = nI (runN (stepF how lo hi th P K) N0 (stat, pl, q, stt, dn, sa, ca, ta, tn)).1 ∧ u = (runN (stepF how lo hi th P K) N0 (stat, pl, q, stt, dn, sa, ca, ta, tn)).2 ∧ J u) (fun (u : RS) => [(x0, .inr (5, [.ref p0, .ref h, .ref e0, .ref w, .ref r, .int (bI (ex)), .int (bI (wv))])), (p0, .inr (0, [.ref p1, .ref p2, .int (nI np)])), (p1, .inl (cI, 24, .inl P)), (p2, .inl (cI, 24, .inl K)), (h, .inr (1, [.ref a1, .ref a2, .ref a3, .int (nI n)])), (a1, .inl (cI, 32, .inl lo)), (a2, .inl (cI, 32, .inl hi)), (a3, .inl (cI, 32, .inl th)), (r, .inr (4, [.ref b1, .ref b2, .ref b3, .ref b4, .int (nI how), .int (nI u.1), .int (nI u.2.1), .int (nI u.2.2.1), .int (nI u.2.2.2.1), .int (nI u.2.2.2.2.1)])), (b1, .inl (cI, 14, .inl u.2.2.2.2.2.1)), (b2, .inl (cI, 8, .inl u.2.2.2.2.2.2.1)), (b3, .inl (cI, 60, .inl u.2.2.2.2.2.2.2.1)), (b4, .inl (cI, 60, .inl u.2.2.2.2.2.2.2.2))]) (fun (Nm : String) (_ : Unit) => (Nm = iseS ∧ stat = 0) ∨ (Nm = iaeS ∧ ¬ stat = 0 ∧ inB x 2001 = false)) (fun (_ : Unit) => [(x0, .inr (5, [.ref p0, .ref h, .ref e0, .ref w, .ref r, .int (bI (ex)), .int (bI (wv))])), (p0, .inr (0, [.ref p1, .ref p2, .int (nI np)])), (p1, .inl (cI, 24, .inl P)), (p2, .inl (cI, 24, .inl K)), (h, .inr (1, [.ref a1, .ref a2, .ref a3, .int (nI n)])), (a1, .inl (cI, 32, .inl lo)), (a2, .inl (cI, 32, .inl hi)), (a3, .inl (cI, 32, .inl th)), (r, .inr (4, [.ref b1, .ref b2, .ref b3, .ref b4, .int (nI how), .int (nI stat), .int (nI pl), .int (nI q), .int (nI stt), .int (nI dn)])), (b1, .inl (cI, 14, .inl sa)), (b2, .inl (cI, 8, .inl ca)), (b3, .inl (cI, 60, .inl ta)), (b4, .inl (cI, 60, .inl tn))]) := by
  refine pl_startTI (by decide) (Nat.le_of_ble_eq_true rfl) ?_
  intro p e s m args below meth c A ls X hr hlk hno hK hP hD hS hA hE hl
  have X : CallFix p m c b_Loom_step 4 s args TG R_Loom := X
  have hx := X.1
  have hb := X.2.1
  have hl : lv_has ls 4 [(0, .ref x0), (1, .int x)] := hl
  have hst4 : stat ≤ 4 := hJ4 _ h0
  refine lv_aload_n hx hb d_Loom_step_0 rfl (lv_at hl 0 rfl) ?_
  refine pl_get X fw_Loom_42 hK hP 0 rfl (v := .ref r) rfl d_Loom_step_1 ?_
  refine pl_get X fw_Loom_130 hK hP 8 rfl (v := .int (nI stat)) rfl d_Loom_step_4 ?_
  refine pl_if_ne X (by omega) d_Loom_step_7 rfl (fun g7 => ?_) (fun g7 => ?_)
  · skip
    refine lv_iload_n hx hb d_Loom_step_20 rfl (lv_at hl 1 rfl) ?_
    refine lv_if_lt hx hb d_Loom_step_21 rfl (fun g21 => ?_) (fun g21 => ?_)
    · skip
      exact pl_throw (is := 138) (text := "no such number of steps") X hl0 xw_iaeS hE (by decide +kernel) hno hlk hK () (Or.inr ⟨rfl, g7, inB_lo g21⟩) hP hD hS hl.1 d_Loom_step_31 d_Loom_step_34 d_Loom_step_35 d_Loom_step_37 d_Loom_step_40 (by decide) (Nat.le_of_ble_eq_true rfl) (by decide) (by decide) (by decide) (by decide)
    · skip
      refine lv_iload_n hx hb d_Loom_step_24 rfl (lv_at hl 1 rfl) ?_
      refine lv_sipush (v := nI 2000) hx hb d_Loom_step_25 (by decide) ?_
      refine lv_icmp_le hx hb d_Loom_step_28 rfl (fun g28 => ?_) (fun g28 => ?_)
      · skip
        obtain ⟨N0, hN0, hxj⟩ := inB_of (by omega) (inB_le_t (m := 2000) (by omega) g21 g28)
        have hl : lv_has ls 4 [(0, .ref x0), (1, .int (nI N0))] := by rw [← hxj]; exact hl
        refine lv_aload_n hx hb d_Loom_step_41 rfl (lv_at hl 0 rfl) ?_
        refine pl_get X fw_Loom_42 hK hP 0 rfl (v := .ref r) rfl d_Loom_step_42 ?_
        refine pl_get X fw_Loom_140 hK hP 8 rfl (v := .int (nI how)) rfl d_Loom_step_45 ?_
        refine lv_iconst (v := nI 1) hx hb d_Loom_step_48 (by decide) ?_
        refine pl_icmp_ne X (by omega) (by decide) d_Loom_step_49 rfl (fun g49 => ?_) (fun g49 => ?_)
        · skip
          refine lv_aload_n hx hb d_Loom_step_59 rfl (lv_at hl 0 rfl) ?_
          refine pl_get X fw_Loom_14 hK hP 0 rfl (v := .ref p0) rfl d_Loom_step_60 ?_
          refine lv_astore_n hx hb d_Loom_step_63 rfl hl (by decide) (lv' := [(2, .ref p0), (0, .ref x0), (1, .int (nI N0))]) rfl (fun ls hl => ?_)
          refine lv_iconst (v := nI 0) hx hb d_Loom_step_64 (by decide) ?_
          refine lv_istore_n hx hb d_Loom_step_65 rfl hl (by decide) (lv' := [(3, .int (nI 0)), (2, .ref p0), (0, .ref x0), (1, .int (nI N0))]) rfl (fun ls hl => ?_)
          have loop_66 : ∀ (k : Nat) (i : Nat) (rs : RS) (H : Heap) (locs : List Loc) (ls : Array Slot), N0 - i = k → (i ≤ N0) → (J rs) → (runN (stepF how lo hi th P K) N0 (stat, pl, q, stt, dn, sa, ca, ta, tn) = ((runN (stepF how lo hi th P K) (N0 - i) rs).1 + i, (runN (stepF how lo hi th P K) (N0 - i) rs).2)) → va_P D classes [(x0, .inr (5, [.ref p0, .ref h, .ref e0, .ref w, .ref r, .int (bI (ex)), .int (bI (wv))])), (p0, .inr (0, [.ref p1, .ref p2, .int (nI np)])), (p1, .inl (cI, 24, .inl P)), (p2, .inl (cI, 24, .inl K)), (h, .inr (1, [.ref a1, .ref a2, .ref a3, .int (nI n)])), (a1, .inl (cI, 32, .inl lo)), (a2, .inl (cI, 32, .inl hi)), (a3, .inl (cI, 32, .inl th)), (r, .inr (4, [.ref b1, .ref b2, .ref b3, .ref b4, .int (nI how), .int (nI rs.1), .int (nI rs.2.1), .int (nI rs.2.2.1), .int (nI rs.2.2.2.1), .int (nI rs.2.2.2.2.1)])), (b1, .inl (cI, 14, .inl rs.2.2.2.2.2.1)), (b2, .inl (cI, 8, .inl rs.2.2.2.2.2.2.1)), (b3, .inl (cI, 60, .inl rs.2.2.2.2.2.2.2.1)), (b4, .inl (cI, 60, .inl rs.2.2.2.2.2.2.2.2))] H → va_D A [(x0, .inr (5, [.ref p0, .ref h, .ref e0, .ref w, .ref r, .int (bI (ex)), .int (bI (wv))])), (p0, .inr (0, [.ref p1, .ref p2, .int (nI np)])), (p1, .inl (cI, 24, .inl P)), (p2, .inl (cI, 24, .inl K)), (h, .inr (1, [.ref a1, .ref a2, .ref a3, .int (nI n)])), (a1, .inl (cI, 32, .inl lo)), (a2, .inl (cI, 32, .inl hi)), (a3, .inl (cI, 32, .inl th)), (r, .inr (4, [.ref b1, .ref b2, .ref b3, .ref b4, .int (nI how), .int (nI rs.1), .int (nI rs.2.1), .int (nI rs.2.2.1), .int (nI rs.2.2.2.1), .int (nI rs.2.2.2.2.1)])), (b1, .inl (cI, 14, .inl rs.2.2.2.2.2.1)), (b2, .inl (cI, 8, .inl rs.2.2.2.2.2.2.1)), (b3, .inl (cI, 60, .inl rs.2.2.2.2.2.2.2.1)), (b4, .inl (cI, 60, .inl rs.2.2.2.2.2.2.2.2))] → va_S A s.heap H locs → lv_has ls 4 [(3, .int (nI i)), (2, .ref p0), (0, .ref x0), (1, .int (nI N0))] → W p l e ({ frames := 6, cells := 1, slots := 6, locals := 135 } : Room) s m args below meth c H locs 0 0 (vx_MQ below (va_Qi (fun (rr : Int32) (u : RS) => ∃ N0, N0 ≤ 2000 ∧ x = nI N0 ∧ ¬ stat = 0 ∧ rr = nI (runN (stepF how lo hi th P K) N0 (stat, pl, q, stt, dn, sa, ca, ta, tn)).1 ∧ u = (runN (stepF how lo hi th P K) N0 (stat, pl, q, stt, dn, sa, ca, ta, tn)).2 ∧ J u) (fun u => pl_out D classes (TY cI cZ cL) A ((fun (u : RS) => [(x0, .inr (5, [.ref p0, .ref h, .ref e0, .ref w, .ref r, .int (bI (ex)), .int (bI (wv))])), (p0, .inr (0, [.ref p1, .ref p2, .int (nI np)])), (p1, .inl (cI, 24, .inl P)), (p2, .inl (cI, 24, .inl K)), (h, .inr (1, [.ref a1, .ref a2, .ref a3, .int (nI n)])), (a1, .inl (cI, 32, .inl lo)), (a2, .inl (cI, 32, .inl hi)), (a3, .inl (cI, 32, .inl th)), (r, .inr (4, [.ref b1, .ref b2, .ref b3, .ref b4, .int (nI how), .int (nI u.1), .int (nI u.2.1), .int (nI u.2.2.1), .int (nI u.2.2.2.1), .int (nI u.2.2.2.2.1)])), (b1, .inl (cI, 14, .inl u.2.2.2.2.2.1)), (b2, .inl (cI, 8, .inl u.2.2.2.2.2.2.1)), (b3, .inl (cI, 60, .inl u.2.2.2.2.2.2.2.1)), (b4, .inl (cI, 60, .inl u.2.2.2.2.2.2.2.2))]) u)) A) (pl_XC (fun (Nm : String) (_ : Unit) => (Nm = iseS ∧ stat = 0) ∨ (Nm = iaeS ∧ ¬ stat = 0 ∧ inB x 2001 = false)) D classes (TY cI cZ cL) A (fun (_ : Unit) => [(x0, .inr (5, [.ref p0, .ref h, .ref e0, .ref w, .ref r, .int (bI (ex)), .int (bI (wv))])), (p0, .inr (0, [.ref p1, .ref p2, .int (nI np)])), (p1, .inl (cI, 24, .inl P)), (p2, .inl (cI, 24, .inl K)), (h, .inr (1, [.ref a1, .ref a2, .ref a3, .int (nI n)])), (a1, .inl (cI, 32, .inl lo)), (a2, .inl (cI, 32, .inl hi)), (a3, .inl (cI, 32, .inl th)), (r, .inr (4, [.ref b1, .ref b2, .ref b3, .ref b4, .int (nI how), .int (nI stat), .int (nI pl), .int (nI q), .int (nI stt), .int (nI dn)])), (b1, .inl (cI, 14, .inl sa)), (b2, .inl (cI, 8, .inl ca)), (b3, .inl (cI, 60, .inl ta)), (b4, .inl (cI, 60, .inl tn))])) args s 1 6 A) (F0 m 66 ls []) := by
            intro k
            induction k using Nat.strongRecOn with
            | _ k ih =>
            intro i rs H locs ls hk hi0 hs he hP hD hS hl
            have hs4 := hJ4 rs hs
            refine lv_iload_n hx hb d_Loom_step_66 rfl (lv_at hl 0 rfl) ?_
            refine lv_iload_n hx hb d_Loom_step_67 rfl (lv_at hl 3 rfl) ?_
            refine pl_icmp_ge X (by omega) (by omega) d_Loom_step_68 rfl (fun g68 => ?_) (fun g68 => ?_)
            · skip
              refine lv_iload_n hx hb d_Loom_step_102 rfl (lv_at hl 3 rfl) ?_
              exact pl_iretT X hr hlk hK rfl rs ⟨N0, by omega, hxj, g7, by rw [run_end he g68]; exact congrArg nI (by omega), by rw [run_end he g68], hs⟩ hP hD hS (by decide) (by decide) d_Loom_step_103
            · skip
              refine lv_aload_n hx hb d_Loom_step_71 rfl (lv_at hl 2 rfl) ?_
              refine pl_get X fw_Loom_42 hK hP 0 rfl (v := .ref r) rfl d_Loom_step_72 ?_
              refine pl_get X fw_Loom_130 hK hP 8 rfl (v := .int (nI rs.1)) rfl d_Loom_step_75 ?_
              refine lv_iconst (v := nI 1) hx hb d_Loom_step_78 (by decide) ?_
              refine pl_icmp_eq X (by omega) (by decide) d_Loom_step_79 rfl (fun g79 => ?_) (fun g79 => ?_)
              · skip
                obtain ⟨k1, k2, k3, k4⟩ := hJ rs hs g79
                rw [g79] at hP hD
                have hj1 := k1
                have hj2 := k2
                have hj3 := k3
                refine lv_aload_n hx hb d_Loom_step_84 rfl (lv_at hl 2 rfl) ?_
                refine pl_get X fw_Loom_42 hK hP 0 rfl (v := .ref r) rfl d_Loom_step_85 ?_
                refine lv_aload_n hx hb d_Loom_step_88 rfl (lv_at hl 1 rfl) ?_
                refine lv_aload_n hx hb d_Loom_step_89 rfl (lv_at hl 2 rfl) ?_
                refine pl_get X fw_Loom_21 hK hP 0 rfl (v := .ref h) rfl d_Loom_step_90 ?_
                refine pl_callVV X (rest := []) (As := [.ref p0, .ref h]) (b := r) (c_Run_advance l D cI cZ cL r b1 b2 b3 b4 rs.2.2.2.2.2.1 rs.2.2.2.2.2.2.1 rs.2.2.2.2.2.2.2.1 rs.2.2.2.2.2.2.2.2 how 1 rs.2.1 rs.2.2.1 rs.2.2.2.1 rs.2.2.2.2.1 p0 p1 p2 24 np P K h a1 a2 a3 n lo hi th (opn P rs.2.1) (by decide) hj1 hj2 hj3) ck_Loom_143 pl_E0_ok trivial hK hP hD hS hA (T := F_Run) (N := N_Run) (ci := 4) rfl 8 rfl [8, 9, 10, 11, 12, 1, 2, 3, 4, 5, 6, 7] [0] [0, 6, 7, 8, 9, 10, 11, 12, 1, 2, 3, 4, 5] rfl (by decide) (wr := [(x0, .inr (5, [.ref p0, .ref h, .ref e0, .ref w, .ref r, .int (bI (ex)), .int (bI (wv))]))]) rfl (by decide) (by decide) (wf := fun (u0s : RS) => [(x0, .inr (5, [.ref p0, .ref h, .ref e0, .ref w, .ref r, .int (bI (ex)), .int (bI (wv))])), (p0, .inr (0, [.ref p1, .ref p2, .int (nI np)])), (p1, .inl (cI, 24, .inl P)), (p2, .inl (cI, 24, .inl K)), (h, .inr (1, [.ref a1, .ref a2, .ref a3, .int (nI n)])), (a1, .inl (cI, 32, .inl lo)), (a2, .inl (cI, 32, .inl hi)), (a3, .inl (cI, 32, .inl th)), (r, .inr (4, [.ref b1, .ref b2, .ref b3, .ref b4, .int (nI how), .int (nI u0s.1), .int (nI u0s.2.1), .int (nI u0s.2.2.1), .int (nI u0s.2.2.2.1), .int (nI u0s.2.2.2.2.1)])), (b1, .inl (cI, 14, .inl u0s.2.2.2.2.2.1)), (b2, .inl (cI, 8, .inl u0s.2.2.2.2.2.2.1)), (b3, .inl (cI, 60, .inl u0s.2.2.2.2.2.2.2.1)), (b4, .inl (cI, 60, .inl u0s.2.2.2.2.2.2.2.2))]) (fun _ => rfl) (by decide) rfl hl.1 rfl (Nat.le_of_ble_eq_true rfl) (by decide) (by decide) d_Loom_step_93 (fun u0s H locs hcq hP hD hS => ?_)
                refine lv_iinc hx hb d_Loom_step_96 hl (k := 0) rfl (nI_inc1 _) (by decide) (lv' := [(3, .int (nI (i + 1))), (2, .ref p0), (0, .ref x0), (1, .int (nI N0))]) rfl (fun ls hl => ?_)
                refine lv_goto hx hb d_Loom_step_99 rfl ?_
                exact ih _ (by omega) (i + 1) u0s _ _ _ rfl (by omega) (by rw [hcq]; exact k4) (by rw [hcq]; exact run_next he g68 g79) hP hD hS hl
              · skip
                refine lv_iload_n hx hb d_Loom_step_82 rfl (lv_at hl 0 rfl) ?_
                exact pl_iretT X hr hlk hK rfl rs ⟨N0, by omega, hxj, g7, by rw [run_stop he g79], by rw [run_stop he g79], hs⟩ hP hD hS (by decide) (by decide) d_Loom_step_83
          exact loop_66 _ 0 ((stat, pl, q, stt, dn, sa, ca, ta, tn)) _ _ _ rfl (Nat.zero_le _) h0 rfl hP hD hS hl
        · skip
          exact absurd g49 hhow
      · skip
        exact pl_throw (is := 138) (text := "no such number of steps") X hl0 xw_iaeS hE (by decide +kernel) hno hlk hK () (Or.inr ⟨rfl, g7, inB_le_f (by omega) g28⟩) hP hD hS hl.1 d_Loom_step_31 d_Loom_step_34 d_Loom_step_35 d_Loom_step_37 d_Loom_step_40 (by decide) (Nat.le_of_ble_eq_true rfl) (by decide) (by decide) (by decide) (by decide)
  · skip
    exact pl_throw (is := 135) (text := "no run") X hl0 xw_iseS hE (by decide +kernel) hno hlk hK () (Or.inl ⟨rfl, g7⟩) hP hD hS hl.1 d_Loom_step_10 d_Loom_step_13 d_Loom_step_14 d_Loom_step_16 d_Loom_step_19 (by decide) (Nat.le_of_ble_eq_true rfl) (by decide) (by decide) (by decide) (by decide)

set_option maxHeartbeats 4000000 in
set_option maxRecDepth 100000 in
theorem c_Loom_step_w (l : Launch) (D : va_G) (cI cZ cL : ClassId) (t1 t2 : Nat) (x0 p0 p1 p2 h a1 a2 a3 e0 e1 e2 w w1 v v1 v2 r b1 b2 b3 b4 : Nat) (P K lo hi th F Qu fo f g sa ca ta tn : Nat → Int32) (np n qd z how stat pl q stt dn : Nat) (b ex wv : Bool) (x : Int32) (hl0 : l.stackTraces = false) (J : RS → Prop) (hJ4 : ∀ s, J s → s.1 ≤ 4) (hJ : ∀ s, J s → s.1 = 1 → s.2.1 < plc P K th n np ∧ (fun j => (wO P K th n np).getD j 0) s.2.1 = nI (opn (fun j => (wO P K th n np).getD j 0) s.2.1) ∧ okStep how th (opn (fun j => (wO P K th n np).getD j 0) s.2.1) ((fun j => (wK P K lo hi th n np).getD j 0) s.2.1) s.2.2.1 s.2.2.2.1 s.2.2.2.2.1 ∧ J ((stepF how lo hi th (fun j => (wO P K th n np).getD j 0) (fun j => (wK P K lo hi th n np).getD j 0)) s)) (h0 : J (stat, pl, q, stt, dn, sa, ca, ta, tn)) (hhow : how = 1) (hn : n ≤ 4) (hnp : np ≤ 24) (hop : okP P np) (hok : okK P K np) (hwv : wv = true → woP P K lo hi th n np f g z) : pl_TI l y_Loom_step b_Loom_step 4 .int ({ frames := 6, cells := 1, slots := 6, locals := 135 } : Room) (EX t1 t2) D classes (TY cI cZ cL) [.ref x0, .int x] [(x0, .inr (5, [.ref p0, .ref h, .ref e0, .ref w, .ref r, .int (bI (ex)), .int (bI (wv))])), (p0, .inr (0, [.ref p1, .ref p2, .int (nI np)])), (p1, .inl (cI, 24, .inl P)), (p2, .inl (cI, 24, .inl K)), (h, .inr (1, [.ref a1, .ref a2, .ref a3, .int (nI n)])), (a1, .inl (cI, 32, .inl lo)), (a2, .inl (cI, 32, .inl hi)), (a3, .inl (cI, 32, .inl th)), (w, .inr (3, [.ref v, .ref w1])), (w1, .inl (cI, 24, .inl fo)), (v, .inr (0, [.ref v1, .ref v2, .int (nI z)])), (v1, .inl (cI, 1584, .inl f)), (v2, .inl (cI, 1584, .inl g)), (r, .inr (4, [.ref b1, .ref b2, .ref b3, .ref b4, .int (nI how), .int (nI stat), .int (nI pl), .int (nI q), .int (nI stt), .int (nI dn)])), (b1, .inl (cI, 14, .inl sa)), (b2, .inl (cI, 8, .inl ca)), (b3, .inl (cI, 60, .inl ta)), (b4, .inl (cI, 60, .inl tn))] (fun (rr : Int32) (u : (RS × WS)) => ∃ N0, N0 ≤ 2000 ∧ x = nI N0 ∧ ¬ stat = 0 ∧ rr = nI (runN (stepF how lo hi th (fun j => (wO P K th n np).getD j 0) (fun j => (wK P K lo hi th n np).getD j 0)) N0 (stat, pl, q, stt, dn, sa, ca, ta, tn)).1 ∧ u.1 = (runN (stepF how lo hi th (fun j => (wO P K th n np).getD j 0) (fun j => (wK P K lo hi th n np).getD j 0)) N0 (stat, pl, q, stt, dn, sa, ca, ta, tn)).2 ∧ J u.1 ∧ woP P K lo hi th n np u.2.2.1 u.2.2.2.1 u.2.2.2.2) (fun (u : (RS × WS)) => [(x0, .inr (5, [.ref p0, .ref h, .ref e0, .ref w, .ref r, .int (bI (ex)), .int (bI (true))])), (p0, .inr (0, [.ref p1, .ref p2, .int (nI np)])), (p1, .inl (cI, 24, .inl P)), (p2, .inl (cI, 24, .inl K)), (h, .inr (1, [.ref a1, .ref a2, .ref a3, .int (nI n)])), (a1, .inl (cI, 32, .inl lo)), (a2, .inl (cI, 32, .inl hi)), (a3, .inl (cI, 32, .inl th)), (w, .inr (3, [.ref v, .ref w1])), (w1, .inl (cI, 24, .inl u.2.1)), (v, .inr (0, [.ref v1, .ref v2, .int (nI u.2.2.2.2)])), (v1, .inl (cI, 1584, .inl u.2.2.1)), (v2, .inl (cI, 1584, .inl u.2.2.2.1)), (r, .inr (4, [.ref b1, .ref b2, .ref b3, .ref b4, .int (nI how), .int (nI u.1.1), .int (nI u.1.2.1), .int (nI u.1.2.2.1), .int (nI u.1.2.2.2.1), .int (nI u.1.2.2.2.2.1)])), (b1, .inl (cI, 14, .inl u.1.2.2.2.2.2.1)), (b2, .inl (cI, 8, .inl u.1.2.2.2.2.2.2.1)), (b3, .inl (cI, 60, .inl u.1.2.2.2.2.2.2.2.1)), (b4, .inl (cI, 60, .inl u.1.2.2.2.2.2.2.2.2))]) (fun (Nm : String) (_ : Unit) => (Nm = iseS ∧ stat = 0) ∨ (Nm = iaeS ∧ ¬ stat = 0 ∧ inB x 2001 = false)) (fun (_ : Unit) => [(x0, .inr (5, [.ref p0, .ref h, .ref e0, .ref w, .ref r, .int (bI (ex)), .int (bI (wv))])), (p0, .inr (0, [.ref p1, .ref p2, .int (nI np)])), (p1, .inl (cI, 24, .inl P)), (p2, .inl (cI, 24, .inl K)), (h, .inr (1, [.ref a1, .ref a2, .ref a3, .int (nI n)])), (a1, .inl (cI, 32, .inl lo)), (a2, .inl (cI, 32, .inl hi)), (a3, .inl (cI, 32, .inl th)), (w, .inr (3, [.ref v, .ref w1])), (w1, .inl (cI, 24, .inl fo)), (v, .inr (0, [.ref v1, .ref v2, .int (nI z)])), (v1, .inl (cI, 1584, .inl f)), (v2, .inl (cI, 1584, .inl g)), (r, .inr (4, [.ref b1, .ref b2, .ref b3, .ref b4, .int (nI how), .int (nI stat), .int (nI pl), .int (nI q), .int (nI stt), .int (nI dn)])), (b1, .inl (cI, 14, .inl sa)), (b2, .inl (cI, 8, .inl ca)), (b3, .inl (cI, 60, .inl ta)), (b4, .inl (cI, 60, .inl tn))]) := by
  refine pl_startTI (by decide) (Nat.le_of_ble_eq_true rfl) ?_
  intro p e s m args below meth c A ls X hr hlk hno hK hP hD hS hA hE hl
  have X : CallFix p m c b_Loom_step 4 s args TG R_Loom := X
  have hx := X.1
  have hb := X.2.1
  have hl : lv_has ls 4 [(0, .ref x0), (1, .int x)] := hl
  have hst4 : stat ≤ 4 := hJ4 _ h0
  refine lv_aload_n hx hb d_Loom_step_0 rfl (lv_at hl 0 rfl) ?_
  refine pl_get X fw_Loom_42 hK hP 0 rfl (v := .ref r) rfl d_Loom_step_1 ?_
  refine pl_get X fw_Loom_130 hK hP 13 rfl (v := .int (nI stat)) rfl d_Loom_step_4 ?_
  refine pl_if_ne X (by omega) d_Loom_step_7 rfl (fun g7 => ?_) (fun g7 => ?_)
  · skip
    refine lv_iload_n hx hb d_Loom_step_20 rfl (lv_at hl 1 rfl) ?_
    refine lv_if_lt hx hb d_Loom_step_21 rfl (fun g21 => ?_) (fun g21 => ?_)
    · skip
      exact pl_throw (is := 138) (text := "no such number of steps") X hl0 xw_iaeS hE (by decide +kernel) hno hlk hK () (Or.inr ⟨rfl, g7, inB_lo g21⟩) hP hD hS hl.1 d_Loom_step_31 d_Loom_step_34 d_Loom_step_35 d_Loom_step_37 d_Loom_step_40 (by decide) (Nat.le_of_ble_eq_true rfl) (by decide) (by decide) (by decide) (by decide)
    · skip
      refine lv_iload_n hx hb d_Loom_step_24 rfl (lv_at hl 1 rfl) ?_
      refine lv_sipush (v := nI 2000) hx hb d_Loom_step_25 (by decide) ?_
      refine lv_icmp_le hx hb d_Loom_step_28 rfl (fun g28 => ?_) (fun g28 => ?_)
      · skip
        obtain ⟨N0, hN0, hxj⟩ := inB_of (by omega) (inB_le_t (m := 2000) (by omega) g21 g28)
        have hl : lv_has ls 4 [(0, .ref x0), (1, .int (nI N0))] := by rw [← hxj]; exact hl
        refine lv_aload_n hx hb d_Loom_step_41 rfl (lv_at hl 0 rfl) ?_
        refine pl_get X fw_Loom_42 hK hP 0 rfl (v := .ref r) rfl d_Loom_step_42 ?_
        refine pl_get X fw_Loom_140 hK hP 13 rfl (v := .int (nI how)) rfl d_Loom_step_45 ?_
        refine lv_iconst (v := nI 1) hx hb d_Loom_step_48 (by decide) ?_
        refine pl_icmp_ne X (by omega) (by decide) d_Loom_step_49 rfl (fun g49 => ?_) (fun g49 => ?_)
        · skip
          exact absurd hhow g49
        · skip
          refine lv_aload_n hx hb d_Loom_step_52 rfl (lv_at hl 0 rfl) ?_
          refine pl_callVR X (rest := []) (As := []) (b := x0) (c_Loom_wovenListing l D cI cZ cL t1 t2 x0 p0 p1 p2 h a1 a2 a3 e0 e1 e2 w w1 v v1 v2 r b1 b2 b3 b4 P K lo hi th F Qu fo f g sa ca ta tn np n qd z how stat pl q stt dn b ex wv hn hnp hop hok hwv) ck_Loom_115 (EV_ok t1 t2) (pl_pass (EV_ok t1 t2) hE.1 hD hS hA [0, 1, 2, 3, 4, 5, 6, 7, 8, 9, 10, 11, 12] rfl) hK hP hD hS hA (T := F_Loom) (N := N_Loom) (ci := 5) rfl 0 rfl [0, 1, 2, 3, 4, 5, 6, 7, 8, 9, 10, 11, 12] [13, 14, 15, 16, 17] [5, 6, 7, 8, 9, 10, 11, 12, 13, 14, 15, 16, 17, 0, 1, 2, 3, 4] rfl (by decide) (wr := [(r, .inr (4, [.ref b1, .ref b2, .ref b3, .ref b4, .int (nI how), .int (nI stat), .int (nI pl), .int (nI q), .int (nI stt), .int (nI dn)])), (b1, .inl (cI, 14, .inl sa)), (b2, .inl (cI, 8, .inl ca)), (b3, .inl (cI, 60, .inl ta)), (b4, .inl (cI, 60, .inl tn))]) rfl (by decide) (by decide) (wf := fun (y : WS) => [(x0, .inr (5, [.ref p0, .ref h, .ref e0, .ref w, .ref r, .int (bI (ex)), .int (bI (true))])), (p0, .inr (0, [.ref p1, .ref p2, .int (nI np)])), (p1, .inl (cI, 24, .inl P)), (p2, .inl (cI, 24, .inl K)), (h, .inr (1, [.ref a1, .ref a2, .ref a3, .int (nI n)])), (a1, .inl (cI, 32, .inl lo)), (a2, .inl (cI, 32, .inl hi)), (a3, .inl (cI, 32, .inl th)), (w, .inr (3, [.ref v, .ref w1])), (w1, .inl (cI, 24, .inl y.1)), (v, .inr (0, [.ref v1, .ref v2, .int (nI y.2.2.2)])), (v1, .inl (cI, 1584, .inl y.2.1)), (v2, .inl (cI, 1584, .inl y.2.2.1)), (r, .inr (4, [.ref b1, .ref b2, .ref b3, .ref b4, .int (nI how), .int (nI stat), .int (nI pl), .int (nI q), .int (nI stt), .int (nI dn)])), (b1, .inl (cI, 14, .inl sa)), (b2, .inl (cI, 8, .inl ca)), (b3, .inl (cI, 60, .inl ta)), (b4, .inl (cI, 60, .inl tn))]) (fun _ => rfl) (by decide) rfl hl.1 rfl (Nat.le_of_ble_eq_true rfl) (by decide) (by decide) d_Loom_step_53 (fun y H locs hcq hP hD hS => ?_)
          have hwo := hcq
          refine lv_goto hx hb d_Loom_step_56 rfl ?_
          refine lv_astore_n hx hb d_Loom_step_63 rfl hl (by decide) (lv' := [(2, .ref v), (0, .ref x0), (1, .int (nI N0))]) rfl (fun ls hl => ?_)
          refine lv_iconst (v := nI 0) hx hb d_Loom_step_64 (by decide) ?_
          refine lv_istore_n hx hb d_Loom_step_65 rfl hl (by decide) (lv' := [(3, .int (nI 0)), (2, .ref v), (0, .ref x0), (1, .int (nI N0))]) rfl (fun ls hl => ?_)
          have loop_66 : ∀ (k : Nat) (i : Nat) (rs : RS) (H : Heap) (locs : List Loc) (ls : Array Slot), N0 - i = k → (i ≤ N0) → (J rs) → (runN (stepF how lo hi th (fun j => (wO P K th n np).getD j 0) (fun j => (wK P K lo hi th n np).getD j 0)) N0 (stat, pl, q, stt, dn, sa, ca, ta, tn) = ((runN (stepF how lo hi th (fun j => (wO P K th n np).getD j 0) (fun j => (wK P K lo hi th n np).getD j 0)) (N0 - i) rs).1 + i, (runN (stepF how lo hi th (fun j => (wO P K th n np).getD j 0) (fun j => (wK P K lo hi th n np).getD j 0)) (N0 - i) rs).2)) → va_P D classes [(x0, .inr (5, [.ref p0, .ref h, .ref e0, .ref w, .ref r, .int (bI (ex)), .int (bI (true))])), (p0, .inr (0, [.ref p1, .ref p2, .int (nI np)])), (p1, .inl (cI, 24, .inl P)), (p2, .inl (cI, 24, .inl K)), (h, .inr (1, [.ref a1, .ref a2, .ref a3, .int (nI n)])), (a1, .inl (cI, 32, .inl lo)), (a2, .inl (cI, 32, .inl hi)), (a3, .inl (cI, 32, .inl th)), (w, .inr (3, [.ref v, .ref w1])), (w1, .inl (cI, 24, .inl y.1)), (v, .inr (0, [.ref v1, .ref v2, .int (nI y.2.2.2)])), (v1, .inl (cI, 1584, .inl y.2.1)), (v2, .inl (cI, 1584, .inl y.2.2.1)), (r, .inr (4, [.ref b1, .ref b2, .ref b3, .ref b4, .int (nI how), .int (nI rs.1), .int (nI rs.2.1), .int (nI rs.2.2.1), .int (nI rs.2.2.2.1), .int (nI rs.2.2.2.2.1)])), (b1, .inl (cI, 14, .inl rs.2.2.2.2.2.1)), (b2, .inl (cI, 8, .inl rs.2.2.2.2.2.2.1)), (b3, .inl (cI, 60, .inl rs.2.2.2.2.2.2.2.1)), (b4, .inl (cI, 60, .inl rs.2.2.2.2.2.2.2.2))] H → va_D A [(x0, .inr (5, [.ref p0, .ref h, .ref e0, .ref w, .ref r, .int (bI (ex)), .int (bI (true))])), (p0, .inr (0, [.ref p1, .ref p2, .int (nI np)])), (p1, .inl (cI, 24, .inl P)), (p2, .inl (cI, 24, .inl K)), (h, .inr (1, [.ref a1, .ref a2, .ref a3, .int (nI n)])), (a1, .inl (cI, 32, .inl lo)), (a2, .inl (cI, 32, .inl hi)), (a3, .inl (cI, 32, .inl th)), (w, .inr (3, [.ref v, .ref w1])), (w1, .inl (cI, 24, .inl y.1)), (v, .inr (0, [.ref v1, .ref v2, .int (nI y.2.2.2)])), (v1, .inl (cI, 1584, .inl y.2.1)), (v2, .inl (cI, 1584, .inl y.2.2.1)), (r, .inr (4, [.ref b1, .ref b2, .ref b3, .ref b4, .int (nI how), .int (nI rs.1), .int (nI rs.2.1), .int (nI rs.2.2.1), .int (nI rs.2.2.2.1), .int (nI rs.2.2.2.2.1)])), (b1, .inl (cI, 14, .inl rs.2.2.2.2.2.1)), (b2, .inl (cI, 8, .inl rs.2.2.2.2.2.2.1)), (b3, .inl (cI, 60, .inl rs.2.2.2.2.2.2.2.1)), (b4, .inl (cI, 60, .inl rs.2.2.2.2.2.2.2.2))] → va_S A s.heap H locs → lv_has ls 4 [(3, .int (nI i)), (2, .ref v), (0, .ref x0), (1, .int (nI N0))] → W p l e ({ frames := 6, cells := 1, slots := 6, locals := 135 } : Room) s m args below meth c H locs 0 0 (vx_MQ below (va_Qi (fun (rr : Int32) (u : (RS × WS)) => ∃ N0, N0 ≤ 2000 ∧ x = nI N0 ∧ ¬ stat = 0 ∧ rr = nI (runN (stepF how lo hi th (fun j => (wO P K th n np).getD j 0) (fun j => (wK P K lo hi th n np).getD j 0)) N0 (stat, pl, q, stt, dn, sa, ca, ta, tn)).1 ∧ u.1 = (runN (stepF how lo hi th (fun j => (wO P K th n np).getD j 0) (fun j => (wK P K lo hi th n np).getD j 0)) N0 (stat, pl, q, stt, dn, sa, ca, ta, tn)).2 ∧ J u.1 ∧ woP P K lo hi th n np u.2.2.1 u.2.2.2.1 u.2.2.2.2) (fun u => pl_out D classes (TY cI cZ cL) A ((fun (u : (RS × WS)) => [(x0, .inr (5, [.ref p0, .ref h, .ref e0, .ref w, .ref r, .int (bI (ex)), .int (bI (true))])), (p0, .inr (0, [.ref p1, .ref p2, .int (nI np)])), (p1, .inl (cI, 24, .inl P)), (p2, .inl (cI, 24, .inl K)), (h, .inr (1, [.ref a1, .ref a2, .ref a3, .int (nI n)])), (a1, .inl (cI, 32, .inl lo)), (a2, .inl (cI, 32, .inl hi)), (a3, .inl (cI, 32, .inl th)), (w, .inr (3, [.ref v, .ref w1])), (w1, .inl (cI, 24, .inl u.2.1)), (v, .inr (0, [.ref v1, .ref v2, .int (nI u.2.2.2.2)])), (v1, .inl (cI, 1584, .inl u.2.2.1)), (v2, .inl (cI, 1584, .inl u.2.2.2.1)), (r, .inr (4, [.ref b1, .ref b2, .ref b3, .ref b4, .int (nI how), .int (nI u.1.1), .int (nI u.1.2.1), .int (nI u.1.2.2.1), .int (nI u.1.2.2.2.1), .int (nI u.1.2.2.2.2.1)])), (b1, .inl (cI, 14, .inl u.1.2.2.2.2.2.1)), (b2, .inl (cI, 8, .inl u.1.2.2.2.2.2.2.1)), (b3, .inl (cI, 60, .inl u.1.2.2.2.2.2.2.2.1)), (b4, .inl (cI, 60, .inl u.1.2.2.2.2.2.2.2.2))]) u)) A) (pl_XC (fun (Nm : String) (_ : Unit) => (Nm = iseS ∧ stat = 0) ∨ (Nm = iaeS ∧ ¬ stat = 0 ∧ inB x 2001 = false)) D classes (TY cI cZ cL) A (fun (_ : Unit) => [(x0, .inr (5, [.ref p0, .ref h, .ref e0, .ref w, .ref r, .int (bI (ex)), .int (bI (wv))])), (p0, .inr (0, [.ref p1, .ref p2, .int (nI np)])), (p1, .inl (cI, 24, .inl P)), (p2, .inl (cI, 24, .inl K)), (h, .inr (1, [.ref a1, .ref a2, .ref a3, .int (nI n)])), (a1, .inl (cI, 32, .inl lo)), (a2, .inl (cI, 32, .inl hi)), (a3, .inl (cI, 32, .inl th)), (w, .inr (3, [.ref v, .ref w1])), (w1, .inl (cI, 24, .inl fo)), (v, .inr (0, [.ref v1, .ref v2, .int (nI z)])), (v1, .inl (cI, 1584, .inl f)), (v2, .inl (cI, 1584, .inl g)), (r, .inr (4, [.ref b1, .ref b2, .ref b3, .ref b4, .int (nI how), .int (nI stat), .int (nI pl), .int (nI q), .int (nI stt), .int (nI dn)])), (b1, .inl (cI, 14, .inl sa)), (b2, .inl (cI, 8, .inl ca)), (b3, .inl (cI, 60, .inl ta)), (b4, .inl (cI, 60, .inl tn))])) args s 1 6 A) (F0 m 66 ls []) := by
            intro k
            induction k using Nat.strongRecOn with
            | _ k ih =>
            intro i rs H locs ls hk hi0 hs he hP hD hS hl
            have hs4 := hJ4 rs hs
            refine lv_iload_n hx hb d_Loom_step_66 rfl (lv_at hl 0 rfl) ?_
            refine lv_iload_n hx hb d_Loom_step_67 rfl (lv_at hl 3 rfl) ?_
            refine pl_icmp_ge X (by omega) (by omega) d_Loom_step_68 rfl (fun g68 => ?_) (fun g68 => ?_)
            · skip
              refine lv_iload_n hx hb d_Loom_step_102 rfl (lv_at hl 3 rfl) ?_
              exact pl_iretT X hr hlk hK rfl (rs, y) ⟨N0, by omega, hxj, g7, by rw [run_end he g68]; exact congrArg nI (by omega), by rw [run_end he g68], hs, hwo⟩ hP hD hS (by decide) (by decide) d_Loom_step_103
            · skip
              refine lv_aload_n hx hb d_Loom_step_71 rfl (lv_at hl 2 rfl) ?_
              refine pl_get X fw_Loom_42 hK hP 0 rfl (v := .ref r) rfl d_Loom_step_72 ?_
              refine pl_get X fw_Loom_130 hK hP 13 rfl (v := .int (nI rs.1)) rfl d_Loom_step_75 ?_
              refine lv_iconst (v := nI 1) hx hb d_Loom_step_78 (by decide) ?_
              refine pl_icmp_eq X (by omega) (by decide) d_Loom_step_79 rfl (fun g79 => ?_) (fun g79 => ?_)
              · skip
                obtain ⟨k1, k2, k3, k4⟩ := hJ rs hs g79
                rw [g79] at hP hD
                have hj1 : rs.2.1 < 1584 := by have := plc_le P K th hn np; omega
                have hjf := hwo.2 rs.2.1 (by rw [hwo.1]; exact k1)
                have hj2 : y.2.1 rs.2.1 = nI (opn (fun j => (wO P K th n np).getD j 0) rs.2.1) := hjf.1.trans k2
                have hj3 : okStep how th (opn (fun j => (wO P K th n np).getD j 0) rs.2.1) (y.2.2.1 rs.2.1) rs.2.2.1 rs.2.2.2.1 rs.2.2.2.2.1 := by rw [hjf.2]; exact k3
                refine lv_aload_n hx hb d_Loom_step_84 rfl (lv_at hl 2 rfl) ?_
                refine pl_get X fw_Loom_42 hK hP 0 rfl (v := .ref r) rfl d_Loom_step_85 ?_
                refine lv_aload_n hx hb d_Loom_step_88 rfl (lv_at hl 1 rfl) ?_
                refine lv_aload_n hx hb d_Loom_step_89 rfl (lv_at hl 2 rfl) ?_
                refine pl_get X fw_Loom_21 hK hP 0 rfl (v := .ref h) rfl d_Loom_step_90 ?_
                refine pl_callVV X (rest := []) (As := [.ref v, .ref h]) (b := r) (c_Run_advance l D cI cZ cL r b1 b2 b3 b4 rs.2.2.2.2.2.1 rs.2.2.2.2.2.2.1 rs.2.2.2.2.2.2.2.1 rs.2.2.2.2.2.2.2.2 how 1 rs.2.1 rs.2.2.1 rs.2.2.2.1 rs.2.2.2.2.1 v v1 v2 1584 y.2.2.2 y.2.1 y.2.2.1 h a1 a2 a3 n lo hi th (opn (fun j => (wO P K th n np).getD j 0) rs.2.1) (by decide) hj1 hj2 hj3) ck_Loom_143 pl_E0_ok trivial hK hP hD hS hA (T := F_Run) (N := N_Run) (ci := 4) rfl 13 rfl [13, 14, 15, 16, 17, 10, 11, 12, 4, 5, 6, 7] [0, 1, 2, 3, 8, 9] [0, 1, 2, 3, 14, 15, 16, 17, 4, 5, 11, 12, 13, 6, 7, 8, 9, 10] rfl (by decide) (wr := [(x0, .inr (5, [.ref p0, .ref h, .ref e0, .ref w, .ref r, .int (bI (ex)), .int (bI (true))])), (p0, .inr (0, [.ref p1, .ref p2, .int (nI np)])), (p1, .inl (cI, 24, .inl P)), (p2, .inl (cI, 24, .inl K)), (w, .inr (3, [.ref v, .ref w1])), (w1, .inl (cI, 24, .inl y.1))]) rfl (by decide) (by decide) (wf := fun (u0s : RS) => [(x0, .inr (5, [.ref p0, .ref h, .ref e0, .ref w, .ref r, .int (bI (ex)), .int (bI (true))])), (p0, .inr (0, [.ref p1, .ref p2, .int (nI np)])), (p1, .inl (cI, 24, .inl P)), (p2, .inl (cI, 24, .inl K)), (h, .inr (1, [.ref a1, .ref a2, .ref a3, .int (nI n)])), (a1, .inl (cI, 32, .inl lo)), (a2, .inl (cI, 32, .inl hi)), (a3, .inl (cI, 32, .inl th)), (w, .inr (3, [.ref v, .ref w1])), (w1, .inl (cI, 24, .inl y.1)), (v, .inr (0, [.ref v1, .ref v2, .int (nI y.2.2.2)])), (v1, .inl (cI, 1584, .inl y.2.1)), (v2, .inl (cI, 1584, .inl y.2.2.1)), (r, .inr (4, [.ref b1, .ref b2, .ref b3, .ref b4, .int (nI how), .int (nI u0s.1), .int (nI u0s.2.1), .int (nI u0s.2.2.1), .int (nI u0s.2.2.2.1), .int (nI u0s.2.2.2.2.1)])), (b1, .inl (cI, 14, .inl u0s.2.2.2.2.2.1)), (b2, .inl (cI, 8, .inl u0s.2.2.2.2.2.2.1)), (b3, .inl (cI, 60, .inl u0s.2.2.2.2.2.2.2.1)), (b4, .inl (cI, 60, .inl u0s.2.2.2.2.2.2.2.2))]) (fun _ => rfl) (by decide) rfl hl.1 rfl (Nat.le_of_ble_eq_true rfl) (by decide) (by decide) d_Loom_step_93 (fun u0s H locs hcq hP hD hS => ?_)
                refine lv_iinc hx hb d_Loom_step_96 hl (k := 0) rfl (nI_inc1 _) (by decide) (lv' := [(3, .int (nI (i + 1))), (2, .ref v), (0, .ref x0), (1, .int (nI N0))]) rfl (fun ls hl => ?_)
                refine lv_goto hx hb d_Loom_step_99 rfl ?_
                exact ih _ (by omega) (i + 1) u0s _ _ _ rfl (by omega) (by rw [hcq]; rw [hjf.2]; exact k4) (by rw [hcq]; rw [hjf.2]; exact run_next he g68 g79) hP hD hS hl
              · skip
                refine lv_iload_n hx hb d_Loom_step_82 rfl (lv_at hl 0 rfl) ?_
                exact pl_iretT X hr hlk hK rfl (rs, y) ⟨N0, by omega, hxj, g7, by rw [run_stop he g79], by rw [run_stop he g79], hs, hwo⟩ hP hD hS (by decide) (by decide) d_Loom_step_83
          exact loop_66 _ 0 ((stat, pl, q, stt, dn, sa, ca, ta, tn)) _ _ _ rfl (Nat.zero_le _) h0 rfl hP hD hS hl
      · skip
        exact pl_throw (is := 138) (text := "no such number of steps") X hl0 xw_iaeS hE (by decide +kernel) hno hlk hK () (Or.inr ⟨rfl, g7, inB_le_f (by omega) g28⟩) hP hD hS hl.1 d_Loom_step_31 d_Loom_step_34 d_Loom_step_35 d_Loom_step_37 d_Loom_step_40 (by decide) (Nat.le_of_ble_eq_true rfl) (by decide) (by decide) (by decide) (by decide)
  · skip
    exact pl_throw (is := 135) (text := "no run") X hl0 xw_iseS hE (by decide +kernel) hno hlk hK () (Or.inl ⟨rfl, g7⟩) hP hD hS hl.1 d_Loom_step_10 d_Loom_step_13 d_Loom_step_14 d_Loom_step_16 d_Loom_step_19 (by decide) (Nat.le_of_ble_eq_true rfl) (by decide) (by decide) (by decide) (by decide)
