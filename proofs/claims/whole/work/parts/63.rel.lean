/-! How the object and the reference stand to one another between two calls. -/
def RN (P K th : Nat → Int32) (n np how pm lm : Nat) (s : RS) : Prop := okK P K np ∧ (∃ G, closed P K np G ∧ (if how = 1 then Jw P K th G n np s else Jp how np G s)) ∧ ((s.1 = 1 → pm = s.2.1) ∧ (¬ s.1 = 1 → lm = s.2.1))
def LI (P K lo hi th F Qu f g sa ca ta tn ru tm : Nat → Int32) (np n qd z how stat pl q stt dn pm lm : Nat) (b ex wv : Bool) : Prop :=
  np ≤ 24 ∧ okP P np ∧ (1 ≤ n ∧ n ≤ 4) ∧ thV th n ∧ rulR ru tm th ∧ (ex = true → exaP P K np (F, Qu, qd, b)) ∧ (wv = true → woP P K lo hi th n np f g z) ∧ (stat ≤ 4 ∧ how ≤ 2 ∧ dn ≤ 60) ∧ (¬ stat = 0 → RN P K th n np how pm lm (stat, pl, q, stt, dn, sa, ca, ta, tn))
section RL
variable {P K th ru tm : Nat → Int32} {np n k tw : Nat} {x : Int32}
theorem okP_push (h : okP P np) (hx : inB x 13 = true) : okP (upd P np x) (np + 1) := by
  intro j hj
  obtain ⟨d, hd, ed⟩ := inB_of (by omega) hx
  rcases Nat.lt_succ_iff_lt_or_eq.mp hj with q | q
  · have := h j q
    unfold opn at this ⊢
    rw [upd_n (by omega)]; exact this
  · subst q
    unfold opn
    rw [upd_s, ed, nI_clamp (by omega)]
    exact ⟨rfl, by omega⟩
theorem thV_no : thV (fun _ => -1) n := fun _ _ => Or.inl rfl
theorem rulR_no : rulR (fun _ => nI 0) tm (fun _ => -1) := fun _ _ => ⟨rfl, fun h => absurd rfl h⟩
theorem thV_set (h : thV th n) (ht : tw < n) : thV (upd th k (nI tw)) n := fun r hr => by
  by_cases q : r = k
  · subst q; rw [upd_s]; exact Or.inr ⟨tw, ht, rfl⟩
  · rw [upd_n q]; exact h r hr
theorem rulR_set (h : rulR ru tm th) (ht : tw < 2 ^ 31) : rulR (upd ru k (nI 1)) (upd tm k (nI tw)) (upd th k (nI tw)) := fun r hr => by
  by_cases q : r = k
  · subst q
    rw [upd_s, upd_s, upd_s, decide_eq_true (nI_nm1 ht)]
    exact ⟨rfl, fun _ => rfl⟩
  · rw [upd_n q, upd_n q, upd_n q]; exact h r hr
theorem inB_or (n : Nat) (hn : n < 2 ^ 31) (x : Int32) : (∃ j, j < n ∧ x = nI j) ∨ inB x n = false := by
  cases h : inB x n with
  | true => exact Or.inl (inB_of hn h)
  | false => exact Or.inr rfl
theorem code_or (np : Nat) (hnp : np ≤ 24) (x : Int32) : (inB x 13 = true ∧ np < 24) ∨ inB x 13 = false ∨ (inB x 13 = true ∧ np = 24) := by
  cases h : inB x 13 with
  | true =>
    rcases Nat.lt_or_eq_of_le hnp with q | q
    · exact Or.inl ⟨rfl, q⟩
    · exact Or.inr (Or.inr ⟨rfl, q⟩)
  | false => exact Or.inr (Or.inl rfl)
theorem states_or (x : Int32) : (∃ j, 1 ≤ j ∧ j ≤ 4 ∧ x = nI j) ∨ in14 x = false := by
  cases h : in14 x with
  | true => exact Or.inl (in14_of h)
  | false => exact Or.inr rfl
theorem rule_or (n : Nat) (hn : n ≤ 4) (x1 x2 x3 x4 x5 : Int32) : (∃ fr ac tw, fr < n ∧ ac < 8 ∧ tw < n ∧ x1 = nI fr ∧ x2 = nI ac ∧ x5 = nI tw ∧ x3 ≤ x4) ∨ ruleOk n x1 x2 x3 x4 x5 = false := by
  cases h : ruleOk n x1 x2 x3 x4 x5 with
  | true =>
    unfold ruleOk at h
    simp only [Bool.and_eq_true, decide_eq_true_eq] at h
    obtain ⟨h1, h2, h3, h4⟩ := h
    obtain ⟨a, a1, a2⟩ := inB_of (by omega) h1
    obtain ⟨b, b1, b2⟩ := inB_of (by omega) h2
    obtain ⟨c, c1, c2⟩ := inB_of (by omega) h3
    exact Or.inl ⟨a, c, b, a1, c1, b1, a2, c2, b2, h4⟩
  | false => exact Or.inr rfl
theorem and15 (x : Int32) : ∃ d, d < 16 ∧ x &&& nI 15 = nI d := ⟨x.toBitVec.toNat % 2 ^ 4, Nat.mod_lt _ (by decide), pk_and x 4 (by decide)⟩
theorem RN_start {G : Nat → Int32} {kd : Nat} {y : Int32} {sa ta tn : Nat → Int32} (hok : okK P K np) (hc : closed P K np G) : RN P K th n np kd 0 0 (1, 0, 0, 0, 0, sa, upd (fun _ => nI 0) 0 y, ta, tn) := by
  refine ⟨hok, ⟨G, hc, ?_⟩, fun _ => rfl, fun h => absurd rfl h⟩
  by_cases q : kd = 1
  · rw [if_pos q]
    exact Jw_at hc.1 (Nat.zero_le _) hc.2.1 rfl rfl rfl (Nat.zero_le _)
  · rw [if_neg q]
    exact ⟨show (1 : Nat) ≤ 4 by decide, Nat.zero_le _, show (0 : Nat) < 4 by decide, Nat.zero_le _, fun _ => ⟨show upd (fun _ => nI 0) 0 y 7 = nI 0 from upd_n (by decide), rfl⟩, fun _ => ⟨hc.1, Nat.zero_le _, hc.2.1⟩⟩
end RL
section RS2
variable {p : Program} {l : Launch} {e : Env} {R : Room} {s : State} {m : MethodId} {args : Array Value} {below : List Frame} {meth : Method} {c : Code} {H : Heap} {locs : List Loc} {cells slots : Nat} {Q : State → Prop}
variable {cc : ByteArray} {pc nL : Nat} {ls : Array Slot} {rest : List Value} {own : String} {A : Nat → Prop}
theorem pl_sld {bS L : Nat} {xs : Nat → Int32} (X : CallFix p m c cc nL s args TG own) (hX : va_X bS L xs s s.heap) (hbl : bS < s.heap.size) (hbA : ¬ A bS) (hS : va_S A s.heap H locs) (j : Nat) (hj : j < L) (hL : L < 2 ^ 31) {z : Int32} (hz : xs j = z) (hdg : decode cc pc = .ok (.iaload, 1))
    (kk : W p l e R s m args below meth c H locs cells slots Q (F0 m (pc + 1) ls (.int z :: rest))) : W p l e R s m args below meth c H locs cells slots Q (F0 m pc ls (.int (nI j) :: .ref bS :: rest)) := by
  subst hz
  refine va_sld X.1 X.2.1 hX hbl hbA hS (pl_ix hj hL).1 hdg ?_
  rw [(pl_ix hj hL).2]
  exact kk
theorem pl_slen {bS L : Nat} {xs : Nat → Int32} (X : CallFix p m c cc nL s args TG own) (hX : va_X bS L xs s s.heap) (hbl : bS < s.heap.size) (hbA : ¬ A bS) (hS : va_S A s.heap H locs) (hdg : decode cc pc = .ok (.arraylength, 1))
    (kk : W p l e R s m args below meth c H locs cells slots Q (F0 m (pc + 1) ls (.int (nI L) :: rest))) : W p l e R s m args below meth c H locs cells slots Q (F0 m pc ls (.ref bS :: rest)) :=
  va_slen X.1 X.2.1 hX hbl hbA hS hdg kk
end RS2
theorem well_or (V : Prop) (n : Nat) (hn : n < 2 ^ 31) (x : Int32) : (∃ j, V ∧ j < n ∧ x = nI j) ∨ ¬ V ∨ (V ∧ inB x n = false) := by
  by_cases hw : V
  · rcases inB_or n hn x with ⟨j, hj, ej⟩ | h2
    · exact Or.inl ⟨j, hw, hj, ej⟩
    · exact Or.inr (Or.inr ⟨hw, h2⟩)
  · exact Or.inr (Or.inl hw)
theorem act_or (stat dn : Nat) (hd : dn ≤ 60) (x : Int32) : (∃ j, ¬ stat = 0 ∧ j < dn ∧ x = nI j) ∨ (stat = 0 ∨ inB x dn = false) := by
  by_cases hs : stat = 0
  · exact Or.inr (Or.inl hs)
  · rcases inB_or dn (by omega) x with ⟨j, hj, ej⟩ | h2
    · exact Or.inl ⟨j, hs, hj, ej⟩
    · exact Or.inr (Or.inr h2)
theorem step_or (stat how : Nat) (x : Int32) : stat = 0 ∨ (how = 1 ∧ ¬ stat = 0 ∧ ∃ j, j ≤ 2000 ∧ x = nI j) ∨ (how = 1 ∧ ¬ stat = 0 ∧ inB x 2001 = false) ∨ (¬ how = 1 ∧ ¬ stat = 0 ∧ ∃ j, j ≤ 2000 ∧ x = nI j) ∨ (¬ how = 1 ∧ ¬ stat = 0 ∧ inB x 2001 = false) := by
  by_cases hs : stat = 0
  · exact Or.inl hs
  · right
    rcases inB_or 2001 (by omega) x with ⟨j, hj, ej⟩ | h2 <;> by_cases hw : how = 1
    · exact Or.inl ⟨hw, hs, j, by omega, ej⟩
    · exact Or.inr (Or.inr (Or.inl ⟨hw, hs, j, by omega, ej⟩))
    · exact Or.inr (Or.inl ⟨hw, hs, h2⟩)
    · exact Or.inr (Or.inr (Or.inr ⟨hw, hs, h2⟩))
theorem RN_30 {P K th : Nat → Int32} {n np how pm lm stat pl q stt dn : Nat} {sa ca ta tn : Nat → Int32} (h : RN P K th n np how pm lm (stat, pl, q, stt, dn, sa, ca, ta, tn)) (h0 : how = 0) : ca 7 = nI stt := by
  obtain ⟨-, ⟨G, -, hJ⟩, -⟩ := h
  rw [if_neg (by omega)] at hJ
  have h5 := hJ.2.2.2.2.1 h0
  have e : stt = 0 := h5.2
  rw [e]; exact h5.1
