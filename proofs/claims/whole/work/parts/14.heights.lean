/-! Which heights a program has: labels of instructions (-1: none), closed ones, the least. -/
def opn (P : Nat → Int32) (i : Nat) : Nat := (P i).toNatClampNeg
def kn (K : Nat → Int32) (i : Nat) : Nat := (K i).toNatClampNeg
def tkN (o : Nat) : Nat := [0, 1, 2, 2, 2, 0, 1, 0, 1, 1, 2, 1, 0].getD o 0
def lvN (o : Nat) : Nat := [1, 0, 1, 1, 1, 1, 0, 0, 0, 0, 2, 2, 0].getD o 0
def okP (P : Nat → Int32) (n : Nat) : Prop := ∀ i, i < n → P i = nI (opn P i) ∧ opn P i ≤ 12
def numFit (o : Nat) (k : Int32) (n : Nat) : Bool := if o = 5 ∨ o = 6 then inB k 7 else if o = 7 ∨ o = 8 then inB k n else if o = 9 then inB k 8 else true
def okK (P K : Nat → Int32) (n : Nat) : Prop := ∀ i, i < n → numFit (opn P i) (K i) n = true
def aft (P : Nat → Int32) (i h : Nat) : Nat := h - tkN (opn P i) + lvN (opn P i)
def clo (P K : Nat → Int32) (n : Nat) (F : Nat → Int32) (i h : Nat) : Prop := tkN (opn P i) ≤ h ∧ aft P i h ≤ 12 ∧ ((opn P i = 7 ∨ opn P i = 8) → kn K i < n ∧ F (kn K i) = nI (aft P i h)) ∧ (opn P i ≠ 7 → opn P i ≠ 12 → i + 1 < n ∧ F (i + 1) = nI (aft P i h))
def closed (P K : Nat → Int32) (n : Nat) (F : Nat → Int32) : Prop := 0 < n ∧ F 0 = nI 0 ∧ ∀ i h, i < n → h ≤ 12 → F i = nI h → clo P K n F i h
def least (P K : Nat → Int32) (n : Nat) (F : Nat → Int32) : Prop := ∀ G, closed P K n G → ∀ i h, i < n → h ≤ 12 → F i = nI h → G i = nI h
def labs (n : Nat) (F : Nat → Int32) : Prop := ∀ i, i < n → F i = -1 ∨ ∃ h, h ≤ 12 ∧ F i = nI h
theorem nI_nm1 {h : Nat} (hh : h < 2 ^ 31) : ¬ nI h = -1 := by
  intro q
  have h1 := congrArg Int32.toInt q
  rw [nI_toInt hh] at h1
  have h2 : (-1 : Int32).toInt = -1 := by decide
  omega
theorem nI_inj {a b : Nat} (ha : a < 2 ^ 31) (hb : b < 2 ^ 31) (h : nI a = nI b) : a = b := (nI_eq ha hb).mp h
theorem lab_eq {P K : Nat → Int32} {n : Nat} {F G : Nat → Int32} (c1 : closed P K n F) (l1 : least P K n F) (a1 : labs n F) (c2 : closed P K n G) (l2 : least P K n G) (a2 : labs n G) : ∀ i, i < n → F i = G i := by
  intro i hi
  rcases a1 i hi with q | ⟨h, hh, q⟩
  · rcases a2 i hi with r | ⟨h, hh, r⟩
    · rw [q, r]
    · have := l2 F c1 i h hi hh r
      exact absurd (this.symm.trans q) (nI_nm1 (by omega))
  · rw [q, l1 G c2 i h hi hh q]
/-- how many are labelled -/
def cntL (F : Nat → Int32) : Nat → Nat
  | 0 => 0
  | i + 1 => cntL F i + (if F i = -1 then 0 else 1)
theorem cntL_le (F : Nat → Int32) : ∀ n, cntL F n ≤ n
  | 0 => Nat.le_refl _
  | n + 1 => by
    have := cntL_le F n
    simp only [cntL]
    split <;> omega
theorem cntL_lt {F : Nat → Int32} {i : Nat} (h : F i = -1) : ∀ n, i < n → cntL F n < n
  | 0, q => absurd q (Nat.not_lt_zero i)
  | n + 1, q => by
    simp only [cntL]
    rcases Nat.lt_succ_iff_lt_or_eq.mp q with r | r
    · have := cntL_lt h n r
      split <;> omega
    · subst r
      have := cntL_le F i
      rw [if_pos h]; omega
theorem cntL_out {F : Nat → Int32} {i : Nat} {x : Int32} : ∀ n, n ≤ i → cntL (upd F i x) n = cntL F n
  | 0, _ => rfl
  | n + 1, q => by
    simp only [cntL]
    rw [cntL_out n (by omega), upd_n (by omega)]
theorem cntL_upd {F : Nat → Int32} {i : Nat} {x : Int32} (h : F i = -1) (hx : ¬ x = -1) : ∀ n, i < n → cntL (upd F i x) n = cntL F n + 1
  | 0, q => absurd q (Nat.not_lt_zero i)
  | n + 1, q => by
    simp only [cntL]
    rcases Nat.lt_succ_iff_lt_or_eq.mp q with r | r
    · rw [cntL_upd h hx n r, upd_n (by omega)]; omega
    · subst r
      rw [cntL_out i (Nat.le_refl _), upd_s, if_neg hx, if_pos h]
/-- what holds while the queue is worked off -/
def hInv (P K : Nat → Int32) (n : Nat) (F Qu : Nat → Int32) (qd : Nat) : Prop :=
  F 0 = nI 0 ∧ labs n F ∧ qd = cntL F n ∧ (∀ a, a < qd → ∃ j, j < n ∧ Qu a = nI j ∧ ¬ F j = -1) ∧ (∀ j, j < n → ¬ F j = -1 → ∃ a, a < qd ∧ Qu a = nI j) ∧ least P K n F
/-- labels only come -/
def hExt (n : Nat) (F G : Nat → Int32) : Prop := ∀ i, i < n → ¬ F i = -1 → G i = F i
theorem hExt.refl {n : Nat} {F : Nat → Int32} : hExt n F F := fun _ _ _ => rfl
theorem hExt.trans {n : Nat} {F G I : Nat → Int32} (h1 : hExt n F G) (h2 : hExt n G I) : hExt n F I := fun i hi q => by
  have e := h1 i hi q
  rw [h2 i hi (by rw [e]; exact q), e]
theorem hExt.new {n i : Nat} {F : Nat → Int32} {x : Int32} (h : F i = -1) : hExt n F (upd F i x) := fun j _ q => upd_n (fun e => q (by rw [e]; exact h))
theorem hInv.new {P K : Nat → Int32} {n : Nat} {F Qu : Nat → Int32} {qd i h : Nat} (v : hInv P K n F Qu qd) (hi : i < n) (hh : h ≤ 12) (hF : F i = -1) (hG : ∀ G, closed P K n G → G i = nI h) : hInv P K n (upd F i (nI h)) (upd Qu qd (nI i)) (qd + 1) := by
  obtain ⟨v1, v2, v3, v4, v5, v6⟩ := v
  have hne : ¬ nI h = -1 := nI_nm1 (by omega)
  refine ⟨?_, ?_, ?_, ?_, ?_, ?_⟩
  · by_cases q : 0 = i
    · rw [← q, v1] at hF; exact absurd hF (nI_nm1 (by omega))
    · rw [upd_n q]; exact v1
  · intro j hj
    by_cases q : j = i
    · rw [q, upd_s]; exact Or.inr ⟨h, hh, rfl⟩
    · rw [upd_n q]; exact v2 j hj
  · rw [cntL_upd hF hne n hi, v3]
  · intro a ha
    rcases Nat.lt_succ_iff_lt_or_eq.mp ha with q | q
    · obtain ⟨j, h1, h2, h3⟩ := v4 a q
      refine ⟨j, h1, by rw [upd_n (by omega)]; exact h2, ?_⟩
      by_cases r : j = i
      · rw [r, upd_s]; exact hne
      · rw [upd_n r]; exact h3
    · exact ⟨i, hi, by rw [q, upd_s], by rw [upd_s]; exact hne⟩
  · intro j hj q
    by_cases r : j = i
    · exact ⟨qd, by omega, by rw [r, upd_s]⟩
    · rw [upd_n r] at q
      obtain ⟨a, h1, h2⟩ := v5 j hj q
      exact ⟨a, by omega, by rw [upd_n (by omega)]; exact h2⟩
  · intro G hG2 j g hj hg q
    by_cases r : j = i
    · rw [r, upd_s] at q
      rw [r, hG G hG2]; exact q
    · rw [upd_n r] at q
      exact v6 G hG2 j g hj hg q
theorem tkN_le (o : Nat) : tkN o ≤ 2 := by
  by_cases h : o < 13
  · exact (show ∀ o, o < 13 → tkN o ≤ 2 by decide) o h
  · unfold tkN; rw [List.getD_eq_getElem?_getD, List.getElem?_eq_none (by simp only [List.length_cons, List.length_nil]; omega)]; exact Nat.zero_le _
theorem lvN_le (o : Nat) : lvN o ≤ 2 := by
  by_cases h : o < 13
  · exact (show ∀ o, o < 13 → lvN o ≤ 2 by decide) o h
  · unfold lvN; rw [List.getD_eq_getElem?_getD, List.getElem?_eq_none (by simp only [List.length_cons, List.length_nil]; omega)]; exact Nat.zero_le _
section HH
variable {P K : Nat → Int32} {n : Nat} {F Qu G : Nat → Int32} {qd i h : Nat}
theorem hInv.lab (v : hInv P K n F Qu qd) (hi : i < n) (q : ¬ F i = -1) : ∃ h, h ≤ 12 ∧ F i = nI h := (v.2.1 i hi).resolve_left q
theorem hInv.cl (v : hInv P K n F Qu qd) (hi : i < n) (hh : h ≤ 12) (hF : F i = nI h) (hG : closed P K n G) : clo P K n G i h := hG.2.2 i h hi hh (v.2.2.2.2.2 G hG i h hi hh hF)
theorem no_lo (v : hInv P K n F Qu qd) (hi : i < n) (hh : h ≤ 12) (hF : F i = nI h) (c : ¬ tkN (opn P i) ≤ h) : ∀ G, ¬ closed P K n G := fun _ g => c (v.cl hi hh hF g).1
theorem no_hi (v : hInv P K n F Qu qd) (hi : i < n) (hh : h ≤ 12) (hF : F i = nI h) (c : ¬ aft P i h ≤ 12) : ∀ G, ¬ closed P K n G := fun _ g => c (v.cl hi hh hF g).2.1
theorem go_G (v : hInv P K n F Qu qd) (hi : i < n) (hh : h ≤ 12) (hF : F i = nI h) (o : opn P i = 7 ∨ opn P i = 8) : ∀ G, closed P K n G → G (kn K i) = nI (aft P i h) := fun _ g => ((v.cl hi hh hF g).2.2.1 o).2
theorem nx_G (v : hInv P K n F Qu qd) (hi : i < n) (hh : h ≤ 12) (hF : F i = nI h) (o : ¬ opn P i = 7) (o2 : ¬ opn P i = 12) : ∀ G, closed P K n G → G (i + 1) = nI (aft P i h) := fun _ g => ((v.cl hi hh hF g).2.2.2 o o2).2
/-- a label that stands already, and is another one -/
theorem no_old {j a : Nat} (v : hInv P K n F Qu qd) (hj : j < n) (q : ¬ F j = -1) (hG : ∀ G, closed P K n G → G j = nI a) (c : ¬ F j = nI a) : ∀ G, ¬ closed P K n G := fun G g => by
  obtain ⟨b, hb, e⟩ := v.lab hj q
  have e2 := v.2.2.2.2.2 G g j b hj hb e
  exact c (by rw [e, ← e2, hG G g])
theorem no_out (v : hInv P K n F Qu qd) (hi : i < n) (hh : h ≤ 12) (hF : F i = nI h) (o : ¬ opn P i = 7) (o2 : ¬ opn P i = 12) (c : ¬ i + 1 < n) : ∀ G, ¬ closed P K n G := fun _ g => c ((v.cl hi hh hF g).2.2.2 o o2).1
theorem clo.ext (c : clo P K n F i h) (e : hExt n F G) : clo P K n G i h := by
  obtain ⟨c1, c2, c3, c4⟩ := c
  refine ⟨c1, c2, fun o => ⟨(c3 o).1, ?_⟩, fun o o2 => ⟨(c4 o o2).1, ?_⟩⟩
  · rw [e _ (c3 o).1 (by rw [(c3 o).2]; exact nI_nm1 (by omega))]; exact (c3 o).2
  · rw [e _ (c4 o o2).1 (by rw [(c4 o o2).2]; exact nI_nm1 (by omega))]; exact (c4 o o2).2
theorem hInv.qn (v : hInv P K n F Qu qd) : qd ≤ n := by rw [v.2.2.1]; exact cntL_le F n
theorem hInv.ql (v : hInv P K n F Qu qd) (hi : i < n) (hF : F i = -1) : qd < n := by rw [v.2.2.1]; exact cntL_lt hF n hi
theorem cntL_0 : ∀ n, (∀ j, j < n → F j = -1) → cntL F n = 0
  | 0, _ => rfl
  | n + 1, h => by
    simp only [cntL]
    rw [cntL_0 n (fun j hj => h j (by omega)), if_pos (h n (by omega))]
theorem hInv.init (h0 : 0 < n) (hF : ∀ j, j < n → F j = -1) : hInv P K n (upd F 0 (nI 0)) (upd Qu 0 (nI 0)) (0 + 1) := by
  have hne : ¬ nI 0 = -1 := nI_nm1 (by omega)
  refine ⟨upd_s, ?_, ?_, ?_, ?_, ?_⟩
  · intro j hj
    by_cases q : j = 0
    · rw [q, upd_s]; exact Or.inr ⟨0, by omega, rfl⟩
    · rw [upd_n q]; exact Or.inl (hF j hj)
  · rw [cntL_upd (hF 0 h0) hne n h0, cntL_0 n hF]
  · intro a ha
    rw [show a = 0 by omega]
    exact ⟨0, h0, upd_s, by rw [upd_s]; exact hne⟩
  · intro j hj q
    by_cases r : j = 0
    · exact ⟨0, by omega, by rw [r, upd_s]⟩
    · rw [upd_n r] at q; exact absurd (hF j hj) q
  · intro G g j b hj hb q
    by_cases r : j = 0
    · rw [r, upd_s] at q; rw [r, g.2.1]; exact q
    · rw [upd_n r, hF j hj] at q; exact absurd q.symm (nI_nm1 (by omega))
/-- all queued ones are worked off: the labels are closed -/
theorem hInv.done (h0 : 0 < n) (v : hInv P K n F Qu qd) {k : Nat} (hk : qd ≤ k) (hp : ∀ a, a < k → ∀ j, j < n → Qu a = nI j → ∀ b, b ≤ 12 → F j = nI b → clo P K n F j b) : closed P K n F ∧ least P K n F ∧ labs n F := by
  refine ⟨⟨h0, v.1, fun j b hj hb e => ?_⟩, v.2.2.2.2.2, v.2.1⟩
  obtain ⟨a, ha, q⟩ := v.2.2.2.2.1 j hj (by rw [e]; exact nI_nm1 (by omega))
  exact hp a (by omega) j hj q b hb e
end HH
theorem nf5 {k : Int32} {n : Nat} : numFit 5 k n = inB k 7 := rfl
theorem nf6 {k : Int32} {n : Nat} : numFit 6 k n = inB k 7 := rfl
theorem nf7 {k : Int32} {n : Nat} : numFit 7 k n = inB k n := rfl
theorem nf8 {k : Int32} {n : Nat} : numFit 8 k n = inB k n := rfl
theorem nf9 {k : Int32} {n : Nat} : numFit 9 k n = inB k 8 := rfl
/-- what a step through the queue leaves: labels, queue, its length, whether all fits -/
abbrev HS : Type := (Nat → Int32) × (Nat → Int32) × Nat × Bool
/-- the answer of a look at instruction i, labelled h0 -/
def wayP (P K : Nat → Int32) (np i h0 : Nat) (F Qu : Nat → Int32) (qd : Nat) : Int32 → HS → Prop := fun r u =>
  r = bI u.2.2.2 ∧ hInv P K np u.1 u.2.1 u.2.2.1 ∧ hExt np F u.1 ∧ (qd ≤ u.2.2.1 ∧ ∀ a, a < qd → u.2.1 a = Qu a) ∧ (u.2.2.2 = true → clo P K np u.1 i h0) ∧ (u.2.2.2 = false → ∀ G, ¬ closed P K np G)
section WP
variable {P K : Nat → Int32} {np i h0 : Nat} {F Qu F1 Qu1 : Nat → Int32} {qd qd1 : Nat}
theorem wayP_t (v : hInv P K np F1 Qu1 qd1) (x : hExt np F F1) (q : qd ≤ qd1 ∧ ∀ a, a < qd → Qu1 a = Qu a) (c : clo P K np F1 i h0) : wayP P K np i h0 F Qu qd (nI 1) (F1, Qu1, qd1, true) := ⟨bI_t rfl, v, x, q, fun _ => c, (fun e => nomatch e)⟩
theorem wayP_f (v : hInv P K np F1 Qu1 qd1) (x : hExt np F F1) (q : qd ≤ qd1 ∧ ∀ a, a < qd → Qu1 a = Qu a) (c : ∀ G, ¬ closed P K np G) : wayP P K np i h0 F Qu qd (nI 0) (F1, Qu1, qd1, false) := ⟨bI_f rfl, v, x, q, (fun e => nomatch e), fun _ => c⟩
end WP
def fitP (P K : Nat → Int32) (np : Nat) : Int32 → HS → Prop := fun r u =>
  r = bI u.2.2.2 ∧ (u.2.2.2 = true → closed P K np u.1 ∧ least P K np u.1 ∧ labs np u.1) ∧ (u.2.2.2 = false → ∀ G, ¬ closed P K np G)
theorem fitP_t {P K : Nat → Int32} {np : Nat} {F1 Qu1 : Nat → Int32} {qd1 : Nat} (c : closed P K np F1 ∧ least P K np F1 ∧ labs np F1) : fitP P K np (nI 1) (F1, Qu1, qd1, true) := ⟨bI_t rfl, fun _ => c, (fun e => nomatch e)⟩
theorem fitP_f {P K : Nat → Int32} {np : Nat} {F1 Qu1 : Nat → Int32} {qd1 : Nat} (c : ∀ G, ¬ closed P K np G) : fitP P K np (nI 0) (F1, Qu1, qd1, false) := ⟨bI_f rfl, (fun e => nomatch e), fun _ => c⟩
/-- the answer of the whole look -/
def exaP (P K : Nat → Int32) (np : Nat) : HS → Prop := fun u =>
  (u.2.2.2 = true → okK P K np ∧ closed P K np u.1 ∧ least P K np u.1 ∧ labs np u.1) ∧ (u.2.2.2 = false → ¬ (okK P K np ∧ ∃ G, closed P K np G))
theorem exaP_t {P K : Nat → Int32} {np : Nat} {F1 Qu1 : Nat → Int32} {qd1 : Nat} (c : okK P K np ∧ closed P K np F1 ∧ least P K np F1 ∧ labs np F1) : exaP P K np (F1, Qu1, qd1, true) := ⟨fun _ => c, (fun e => nomatch e)⟩
theorem exaP_f {P K : Nat → Int32} {np : Nat} {F1 Qu1 : Nat → Int32} {qd1 : Nat} (c : ¬ (okK P K np ∧ ∃ G, closed P K np G)) : exaP P K np (F1, Qu1, qd1, false) := ⟨(fun e => nomatch e), fun _ => c⟩
section ST
variable {P K : Nat → Int32} {n : Nat} {F1 G Qu1 Qu2 : Nat → Int32} {qd i j b a j2 b2 : Nat}
theorem heights_old (hn : n < 2 ^ 31) (hd1 : ∀ a, a < i → ∀ j, j < n → Qu1 a = nI j → ∀ b, b ≤ 12 → F1 j = nI b → clo P K n F1 j b) (hv1 : hInv P K n F1 Qu1 qd) (x : hExt n F1 G) (hq : ∀ a, a < qd → Qu2 a = Qu1 a) (hiq : i ≤ qd) (ha : a < i) (hj : j2 < n) (q : Qu2 a = nI j2) (hb : b2 ≤ 12) (e : G j2 = nI b2) : clo P K n G j2 b2 := by
  have q1 : Qu1 a = nI j2 := by rw [← hq a (by omega)]; exact q
  obtain ⟨j3, h1, h2, h3⟩ := hv1.2.2.2.1 a (by omega)
  have e3 : j3 = j2 := nI_inj (by omega) (by omega) (h2.symm.trans q1)
  subst e3
  exact (hd1 a ha j3 hj q1 b2 hb (by rw [← x j3 hj h3]; exact e)).ext x
theorem heights_now (hn : n < 2 ^ 31) (hj : j < n) (hq1 : Qu1 i = nI j) (q2 : Qu1 i = nI j2) (hj2 : j2 < n) (hFj : F1 j = nI b) (x : hExt n F1 G) (hb : b ≤ 12) (hb2 : b2 ≤ 12) (e2 : G j2 = nI b2) (c : clo P K n G j b) : clo P K n G j2 b2 := by
  have e3 : j = j2 := nI_inj (by omega) (by omega) (hq1.symm.trans q2)
  subst e3
  have e4 : G j = nI b := by rw [x j hj (by rw [hFj]; exact nI_nm1 (by omega))]; exact hFj
  have e5 : b = b2 := nI_inj (by omega) (by omega) (e4.symm.trans e2)
  subst e5
  exact c
end ST
