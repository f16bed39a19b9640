/-! Which heights a program has: labels of instructions (-1: none), closed ones, the least. -/
def opn (P : Nat → Int32) (i : Nat) : Nat := (P i).toNatClampNeg
def kn (K : Nat → Int32) (i : Nat) : Nat := (K i).toNatClampNeg
def tkN (o : Nat) : Nat := [0, 1, 2, 2, 2, 0, 1, 0, 1, 1, 2, 1, 0].getD o 0
def lvN (o : Nat) : Nat := [1, 0, 1, 1, 1, 1, 0, 0, 0, 0, 2, 2, 0].getD o 0
def okP (P : Nat → Int32) (n : Nat) : Prop := ∀ i, i < n → P i = nI (opn P i) ∧ opn P i ≤ 12
def numFit (o : Nat) (k : Int32) (n : Nat) : Bool := if o = 5 ∨ o = 6 then inB k 7 else if o = 7 ∨ o = 8 then inB k n else if o = 9 then inB k 8 else true
def okK (P K : Nat → Int32) (n : Nat) : Prop := ∀ i, i < n → numFit (opn P i) (K i) n = true
def aft (P : Nat → Int32) (i h : Nat) : Nat := h - tkN (opn P i) + lvN (opn P i)
def clo (P K : Nat → Int32) (n : Nat) (F : Nat → Int32) (i h : Nat) : Prop := tkN (opn P i) ≤ h ∧ aft P i h ≤ 12 ∧ ((opn P i = 7 ∨ opn P i = 8) → kn K i < n ∧ F (kn K i) = nI (aft P i h)) ∧ (opn P i ≠ 7 → opn P i ≠ 12 → i + 1 < n ∧ F (i + 1) = nI (aft P i h))
def closed (P K : Nat → Int32) (n : Nat) (F : Nat → Int32) : Prop := 0 < n ∧ F 0 = nI 0 ∧ ∀ i h, i < n → h ≤ 12 → F i = nI h → clo P K n F i h
def least (P K : Nat → Int32) (n : Nat) (F : Nat → Int32) : Prop := ∀ G, closed P K n G → ∀ i h, i < n → h ≤ 12 → F i = nI h → G i = nI h
def labs (n : Nat) (F : Nat → Int32) : Prop := ∀ i, i < n → F i = -1 ∨ ∃ h, h ≤ 12 ∧ F i = nI h
theorem nI_nm1 {h : Nat} (hh : h < 2 ^ 31) : ¬ nI h = -1 := by
  intro q
  have h1 := congrArg Int32.toInt q
  rw [nI_toInt hh] at h1
  have h2 : (-1 : Int32).toInt = -1 := by decide
  omega
theorem nI_inj {a b : Nat} (ha : a < 2 ^ 31) (hb : b < 2 ^ 31) (h : nI a = nI b) : a = b := (nI_eq ha hb).mp h
theorem lab_eq {P K : Nat → Int32} {n : Nat} {F G : Nat → Int32} (c1 : closed P K n F) (l1 : least P K n F) (a1 : labs n F) (c2 : closed P K n G) (l2 : least P K n G) (a2 : labs n G) : ∀ i, i < n → F i = G i := by
  intro i hi
  rcases a1 i hi with q | ⟨h, hh, q⟩
  · rcases a2 i hi with r | ⟨h, hh, r⟩
    · rw [q, r]
    · have := l2 F c1 i h hi hh r
      exact absurd (this.symm.trans q) (nI_nm1 (by omega))
  · rw [q, l1 G c2 i h hi hh q]
/-- how many are labelled -/
def cntL (F : Nat → Int32) : Nat → Nat
  | 0 => 0
  | i + 1 => cntL F i + (if F i = -1 then 0 else 1)
theorem cntL_le (F : Nat → Int32) : ∀ n, cntL F n ≤ n
  | 0 => Nat.le_refl _
  | n + 1 => by
    have := cntL_le F n
    simp only [cntL]
    split <;> omega
theorem cntL_lt {F : Nat → Int32} {i : Nat} (h : F i = -1) : ∀ n, i < n → cntL F n < n
  | 0, q => absurd q (Nat.not_lt_zero i)
  | n + 1, q => by
    simp only [cntL]
    rcases Nat.lt_succ_iff_lt_or_eq.mp q with r | r
    · have := cntL_lt h n r
      split <;> omega
    · subst r
      have := cntL_le F i
      rw [if_pos h]; omega
theorem cntL_out {F : Nat → Int32} {i : Nat} {x : Int32} : ∀ n, n ≤ i → cntL (upd F i x) n = cntL F n
  | 0, _ => rfl
  | n + 1, q => by
    simp only [cntL]
    rw [cntL_out n (by omega), upd_n (by omega)]
theorem cntL_upd {F : Nat → Int32} {i : Nat} {x : Int32} (h : F i = -1) (hx : ¬ x = -1) : ∀ n, i < n → cntL (upd F i x) n = cntL F n + 1
  | 0, q => absurd q (Nat.not_lt_zero i)
  | n + 1, q => by
    simp only [cntL]
    rcases Nat.lt_succ_iff_lt_or_eq.mp q with r | r
    · rw [cntL_upd h hx n r, upd_n (by omega)]; omega
    · subst r
      rw [cntL_out i (Nat.le_refl _), upd_s, if_neg hx, if_pos h]
/-- what holds while the queue is worked off -/
def hInv (P K : Nat → Int32) (n : Nat) (F Qu : Nat → Int32) (qd : Nat) : Prop :=
  F 0 = nI 0 ∧ labs n F ∧ qd = cntL F n ∧ (∀ a, a < qd → ∃ j, j < n ∧ Qu a = nI j ∧ ¬ F j = -1) ∧ (∀ j, j < n → ¬ F j = -1 → ∃ a, a < qd ∧ Qu a = nI j) ∧ least P K n F
/-- labels only come -/
def hExt (n : Nat) (F G : Nat → Int32) : Prop := ∀ i, i < n → ¬ F i = -1 → G i = F i
theorem hExt.refl {n : Nat} {F : Nat → Int32} : hExt n F F := fun _ _ _ => rfl
theorem hExt.trans {n : Nat} {F G I : Nat → Int32} (h1 : hExt n F G) (h2 : hExt n G I) : hExt n F I := fun i hi q => by
  have e := h1 i hi q
  rw [h2 i hi (by rw [e]; exact q), e]
theorem hExt.new {n i : Nat} {F : Nat → Int32} {x : Int32} (h : F i = -1) : hExt n F (upd F i x) := fun j _ q => upd_n (fun e => q (by rw [e]; exact h))
theorem hInv.new {P K : Nat → Int32} {n : Nat} {F Qu : Nat → Int32} {qd i h : Nat} (v : hInv P K n F Qu qd) (hi : i < n) (hh : h ≤ 12) (hF : F i = -1) (hG : ∀ G, closed P K n G → G i = nI h) : hInv P K n (upd F i (nI h)) (upd Qu qd (nI i)) (qd + 1) := by
  obtain ⟨v1, v2, v3, v4, v5, v6⟩ := v
  have hne : ¬ nI h = -1 := nI_nm1 (by omega)
  refine ⟨?_, ?_, ?_, ?_, ?_, ?_⟩
  · by_cases q : 0 = i
    · rw [← q, v1] at hF; exact absurd hF (nI_nm1 (by omega))
    · rw [upd_n q]; exact v1
  · intro j hj
    by_cases q : j = i
    · rw [q, upd_s]; exact Or.inr ⟨h, hh, rfl⟩
    · rw [upd_n q]; exact v2 j hj
  · rw [cntL_upd hF hne n hi, v3]
  · intro a ha
    rcases Nat.lt_succ_iff_lt_or_eq.mp ha with q | q
    · obtain ⟨j, h1, h2, h3⟩ := v4 a q
      refine ⟨j, h1, by rw [upd_n (by omega)]; exact h2, ?_⟩
      by_cases r : j = i
      · rw [r, upd_s]; exact hne
      · rw [upd_n r]; exact h3
    · exact ⟨i, hi, by rw [q, upd_s], by rw [upd_s]; exact hne⟩
  · intro j hj q
    by_cases r : j = i
    · exact ⟨qd, by omega, by rw [r, upd_s]⟩
    · rw [upd_n r] at q
      obtain ⟨a, h1, h2⟩ := v5 j hj q
      exact ⟨a, by omega, by rw [upd_n (by omega)]; exact h2⟩
  · intro G hG2 j g hj hg q
    by_cases r : j = i
    · rw [r, upd_s] at q
      rw [r, hG G hG2]; exact q
    · rw [upd_n r] at q
      exact v6 G hG2 j g hj hg q
