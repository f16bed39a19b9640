/-! The rewritten program as the object keeps it. -/
abbrev WS : Type := (Nat → Int32) × (Nat → Int32) × (Nat → Int32) × Nat
def woP (P K lo hi th : Nat → Int32) (n np : Nat) (f g : Nat → Int32) (z : Nat) : Prop := z = plc P K th n np ∧ ∀ j, j < z → f j = (wO P K th n np).getD j 0 ∧ g j = (wK P K lo hi th n np).getD j 0
theorem woP_new (P K lo hi th : Nat → Int32) (n np : Nat) (f g : Nat → Int32) : woP P K lo hi th n np (apd f 0 (wO P K th n np)) (apd g 0 (wK P K lo hi th n np)) (plc P K th n np) := by
  refine ⟨rfl, fun j hj => ⟨?_, ?_⟩⟩
  · have := apd_at (wO P K th n np) f 0 j (by rw [wO_len]; exact hj)
    rwa [Nat.zero_add] at this
  · have := apd_at (wK P K lo hi th n np) g 0 j (by rw [wK_len]; exact hj)
    rwa [Nat.zero_add] at this
theorem inB_le_t {x : Int32} {m : Nat} (hm : m + 1 < 2 ^ 31) (h0 : ¬ x < 0) (h : x ≤ nI m) : inB x (m + 1) = true := inB_in hm h0 (i_nle.mpr (by
  rw [i_lt, nI_toInt hm]; have h1 := i_le.mp h; rw [nI_toInt (by omega)] at h1; omega))
theorem inB_le_f {x : Int32} {m : Nat} (hm : m + 1 < 2 ^ 31) (h : ¬ x ≤ nI m) : inB x (m + 1) = false := inB_hi hm (by
  rw [i_le, nI_toInt hm]; have h1 := i_lt.mp (i_nle.mp h); rw [nI_toInt (by omega)] at h1; omega)
/-- a number of states -/
def in14 (x : Int32) : Bool := decide (1 ≤ x.toInt ∧ x.toInt ≤ 4)
theorem in14_lo {x : Int32} (h : x < nI 1) : in14 x = false := by
  have h1 := i_lt.mp h
  rw [nI_toInt (by omega)] at h1
  simp only [in14, decide_eq_false_iff_not]; omega
theorem in14_hi {x : Int32} (h : ¬ x ≤ nI 4) : in14 x = false := by
  have h1 := i_lt.mp (i_nle.mp h)
  rw [nI_toInt (by omega)] at h1
  simp only [in14, decide_eq_false_iff_not]; omega
theorem in14_in {x : Int32} (h0 : ¬ x < nI 1) (h : x ≤ nI 4) : in14 x = true := by
  have h1 := i_le.mp (i_nlt.mp h0)
  have h2 := i_le.mp h
  rw [nI_toInt (by omega)] at h1 h2
  simp only [in14, decide_eq_true_eq]; omega
theorem in14_of {x : Int32} (h : in14 x = true) : ∃ k : Nat, 1 ≤ k ∧ k ≤ 4 ∧ x = nI k := by
  simp only [in14, decide_eq_true_eq] at h
  obtain ⟨j, hj, e⟩ := inB_of (n := 5) (by omega) (x := x) (by simp only [inB, decide_eq_true_eq]; omega)
  subst e
  rw [nI_toInt (by omega)] at h
  exact ⟨j, by omega, by omega, rfl⟩
def ruleOk (n : Nat) (x1 x2 x3 x4 x5 : Int32) : Bool := inB x1 n && (inB x5 n && (inB x2 8 && decide (x3 ≤ x4)))
theorem lk5 {x : Int32} (h0 : ¬ x < 0) (h : x ≤ nI 4) : x = nI 0 ∨ x = nI 1 ∨ x = nI 2 ∨ x = nI 3 ∨ x = nI 4 := by
  obtain ⟨j, hj, e⟩ := inB_of (by omega) (inB_le_t (m := 4) (by omega) h0 h)
  rcases (show j = 0 ∨ j = 1 ∨ j = 2 ∨ j = 3 ∨ j = 4 by omega) with q | q | q | q | q <;> subst q <;> simp [e]
/-- what a look answers -/
def lookV (j how stat pl q stt dn : Nat) (ca : Nat → Int32) : Int32 := if stat = 0 then nI 0 else match j with
  | 0 => nI stat
  | 1 => nI pl
  | 2 => nI q
  | 3 => if how = 1 then ca 7 else nI stt
  | _ => nI dn
