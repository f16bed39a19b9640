/-! Rows laid one behind another into an array; the tests ahead of an act. -/
def apd (f : Nat → Int32) (z : Nat) : List Int32 → (Nat → Int32)
  | [] => f
  | x :: l => apd (upd f z x) (z + 1) l
theorem apd_app (f : Nat → Int32) (z : Nat) (l1 l2 : List Int32) : apd f z (l1 ++ l2) = apd (apd f z l1) (z + l1.length) l2 := by
  induction l1 generalizing f z with
  | nil => rfl
  | cons x l ih =>
    simp only [List.cons_append, apd, List.length_cons]
    rw [ih, show z + (l.length + 1) = z + 1 + l.length by omega]
theorem apd_lo (l : List Int32) : ∀ (f : Nat → Int32) (z j : Nat), j < z → apd f z l j = f j := by
  induction l with
  | nil => intros; rfl
  | cons x l ih =>
    intro f z j hj
    simp only [apd]
    rw [ih _ _ _ (by omega), upd_n (by omega)]
theorem apd_at (l : List Int32) : ∀ (f : Nat → Int32) (z j : Nat), j < l.length → apd f z l (z + j) = l.getD j 0 := by
  induction l with
  | nil => intro f z j hj; exact absurd hj (Nat.not_lt_zero j)
  | cons x l ih =>
    intro f z j hj
    simp only [apd]
    cases j with
    | zero =>
      show apd (upd f z x) (z + 1) l z = x
      rw [apd_lo l _ _ _ (by omega), upd_s]
    | succ j =>
      rw [show z + (j + 1) = z + 1 + j by omega, ih _ _ _ (by simpa using hj)]
      rfl
abbrev l4o : List Int32 := [nI 5, nI 0, nI 3, nI 8]
abbrev l4k (i z : Nat) : List Int32 := [nI 7, nI i, nI 0, nI (z + 16)]
abbrev l9o : List Int32 := [nI 11, nI 0, nI 4, nI 8, nI 11, nI 0, nI 10, nI 4, nI 8]
abbrev l9k (a b : Int32) (stop : Nat) : List Int32 := [nI 0, a, nI 0, nI stop, nI 0, b, nI 0, nI 0, nI stop]
abbrev l3o : List Int32 := [nI 0, nI 6, nI 7]
abbrev l3k (a : Int32) (stop : Nat) : List Int32 := [a, nI 7, nI (stop + 1)]
/-- the tests of the states below s for the act t; they begin at z, the guard's end stands at stop -/
def gO (th : Nat → Int32) (t : Nat) : Nat → List Int32
  | 0 => []
  | s + 1 => gO th t s ++ (if th (s * 8 + t) = -1 then [] else l4o ++ l9o ++ l3o)
def gK (lo hi th : Nat → Int32) (t z stop : Nat) : Nat → List Int32
  | 0 => []
  | s + 1 => gK lo hi th t z stop s ++ (if th (s * 8 + t) = -1 then [] else l4k s (z + 16 * cntR th t s) ++ l9k (lo (s * 8 + t)) (hi (s * 8 + t)) stop ++ l3k (th (s * 8 + t)) stop)
theorem gO_len (th : Nat → Int32) (t : Nat) : ∀ s, (gO th t s).length = 16 * cntR th t s
  | 0 => rfl
  | s + 1 => by
    have := gO_len th t s
    simp only [gO, cntR]
    split <;> simp <;> omega
theorem gK_len (lo hi th : Nat → Int32) (t z stop : Nat) : ∀ s, (gK lo hi th t z stop s).length = 16 * cntR th t s
  | 0 => rfl
  | s + 1 => by
    have := gK_len lo hi th t z stop s
    simp only [gK, cntR]
    split <;> simp <;> omega
section GG
variable {th : Nat → Int32} {t s : Nat}
theorem rn_no (g : decide (¬ th (s * 8 + t) = -1) = false) : th (s * 8 + t) = -1 := by
  simpa using g
theorem rn_yes (g : decide (¬ th (s * 8 + t) = -1) = true) : ¬ th (s * 8 + t) = -1 := of_decide_eq_true g
theorem cntR_no (g : decide (¬ th (s * 8 + t) = -1) = false) : cntR th t (s + 1) = cntR th t s := by
  simp only [cntR]; rw [if_pos (rn_no g)]; rfl
theorem cntR_yes (g : decide (¬ th (s * 8 + t) = -1) = true) : cntR th t (s + 1) = cntR th t s + 1 := by
  simp only [cntR]; rw [if_neg (rn_yes g)]
theorem gO_no (g : decide (¬ th (s * 8 + t) = -1) = false) : gO th t (s + 1) = gO th t s := by
  simp only [gO]; rw [if_pos (rn_no g), List.append_nil]
theorem gK_no {lo hi : Nat → Int32} {z stop : Nat} (g : decide (¬ th (s * 8 + t) = -1) = false) : gK lo hi th t z stop (s + 1) = gK lo hi th t z stop s := by
  simp only [gK]; rw [if_pos (rn_no g), List.append_nil]
theorem gO_yes (f : Nat → Int32) (z : Nat) (g : decide (¬ th (s * 8 + t) = -1) = true) : apd f z (gO th t (s + 1)) = apd (apd (apd (apd f z (gO th t s)) (z + 16 * cntR th t s) l4o) (z + 16 * cntR th t s + 4) l9o) (z + 16 * cntR th t s + 4 + 9) l3o := by
  simp only [gO]
  rw [if_neg (rn_yes g), apd_app, apd_app, apd_app, gO_len]
  rfl
theorem gK_yes (lo hi f : Nat → Int32) (z stop : Nat) (g : decide (¬ th (s * 8 + t) = -1) = true) : apd f z (gK lo hi th t z stop (s + 1)) = apd (apd (apd (apd f z (gK lo hi th t z stop s)) (z + 16 * cntR th t s) (l4k s (z + 16 * cntR th t s))) (z + 16 * cntR th t s + 4) (l9k (lo (s * 8 + t)) (hi (s * 8 + t)) stop)) (z + 16 * cntR th t s + 4 + 9) (l3k (th (s * 8 + t)) stop) := by
  simp only [gK]
  rw [if_neg (rn_yes g), apd_app, apd_app, apd_app, gK_len]
  rfl
end GG
theorem gO_end (f : Nat → Int32) (z : Nat) (th : Nat → Int32) (t n : Nat) (x : Int32) : apd f z (gO th t n ++ [x]) = upd (apd f z (gO th t n)) (z + 16 * cntR th t n) x := by
  rw [apd_app, gO_len]; rfl
theorem gK_end (lo hi f : Nat → Int32) (z stop : Nat) (th : Nat → Int32) (t n : Nat) (x : Int32) : apd f z (gK lo hi th t z stop n ++ [x]) = upd (apd f z (gK lo hi th t z stop n)) (z + 16 * cntR th t n) x := by
  rw [apd_app, gK_len]; rfl
theorem cntR_mono (th : Nat → Int32) (t : Nat) {a b : Nat} (h : a ≤ b) : cntR th t a ≤ cntR th t b := by
  induction b with
  | zero => rw [Nat.le_zero.mp h]; exact Nat.le_refl _
  | succ b ih =>
    rcases Nat.lt_or_eq_of_le h with q | q
    · exact Nat.le_trans (ih (by omega)) (by simp only [cntR]; omega)
    · rw [q]; exact Nat.le_refl _
