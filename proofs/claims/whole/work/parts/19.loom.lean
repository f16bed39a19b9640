/-! The rewritten program as the object keeps it. -/
abbrev WS : Type := (Nat → Int32) × (Nat → Int32) × (Nat → Int32) × Nat
def woP (P K lo hi th : Nat → Int32) (n np : Nat) (f g : Nat → Int32) (z : Nat) : Prop := z = plc P K th n np ∧ ∀ j, j < z → f j = (wO P K th n np).getD j 0 ∧ g j = (wK P K lo hi th n np).getD j 0
theorem woP_new (P K lo hi th : Nat → Int32) (n np : Nat) (f g : Nat → Int32) : woP P K lo hi th n np (apd f 0 (wO P K th n np)) (apd g 0 (wK P K lo hi th n np)) (plc P K th n np) := by
  refine ⟨rfl, fun j hj => ⟨?_, ?_⟩⟩
  · have := apd_at (wO P K th n np) f 0 j (by rw [wO_len]; exact hj)
    rwa [Nat.zero_add] at this
  · have := apd_at (wK P K lo hi th n np) g 0 j (by rw [wK_len]; exact hj)
    rwa [Nat.zero_add] at this
