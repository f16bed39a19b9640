/-! What a look at the policy's state answers. -/
theorem lk3 {how stt : Nat} {ca : Nat → Int32} (hh : how ≤ 2) (g : ¬ how = 2) (h : how = 0 → ca 7 = nI stt) : ca 7 = if how = 1 then ca 7 else nI stt := by
  by_cases q : how = 1
  · rw [if_pos q]
  · rw [if_neg q]; exact h (by omega)
