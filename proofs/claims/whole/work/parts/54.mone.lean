/-! The place behind an act. -/
section AA
variable {how pl q stt dn t j : Nat} {v : Int32} {ta tn : Nat → Int32} {ok : Bool}
theorem actS_at (h : (actS how ok pl q stt dn t j v ta tn).1 = 1) : pl + 1 = (actS how ok pl q stt dn t j v ta tn).2.1 := by
  unfold actS at h ⊢
  split at h
  · exact absurd (show (4 : Nat) = 1 from h) (by decide)
  · split at h
    · exact absurd (show (3 : Nat) = 1 from h) (by decide)
    · rename_i h1 h2
      rw [if_neg h1, if_neg h2]
theorem actS_at' (h : ¬ (actS how ok pl q stt dn t j v ta tn).1 = 1) : pl = (actS how ok pl q stt dn t j v ta tn).2.1 := by
  unfold actS at h ⊢
  split
  · rfl
  · split
    · rfl
    · rename_i h1 h2
      rw [if_neg h1, if_neg h2] at h
      exact absurd rfl h
end AA
