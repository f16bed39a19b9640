/-! Where an instruction's rewritten one begins; the rewritten program as two rows of numbers. -/
theorem kn_of {K : Nat → Int32} {i m : Nat} (hm : m < 2 ^ 31) (h : inB (K i) m = true) : K i = nI (kn K i) ∧ kn K i < m := by
  obtain ⟨j, hj, e⟩ := inB_of hm h
  have h1 : kn K i = j := by unfold kn; rw [e]; exact nI_clamp (by omega)
  rw [h1]; exact ⟨e, hj⟩
theorem okK_9 {P K : Nat → Int32} {n i : Nat} (h : okK P K n) (hi : i < n) (o : opn P i = 9) : K i = nI (kn K i) ∧ kn K i < 8 := by
  have h1 := h i hi
  rw [o] at h1
  exact kn_of (by decide) h1
theorem okK_5 {P K : Nat → Int32} {n i : Nat} (h : okK P K n) (hi : i < n) (o : opn P i = 5 ∨ opn P i = 6) : K i = nI (kn K i) ∧ kn K i < 7 := by
  have h1 := h i hi
  unfold numFit at h1
  rw [if_pos o] at h1
  exact kn_of (by decide) h1
theorem okK_7 {P K : Nat → Int32} {n i : Nat} (hn : n < 2 ^ 31) (h : okK P K n) (hi : i < n) (o : opn P i = 7 ∨ opn P i = 8) : K i = nI (kn K i) ∧ kn K i < n := by
  have h1 := h i hi
  unfold numFit at h1
  rw [if_neg (by omega), if_pos o] at h1
  exact kn_of hn h1
def ahd (P K th : Nat → Int32) (ns i : Nat) : Nat := if opn P i = 9 then cntR th (kn K i) ns * 16 + 1 else 0
def plc (P K th : Nat → Int32) (ns : Nat) : Nat → Nat
  | 0 => 0
  | i + 1 => plc P K th ns i + ahd P K th ns i + 1
theorem ahd_le (P K th : Nat → Int32) {ns : Nat} (h : ns ≤ 4) (i : Nat) : ahd P K th ns i ≤ 65 := by
  have := cntR_le th (kn K i) ns
  unfold ahd; split <;> omega
theorem plc_le (P K th : Nat → Int32) {ns : Nat} (h : ns ≤ 4) : ∀ i, plc P K th ns i ≤ 66 * i
  | 0 => Nat.le_refl _
  | i + 1 => by
    have := plc_le P K th h i
    have := ahd_le P K th h i
    simp only [plc]; omega
theorem plc_mono (P K th : Nat → Int32) (ns : Nat) {a b : Nat} (h : a ≤ b) : plc P K th ns a + (b - a) ≤ plc P K th ns b := by
  induction b with
  | zero => rw [Nat.le_zero.mp h]; simp
  | succ b ih =>
    rcases Nat.lt_or_eq_of_le h with q | q
    · have := ih (by omega)
      simp only [plc]; omega
    · subst q; simp
def wO (P K th : Nat → Int32) (ns : Nat) : Nat → List Int32
  | 0 => []
  | i + 1 => wO P K th ns i ++ (if opn P i = 9 then gO th (kn K i) ns ++ [nI 12] else []) ++ [nI (opn P i)]
def tgt (P K th : Nat → Int32) (ns i : Nat) : Int32 := if opn P i = 7 ∨ opn P i = 8 then nI (plc P K th ns (kn K i)) else K i
def wK (P K lo hi th : Nat → Int32) (ns : Nat) : Nat → List Int32
  | 0 => []
  | i + 1 => wK P K lo hi th ns i ++ (if opn P i = 9 then gK lo hi th (kn K i) (plc P K th ns i) (plc P K th ns i + cntR th (kn K i) ns * 16) ns ++ [nI 0] else []) ++ [tgt P K th ns i]
theorem wO_len (P K th : Nat → Int32) (ns : Nat) : ∀ i, (wO P K th ns i).length = plc P K th ns i
  | 0 => rfl
  | i + 1 => by
    have := wO_len P K th ns i
    simp only [wO, plc, ahd, List.length_append, List.length_cons, List.length_nil]
    split <;> simp [gO_len] <;> omega
theorem wK_len (P K lo hi th : Nat → Int32) (ns : Nat) : ∀ i, (wK P K lo hi th ns i).length = plc P K th ns i
  | 0 => rfl
  | i + 1 => by
    have := wK_len P K lo hi th ns i
    simp only [wK, plc, ahd, List.length_append, List.length_cons, List.length_nil]
    split <;> simp [gK_len] <;> omega
section WW
variable {P K lo hi th : Nat → Int32} {ns i : Nat}
theorem plc_9 (o : opn P i = 9) : plc P K th ns (i + 1) = plc P K th ns i + 16 * cntR th (kn K i) ns + 1 + 1 := by
  simp only [plc, ahd]; rw [if_pos o]; omega
theorem plc_n (o : ¬ opn P i = 9) : plc P K th ns (i + 1) = plc P K th ns i + 1 := by
  simp only [plc, ahd]; rw [if_neg o]
theorem wO_9 (f : Nat → Int32) (o : opn P i = 9) : apd f 0 (wO P K th ns (i + 1)) = upd (apd (apd f 0 (wO P K th ns i)) (plc P K th ns i) (gO th (kn K i) ns ++ [nI 12])) (plc P K th ns i + 16 * cntR th (kn K i) ns + 1) (nI (opn P i)) := by
  simp only [wO]
  rw [if_pos o, apd_app, apd_app, List.length_append, wO_len, List.length_append, gO_len]
  simp only [Nat.zero_add, List.length_cons, List.length_nil, apd]
  rw [show plc P K th ns i + (16 * cntR th (kn K i) ns + 1) = plc P K th ns i + 16 * cntR th (kn K i) ns + 1 by omega]
theorem wO_n (f : Nat → Int32) (o : ¬ opn P i = 9) : apd f 0 (wO P K th ns (i + 1)) = upd (apd f 0 (wO P K th ns i)) (plc P K th ns i) (nI (opn P i)) := by
  simp only [wO]
  rw [if_neg o, List.append_nil, apd_app, wO_len, Nat.zero_add]
  rfl
theorem wK_9 (f : Nat → Int32) (o : opn P i = 9) : apd f 0 (wK P K lo hi th ns (i + 1)) = upd (apd (apd f 0 (wK P K lo hi th ns i)) (plc P K th ns i) (gK lo hi th (kn K i) (plc P K th ns i) (plc P K th ns i + cntR th (kn K i) ns * 16) ns ++ [nI 0])) (plc P K th ns i + 16 * cntR th (kn K i) ns + 1) (tgt P K th ns i) := by
  simp only [wK]
  rw [if_pos o, apd_app, apd_app, List.length_append, wK_len, List.length_append, gK_len]
  simp only [Nat.zero_add, List.length_cons, List.length_nil, apd]
  rw [show plc P K th ns i + (16 * cntR th (kn K i) ns + 1) = plc P K th ns i + 16 * cntR th (kn K i) ns + 1 by omega]
theorem wK_n (f : Nat → Int32) (o : ¬ opn P i = 9) : apd f 0 (wK P K lo hi th ns (i + 1)) = upd (apd f 0 (wK P K lo hi th ns i)) (plc P K th ns i) (tgt P K th ns i) := by
  simp only [wK]
  rw [if_neg o, List.append_nil, apd_app, wK_len, Nat.zero_add]
  rfl
theorem tgt_g (o : opn P i = 7 ∨ opn P i = 8) : tgt P K th ns i = nI (plc P K th ns (kn K i)) := if_pos o
theorem tgt_n (o : ¬ (opn P i = 7 ∨ opn P i = 8)) : tgt P K th ns i = K i := if_neg o
end WW
