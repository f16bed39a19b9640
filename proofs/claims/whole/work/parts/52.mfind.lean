/-! What stands at a place of the rewritten program. -/
theorem getD_l {l1 l2 : List Int32} {j : Nat} (h : j < l1.length) : (l1 ++ l2).getD j 0 = l1.getD j 0 := by
  rw [List.getD_eq_getElem?_getD, List.getD_eq_getElem?_getD, List.getElem?_append_left h]
theorem getD_r {l1 l2 : List Int32} {n : Nat} (h : l1.length = n) (j : Nat) : (l1 ++ l2).getD (n + j) 0 = l2.getD j 0 := by
  subst h
  rw [List.getD_eq_getElem?_getD, List.getD_eq_getElem?_getD, List.getElem?_append_right (by omega), Nat.add_sub_cancel_left]
section FW
variable {P K lo hi th : Nat → Int32} {ns i t s : Nat}
theorem wO_pre : ∀ (m j : Nat), i ≤ m → j < plc P K th ns i → (wO P K th ns m).getD j 0 = (wO P K th ns i).getD j 0
  | 0, j, h, _ => by rw [Nat.le_zero.mp h]
  | m + 1, j, h, hj => by
    rcases Nat.lt_or_eq_of_le h with q | q
    · have h1 := plc_mono P K th ns (show i ≤ m by omega)
      rw [← wO_pre m j (by omega) hj]
      show ((wO P K th ns m ++ _) ++ _).getD j 0 = _
      rw [List.append_assoc, getD_l (by rw [wO_len]; omega)]
    · rw [q]
theorem wK_pre : ∀ (m j : Nat), i ≤ m → j < plc P K th ns i → (wK P K lo hi th ns m).getD j 0 = (wK P K lo hi th ns i).getD j 0
  | 0, j, h, _ => by rw [Nat.le_zero.mp h]
  | m + 1, j, h, hj => by
    rcases Nat.lt_or_eq_of_le h with q | q
    · have h1 := plc_mono P K th ns (show i ≤ m by omega)
      rw [← wK_pre m j (by omega) hj]
      show ((wK P K lo hi th ns m ++ _) ++ _).getD j 0 = _
      rw [List.append_assoc, getD_l (by rw [wK_len]; omega)]
    · rw [q]
theorem wO_own {m : Nat} (hi : i < m) : (wO P K th ns m).getD (plc P K th ns i + ahd P K th ns i) 0 = nI (opn P i) := by
  rw [wO_pre (i := i + 1) m _ (by omega) (by simp only [plc]; omega)]
  show ((wO P K th ns i ++ _) ++ [nI (opn P i)]).getD _ 0 = _
  refine getD_r (n := plc P K th ns i + ahd P K th ns i) ?_ 0
  rw [List.length_append, wO_len]
  unfold ahd
  split
  · rw [List.length_append, gO_len, List.length_singleton]; omega
  · rfl
theorem wK_own {m : Nat} (h : i < m) : (wK P K lo hi th ns m).getD (plc P K th ns i + ahd P K th ns i) 0 = tgt P K th ns i := by
  rw [wK_pre (i := i + 1) m _ (by omega) (by simp only [plc]; omega)]
  show ((wK P K lo hi th ns i ++ _) ++ [tgt P K th ns i]).getD _ 0 = _
  refine getD_r (n := plc P K th ns i + ahd P K th ns i) ?_ 0
  rw [List.length_append, wK_len]
  unfold ahd
  split
  · rw [List.length_append, gK_len, List.length_singleton]; omega
  · rfl
theorem wO_at9 {m j : Nat} (h : i < m) (o : opn P i = 9) (hj : j ≤ 16 * cntR th (kn K i) ns) : (wO P K th ns m).getD (plc P K th ns i + j) 0 = (gO th (kn K i) ns ++ [nI 12]).getD j 0 := by
  rw [wO_pre (i := i + 1) m _ (by omega) (by rw [plc_9 o]; omega)]
  simp only [wO]
  rw [if_pos o, List.append_assoc, getD_r (wO_len P K th ns i), getD_l (by rw [List.length_append, gO_len, List.length_singleton]; omega)]
theorem wK_at9 {m j : Nat} (h : i < m) (o : opn P i = 9) (hj : j ≤ 16 * cntR th (kn K i) ns) : (wK P K lo hi th ns m).getD (plc P K th ns i + j) 0 = (gK lo hi th (kn K i) (plc P K th ns i) (plc P K th ns i + cntR th (kn K i) ns * 16) ns ++ [nI 0]).getD j 0 := by
  rw [wK_pre (i := i + 1) m _ (by omega) (by rw [plc_9 o]; omega)]
  simp only [wK]
  rw [if_pos o, List.append_assoc, getD_r (wK_len P K lo hi th ns i), getD_l (by rw [List.length_append, gK_len, List.length_singleton]; omega)]
theorem wO_stop {m : Nat} (h : i < m) (o : opn P i = 9) : (wO P K th ns m).getD (plc P K th ns i + 16 * cntR th (kn K i) ns) 0 = nI 12 := by
  rw [wO_at9 h o (Nat.le_refl _)]
  exact getD_r (gO_len th (kn K i) ns) 0
theorem wK_stop {m : Nat} (h : i < m) (o : opn P i = 9) : (wK P K lo hi th ns m).getD (plc P K th ns i + 16 * cntR th (kn K i) ns) 0 = nI 0 := by
  rw [wK_at9 h o (Nat.le_refl _)]
  exact getD_r (gK_len lo hi th (kn K i) _ _ ns) 0
theorem gO_pre : ∀ (m j : Nat), s ≤ m → j < 16 * cntR th t s → (gO th t m).getD j 0 = (gO th t s).getD j 0
  | 0, j, h, _ => by rw [Nat.le_zero.mp h]
  | m + 1, j, h, hj => by
    rcases Nat.lt_or_eq_of_le h with q | q
    · have h1 := cntR_mono th t (show s ≤ m by omega)
      rw [← gO_pre m j (by omega) hj]
      show (gO th t m ++ _).getD j 0 = _
      rw [getD_l (by rw [gO_len]; omega)]
    · rw [q]
theorem gK_pre {z stop : Nat} : ∀ (m j : Nat), s ≤ m → j < 16 * cntR th t s → (gK lo hi th t z stop m).getD j 0 = (gK lo hi th t z stop s).getD j 0
  | 0, j, h, _ => by rw [Nat.le_zero.mp h]
  | m + 1, j, h, hj => by
    rcases Nat.lt_or_eq_of_le h with q | q
    · have h1 := cntR_mono th t (show s ≤ m by omega)
      rw [← gK_pre m j (by omega) hj]
      show (gK lo hi th t z stop m ++ _).getD j 0 = _
      rw [getD_l (by rw [gK_len]; omega)]
    · rw [q]
abbrev tO : List Int32 := l4o ++ l9o ++ l3o
abbrev tK (lo hi th : Nat → Int32) (t s z stop : Nat) : List Int32 := l4k s z ++ l9k (lo (s * 8 + t)) (hi (s * 8 + t)) stop ++ l3k (th (s * 8 + t)) stop
theorem cntR_lt (hs : s < ns) (g : ¬ th (s * 8 + t) = -1) : cntR th t s + 1 ≤ cntR th t ns := by
  have h1 := cntR_mono th t (show s + 1 ≤ ns by omega)
  simp only [cntR] at h1
  rw [if_neg g] at h1
  exact h1
theorem wO_test {m r : Nat} (h : i < m) (o : opn P i = 9) (hs : s < ns) (g : ¬ th (s * 8 + kn K i) = -1) (hr : r < 16) : (wO P K th ns m).getD (plc P K th ns i + (16 * cntR th (kn K i) s + r)) 0 = tO.getD r 0 := by
  have h1 := cntR_lt hs g
  rw [wO_at9 h o (by omega), getD_l (by rw [gO_len]; omega), gO_pre (s := s + 1) ns _ (by omega) (by simp only [cntR]; rw [if_neg g]; omega)]
  simp only [gO]
  rw [if_neg g]
  exact getD_r (gO_len th (kn K i) s) r
theorem wK_test {m r : Nat} (h : i < m) (o : opn P i = 9) (hs : s < ns) (g : ¬ th (s * 8 + kn K i) = -1) (hr : r < 16) : (wK P K lo hi th ns m).getD (plc P K th ns i + (16 * cntR th (kn K i) s + r)) 0 = (tK lo hi th (kn K i) s (plc P K th ns i + 16 * cntR th (kn K i) s) (plc P K th ns i + cntR th (kn K i) ns * 16)).getD r 0 := by
  have h1 := cntR_lt hs g
  rw [wK_at9 h o (by omega), getD_l (by rw [gK_len]; omega), gK_pre (s := s + 1) ns _ (by omega) (by simp only [cntR]; rw [if_neg g]; omega)]
  simp only [gK]
  rw [if_neg g]
  exact getD_r (gK_len lo hi th (kn K i) _ _ s) r
theorem ahd_0 (o : ¬ opn P i = 9) : nI 0 = nI (ahd P K th ns i) := by unfold ahd; rw [if_neg o]
theorem ahd_1 (o : opn P i = 9) : nI (cntR th (kn K i) ns * 16 + 1) = nI (ahd P K th ns i) := by unfold ahd; rw [if_pos o]
theorem ahd_9 (h : ahd P K th ns i ≠ 0) : opn P i = 9 ∧ ahd P K th ns i = cntR th (kn K i) ns * 16 + 1 := by
  unfold ahd at h ⊢
  by_cases o : opn P i = 9
  · rw [if_pos o]; exact ⟨o, rfl⟩
  · rw [if_neg o] at h; exact absurd rfl h
/-- how the reference keeps the rules -/
def rulR (ru tm th : Nat → Int32) : Prop := ∀ r, r < 32 → ru r = bI (decide (¬ th r = -1)) ∧ (¬ th r = -1 → tm r = th r)
variable {v : Int32} {r : Nat}
theorem okA_1 (g : decide (¬ th r = -1) = false) : okA lo hi th r v = false := by unfold okA; rw [g]; rfl
theorem okA_2 (g : v < lo r) : okA lo hi th r v = false := by
  unfold okA; rw [decide_eq_false (i_nle.mpr g)]; cases decide (¬ th r = -1) <;> rfl
theorem okA_3 (g : ¬ v ≤ hi r) : okA lo hi th r v = false := by
  unfold okA; rw [decide_eq_false g]; cases decide (¬ th r = -1) <;> cases decide (lo r ≤ v) <;> rfl
theorem okA_4 (g1 : decide (¬ th r = -1) = true) (g2 : ¬ v < lo r) (g3 : v ≤ hi r) : okA lo hi th r v = true := by
  unfold okA; rw [g1, decide_eq_true (i_nlt.mp g2), decide_eq_true g3]; rfl
end FW
