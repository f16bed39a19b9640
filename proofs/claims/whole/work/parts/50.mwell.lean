/-! The reference's heights: rounds over all instructions. -/
theorem pl_I_conv {S S' : Type} {post : Int32 → S → Prop} {wo : S → va_W} {post' : Int32 → S' → Prop} {wo' : S' → va_W} {l : Launch} {y : MethodName} {b : ByteArray} {n : Nat} {ret : FieldType} {rm : Room} {E : pl_Ev} {D : va_G} {cl : List vw_C} {tys : List (ClassId × FieldType)} {av : List Value} {wi : va_W} (h : pl_I l y b n ret rm E D cl tys av wi post wo) (f : S → S') (hp : ∀ r u, post r u → post' r (f u)) (hw : ∀ r u, post r u → wo' (f u) = wo u) : pl_I l y b n ret rm E D cl tys av wi post' wo' := by
  intro sz
  refine MetFree.mono (h sz) (fun _ _ q => q) (fun _ _ _ _ _ q => q) ?_
  intro a s o s' _ q
  obtain ⟨⟨⟨v, u, e1, e2, e3⟩, e4⟩, e5⟩ := q
  exact ⟨⟨⟨v, f u, e1, hp v u e2, by show pl_out D cl tys (va_A wi sz) (wo' (f u)) s'; rw [hw v u e2]; exact e3⟩, e4⟩, e5⟩
def mInv (P K : Nat → Int32) (n : Nat) (F : Nat → Int32) : Prop := F 0 = nI 0 ∧ labs n F ∧ least P K n F
abbrev MW : Type := (Nat → Int32) × Bool
def reachP (n i h : Nat) (F : Nat → Int32) : Int32 → MW → Prop := fun r u => r = bI u.2 ∧ (u.2 = true → i < n ∧ (F i = -1 ∨ F i = nI h) ∧ u.1 = upd F i (nI h)) ∧ (u.2 = false → u.1 = F ∧ ¬ (i < n ∧ (F i = -1 ∨ F i = nI h)))
def wellP (P K : Nat → Int32) (n : Nat) : Int32 → MW → Prop := fun r u => r = bI u.2 ∧ (u.2 = true → okK P K n ∧ closed P K n u.1 ∧ least P K n u.1 ∧ labs n u.1) ∧ (u.2 = false → ¬ (okK P K n ∧ ∃ G, closed P K n G))
section MWS
variable {P K : Nat → Int32} {n i h : Nat} {F F1 : Nat → Int32} {r : Int32} {u : MW}
theorem mreach (v : mInv P K n F) (hh : h ≤ 12) (hG : ∀ G, closed P K n G → i < n ∧ G i = nI h) (q : reachP n i h F r u) : mInv P K n u.1 ∧ hExt n F u.1 ∧ (u.2 = true → i < n ∧ u.1 i = nI h) ∧ (u.2 = false → ∀ G, ¬ closed P K n G) := by
  obtain ⟨-, q1, q2⟩ := q
  obtain ⟨v1, v2, v3⟩ := v
  cases hu : u.2 with
  | true =>
    obtain ⟨hi, hc, e⟩ := q1 hu
    rw [e]
    refine ⟨⟨?_, ?_, ?_⟩, ?_, fun _ => ⟨hi, upd_s⟩, fun e => nomatch e⟩
    · by_cases q : 0 = i
      · rw [← q] at hc ⊢
        rw [upd_s]
        rcases hc with c | c
        · rw [v1] at c; exact absurd c (nI_nm1 (by omega))
        · rw [← c]; exact v1
      · rw [upd_n q]; exact v1
    · intro j hj
      by_cases q : j = i
      · rw [q, upd_s]; exact Or.inr ⟨h, hh, rfl⟩
      · rw [upd_n q]; exact v2 j hj
    · intro G g j b hj hb q
      by_cases r : j = i
      · rw [r, upd_s] at q; rw [r, (hG G g).2]; exact q
      · rw [upd_n r] at q; exact v3 G g j b hj hb q
    · intro j hj q
      by_cases r : j = i
      · rw [r, upd_s]; rw [r] at q
        rcases hc with c | c
        · exact absurd c q
        · exact c.symm
      · rw [upd_n r]
  | false =>
    obtain ⟨e, c⟩ := q2 hu
    rw [e]
    refine ⟨⟨v1, v2, v3⟩, hExt.refl, (fun e => nomatch e), fun _ G g => ?_⟩
    obtain ⟨hi, eG⟩ := hG G g
    refine c ⟨hi, ?_⟩
    rcases v2 i hi with q | ⟨b, hb, q⟩
    · exact Or.inl q
    · right
      have := v3 G g i b hi hb q
      rw [q, ← this, eG]
theorem mcl {G : Nat → Int32} (v : mInv P K n F) (hi : i < n) (hh : h ≤ 12) (hF : F i = nI h) (g : closed P K n G) : clo P K n G i h := g.2.2 i h hi hh (v.2.2 G g i h hi hh hF)
theorem clo_end (hh : h ≤ 12) (o : opn P i = 12) : clo P K n F i h := by
  unfold clo aft
  rw [o]
  exact ⟨Nat.zero_le _, hh, fun q => absurd q (by omega), fun _ q => absurd rfl q⟩
theorem cntL_ext : ∀ m, m ≤ n → hExt n F F1 → cntL F m ≤ cntL F1 m
  | 0, _, _ => Nat.le_refl _
  | m + 1, hm, x => by
    have := cntL_ext m (by omega) x
    simp only [cntL]
    by_cases q : F m = -1
    · rw [if_pos q]; omega
    · rw [if_neg q, x m (by omega) q, if_neg q]; omega
theorem cntL_ext1 {j : Nat} (x : hExt n F F1) (h1 : F j = -1) (h2 : ¬ F1 j = -1) : ∀ m, m ≤ n → j < m → cntL F m + 1 ≤ cntL F1 m
  | 0, _, q => absurd q (Nat.not_lt_zero j)
  | m + 1, hm, q => by
    simp only [cntL]
    rcases Nat.lt_succ_iff_lt_or_eq.mp q with r | r
    · have := cntL_ext1 x h1 h2 m (by omega) r
      by_cases q : F m = -1
      · rw [if_pos q]; omega
      · rw [if_neg q, x m (by omega) q, if_neg q]; omega
    · subst r
      have := cntL_ext j (by omega) x
      rw [if_pos h1, if_neg h2]; omega
theorem mround {r : Nat} (v1 : mInv P K n F1) (x : hExt n F F1) (a : ∀ j, j < n → ∀ h, h ≤ 12 → F j = nI h → clo P K n F1 j h) (h0 : 0 < n) (c : closed P K n F ∨ r + 1 ≤ cntL F n) : closed P K n F1 ∨ r + 1 + 1 ≤ cntL F1 n := by
  by_cases q : ∃ j, j < n ∧ F j = -1 ∧ ¬ F1 j = -1
  · obtain ⟨j, hj, q1, q2⟩ := q
    right
    have := cntL_ext1 x q1 q2 n (Nat.le_refl n) hj
    rcases c with c | c
    · obtain ⟨b, hb, e⟩ := (v1.2.1 j hj).resolve_left q2
      have := v1.2.2 F c j b hj hb e
      exact absurd (this.symm.trans q1) (nI_nm1 (by omega))
    · omega
  · left
    refine ⟨h0, v1.1, fun j b hj hb e => a j hj b hb ?_⟩
    have hne : ¬ F j = -1 := fun q1 => q ⟨j, hj, q1, by rw [e]; exact nI_nm1 (by omega)⟩
    rw [← x j hj hne]; exact e
theorem mInv.init (h0 : 0 < n) (hF : ∀ j, j < n → F j = -1) : mInv P K n (upd F 0 (nI 0)) ∧ 0 + 1 ≤ cntL (upd F 0 (nI 0)) n := by
  have v := hInv.init (P := P) (K := K) (Qu := fun _ => nI 0) h0 hF
  exact ⟨⟨v.1, v.2.1, v.2.2.2.2.2⟩, Nat.le_of_eq v.2.2.1⟩
theorem wellP_0 {F : Nat → Int32} (c : ¬ (0 < n ∧ okK P K n)) : wellP P K n (nI 0) (F, false) := ⟨bI_f rfl, (fun e => nomatch e), fun _ q => q.2.elim (fun _ g => c ⟨g.1, q.1⟩)⟩
theorem wellP_1 {b : Bool} {R : Nat} (hok : okK P K n) (hR : n ≤ R) (v : mInv P K n F) (ht : b = true → closed P K n F ∨ R + 1 ≤ cntL F n) (hf : b = false → ∀ G, ¬ closed P K n G) : wellP P K n (bI b) (F, b) := by
  refine ⟨rfl, fun e => ⟨hok, ?_, v.2.2, v.2.1⟩, fun e q => q.2.elim (hf e)⟩
  rcases ht e with c | c
  · exact c
  · have := cntL_le F n
    omega
end MWS
