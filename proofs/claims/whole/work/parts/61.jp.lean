/-! What holds along a run of the program itself. -/
def thV (th : Nat → Int32) (n : Nat) : Prop := ∀ r, r < 32 → th r = -1 ∨ ∃ t, t < n ∧ th r = nI t
theorem thV_at {th : Nat → Int32} {n r : Nat} (h : thV th n) (hn : n ≤ 4) (hr : r < 32) (g : ¬ th r = -1) : th r = nI (th r).toNatClampNeg ∧ (th r).toNatClampNeg < n := by
  rcases h r hr with q | ⟨t, ht, q⟩
  · exact absurd q g
  · rw [q, nI_clamp (by omega)]; exact ⟨rfl, ht⟩
theorem inB_mono {x : Int32} {a b : Nat} (hab : a ≤ b) (h : inB x a = true) : inB x b = true := by
  simp only [inB, decide_eq_true_eq] at h ⊢; omega
theorem okStep_of {P K th : Nat → Int32} {how np n i sk stt dn : Nat} {k : Int32} (hnp : np ≤ 24) (hn : n ≤ 4) (hth : thV th n) (ho : opn P i ≤ 12) (hh : how ≤ 2) (h1 : tkN (opn P i) ≤ sk) (h2 : sk - tkN (opn P i) + lvN (opn P i) ≤ 14) (h3 : sk ≤ 14) (h4 : stt < 4) (h5 : dn ≤ 60) (hk : numFit (opn P i) (K i) np = true) (hk2 : k = K i ∨ ((opn P i = 7 ∨ opn P i = 8) ∧ inB k 2000 = true)) : okStep how th (opn P i) k sk stt dn := by
  refine ⟨ho, h1, h2, h3, hh, h4, h5, ?_, ?_, ?_⟩
  · intro o
    rcases hk2 with e | e
    · rw [e]; unfold numFit at hk; rw [if_pos o] at hk; exact inB_mono (by omega) hk
    · omega
  · intro o
    rcases hk2 with e | e
    · rw [e]; unfold numFit at hk; rw [if_neg (by omega), if_pos o] at hk; exact inB_mono (by omega) hk
    · exact e.2
  · intro o
    rcases hk2 with e | e
    · rw [e]; unfold numFit at hk; rw [if_neg (by omega), if_neg (by omega), if_pos o] at hk
      obtain ⟨j, hj, ej⟩ := inB_of (by omega) hk
      refine ⟨hk, fun g => ?_⟩
      rw [ej, nI_clamp (by omega)] at g ⊢
      exact (thV_at hth hn (by omega) g).1
    · omega
def Jp (how np : Nat) (F : Nat → Int32) (s : RS) : Prop := s.1 ≤ 4 ∧ s.2.2.1 ≤ 14 ∧ s.2.2.2.1 < 4 ∧ s.2.2.2.2.1 ≤ 60 ∧ (how = 0 → s.2.2.2.2.2.2.1 7 = nI 0 ∧ s.2.2.2.1 = 0) ∧ (s.1 = 1 → s.2.1 < np ∧ s.2.2.1 ≤ 12 ∧ F s.2.1 = nI s.2.2.1)
section JP
variable {P K lo hi th F : Nat → Int32} {how np n st pl sk stt dn sk' : Nat} {sa ca ta tn sa' ca' : Nat → Int32}
theorem Jp_on (j3 : stt < 4) (j4 : dn ≤ 60) (j5 : how = 0 → ca 7 = nI 0 ∧ stt = 0) {z pl' : Nat} (c : pl' < np ∧ F pl' = nI z) (hz : z ≤ 12) (e : sk' = z) (hc : ca' 7 = ca 7) : Jp how np F (1, pl', sk', stt, dn, sa', ca', ta, tn) := by
  subst e
  exact ⟨show (1 : Nat) ≤ 4 by decide, by show sk' ≤ 14; omega, j3, j4, fun h => ⟨hc.trans (j5 h).1, (j5 h).2⟩, fun _ => ⟨c.1, hz, c.2⟩⟩
theorem Jp_act {ok : Bool} {v : Int32} {t j : Nat} (j3 : stt < 4) (j4 : dn ≤ 60) (j5 : how = 0 → ca 7 = nI 0 ∧ stt = 0) (hs : sk + 1 ≤ 14) (ht : how = 2 → ok = true → t < 4) (c : pl + 1 < np ∧ F (pl + 1) = nI sk) (hz : sk ≤ 12) : Jp how np F ((actS how ok pl sk stt dn t j v ta tn).1, (actS how ok pl sk stt dn t j v ta tn).2.1, (actS how ok pl sk stt dn t j v ta tn).2.2.1, (actS how ok pl sk stt dn t j v ta tn).2.2.2.1, (actS how ok pl sk stt dn t j v ta tn).2.2.2.2.1, sa, ca, (actS how ok pl sk stt dn t j v ta tn).2.2.2.2.2.1, (actS how ok pl sk stt dn t j v ta tn).2.2.2.2.2.2) := by
  unfold actS
  by_cases h1 : how = 2 ∧ ok = false
  · rw [if_pos h1]
    exact ⟨show (4 : Nat) ≤ 4 by decide, hs, j3, j4, j5, fun e => absurd (show (4 : Nat) = 1 from e) (by decide)⟩
  · rw [if_neg h1]
    by_cases h2 : 60 ≤ dn
    · rw [if_pos h2]
      exact ⟨show (3 : Nat) ≤ 4 by decide, hs, j3, j4, j5, fun e => absurd (show (3 : Nat) = 1 from e) (by decide)⟩
    · rw [if_neg h2]
      refine ⟨show (1 : Nat) ≤ 4 by decide, by show sk ≤ 14; omega, ?_, by show dn + 1 ≤ 60; omega, fun h => ⟨(j5 h).1, ?_⟩, fun _ => ⟨c.1, hz, c.2⟩⟩
      · show (if how = 2 then t else stt) < 4
        by_cases h3 : how = 2
        · rw [if_pos h3]; refine ht h3 ?_
          cases ok
          · exact absurd ⟨h3, rfl⟩ h1
          · rfl
        · rw [if_neg h3]; exact j3
      · show (if how = 2 then t else stt) = 0
        rw [if_neg (by omega)]; exact (j5 h).2
theorem okA_th {r : Nat} {v : Int32} (h : okA lo hi th r v = true) : ¬ th r = -1 := by
  unfold okA at h
  simp only [Bool.and_eq_true, decide_eq_true_eq] at h
  exact h.1
theorem Jp_step (hnp : np ≤ 24) (hop : okP P np) (hok : okK P K np) (hc : closed P K np F) (hn : n ≤ 4) (hth : thV th n) (hh : how ≤ 2) : ∀ s, Jp how np F s → s.1 = 1 → s.2.1 < np ∧ P s.2.1 = nI (opn P s.2.1) ∧ okStep how th (opn P s.2.1) (K s.2.1) s.2.2.1 s.2.2.2.1 s.2.2.2.2.1 ∧ Jp how np F (stepF how lo hi th P K s) := by
  rintro ⟨st, pl, sk, stt, dn, sa, ca, ta, tn⟩ ⟨j1, j2, j3, j4, j5, j6⟩ e
  dsimp only at j1 j2 j3 j4 j5 j6 e ⊢
  obtain ⟨k1, k2, k3⟩ := j6 e
  obtain ⟨o1, o2⟩ := hop pl k1
  obtain ⟨c1, c2, c3, c4⟩ := hc.2.2 pl sk k1 k2 k3
  have hkf := hok pl k1
  have ht := tkN_le (opn P pl)
  have hl := lvN_le (opn P pl)
  unfold aft at c2 c3 c4
  have hs := okStep_of (k := K pl) hnp hn hth o2 hh c1 (by omega) j2 j3 j4 hkf (Or.inl rfl)
  refine ⟨k1, o1, hs, ?_⟩
  unfold stepF
  dsimp only
  have hK5 : opn P pl = 5 ∨ opn P pl = 6 → (K pl).toNatClampNeg < 7 := fun o => (okK_5 hok k1 o).2
  have hK9 : opn P pl = 9 → (K pl).toNatClampNeg < 8 := fun o => (okK_9 hok k1 o).2
  have hK7 : opn P pl = 7 ∨ opn P pl = 8 → kn K pl = (K pl).toNatClampNeg := fun _ => rfl
  generalize opn P pl = o at *
  rcases (show o = 0 ∨ o = 1 ∨ o = 2 ∨ o = 3 ∨ o = 4 ∨ o = 5 ∨ o = 6 ∨ o = 7 ∨ o = 8 ∨ o = 9 ∨ o = 10 ∨ o = 11 ∨ o = 12 by omega) with rfl | rfl | rfl | rfl | rfl | rfl | rfl | rfl | rfl | rfl | rfl | rfl | rfl <;> simp only [tkN, lvN, List.getD_cons_zero, List.getD_cons_succ] at c1 c2 c3 c4 <;> simp only [rstep]
  · exact Jp_on j3 j4 j5 (c4 (by decide) (by decide)) c2 (by omega) rfl
  · exact Jp_on j3 j4 j5 (c4 (by decide) (by decide)) c2 (by omega) rfl
  · exact Jp_on j3 j4 j5 (c4 (by decide) (by decide)) c2 (by omega) rfl
  · exact Jp_on j3 j4 j5 (c4 (by decide) (by decide)) c2 (by omega) rfl
  · exact Jp_on j3 j4 j5 (c4 (by decide) (by decide)) c2 (by omega) rfl
  · exact Jp_on j3 j4 j5 (c4 (by decide) (by decide)) c2 (by omega) rfl
  · exact Jp_on j3 j4 j5 (c4 (by decide) (by decide)) c2 (by omega) (upd_n (by have := hK5 (Or.inr rfl); omega))
  · exact Jp_on j3 j4 j5 (c3 (by simp)) c2 (by omega) rfl
  · by_cases g : sa (sk - 1) = 0
    · rw [if_pos g]
      exact Jp_on j3 j4 j5 (c4 (by decide) (by decide)) c2 (by omega) rfl
    · rw [if_neg g]
      exact Jp_on j3 j4 j5 (c3 (by simp)) c2 (by omega) rfl
  · refine Jp_act j3 j4 j5 (by omega) (fun _ h => ?_) (c4 (by decide) (by decide)) (by omega)
    have h8 := hK9 rfl
    have := (thV_at hth hn (by omega) (okA_th h)).2
    omega
  · exact Jp_on j3 j4 j5 (c4 (by decide) (by decide)) c2 (by omega) rfl
  · exact Jp_on j3 j4 j5 (c4 (by decide) (by decide)) c2 (by omega) rfl
  · exact ⟨show (2 : Nat) ≤ 4 by decide, j2, j3, j4, j5, fun e => absurd (show (2 : Nat) = 1 from e) (by decide)⟩
end JP
