/-! What holds along a run of the rewritten program: in which block the place lies, how high the stack is. -/
def dl (r : Nat) : Nat := [0, 1, 2, 1, 0, 1, 2, 1, 0, 1, 2, 2, 1, 0, 1, 0].getD r 0
def dlo (P K th : Nat → Int32) (ns i off : Nat) : Nat := if opn P i = 9 ∧ off < 16 * cntR th (kn K i) ns then dl (off % 16) else 0
theorem dl_le {r : Nat} (h : r < 16) : dl r ≤ 2 := (show ∀ r, r < 16 → dl r ≤ 2 by decide) r h
theorem dlo_le (P K th : Nat → Int32) (ns i off : Nat) : dlo P K th ns i off ≤ 2 := by
  unfold dlo; split
  · exact dl_le (Nat.mod_lt _ (by omega))
  · omega
def Jw (P K th F : Nat → Int32) (ns np : Nat) (s : RS) : Prop := s.1 ≤ 4 ∧ s.2.2.1 ≤ 14 ∧ s.2.2.2.1 = 0 ∧ s.2.2.2.2.1 ≤ 60 ∧ (s.1 = 1 → ∃ i off h, i < np ∧ off ≤ ahd P K th ns i ∧ h ≤ 12 ∧ F i = nI h ∧ s.2.1 = plc P K th ns i + off ∧ s.2.2.1 = h + dlo P K th ns i off)
section JW
variable {P K lo hi th F : Nat → Int32} {np ns n st p sk stt dn sk' i off h m r pl' : Nat} {sa ca ta tn sa' ca' ta' tn' : Nat → Int32}
theorem dlo_t (o : opn P i = 9) (hm : m < cntR th (kn K i) ns) (hr : r < 16) : dlo P K th ns i (16 * m + r) = dl r := by
  unfold dlo
  rw [if_pos ⟨o, by omega⟩, show (16 * m + r) % 16 = r by omega]
theorem dlo_0 (k : Nat) : dlo P K th ns i (16 * k) = 0 := by
  unfold dlo
  split
  · rw [show 16 * k % 16 = 0 by omega]; rfl
  · rfl
theorem dlo_own : dlo P K th ns i (ahd P K th ns i) = 0 := by
  unfold dlo ahd
  by_cases o : opn P i = 9
  · rw [if_pos o, if_neg (by omega)]
  · rw [if_neg (by rw [if_neg o]; exact fun q => o q.1)]
theorem Jw_on (hil : i < np) (ho : off ≤ ahd P K th ns i) (hh : h ≤ 12) (hF : F i = nI h) (ep : pl' = plc P K th ns i + off) (es : sk' = h + dlo P K th ns i off) (j3 : stt = 0) (j4 : dn ≤ 60) : Jw P K th F ns np (1, pl', sk', stt, dn, sa', ca', ta', tn') := by
  have := dlo_le P K th ns i off
  exact ⟨show (1 : Nat) ≤ 4 by decide, by show sk' ≤ 14; omega, j3, j4, fun _ => ⟨i, off, h, hil, ho, hh, hF, ep, es⟩⟩
theorem Jw_at (hil : i < np) (hh : h ≤ 12) (hF : F i = nI h) (ep : pl' = plc P K th ns i) (es : sk' = h) (j3 : stt = 0) (j4 : dn ≤ 60) : Jw P K th F ns np (1, pl', sk', stt, dn, sa', ca', ta', tn') :=
  Jw_on (off := 16 * 0) hil (Nat.zero_le _) hh hF ep (by rw [dlo_0, es, Nat.add_zero]) j3 j4
theorem Jw_go {O Kk : Nat → Int32} {B o : Nat} {k : Int32} (e1 : O p = nI o) (e2 : Kk p = k) (hs : okStep 1 th o k sk stt dn) (hb : p < B) (hj : Jw P K th F ns np (rstep 1 lo hi th o k p sk stt dn sa ca ta tn)) :
    p < B ∧ O p = nI (opn O p) ∧ okStep 1 th (opn O p) (Kk p) sk stt dn ∧ Jw P K th F ns np (stepF 1 lo hi th O Kk (st, p, sk, stt, dn, sa, ca, ta, tn)) := by
  have ho := hs.1
  have e3 : opn O p = o := by unfold opn; rw [e1]; exact nI_clamp (by omega)
  refine ⟨hb, by rw [e3]; exact e1, by rw [e3, e2]; exact hs, ?_⟩
  unfold stepF
  dsimp only
  rw [e3, e2]
  exact hj
theorem cnt_ex {t : Nat} : ∀ n, m < cntR th t n → ∃ s, s < n ∧ cntR th t s = m ∧ ¬ th (s * 8 + t) = -1
  | 0, h => absurd h (Nat.not_lt_zero m)
  | n + 1, h => by
    by_cases q : m < cntR th t n
    · obtain ⟨s, h1, h2⟩ := cnt_ex n q
      exact ⟨s, by omega, h2⟩
    · simp only [cntR] at h
      by_cases g : th (n * 8 + t) = -1
      · rw [if_pos g] at h; omega
      · rw [if_neg g] at h; exact ⟨n, by omega, by omega, g⟩
/-- the instruction itself -/
theorem Jw_own (hnp : np ≤ 24) (hop : okP P np) (hok : okK P K np) (hc : closed P K np F) (hn : ns ≤ 4) (hth : thV th ns) (hil : i < np) (hh : sk ≤ 12) (hF : F i = nI sk) (j3 : stt = 0) (j4 : dn ≤ 60) (e : p = plc P K th ns i + ahd P K th ns i) :
    okStep 1 th (opn P i) (tgt P K th ns i) sk stt dn ∧ Jw P K th F ns np (rstep 1 lo hi th (opn P i) (tgt P K th ns i) p sk stt dn sa ca ta tn) := by
  obtain ⟨o1, o2⟩ := hop i hil
  obtain ⟨c1, c2, c3, c4⟩ := hc.2.2 i sk hil hh hF
  have hkf := hok i hil
  have ht := tkN_le (opn P i)
  have hl := lvN_le (opn P i)
  have hpl : plc P K th ns (i + 1) = p + 1 := by rw [e]; rfl
  have hkk : opn P i = 7 ∨ opn P i = 8 → tgt P K th ns i = nI (plc P K th ns (kn K i)) ∧ plc P K th ns (kn K i) < 2000 := fun o => ⟨tgt_g o, by have := (okK_7 (by omega) hok hil o).2; have := plc_le P K th hn (kn K i); omega⟩
  have hkn : ¬ (opn P i = 7 ∨ opn P i = 8) → tgt P K th ns i = K i := tgt_n
  unfold aft at c2 c3 c4
  have hs : okStep 1 th (opn P i) (tgt P K th ns i) sk stt dn := by
    refine okStep_of hnp hn hth o2 (by omega) c1 (by omega) (by omega) (by omega) j4 hkf ?_
    by_cases o : opn P i = 7 ∨ opn P i = 8
    · right
      refine ⟨o, ?_⟩
      rw [(hkk o).1, inB_nI (by have := (hkk o).2; omega)]
      exact decide_eq_true (hkk o).2
    · exact Or.inl (hkn o)
  refine ⟨hs, ?_⟩
  have hk8 : opn P i = 7 ∨ opn P i = 8 → (tgt P K th ns i).toNatClampNeg = plc P K th ns (kn K i) := fun o => by rw [(hkk o).1]; exact nI_clamp (by have := (hkk o).2; omega)
  generalize tgt P K th ns i = k at *
  generalize opn P i = o at *
  rcases (show o = 0 ∨ o = 1 ∨ o = 2 ∨ o = 3 ∨ o = 4 ∨ o = 5 ∨ o = 6 ∨ o = 7 ∨ o = 8 ∨ o = 9 ∨ o = 10 ∨ o = 11 ∨ o = 12 by omega) with rfl | rfl | rfl | rfl | rfl | rfl | rfl | rfl | rfl | rfl | rfl | rfl | rfl <;> simp only [tkN, lvN, List.getD_cons_zero, List.getD_cons_succ] at c1 c2 c3 c4 <;> simp only [rstep]
  · exact Jw_at (c4 (by decide) (by decide)).1 c2 (c4 (by decide) (by decide)).2 hpl.symm (by omega) j3 j4
  · exact Jw_at (c4 (by decide) (by decide)).1 c2 (c4 (by decide) (by decide)).2 hpl.symm (by omega) j3 j4
  · exact Jw_at (c4 (by decide) (by decide)).1 c2 (c4 (by decide) (by decide)).2 hpl.symm (by omega) j3 j4
  · exact Jw_at (c4 (by decide) (by decide)).1 c2 (c4 (by decide) (by decide)).2 hpl.symm (by omega) j3 j4
  · exact Jw_at (c4 (by decide) (by decide)).1 c2 (c4 (by decide) (by decide)).2 hpl.symm (by omega) j3 j4
  · exact Jw_at (c4 (by decide) (by decide)).1 c2 (c4 (by decide) (by decide)).2 hpl.symm (by omega) j3 j4
  · exact Jw_at (c4 (by decide) (by decide)).1 c2 (c4 (by decide) (by decide)).2 hpl.symm (by omega) j3 j4
  · exact Jw_at (c3 (by simp)).1 c2 (c3 (by simp)).2 (hk8 (by simp)) (by omega) j3 j4
  · by_cases g : sa (sk - 1) = 0
    · rw [if_pos g]
      exact Jw_at (c4 (by decide) (by decide)).1 c2 (c4 (by decide) (by decide)).2 hpl.symm (by omega) j3 j4
    · rw [if_neg g]
      exact Jw_at (c3 (by simp)).1 c2 (c3 (by simp)).2 (hk8 (by simp)) (by omega) j3 j4
  · unfold actS
    rw [if_neg (by omega)]
    by_cases h2 : 60 ≤ dn
    · rw [if_pos h2]
      exact ⟨show (3 : Nat) ≤ 4 by decide, by show sk - 1 + 1 ≤ 14; omega, j3, j4, fun q => absurd (show (3 : Nat) = 1 from q) (by decide)⟩
    · rw [if_neg h2]
      exact Jw_at (c4 (by decide) (by decide)).1 c2 (c4 (by decide) (by decide)).2 hpl.symm (by show sk - 1 = _; omega) (by simpa using j3) (by show dn + 1 ≤ 60; omega)
  · exact Jw_at (c4 (by decide) (by decide)).1 c2 (c4 (by decide) (by decide)).2 hpl.symm (by omega) j3 j4
  · exact Jw_at (c4 (by decide) (by decide)).1 c2 (c4 (by decide) (by decide)).2 hpl.symm (by omega) j3 j4
  · exact ⟨show (2 : Nat) ≤ 4 by decide, by show sk ≤ 14; omega, j3, j4, fun q => absurd (show (2 : Nat) = 1 from q) (by decide)⟩
/-- in a test -/
theorem Jw_test {s9 z stop : Nat} (hn : ns ≤ 4) (hil : i < np) (hh : h ≤ 12) (hh1 : 1 ≤ h) (hF : F i = nI h) (h9 : opn P i = 9) (hm : m < cntR th (kn K i) ns) (hr : r < 16) (j3 : stt = 0) (j4 : dn ≤ 60) (e : p = plc P K th ns i + (16 * m + r)) (es : sk = h + dl r) (hb : p < 1600) (ez : z = plc P K th ns i + 16 * m) (est : stop = plc P K th ns i + cntR th (kn K i) ns * 16) (hst : stop < 1600) :
    ∀ k, k = (tK lo hi th (kn K i) s9 z stop).getD r 0 → ∃ o, tO.getD r 0 = nI o ∧ okStep 1 th o k sk stt dn ∧ Jw P K th F ns np (rstep 1 lo hi th o k p sk stt dn sa ca ta tn) := by
  have ha : ahd P K th ns i = cntR th (kn K i) ns * 16 + 1 := by unfold ahd; rw [if_pos h9]
  rcases (show r = 0 ∨ r = 1 ∨ r = 2 ∨ r = 3 ∨ r = 4 ∨ r = 5 ∨ r = 6 ∨ r = 7 ∨ r = 8 ∨ r = 9 ∨ r = 10 ∨ r = 11 ∨ r = 12 ∨ r = 13 ∨ r = 14 ∨ r = 15 by omega) with rfl | rfl | rfl | rfl | rfl | rfl | rfl | rfl | rfl | rfl | rfl | rfl | rfl | rfl | rfl | rfl
  · intro k hk
    have es : sk = h + 0 := es
    refine ⟨5, rfl, ⟨by decide, show 0 ≤ sk by omega, show sk - 0 + 1 ≤ 14 by omega, by omega, by decide, by omega, j4, fun _ => by rw [hk, show (tK lo hi th (kn K i) s9 z stop).getD 0 0 = nI 7 from rfl, inB_nI (by omega)]; decide, fun q => absurd q (by decide), fun q => absurd q (by decide)⟩, ?_⟩
    simp only [rstep]
    exact Jw_on (off := 16 * m + 1) hil (by omega) hh hF (by omega) (by rw [dlo_t h9 hm (by omega)]; show _ = h + 1; omega) j3 j4
  · intro k hk
    have es : sk = h + 1 := es
    refine ⟨0, rfl, ⟨by decide, show 0 ≤ sk by omega, show sk - 0 + 1 ≤ 14 by omega, by omega, by decide, by omega, j4, fun q => absurd q (by decide), fun q => absurd q (by decide), fun q => absurd q (by decide)⟩, ?_⟩
    simp only [rstep]
    exact Jw_on (off := 16 * m + 2) hil (by omega) hh hF (by omega) (by rw [dlo_t h9 hm (by omega)]; show _ = h + 2; omega) j3 j4
  · intro k hk
    have es : sk = h + 2 := es
    refine ⟨3, rfl, ⟨by decide, show 2 ≤ sk by omega, show sk - 2 + 1 ≤ 14 by omega, by omega, by decide, by omega, j4, fun q => absurd q (by decide), fun q => absurd q (by decide), fun q => absurd q (by decide)⟩, ?_⟩
    simp only [rstep]
    exact Jw_on (off := 16 * m + 3) hil (by omega) hh hF (by omega) (by rw [dlo_t h9 hm (by omega)]; show _ = h + 1; omega) j3 j4
  · intro k hk
    have es : sk = h + 1 := es
    have hkv : (tK lo hi th (kn K i) s9 z stop).getD 3 0 = nI (z + 16) := rfl
    have hkc : k.toNatClampNeg = z + 16 := by rw [hk, hkv]; exact nI_clamp (by omega)
    refine ⟨8, rfl, ⟨by decide, show 1 ≤ sk by omega, show sk - 1 + 0 ≤ 14 by omega, by omega, by decide, by omega, j4, fun q => absurd q (by decide), fun _ => by rw [hk, hkv, inB_nI (by omega)]; exact decide_eq_true (by omega), fun q => absurd q (by decide)⟩, ?_⟩
    simp only [rstep]
    by_cases g : sa (sk - 1) = 0
    · rw [if_pos g]
      exact Jw_on (off := 16 * m + 4) hil (by omega) hh hF (by omega) (by rw [dlo_t h9 hm (by omega)]; show _ = h + 0; omega) j3 j4
    · rw [if_neg g]
      rw [hkc]
      exact Jw_on (off := 16 * (m + 1)) hil (by omega) hh hF (by omega) (by rw [dlo_0]; omega) j3 j4
  · intro k hk
    have es : sk = h + 0 := es
    refine ⟨11, rfl, ⟨by decide, show 1 ≤ sk by omega, show sk - 1 + 2 ≤ 14 by omega, by omega, by decide, by omega, j4, fun q => absurd q (by decide), fun q => absurd q (by decide), fun q => absurd q (by decide)⟩, ?_⟩
    simp only [rstep]
    exact Jw_on (off := 16 * m + 5) hil (by omega) hh hF (by omega) (by rw [dlo_t h9 hm (by omega)]; show _ = h + 1; omega) j3 j4
  · intro k hk
    have es : sk = h + 1 := es
    refine ⟨0, rfl, ⟨by decide, show 0 ≤ sk by omega, show sk - 0 + 1 ≤ 14 by omega, by omega, by decide, by omega, j4, fun q => absurd q (by decide), fun q => absurd q (by decide), fun q => absurd q (by decide)⟩, ?_⟩
    simp only [rstep]
    exact Jw_on (off := 16 * m + 6) hil (by omega) hh hF (by omega) (by rw [dlo_t h9 hm (by omega)]; show _ = h + 2; omega) j3 j4
  · intro k hk
    have es : sk = h + 2 := es
    refine ⟨4, rfl, ⟨by decide, show 2 ≤ sk by omega, show sk - 2 + 1 ≤ 14 by omega, by omega, by decide, by omega, j4, fun q => absurd q (by decide), fun q => absurd q (by decide), fun q => absurd q (by decide)⟩, ?_⟩
    simp only [rstep]
    exact Jw_on (off := 16 * m + 7) hil (by omega) hh hF (by omega) (by rw [dlo_t h9 hm (by omega)]; show _ = h + 1; omega) j3 j4
  · intro k hk
    have es : sk = h + 1 := es
    have hkv : (tK lo hi th (kn K i) s9 z stop).getD 7 0 = nI (stop) := rfl
    have hkc : k.toNatClampNeg = stop := by rw [hk, hkv]; exact nI_clamp (by omega)
    refine ⟨8, rfl, ⟨by decide, show 1 ≤ sk by omega, show sk - 1 + 0 ≤ 14 by omega, by omega, by decide, by omega, j4, fun q => absurd q (by decide), fun _ => by rw [hk, hkv, inB_nI (by omega)]; exact decide_eq_true (by omega), fun q => absurd q (by decide)⟩, ?_⟩
    simp only [rstep]
    by_cases g : sa (sk - 1) = 0
    · rw [if_pos g]
      exact Jw_on (off := 16 * m + 8) hil (by omega) hh hF (by omega) (by rw [dlo_t h9 hm (by omega)]; show _ = h + 0; omega) j3 j4
    · rw [if_neg g]
      rw [hkc]
      exact Jw_on (off := 16 * cntR th (kn K i) ns) hil (by omega) hh hF (by omega) (by rw [dlo_0]; omega) j3 j4
  · intro k hk
    have es : sk = h + 0 := es
    refine ⟨11, rfl, ⟨by decide, show 1 ≤ sk by omega, show sk - 1 + 2 ≤ 14 by omega, by omega, by decide, by omega, j4, fun q => absurd q (by decide), fun q => absurd q (by decide), fun q => absurd q (by decide)⟩, ?_⟩
    simp only [rstep]
    exact Jw_on (off := 16 * m + 9) hil (by omega) hh hF (by omega) (by rw [dlo_t h9 hm (by omega)]; show _ = h + 1; omega) j3 j4
  · intro k hk
    have es : sk = h + 1 := es
    refine ⟨0, rfl, ⟨by decide, show 0 ≤ sk by omega, show sk - 0 + 1 ≤ 14 by omega, by omega, by decide, by omega, j4, fun q => absurd q (by decide), fun q => absurd q (by decide), fun q => absurd q (by decide)⟩, ?_⟩
    simp only [rstep]
    exact Jw_on (off := 16 * m + 10) hil (by omega) hh hF (by omega) (by rw [dlo_t h9 hm (by omega)]; show _ = h + 2; omega) j3 j4
  · intro k hk
    have es : sk = h + 2 := es
    refine ⟨10, rfl, ⟨by decide, show 2 ≤ sk by omega, show sk - 2 + 2 ≤ 14 by omega, by omega, by decide, by omega, j4, fun q => absurd q (by decide), fun q => absurd q (by decide), fun q => absurd q (by decide)⟩, ?_⟩
    simp only [rstep]
    exact Jw_on (off := 16 * m + 11) hil (by omega) hh hF (by omega) (by rw [dlo_t h9 hm (by omega)]; show _ = h + 2; omega) j3 j4
  · intro k hk
    have es : sk = h + 2 := es
    refine ⟨4, rfl, ⟨by decide, show 2 ≤ sk by omega, show sk - 2 + 1 ≤ 14 by omega, by omega, by decide, by omega, j4, fun q => absurd q (by decide), fun q => absurd q (by decide), fun q => absurd q (by decide)⟩, ?_⟩
    simp only [rstep]
    exact Jw_on (off := 16 * m + 12) hil (by omega) hh hF (by omega) (by rw [dlo_t h9 hm (by omega)]; show _ = h + 1; omega) j3 j4
  · intro k hk
    have es : sk = h + 1 := es
    have hkv : (tK lo hi th (kn K i) s9 z stop).getD 12 0 = nI (stop) := rfl
    have hkc : k.toNatClampNeg = stop := by rw [hk, hkv]; exact nI_clamp (by omega)
    refine ⟨8, rfl, ⟨by decide, show 1 ≤ sk by omega, show sk - 1 + 0 ≤ 14 by omega, by omega, by decide, by omega, j4, fun q => absurd q (by decide), fun _ => by rw [hk, hkv, inB_nI (by omega)]; exact decide_eq_true (by omega), fun q => absurd q (by decide)⟩, ?_⟩
    simp only [rstep]
    by_cases g : sa (sk - 1) = 0
    · rw [if_pos g]
      exact Jw_on (off := 16 * m + 13) hil (by omega) hh hF (by omega) (by rw [dlo_t h9 hm (by omega)]; show _ = h + 0; omega) j3 j4
    · rw [if_neg g]
      rw [hkc]
      exact Jw_on (off := 16 * cntR th (kn K i) ns) hil (by omega) hh hF (by omega) (by rw [dlo_0]; omega) j3 j4
  · intro k hk
    have es : sk = h + 0 := es
    refine ⟨0, rfl, ⟨by decide, show 0 ≤ sk by omega, show sk - 0 + 1 ≤ 14 by omega, by omega, by decide, by omega, j4, fun q => absurd q (by decide), fun q => absurd q (by decide), fun q => absurd q (by decide)⟩, ?_⟩
    simp only [rstep]
    exact Jw_on (off := 16 * m + 14) hil (by omega) hh hF (by omega) (by rw [dlo_t h9 hm (by omega)]; show _ = h + 1; omega) j3 j4
  · intro k hk
    have es : sk = h + 1 := es
    refine ⟨6, rfl, ⟨by decide, show 1 ≤ sk by omega, show sk - 1 + 0 ≤ 14 by omega, by omega, by decide, by omega, j4, fun _ => by rw [hk, show (tK lo hi th (kn K i) s9 z stop).getD 14 0 = nI 7 from rfl, inB_nI (by omega)]; decide, fun q => absurd q (by decide), fun q => absurd q (by decide)⟩, ?_⟩
    simp only [rstep]
    exact Jw_on (off := 16 * m + 15) hil (by omega) hh hF (by omega) (by rw [dlo_t h9 hm (by omega)]; show _ = h + 0; omega) j3 j4
  · intro k hk
    have es : sk = h + 0 := es
    have hkv : (tK lo hi th (kn K i) s9 z stop).getD 15 0 = nI (stop + 1) := rfl
    have hkc : k.toNatClampNeg = stop + 1 := by rw [hk, hkv]; exact nI_clamp (by omega)
    refine ⟨7, rfl, ⟨by decide, show 0 ≤ sk by omega, show sk - 0 + 0 ≤ 14 by omega, by omega, by decide, by omega, j4, fun q => absurd q (by decide), fun _ => by rw [hk, hkv, inB_nI (by omega)]; exact decide_eq_true (by omega), fun q => absurd q (by decide)⟩, ?_⟩
    simp only [rstep]
    rw [hkc]
    exact Jw_on (off := ahd P K th ns i) hil (Nat.le_refl _) hh hF (by omega) (by rw [dlo_own]; omega) j3 j4
/-- every place -/
theorem Jw_step (hnp : np ≤ 24) (hop : okP P np) (hok : okK P K np) (hc : closed P K np F) (hn : ns ≤ 4) (hth : thV th ns) : ∀ s, Jw P K th F ns np s → s.1 = 1 → s.2.1 < plc P K th ns np ∧ (fun j => (wO P K th ns np).getD j 0) s.2.1 = nI (opn (fun j => (wO P K th ns np).getD j 0) s.2.1) ∧ okStep 1 th (opn (fun j => (wO P K th ns np).getD j 0) s.2.1) ((fun j => (wK P K lo hi th ns np).getD j 0) s.2.1) s.2.2.1 s.2.2.2.1 s.2.2.2.2.1 ∧ Jw P K th F ns np (stepF 1 lo hi th (fun j => (wO P K th ns np).getD j 0) (fun j => (wK P K lo hi th ns np).getD j 0) s) := by
  rintro ⟨st, p, sk, stt, dn, sa, ca, ta, tn⟩ ⟨j1, j2, j3, j4, j5⟩ e
  dsimp only at j1 j2 j3 j4 j5 e
  obtain ⟨i, off, h, hil, ho, hh, hF, ep, es⟩ := j5 e
  have hb : p < plc P K th ns np := by
    have h1 := plc_mono P K th ns (show i + 1 ≤ np by omega)
    simp only [plc] at h1
    omega
  have hbn := plc_le P K th hn np
  by_cases hA : off = ahd P K th ns i
  · subst hA
    rw [dlo_own, Nat.add_zero] at es
    subst es
    obtain ⟨q1, q2⟩ := Jw_own (p := p) (lo := lo) (hi := hi) (sa := sa) (ca := ca) (ta := ta) (tn := tn) hnp hop hok hc hn hth hil hh hF j3 j4 ep
    exact Jw_go (O := fun j => (wO P K th ns np).getD j 0) (Kk := fun j => (wK P K lo hi th ns np).getD j 0) (by show (wO P K th ns np).getD p 0 = _; rw [ep]; exact wO_own hil) (by show (wK P K lo _ th ns np).getD p 0 = _; rw [ep]; exact wK_own hil) q1 hb q2
  · obtain ⟨h9, ha⟩ := ahd_9 (show ahd P K th ns i ≠ 0 by omega)
    by_cases hB : off = 16 * cntR th (kn K i) ns
    · subst hB
      rw [dlo_0, Nat.add_zero] at es
      refine Jw_go (O := fun j => (wO P K th ns np).getD j 0) (Kk := fun j => (wK P K lo hi th ns np).getD j 0) (o := 12) (k := nI 0) (by show (wO P K th ns np).getD p 0 = _; rw [ep]; exact wO_stop hil h9) (by show (wK P K lo _ th ns np).getD p 0 = _; rw [ep]; exact wK_stop hil h9) ⟨by decide, show 0 ≤ sk by omega, show sk - 0 + 0 ≤ 14 by omega, j2, by omega, by show stt < 4; omega, j4, fun q => absurd q (by decide), fun q => absurd q (by decide), fun q => absurd q (by decide)⟩ hb ?_
      exact ⟨show (2 : Nat) ≤ 4 by decide, j2, j3, j4, fun q => absurd (show (2 : Nat) = 1 from q) (by decide)⟩
    · have eo : off = 16 * (off / 16) + off % 16 := by omega
      have hm : off / 16 < cntR th (kn K i) ns := by omega
      obtain ⟨s9, hs9, hc9, hg9⟩ := cnt_ex ns hm
      have hh1 : 1 ≤ h := by
        have c1 := (hc.2.2 i h hil hh hF).1
        rw [h9] at c1
        exact c1
      rw [eo, dlo_t h9 hm (by omega)] at es
      have hst : plc P K th ns i + cntR th (kn K i) ns * 16 < 1600 := by
        have h1 := plc_mono P K th ns (show i + 1 ≤ np by omega)
        simp only [plc] at h1
        omega
      obtain ⟨o, q1, q2, q3⟩ := Jw_test (p := p) (lo := lo) (hi := hi) (sa := sa) (ca := ca) (ta := ta) (tn := tn) (s9 := s9) hn hil hh hh1 hF h9 hm (Nat.mod_lt off (by omega)) j3 j4 (by rw [ep]; omega) es (by omega) rfl rfl hst _ rfl
      have ep2 : p = plc P K th ns i + (16 * cntR th (kn K i) s9 + off % 16) := by rw [hc9, ep]; omega
      refine Jw_go (O := fun j => (wO P K th ns np).getD j 0) (Kk := fun j => (wK P K lo hi th ns np).getD j 0) (by show (wO P K th ns np).getD p 0 = _; rw [ep2, wO_test hil h9 hs9 hg9 (by omega)]; exact q1) (by show (wK P K lo _ th ns np).getD p 0 = _; rw [ep2, wK_test hil h9 hs9 hg9 (by omega), hc9]) q2 hb q3
end JW
