/-! One step of a run, and many. -/
theorem pl_V_conv {S S' : Type} {post : S → Prop} {wo : S → va_W} {post' : S' → Prop} {wo' : S' → va_W} {l : Launch} {y : MethodName} {b : ByteArray} {n : Nat} {rm : Room} {E : pl_Ev} {D : va_G} {cl : List vw_C} {tys : List (ClassId × FieldType)} {av : List Value} {wi : va_W} (h : pl_V l y b n rm E D cl tys av wi post wo) (f : S → S') (hp : ∀ u, post u → post' (f u)) (hw : ∀ u, post u → wo' (f u) = wo u) : pl_V l y b n rm E D cl tys av wi post' wo' := by
  intro sz
  refine MetFree.mono (h sz) (fun _ _ q => q) (fun _ _ _ _ _ q => q) ?_
  intro a s o s' _ q
  obtain ⟨⟨⟨u, e1, e2, e3⟩, e4⟩, e5⟩ := q
  exact ⟨⟨⟨f u, e1, hp u e2, by show pl_out D cl tys (va_A wi sz) (wo' (f u)) s'; rw [hw u e2]; exact e3⟩, e4⟩, e5⟩
/-- status, place, height, state, acts done; stack, cells, the trace's acts and numbers -/
abbrev RS : Type := Nat × Nat × Nat × Nat × Nat × (Nat → Int32) × (Nat → Int32) × (Nat → Int32) × (Nat → Int32)
def okA (lo hi th : Nat → Int32) (r : Nat) (v : Int32) : Bool := decide (¬ th r = -1) && (decide (lo r ≤ v) && decide (v ≤ hi r))
def rstep (how : Nat) (lo hi th : Nat → Int32) (o : Nat) (k : Int32) (pl sk stt dn : Nat) (sa ca ta tn : Nat → Int32) : RS := match o with
  | 0 => (1, pl + 1, sk + 1, stt, dn, upd sa sk k, ca, ta, tn)
  | 1 => (1, pl + 1, sk - 1, stt, dn, sa, ca, ta, tn)
  | 2 => (1, pl + 1, sk - 1, stt, dn, upd sa (sk - 2) (sa (sk - 2) + sa (sk - 1)), ca, ta, tn)
  | 3 => (1, pl + 1, sk - 1, stt, dn, upd sa (sk - 2) (sa (sk - 2) - sa (sk - 1)), ca, ta, tn)
  | 4 => (1, pl + 1, sk - 1, stt, dn, upd sa (sk - 2) (if sa (sk - 2) < sa (sk - 1) then 1 else 0), ca, ta, tn)
  | 5 => (1, pl + 1, sk + 1, stt, dn, upd sa sk (ca k.toNatClampNeg), ca, ta, tn)
  | 6 => (1, pl + 1, sk - 1, stt, dn, sa, upd ca k.toNatClampNeg (sa (sk - 1)), ta, tn)
  | 7 => (1, k.toNatClampNeg, sk, stt, dn, sa, ca, ta, tn)
  | 8 => (1, (if sa (sk - 1) = 0 then pl + 1 else k.toNatClampNeg), sk - 1, stt, dn, sa, ca, ta, tn)
  | 9 => ((actS how (okA lo hi th (stt * 8 + k.toNatClampNeg) (sa (sk - 1))) pl (sk - 1) stt dn (th (stt * 8 + k.toNatClampNeg)).toNatClampNeg k.toNatClampNeg (sa (sk - 1)) ta tn).1, (actS how (okA lo hi th (stt * 8 + k.toNatClampNeg) (sa (sk - 1))) pl (sk - 1) stt dn (th (stt * 8 + k.toNatClampNeg)).toNatClampNeg k.toNatClampNeg (sa (sk - 1)) ta tn).2.1, (actS how (okA lo hi th (stt * 8 + k.toNatClampNeg) (sa (sk - 1))) pl (sk - 1) stt dn (th (stt * 8 + k.toNatClampNeg)).toNatClampNeg k.toNatClampNeg (sa (sk - 1)) ta tn).2.2.1, (actS how (okA lo hi th (stt * 8 + k.toNatClampNeg) (sa (sk - 1))) pl (sk - 1) stt dn (th (stt * 8 + k.toNatClampNeg)).toNatClampNeg k.toNatClampNeg (sa (sk - 1)) ta tn).2.2.2.1, (actS how (okA lo hi th (stt * 8 + k.toNatClampNeg) (sa (sk - 1))) pl (sk - 1) stt dn (th (stt * 8 + k.toNatClampNeg)).toNatClampNeg k.toNatClampNeg (sa (sk - 1)) ta tn).2.2.2.2.1, sa, ca, (actS how (okA lo hi th (stt * 8 + k.toNatClampNeg) (sa (sk - 1))) pl (sk - 1) stt dn (th (stt * 8 + k.toNatClampNeg)).toNatClampNeg k.toNatClampNeg (sa (sk - 1)) ta tn).2.2.2.2.2.1, (actS how (okA lo hi th (stt * 8 + k.toNatClampNeg) (sa (sk - 1))) pl (sk - 1) stt dn (th (stt * 8 + k.toNatClampNeg)).toNatClampNeg k.toNatClampNeg (sa (sk - 1)) ta tn).2.2.2.2.2.2)
  | 10 => (1, pl + 1, sk, stt, dn, upd (upd sa (sk - 2) (sa (sk - 1))) (sk - 1) (sa (sk - 2)), ca, ta, tn)
  | 11 => (1, pl + 1, sk + 1, stt, dn, upd sa sk (sa (sk - 1)), ca, ta, tn)
  | _ => (2, pl, sk, stt, dn, sa, ca, ta, tn)
/-- what a step may be asked for -/
def okStep (how : Nat) (th : Nat → Int32) (o : Nat) (k : Int32) (sk stt dn : Nat) : Prop := o ≤ 12 ∧ tkN o ≤ sk ∧ sk - tkN o + lvN o ≤ 14 ∧ sk ≤ 14 ∧ how ≤ 2 ∧ stt < 4 ∧ dn ≤ 60 ∧ ((o = 5 ∨ o = 6) → inB k 8 = true) ∧ ((o = 7 ∨ o = 8) → inB k 2000 = true) ∧ (o = 9 → inB k 8 = true ∧ (¬ th (stt * 8 + k.toNatClampNeg) = -1 → th (stt * 8 + k.toNatClampNeg) = nI (th (stt * 8 + k.toNatClampNeg)).toNatClampNeg))
def stepF (how : Nat) (lo hi th O Kk : Nat → Int32) (s : RS) : RS := rstep how lo hi th (opn O s.2.1) (Kk s.2.1) s.2.1 s.2.2.1 s.2.2.2.1 s.2.2.2.2.1 s.2.2.2.2.2.1 s.2.2.2.2.2.2.1 s.2.2.2.2.2.2.2.1 s.2.2.2.2.2.2.2.2
def runN (F : RS → RS) : Nat → RS → Nat × RS
  | 0, s => (0, s)
  | k + 1, s => if s.1 = 1 then ((runN F k (F s)).1 + 1, (runN F k (F s)).2) else (0, s)
section RN
variable {F : RS → RS} {N i : Nat} {s : RS} {X : Nat × RS}
theorem run_next (h : X = ((runN F (N - i) s).1 + i, (runN F (N - i) s).2)) (hi : i < N) (h1 : s.1 = 1) : X = ((runN F (N - (i + 1)) (F s)).1 + (i + 1), (runN F (N - (i + 1)) (F s)).2) := by
  rw [h, show N - i = (N - (i + 1)) + 1 by omega]
  simp only [runN]
  rw [if_pos h1]
  simp only [Prod.mk.injEq, and_true]
  omega
theorem run_stop (h : X = ((runN F (N - i) s).1 + i, (runN F (N - i) s).2)) (h1 : ¬ s.1 = 1) : X = (i, s) := by
  rw [h]
  cases N - i with
  | zero => simp [runN]
  | succ k => simp only [runN]; rw [if_neg h1]; simp
theorem run_end (h : X = ((runN F (N - i) s).1 + i, (runN F (N - i) s).2)) (hi : N ≤ i) : X = (i, s) := by
  rw [h, show N - i = 0 by omega]
  simp [runN]
theorem run_le : ∀ (k : Nat) (s : RS), (runN F k s).1 ≤ k
  | 0, _ => Nat.le_refl _
  | k + 1, s => by
    have := run_le k (F s)
    simp only [runN]
    split <;> simp <;> omega
end RN
