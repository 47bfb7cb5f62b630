/-! ShapeMoves: the text read (clauses as they are), image, undo, count; tapes -/
abbrev Cl : Type := Int32 × Int32 × Int32 × Int32 × Int32
/-- the clause v stands in the parts from to on -/
def WC (f : Nat → Int32) (to : Nat) (v : Cl) : Prop := f to = v.1 ∧ (v.1 = nI 112 ∧ f (to + 1) = v.2.1 ∧ f (to + 2) = v.2.2.1 ∧ f (to + 3) = v.2.2.2.1 ∧ f (to + 4) = v.2.2.2.2 ∨ v.1 = nI 109 ∧ f (to + 1) = v.2.1 ∧ f (to + 2) = v.2.2.1 ∨ v.1 = nI 100 ∧ f (to + 1) = v.2.1)
theorem WC.up {f f' : Nat → Int32} {to : Nat} {v : Cl} (h : WC f to v) (hf : ∀ q, q < to + 5 → f' q = f q) : WC f' to v := by
  unfold WC at *
  rw [hf _ (by omega), hf _ (by omega), hf _ (by omega), hf _ (by omega), hf _ (by omega)]
  exact h
def sTx0 (s : Ms) : Ms := (s.1, s.2.1, (0, s.2.2.1.2), s.2.2.2)
