/-! what of the other side serves here: the least of a class, small numbers -/
def lsL (L : List Nat) (m : Nat) : Nat → Nat → Nat → Nat
  | 0, _, a => a
  | k + 1, i, a => lsL L m k (i + 1) (if cjN (lg L i) m < a then cjN (lg L i) m else a)
/-- the least of a move's class -/
def lsN (L : List Nat) (m : Nat) : Nat := lsL L m L.length 0 m
theorem lsL_lt {L : List Nat} {m : Nat} : ∀ (k i a : Nat), a < 48 → lsL L m k i a < 48 := by
  intro k
  induction k with
  | zero => intro i a h; exact h
  | succ k ih => intro i a h; unfold lsL; exact ih _ _ (by split <;> omega)
theorem in16 {x : Int32} (h : inB x 1 6 = true) : ∃ j : Nat, j ≤ 6 ∧ x = nI j := in1_n h
theorem b_ne {b : Bool} (h : ¬ b = true) : b = false := by cases b; rfl; exact absurd rfl h
theorem m1_n {p : Nat} (h : p ≤ 100) : ¬ nI p = -1 := fun e => by
  have := congrArg Int32.toInt e
  rw [nI_toInt (by omega), show (-1 : Int32).toInt = -1 from by decide] at this
  omega
