/-! THE TEXT: n bytes T; the parser at place i, with its parts f and c clauses -/
def Tx (σ : St) (n : Nat) (T : Nat → Nat) : Prop := σ.1 48 1 = nI n ∧ n ≤ 100 ∧ ∀ j, j < n → σ.1 49 j = nI (T j) ∧ T j < 128
section TXS
variable {σ : St} {i j c q : Nat} {f g : Nat → Int32}
end TXS
theorem sI_id {σ : St} {c : Nat} : sI σ c (σ.1 c) = σ := by
  unfold sI
  have e : (fun q => if q = c then σ.1 c else σ.1 q) = σ.1 := by
    funext q
    by_cases h : q = c
    · subst h; simp
    · simp [h]
  rw [e]
theorem Tx.go {σ σ' : St} {n : Nat} {T : Nat → Nat} {l : List Nat} (h : Tx σ n T) (hF : Fr l σ σ') (h0 : 48 ∉ l) (h1 : 49 ∉ l) : Tx σ' n T := by
  obtain ⟨a1, a2, a3⟩ := h
  exact ⟨by rw [(hF _ h0).1]; exact a1, a2, fun p hp => by rw [(hF _ h1).1]; exact a3 p hp⟩
