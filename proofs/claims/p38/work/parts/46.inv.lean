/-! WHAT STAYS TRUE: points at places of their own, rows in their ranges -/
def MsOk (s : Ms) : Prop := SuOk s.1 ∧ ∀ u, s.2.1 = some u → SuOk u
theorem ok_pts {s : Ms} {p : Pts} (h : MsOk s) (hp : PtOk p) : MsOk (sPts s p) := ⟨⟨hp, h.1.2⟩, h.2⟩
theorem ok_drop {n j : Nat} {P : Nat → Nat → Int32} (h : PtOk (n, P)) : PtOk (n - 1, pDrop P j) := by
  refine ⟨by have h1 : n ≤ 8 := h.1; show n - 1 ≤ 8; omega, fun a b ha hb e0 e1 e2 => ?_⟩
  have ha2 : a < n - 1 := ha
  have hb2 : b < n - 1 := hb
  have e0 : pDrop P j a 0 = pDrop P j b 0 := e0
  have e1 : pDrop P j a 1 = pDrop P j b 1 := e1
  have e2 : pDrop P j a 2 = pDrop P j b 2 := e2
  unfold pDrop at e0 e1 e2
  by_cases c1 : a < j <;> by_cases c2 : b < j <;> simp only [c1, c2, if_true, if_false] at e0 e1 e2
  · exact h.2 a b (show a < n by omega) (show b < n by omega) e0 e1 e2
  · have := h.2 a (b + 1) (show a < n by omega) (show b + 1 < n by omega) e0 e1 e2
    omega
  · have := h.2 (a + 1) b (show a + 1 < n by omega) (show b < n by omega) e0 e1 e2
    omega
  · have := h.2 (a + 1) (b + 1) (show a + 1 < n by omega) (show b + 1 < n by omega) e0 e1 e2
    omega
theorem ok_same {n : Nat} {P P' : Nat → Nat → Int32} (h : PtOk (n, P)) (e : ∀ p, p < n → P' p 0 = P p 0 ∧ P' p 1 = P p 1 ∧ P' p 2 = P p 2) : PtOk (n, P') := by
  refine ⟨h.1, fun a b ha hb e0 e1 e2 => ?_⟩
  have e0 : P' a 0 = P' b 0 := e0
  have e1 : P' a 1 = P' b 1 := e1
  have e2 : P' a 2 = P' b 2 := e2
  rw [(e a ha).1, (e b hb).1] at e0
  rw [(e a ha).2.1, (e b hb).2.1] at e1
  rw [(e a ha).2.2, (e b hb).2.2] at e2
  exact h.2 a b ha hb e0 e1 e2
theorem ok_mark {n j : Nat} {P : Nat → Nat → Int32} {v : Int32} (h : PtOk (n, P)) : PtOk (n, pMark P j v) := ok_same h (fun p _ => by unfold pMark; simp)
theorem ok_add {n : Nat} {P : Nat → Nat → Int32} {x y z v : Int32} (h : PtOk (n, P)) (hn : n < 8) (hx : (ptL P x y z n 0).isSome = false) : PtOk (n + 1, pAdd P n x y z v) := by
  have no : ∀ q, q < n → P q 0 = x → P q 1 = y → P q 2 = z → False := fun q hq a b c => by
    obtain ⟨w, hw⟩ := ptL_ex n 0 q (Nat.zero_le _) (by omega) a b c
    rw [hw] at hx
    exact absurd (show true = false from hx) (by decide)
  refine ⟨hn, fun a b ha hb e0 e1 e2 => ?_⟩
  have ha2 : a < n + 1 := ha
  have hb2 : b < n + 1 := hb
  have e0 : pAdd P n x y z v a 0 = pAdd P n x y z v b 0 := e0
  have e1 : pAdd P n x y z v a 1 = pAdd P n x y z v b 1 := e1
  have e2 : pAdd P n x y z v a 2 = pAdd P n x y z v b 2 := e2
  unfold pAdd at e0 e1 e2
  by_cases c1 : a = n <;> by_cases c2 : b = n <;> simp only [c1, c2, if_true, if_false] at e0 e1 e2
  · omega
  · exact (no b (by omega) e0.symm e1.symm e2.symm).elim
  · exact (no a (by omega) e0 e1 e2).elim
  · exact h.2 a b (show a < n by omega) (show b < n by omega) e0 e1 e2
theorem ax_onto : ∀ t, t < 48 → (axN t 0 = 0 ∨ axN t 1 = 0 ∨ axN t 2 = 0) ∧ (axN t 0 = 1 ∨ axN t 1 = 1 ∨ axN t 2 = 1) ∧ (axN t 0 = 2 ∨ axN t 1 = 2 ∨ axN t 2 = 2) := by decide +kernel
theorem cxr_inj {r r2 : Nat → Int32} {t c d : Nat} (e : cxr r t c = cxr r2 t c) (h : axN t c = d) : r d = r2 d := by
  unfold cxr at e
  rw [h] at e
  split at e
  · exact e
  · exact Int32.neg_inj.mp e
theorem ok_take {n t : Nat} {P : Nat → Nat → Int32} (ht : t < 48) (h : PtOk (n, P)) : PtOk (n, pMap (rwTake t) P) := by
  refine ⟨h.1, fun a b ha hb e0 e1 e2 => ?_⟩
  have e0 : cxr (P a) t 0 = cxr (P b) t 0 := e0
  have e1 : cxr (P a) t 1 = cxr (P b) t 1 := e1
  have e2 : cxr (P a) t 2 = cxr (P b) t 2 := e2
  have o := ax_onto t ht
  refine h.2 a b ha hb ?_ ?_ ?_
  · rcases o.1 with q | q | q
    · exact cxr_inj e0 q
    · exact cxr_inj e1 q
    · exact cxr_inj e2 q
  · rcases o.2.1 with q | q | q
    · exact cxr_inj e0 q
    · exact cxr_inj e1 q
    · exact cxr_inj e2 q
  · rcases o.2.2 with q | q | q
    · exact cxr_inj e0 q
    · exact cxr_inj e1 q
    · exact cxr_inj e2 q
theorem ok_hap {n w t : Nat} {P : Nat → Nat → Int32} (ht : t < 48) (h : PtOk (n, P)) : PtOk (hapN n w t, hapP P n w t) := by
  unfold hapN hapP
  match w with
  | 0 =>
    by_cases c : t < n
    · rw [if_pos ⟨rfl, c⟩]
      show PtOk (n - 1, if t < n then pDrop P t else P)
      rw [if_pos c]
      exact ok_drop h
    · rw [if_neg (fun q => c q.2)]
      show PtOk (n, if t < n then pDrop P t else P)
      rw [if_neg c]
      exact h
  | 1 => rw [if_neg (by simp)]; exact ok_same h (fun p _ => ⟨rfl, rfl, rfl⟩)
  | 2 => rw [if_neg (by simp)]; exact ok_take ht h
  | w + 3 => rw [if_neg (by simp)]; exact ok_same h (fun p _ => ⟨rfl, rfl, rfl⟩)
theorem ok_evL {A B : Nat → Nat} : ∀ (k r : Nat) (p : Pts), (∀ j, r ≤ j → j < r + k → B j < 48) → PtOk p → PtOk (evL A B k r p) := by
  intro k
  induction k with
  | zero => intro r p _ h; exact h
  | succ k ih =>
    intro r p hb h
    unfold evL
    exact ih (r + 1) _ (fun j h1 h2 => hb j (by omega) (by omega)) (ok_hap (hb r (Nat.le_refl _) (by omega)) h)
theorem ok_evP {s : Ms} (h : MsOk s) : PtOk (evP s) := ok_evL _ _ _ (fun j _ hj => (h.1.2.2.1 j (by omega)).2) h.1.1
theorem ok_tPoint {s : Ms} {x y z v : Int32} (h : MsOk s) : MsOk (tPoint s x y z v) := by
  unfold tPoint
  split
  · exact h
  · split
    · exact h
    · rename_i c
      split
      · exact h
      · rename_i d
        exact ok_pts h (ok_add h.1.1 (by have := h.1.1.1; omega) (by simpa using c))
theorem ok_tMark {s : Ms} {p v : Int32} (h : MsOk s) : MsOk (tMark s p v) := by
  unfold tMark
  split
  · exact h
  · split
    · exact h
    · exact ok_pts h (ok_mark h.1.1)
theorem ok_tDrop {s : Ms} {p : Int32} (h : MsOk s) : MsOk (tDrop s p) := by
  unfold tDrop
  split
  · exact h
  · exact ok_pts h (ok_drop h.1.1)
theorem ok_row {A B : Nat → Nat} {n x y a b : Nat} (h : ∀ j, j < n → A j < a ∧ B j < b) (hx : x < a) (hy : y < b) : ∀ j, j < n + 1 → (if j = n then x else A j) < a ∧ (if j = n then y else B j) < b := fun j hj => by
  by_cases e : j = n
  · rw [if_pos e, if_pos e]; exact ⟨hx, hy⟩
  · rw [if_neg e, if_neg e]; exact h j (by omega)
theorem ok_tSee {s : Ms} {m z : Int32} (h : MsOk s) : MsOk (tSee s m z) := by
  unfold tSee
  split
  · exact ⟨⟨h.1.1, fun j hj => absurd hj (Nat.not_lt_zero _), h.1.2.2⟩, h.2⟩
  · split
    · exact h
    · rename_i c
      split
      · exact h
      · exact ⟨⟨h.1.1, ok_row h.1.2.1 (ix_mv (by simpa using c)).1 (by split <;> decide), h.1.2.2⟩, h.2⟩
theorem ok_tEvent {s : Ms} {w t : Int32} (h : MsOk s) : MsOk (tEvent s w t) := by
  unfold tEvent
  split
  · exact ⟨⟨h.1.1, h.1.2.1, fun j hj => absurd hj (Nat.not_lt_zero _), h.1.2.2.2⟩, h.2⟩
  · split
    · exact h
    · rename_i c
      split
      · exact h
      · rename_i d
        split
        · exact h
        · obtain ⟨w2, hw2, rfl⟩ := in_n (k := 3) (by simpa using c)
          have hw : ix (nI w2) < 4 := by rw [ix_nI (by omega)]; omega
          exact ⟨⟨h.1.1, h.1.2.1, ok_row h.1.2.2.1 hw (feB_ok hw (by simpa using d)).1, h.1.2.2.2⟩, h.2⟩
theorem ok_tBook {s : Ms} {m r : Int32} (h : MsOk s) : MsOk (tBook s m r) := by
  unfold tBook
  split
  · exact ⟨⟨h.1.1, h.1.2.1, h.1.2.2.1, fun j hj => absurd hj (Nat.not_lt_zero _)⟩, h.2⟩
  · split
    · exact h
    · rename_i c
      split
      · exact h
      · rename_i d
        split
        · exact h
        · obtain ⟨r2, hr2, rfl⟩ := in16 (by simpa using d)
          have hb := ok_row (A := s.1.2.2.2.2.1) (B := s.1.2.2.2.2.2) (n := s.1.2.2.2.1) (a := 48) (b := 7) (fun j hj => ⟨(h.1.2.2.2 j hj).1, Nat.lt_succ_of_le (h.1.2.2.2 j hj).2⟩) (ix_mv (by simpa using c)).1 (show ix (nI r2) < 7 by rw [ix_nI (by omega)]; omega)
          exact ⟨⟨h.1.1, h.1.2.1, h.1.2.2.1, fun j hj => ⟨(hb j hj).1, Nat.le_of_lt_succ (hb j hj).2⟩⟩, h.2⟩
theorem ok_tImage {s : Ms} (h : MsOk s) : MsOk (tImage s) := ⟨h.1, fun u hu => by cases hu; exact h.1⟩
theorem ok_tUndo {s : Ms} (h : MsOk s) : MsOk (tUndo s) := by
  unfold tUndo
  split
  · exact h
  · rename_i u hu
    exact ⟨h.2 u hu, h.2⟩
theorem ok_tTape {s : Ms} {k so n : Int32} (h : MsOk s) : MsOk (tTape s k so n) := by
  unfold tTape
  repeat' split
  all_goals exact h
theorem ok_tItem {s : Ms} {k i : Int32} {v : Int64} (h : MsOk s) : MsOk (tItem s k i v) := by
  unfold tItem
  repeat' split
  all_goals exact h
