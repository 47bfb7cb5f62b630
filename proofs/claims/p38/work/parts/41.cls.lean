/-! CLASSES: the system's way (marking) and the reference's (the least each time) agree on each group -/
def Gp (L : List Nat) : Prop := Lok L ∧ (∀ i j, i < j → j < L.length → lg L i < lg L j) ∧ 0 ∈ L ∧ (∀ a, a ∈ L → ∀ b, b ∈ L → mulN a b ∈ L) ∧ ∀ a, a ∈ L → invN a ∈ L
theorem Gp.lt {L : List Nat} (h : Gp L) {x : Nat} (hx : x ∈ L) : x < 48 := by
  obtain ⟨j, hj, rfl⟩ := lg_mem hx
  exact h.1.2.1 j hj
theorem lsL_sp {L : List Nat} {m : Nat} : ∀ (k i a : Nat), L.length = i + k → lsL L m k i a ≤ a ∧ (∀ j, i ≤ j → j < L.length → lsL L m k i a ≤ cjN (lg L j) m) ∧ (lsL L m k i a = a ∨ ∃ j, j < L.length ∧ lsL L m k i a = cjN (lg L j) m) := by
  intro k
  induction k with
  | zero => intro i a h; exact ⟨Nat.le_refl _, fun j h1 h2 => by omega, Or.inl rfl⟩
  | succ k ih =>
    intro i a h
    unfold lsL
    have := ih (i + 1) (if cjN (lg L i) m < a then cjN (lg L i) m else a) (by omega)
    obtain ⟨h1, h2, h3⟩ := this
    by_cases c : cjN (lg L i) m < a
    · rw [if_pos c] at h1 h2 h3 ⊢
      refine ⟨by omega, fun j hj hj2 => ?_, ?_⟩
      · by_cases e : j = i
        · subst e; exact h1
        · exact h2 j (by omega) hj2
      · rcases h3 with h3 | h3
        · exact Or.inr ⟨i, by omega, h3⟩
        · exact Or.inr h3
    · rw [if_neg c] at h1 h2 h3 ⊢
      refine ⟨h1, fun j hj hj2 => ?_, h3⟩
      by_cases e : j = i
      · subst e; omega
      · exact h2 j (by omega) hj2
theorem ls_le {L : List Nat} {m h : Nat} (hh : h ∈ L) : lsN L m ≤ cjN h m := by
  obtain ⟨j, hj, rfl⟩ := lg_mem hh
  exact (lsL_sp (m := m) L.length 0 m (Nat.zero_add _).symm).2.1 j (Nat.zero_le _) hj
theorem ls_ex {L : List Nat} (hG : Gp L) {m : Nat} (hm : m < 48) : ∃ h, h ∈ L ∧ lsN L m = cjN h m := by
  rcases (lsL_sp (L := L) (m := m) L.length 0 m (Nat.zero_add _).symm).2.2 with e | ⟨j, hj, e⟩
  · exact ⟨0, hG.2.2.1, by rw [cj_0 hm]; exact e⟩
  · exact ⟨lg L j, lg_in hj, e⟩
theorem cj_in {L : List Nat} (hG : Gp L) {h x : Nat} (hh : h ∈ L) (hx : x ∈ L) : cjN h x ∈ L := hG.2.2.2.1 _ (hG.2.2.2.1 _ hh _ hx) _ (hG.2.2.2.2 _ hh)
theorem ls_cj {L : List Nat} (hG : Gp L) {h x : Nat} (hh : h ∈ L) (hx : x < 48) : lsN L (cjN h x) = lsN L x := by
  have h48 := hG.lt hh
  apply Nat.le_antisymm
  · obtain ⟨k, hk, e⟩ := ls_ex hG hx
    rw [e]
    have k48 := hG.lt hk
    have ih := invN_lt h h48
    have hm : mulN k (invN h) ∈ L := hG.2.2.2.1 _ hk _ (hG.2.2.2.2 _ hh)
    have e2 : cjN (mulN k (invN h)) (cjN h x) = cjN k x := by
      rw [cj_cj (hG.lt hm) h48 hx, mul_asc k48 ih h48, (mul_iv h h48).2.1, (mul_iv k k48).2.2.2]
    rw [← e2]
    exact ls_le hm
  · obtain ⟨k, hk, e⟩ := ls_ex hG (cj_lt h48 hx)
    rw [e, cj_cj (hG.lt hk) h48 hx]
    exact ls_le (hG.2.2.2.1 _ hk _ hh)
theorem ls_ls {L : List Nat} (hG : Gp L) {x : Nat} (hx : x < 48) : lsN L (lsN L x) = lsN L x := by
  obtain ⟨k, hk, e⟩ := ls_ex hG hx
  rw [e, ls_cj hG hk hx, e]
theorem ls_in {L : List Nat} (hG : Gp L) {x : Nat} (hx : x ∈ L) : lsN L x ∈ L := by
  obtain ⟨k, hk, e⟩ := ls_ex hG (hG.lt hx)
  rw [e]
  exact cj_in hG hk hx
theorem ls_of {L : List Nat} (hG : Gp L) {x y : Nat} (hx : x < 48) (hy : y < 48) (h : lsN L y = lsN L x) : ∃ k, k ∈ L ∧ y = cjN k x := by
  obtain ⟨a, ha, e1⟩ := ls_ex hG hy
  obtain ⟨b, hb, e2⟩ := ls_ex hG hx
  have a48 := hG.lt ha
  have b48 := hG.lt hb
  have ia := invN_lt a a48
  refine ⟨mulN (invN a) b, hG.2.2.2.1 _ (hG.2.2.2.2 _ ha) _ hb, ?_⟩
  rw [← cj_cj ia b48 hx, ← e2, ← h, e1, cj_cj ia a48 hy, (mul_iv a a48).2.1, cj_0 hy]
theorem fc_t {L : List Nat} {m y : Nat} : ∀ (k i : Nat) (f : Nat → Int32), ((∃ j, i ≤ j ∧ j < i + k ∧ cjN (lg L j) m = y) ∨ f y = nI m) → fcL L m k i f y = nI m := by
  intro k
  induction k with
  | zero =>
    intro i f h
    rcases h with ⟨j, h1, h2, _⟩ | h
    · omega
    · exact h
  | succ k ih =>
    intro i f h
    unfold fcL
    apply ih
    by_cases e : y = cjN (lg L i) m
    · right; rw [e, up_i]
    · rcases h with ⟨j, h1, h2, h3⟩ | h
      · left
        refine ⟨j, ?_, by omega, h3⟩
        have : j ≠ i := fun q => e (by rw [← h3, q])
        omega
      · right; rw [up_n e]; exact h
theorem fc_f {L : List Nat} {m y : Nat} : ∀ (k i : Nat) (f : Nat → Int32), (∀ j, i ≤ j → j < i + k → cjN (lg L j) m ≠ y) → fcL L m k i f y = f y := by
  intro k
  induction k with
  | zero => intro i f h; rfl
  | succ k ih =>
    intro i f h
    unfold fcL
    rw [ih _ _ (fun j h1 h2 => h j (by omega) (by omega)), up_n (fun e => h i (Nat.le_refl _) (by omega) e.symm)]
/-- the least of all classes, one behind the other -/
def lstL (L : List Nat) : Nat → Nat → List Nat
  | 0, _ => []
  | k + 1, i => if lsN L (lg L i) = lg L i then lg L i :: lstL L k (i + 1) else lstL L k (i + 1)
theorem nm1 {k : Nat} (h : k < 48) : ¬ nI k = -1 := m1_n (by omega)
theorem clL_sp {L : List Nat} (hG : Gp L) : ∀ (k i : Nat) (f h : Nat → Int32) (c : Nat), L.length = i + k →
    (∀ j, j < L.length → ∀ y, y ∈ L → lsN L y = lg L j → (j < i → f y = nI (lsN L y)) ∧ (i ≤ j → f y = -1)) →
    (∀ y, y ∈ L → (clL L k i f h c).1 y = nI (lsN L y)) ∧ (clL L k i f h c).2.2 = c + (lstL L k i).length ∧ (∀ t, t < (lstL L k i).length → (clL L k i f h c).2.1 (c + t) = nI (lg (lstL L k i) t)) ∧ ∀ t, t < c → (clL L k i f h c).2.1 t = h t := by
  intro k
  induction k with
  | zero =>
    intro i f h c hi hf
    refine ⟨fun y hy => ?_, rfl, fun t ht => absurd ht (Nat.not_lt_zero _), fun _ _ => rfl⟩
    obtain ⟨j, hj, e⟩ := lg_mem (ls_in hG hy)
    exact (hf j hj y hy e.symm).1 (by omega)
  | succ k ih =>
    intro i f h c hi hf
    have hx : lg L i ∈ L := lg_in (by omega)
    have hx48 := hG.lt hx
    obtain ⟨j0, hj0, e0⟩ := lg_mem (ls_in hG hx)
    have f0 := hf j0 hj0 _ hx e0.symm
    by_cases cc : lsN L (lg L i) = lg L i
    · have ej : j0 = i := hG.1.2.2 j0 i hj0 (by omega) (by rw [e0, cc])
      subst ej
      have fx := f0.2 (Nat.le_refl _)
      unfold clL lstL
      rw [if_pos fx, if_pos cc]
      have := ih (j0 + 1) (fcL L (lg L j0) L.length 0 f) (upd h c (nI (lg L j0))) (c + 1) (by omega) (fun j hj y hy e => ?_)
      · obtain ⟨a1, a2, a3, a4⟩ := this
        refine ⟨a1, by rw [a2]; simp; omega, fun t ht => ?_, fun t ht => by rw [a4 t (by omega), up_n (by omega)]⟩
        cases t with
        | zero => rw [show c + 0 = c from rfl, a4 c (by omega), up_i]; rfl
        | succ t =>
          have := a3 t (by simpa using ht)
          rw [show c + (t + 1) = c + 1 + t from by omega, this]
          rfl
      · have g := hf j hj y hy e
        by_cases ec : lsN L y = lg L j0
        · obtain ⟨q, hq, ey⟩ := ls_of hG hx48 (hG.lt hy) (ec.trans cc.symm)
          obtain ⟨w, hw, ew⟩ := lg_mem hq
          have ejj : j = j0 := hG.1.2.2 j j0 hj (by omega) (by rw [← e, ec])
          refine ⟨fun _ => ?_, fun q => by omega⟩
          rw [ec]
          exact fc_t _ _ _ (Or.inl ⟨w, Nat.zero_le _, by omega, by rw [ew, ey]⟩)
        · rw [fc_f _ _ _ (fun w _ hw ew => ec (by rw [← ew, ls_cj hG (lg_in (by omega)) hx48, cc]))]
          have nej : j ≠ j0 := fun q => ec (by rw [e, q])
          exact ⟨fun q => g.1 (by omega), fun q => g.2 (by omega)⟩
    · have hne : j0 ≠ i := fun q => cc (by rw [← e0, q])
      have hle : lsN L (lg L i) ≤ lg L i := by
        have := ls_le (m := lg L i) hG.2.2.1
        rw [cj_0 hx48] at this
        exact this
      have hlt : j0 < i := by
        rcases Nat.lt_or_ge j0 i with q | q
        · exact q
        · have := hG.2.1 i j0 (by omega) hj0
          omega
      have fx := f0.1 hlt
      unfold clL lstL
      rw [if_neg (by rw [fx]; exact nm1 (hG.lt (ls_in hG hx))), if_neg cc]
      refine ih (i + 1) f h c (by omega) (fun j hj y hy e => ?_)
      have g := hf j hj y hy e
      have nej : j ≠ i := fun q => cc (by
        have := ls_ls hG (hG.lt hy)
        rw [e, q] at this
        exact this)
      exact ⟨fun q => g.1 (by omega), fun q => g.2 (by omega)⟩
