/-! THE MOVES AS A GROUP: products by axes and signs; what keeps a shape is closed -/
theorem ax_mul : ∀ a, a < 48 → ∀ b, b < 48 → ∀ i, i < 3 → axN (mulN a b) i = axN b (axN a i) := by decide +kernel
theorem sb_mul : ∀ a, a < 48 → ∀ b, b < 48 → ∀ i, i < 3 → sbN (mulN a b) i = (sbN a i + sbN b (axN a i)) % 2 := by decide +kernel
theorem mv_ext0 : ∀ m, m < 48 → ∀ n, n < 48 → axN m 0 = axN n 0 ∧ axN m 1 = axN n 1 ∧ axN m 2 = axN n 2 ∧ sbN m 0 = sbN n 0 ∧ sbN m 1 = sbN n 1 ∧ sbN m 2 = sbN n 2 → m = n := by decide +kernel
theorem mv_ext {m n : Nat} (hm : m < 48) (hn : n < 48) (h : ∀ i, i < 3 → axN m i = axN n i ∧ sbN m i = sbN n i) : m = n :=
  mv_ext0 m hm n hn ⟨(h 0 (by decide)).1, (h 1 (by decide)).1, (h 2 (by decide)).1, (h 0 (by decide)).2, (h 1 (by decide)).2, (h 2 (by decide)).2⟩
theorem mul_asc {a b c : Nat} (ha : a < 48) (hb : b < 48) (hc : c < 48) : mulN (mulN a b) c = mulN a (mulN b c) := by
  have h1 := mulN_lt a ha b hb
  have h2 := mulN_lt b hb c hc
  refine mv_ext (mulN_lt _ h1 _ hc) (mulN_lt _ ha _ h2) (fun i hi => ?_)
  have hi2 := axN_lt a ha i hi
  have hi3 := axN_lt b hb _ hi2
  refine ⟨?_, ?_⟩
  · rw [ax_mul _ h1 _ hc i hi, ax_mul _ ha _ hb i hi, ax_mul _ ha _ h2 i hi, ax_mul _ hb _ hc _ hi2]
  · rw [sb_mul _ h1 _ hc i hi, sb_mul _ ha _ hb i hi, ax_mul _ ha _ hb i hi, sb_mul _ ha _ h2 i hi, sb_mul _ hb _ hc _ hi2]
    omega
theorem mul_iv : ∀ a, a < 48 → mulN a (invN a) = 0 ∧ mulN (invN a) a = 0 ∧ mulN 0 a = a ∧ mulN a 0 = a := by decide +kernel
theorem inv_ml : ∀ a, a < 48 → ∀ b, b < 48 → invN (mulN a b) = mulN (invN b) (invN a) := by decide +kernel
theorem cj_lt {h x : Nat} (hh : h < 48) (hx : x < 48) : cjN h x < 48 := mulN_lt _ (mulN_lt _ hh _ hx) _ (invN_lt _ hh)
theorem cj_cj {k h x : Nat} (hk : k < 48) (hh : h < 48) (hx : x < 48) : cjN k (cjN h x) = cjN (mulN k h) x := by
  unfold cjN
  have ik := invN_lt k hk
  have ih := invN_lt h hh
  have hhx := mulN_lt h hh x hx
  rw [inv_ml k hk h hh, mul_asc hk (mulN_lt _ hhx _ ih) ik |>.trans rfl]
  rw [mul_asc hhx ih ik, ← mul_asc hk hhx (mulN_lt _ ih _ ik), ← mul_asc hk hh hx]
theorem cj_0 {x : Nat} (hx : x < 48) : cjN 0 x = x := by
  unfold cjN
  rw [(mul_iv x hx).2.2.1, show invN 0 = 0 from by decide, (mul_iv x hx).2.2.2]
/-- what a move makes of a place, and then another one -/
theorem cxr_ml {r r2 : Nat → Int32} {a b : Nat} (ha : a < 48) (hb : b < 48) (hr : ∀ i, i < 3 → r2 i = cxr r b i) (i : Nat) (hi : i < 3) : cxr r2 a i = cxr r (mulN a b) i := by
  have hi2 := axN_lt a ha i hi
  unfold cxr
  rw [sb_mul a ha b hb i hi, ax_mul a ha b hb i hi, hr _ hi2]
  unfold cxr
  have b1 := sbN_lt a i
  have b2 := sbN_lt b (axN a i)
  rcases (show sbN a i = 0 ∨ sbN a i = 1 from by omega) with e1 | e1 <;> rcases (show sbN b (axN a i) = 0 ∨ sbN b (axN a i) = 1 from by omega) with e2 | e2 <;> rw [e1, e2] <;> simp
theorem ptL_some {P : Nat → Nat → Int32} {x y z : Int32} : ∀ (k i q : Nat), ptL P x y z k i = some q → i ≤ q ∧ q < i + k ∧ P q 0 = x ∧ P q 1 = y ∧ P q 2 = z := by
  intro k
  induction k with
  | zero => intro i q h; cases h
  | succ k ih =>
    intro i q h
    unfold ptL at h
    split at h
    · rename_i c
      cases h
      exact ⟨Nat.le_refl _, by omega, c⟩
    · have := ih _ _ h
      exact ⟨by omega, by omega, this.2.2⟩
theorem ptL_ex {P : Nat → Nat → Int32} {x y z : Int32} : ∀ (k i q : Nat), i ≤ q → q < i + k → P q 0 = x → P q 1 = y → P q 2 = z → ∃ w, ptL P x y z k i = some w := by
  intro k
  induction k with
  | zero => intro i q h1 h2; omega
  | succ k ih =>
    intro i q h1 h2 h3 h4 h5
    unfold ptL
    split
    · exact ⟨_, rfl⟩
    · rename_i c
      refine ih (i + 1) q ?_ (by omega) h3 h4 h5
      by_cases e : i = q
      · subst e; exact absurd ⟨h3, h4, h5⟩ c
      · omega
theorem kpL_iff {P : Nat → Nat → Int32} {n m : Nat} : ∀ (k i : Nat), kpL P n m k i = true ↔ ∀ p, i ≤ p → p < i + k → mvd P n m p = false := by
  intro k
  induction k with
  | zero => intro i; exact ⟨fun _ p h1 h2 => by omega, fun _ => rfl⟩
  | succ k ih =>
    intro i
    unfold kpL
    by_cases c : mvd P n m i = true
    · rw [if_pos c]
      refine ⟨fun q => absurd q (by decide), fun q => ?_⟩
      rw [q i (Nat.le_refl _) (by omega)] at c
      exact absurd c (by decide)
    · rw [if_neg c, ih]
      refine ⟨fun q p h1 h2 => ?_, fun q p h1 h2 => q p (by omega) (by omega)⟩
      by_cases e : p = i
      · subst e; exact b_ne c
      · exact q p (by omega) (by omega)
/-- a move keeps the shape: each point goes to one with the same mark -/
theorem kpt_iff {p : Pts} (hp : PtOk p) {m : Nat} : kpt p.2 p.1 m = true ↔ ∀ i, i < p.1 → ∃ q, q < p.1 ∧ (∀ c, c < 3 → p.2 q c = cxr (p.2 i) m c) ∧ p.2 q 3 = p.2 i 3 := by
  unfold kpt
  rw [kpL_iff]
  constructor
  · intro h i hi
    have h1 := h i (Nat.zero_le _) (by omega)
    unfold mvd at h1
    cases e : goT p.2 p.1 m i with
    | none => rw [e] at h1; exact absurd (show true = false from h1) (by decide)
    | some q =>
      rw [e] at h1
      have h2 := ptL_some _ _ _ e
      refine ⟨q, by omega, fun c hc => ?_, by simpa using h1⟩
      rcases (show c = 0 ∨ c = 1 ∨ c = 2 from by omega) with rfl | rfl | rfl
      · exact h2.2.2.1
      · exact h2.2.2.2.1
      · exact h2.2.2.2.2
  · intro h i h1 h2
    obtain ⟨q, hq, hc, h3⟩ := h i (by omega)
    obtain ⟨w, hw⟩ := ptL_ex p.1 0 q (Nat.zero_le _) (by omega) (hc 0 (by decide)) (hc 1 (by decide)) (hc 2 (by decide))
    have hw2 := ptL_some _ _ _ hw
    have e : w = q := hp.2 w q (by omega) hq (by rw [hw2.2.2.1, hc 0 (by decide)]) (by rw [hw2.2.2.2.1, hc 1 (by decide)]) (by rw [hw2.2.2.2.2, hc 2 (by decide)])
    subst e
    unfold mvd
    rw [show goT p.2 p.1 m i = some w from hw]
    simp [h3]
theorem kpt_0 {p : Pts} (hp : PtOk p) : kpt p.2 p.1 0 = true := (kpt_iff hp).mpr (fun i hi => ⟨i, hi, fun c hc => by
  rcases (show c = 0 ∨ c = 1 ∨ c = 2 from by omega) with rfl | rfl | rfl <;> rfl, rfl⟩)
theorem kpt_ml {p : Pts} (hp : PtOk p) {a b : Nat} (ha : a < 48) (hb : b < 48) (h1 : kpt p.2 p.1 a = true) (h2 : kpt p.2 p.1 b = true) : kpt p.2 p.1 (mulN a b) = true := by
  rw [kpt_iff hp] at h1 h2 ⊢
  intro i hi
  obtain ⟨q, hq, hc, h3⟩ := h2 i hi
  obtain ⟨w, hw, hd, h4⟩ := h1 q hq
  exact ⟨w, hw, fun c hcc => by rw [hd c hcc]; exact cxr_ml ha hb hc c hcc, h4.trans h3⟩
