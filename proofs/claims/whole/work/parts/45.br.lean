/-! EACH SHAPE'S GROUP is one of the 98: classes and signs agree there -/
theorem br_all {p : Pts} (hp : PtOk p) : BrC (gLst p.2 p.1) ∧ BrS (gLst p.2 p.1) := by
  have hS : ∀ q, q ∈ SL → chkH q = true := fun q hq => List.all_eq_true.mp ker_H q hq
  have hT : ∀ q, q ∈ SL → q.1 < 2 ^ 48 ∧ q.1.testBit 0 = true ∧ chkS q.1 = true := fun q hq => by
    have := List.all_eq_true.mp ker_S q hq
    simp only [Bool.and_eq_true] at this
    exact ⟨Nat.le_of_ble_eq_true this.1.1, this.1.2, this.2⟩
  have hw : WM (fun x => kpt p.2 p.1 x = true) 1 := fun x hx => by
    rcases Nat.eq_zero_or_pos x with e | e
    · subst e; exact ⟨by decide, kpt_0 hp⟩
    · rw [Nat.testBit_lt_two_pow (show 1 < 2 ^ x from Nat.lt_of_lt_of_le (show 1 < 2 ^ 1 by decide) (Nat.pow_le_pow_right (by decide) e))] at hx
      exact absurd hx (by decide)
  obtain ⟨r, hr, hb⟩ := sub_all hS (fun q hq => (hT q hq).1) (P := fun x => kpt p.2 p.1 x = true) (kpt_0 hp) (fun a b ha hb h1 h2 => kpt_ml hp ha hb h1 h2) (2 ^ 48) (1, []) List.mem_cons_self (Nat.sub_le _ _) hw
  obtain ⟨r1, r2, r3⟩ := hT r hr
  have e : gLst p.2 p.1 = lsM r.1 48 0 := by
    have := gp_ls (P := p.2) (n := p.1) (K := r.1) 48 0 [] (fun x _ h2 => hb x (by omega))
    rw [List.nil_append] at this
    exact this
  obtain ⟨s1, s2⟩ := chkS_ok r2 r3
  rw [e]
  refine ⟨brC_of ?_, s1⟩
  have hlok := lsM_lok (M := r.1) 48 0
  have h48 : ∀ x, x ∈ lsM r.1 48 0 → x < 48 ∧ kpt p.2 p.1 x = true := fun x hx => by
    have := lsM48.mp hx
    exact ⟨this.1, (hb x this.1).mp this.2⟩
  refine ⟨⟨hlok.1, fun j hj => by have := (hlok.2.2 j hj).2; omega, fun i j hi hj ee => ?_⟩, hlok.2.1, lsM48.mpr ⟨by decide, r2⟩, fun a ha b hbb => ?_, fun a ha => lsM48.mpr ⟨invN_lt a (h48 a ha).1, s2 a ha⟩⟩
  · rcases Nat.lt_trichotomy i j with c | c | c
    · have := hlok.2.1 i j c hj; omega
    · exact c
    · have := hlok.2.1 j i c hi; omega
  · have a1 := h48 a ha
    have b1 := h48 b hbb
    have m48 := mulN_lt a a1.1 b b1.1
    exact lsM48.mpr ⟨m48, (hb _ m48).mpr (kpt_ml hp a1.1 b1.1 a1.2 b1.2)⟩
