/-! ShapeMoves: the text read (clauses as they are), image, undo, count; tapes -/
/-- a sign told by a digit, with or without '-' and its comma: whether, place behind, value -/
def clA (T : Nat → Nat) (n i : Nat) : Bool × Nat × Int32 :=
  if sgA T n 45 i = true then
    (if dgA T n (i + 1) = true then (if sgA T n 44 (i + 1 + 1) = true then (true, i + 1 + 1 + 1, - nI (T (i + 1) - 48)) else (false, i + 1 + 1, 0)) else (false, i + 1, 0))
  else (if dgA T n i = true then (if sgA T n 44 (i + 1) = true then (true, i + 1 + 1, nI (T i - 48)) else (false, i + 1, 0)) else (false, i, 0))
def clD (T : Nat → Nat) (n i : Nat) : Bool × Nat × Int32 := if dgA T n i = true then (true, i + 1, nI (T i - 48)) else (false, i, 0)
abbrev Cl : Type := Int32 × Int32 × Int32 × Int32 × Int32
/-- a clause: whether, place behind, what it says -/
def clV (T : Nat → Nat) (n i : Nat) : Bool × Nat × Cl :=
  if sgA T n 112 i = true then
    (if (clA T n (i + 1)).1 = true then
      (if (clA T n (clA T n (i + 1)).2.1).1 = true then
        (if (clA T n (clA T n (clA T n (i + 1)).2.1).2.1).1 = true then
          ((clD T n (clA T n (clA T n (clA T n (i + 1)).2.1).2.1).2.1).1, (clD T n (clA T n (clA T n (clA T n (i + 1)).2.1).2.1).2.1).2.1, nI 112, (clA T n (i + 1)).2.2, (clA T n (clA T n (i + 1)).2.1).2.2, (clA T n (clA T n (clA T n (i + 1)).2.1).2.1).2.2, (clD T n (clA T n (clA T n (clA T n (i + 1)).2.1).2.1).2.1).2.2)
        else (false, (clA T n (clA T n (clA T n (i + 1)).2.1).2.1).2.1, 0, 0, 0, 0, 0))
      else (false, (clA T n (clA T n (i + 1)).2.1).2.1, 0, 0, 0, 0, 0))
    else (false, (clA T n (i + 1)).2.1, 0, 0, 0, 0, 0))
  else if sgA T n 109 i = true then
    (if (clD T n (i + 1)).1 = true then ((clD T n (clD T n (i + 1)).2.1).1, (clD T n (clD T n (i + 1)).2.1).2.1, nI 109, (clD T n (i + 1)).2.2, (clD T n (clD T n (i + 1)).2.1).2.2, 0, 0) else (false, (clD T n (i + 1)).2.1, 0, 0, 0, 0, 0))
  else if sgA T n 100 i = true then ((clD T n (i + 1)).1, (clD T n (i + 1)).2.1, nI 100, (clD T n (i + 1)).2.2, 0, 0, 0)
  else (false, i, 0, 0, 0, 0, 0)
/-- the clause v stands in the parts from to on -/
def WC (f : Nat → Int32) (to : Nat) (v : Cl) : Prop := f to = v.1 ∧ (v.1 = nI 112 ∧ f (to + 1) = v.2.1 ∧ f (to + 2) = v.2.2.1 ∧ f (to + 3) = v.2.2.2.1 ∧ f (to + 4) = v.2.2.2.2 ∨ v.1 = nI 109 ∧ f (to + 1) = v.2.1 ∧ f (to + 2) = v.2.2.1 ∨ v.1 = nI 100 ∧ f (to + 1) = v.2.1)
theorem tkD_cl {T : Nat → Nat} {n i to : Nat} {f : Nat → Int32} : (tkD T n i f to).1 = (clD T n i).1 ∧ (tkD T n i f to).2.1 = (clD T n i).2.1 ∧ (∀ q, q ≠ to → (tkD T n i f to).2.2 q = f q) ∧ ((clD T n i).1 = true → (tkD T n i f to).2.2 to = (clD T n i).2.2) := by
  unfold tkD clD
  split
  · exact ⟨rfl, rfl, fun q hq => up_n hq, fun _ => up_i⟩
  · exact ⟨rfl, rfl, fun q hq => rfl, fun h => by simp at h⟩
theorem tkA_cl {T : Nat → Nat} {n i to : Nat} {f : Nat → Int32} : (tkA T n i f to).1 = (clA T n i).1 ∧ (tkA T n i f to).2.1 = (clA T n i).2.1 ∧ (∀ q, q ≠ to → (tkA T n i f to).2.2 q = f q) ∧ ((clA T n i).1 = true → (tkA T n i f to).2.2 to = (clA T n i).2.2) := by
  unfold tkA clA
  split
  · split
    · split
      · exact ⟨rfl, rfl, fun q hq => (up_n hq).trans (up_n hq), fun _ => up_i⟩
      · exact ⟨rfl, rfl, fun q hq => (up_n hq).trans (up_n hq), fun h => by simp at h⟩
    · exact ⟨rfl, rfl, fun q hq => rfl, fun h => by simp at h⟩
  · split
    · split
      · exact ⟨rfl, rfl, fun q hq => up_n hq, fun _ => up_i⟩
      · exact ⟨rfl, rfl, fun q hq => up_n hq, fun h => by simp at h⟩
    · exact ⟨rfl, rfl, fun q hq => rfl, fun h => by simp at h⟩
theorem tkC_cl {T : Nat → Nat} {n i to : Nat} {f : Nat → Int32} : (tkC T n i f to).1 = (clV T n i).1 ∧ (tkC T n i f to).2.1 = (clV T n i).2.1 ∧ (∀ q, q < to → (tkC T n i f to).2.2 q = f q) ∧ ((clV T n i).1 = true → WC (tkC T n i f to).2.2 to (clV T n i).2.2) := by
  unfold tkC clV
  by_cases h1 : sgA T n 112 i = true
  · rw [if_pos h1, if_pos h1]
    obtain ⟨a1, a2, a3, a4⟩ := tkA_cl (T := T) (n := n) (i := i + 1) (to := to + 1) (f := upd f to (nI 112))
    simp only [a1, a2]
    generalize hA : (tkA T n (i + 1) (upd f to (nI 112)) (to + 1)).2.2 = fA at *
    generalize clA T n (i + 1) = A at *
    by_cases q1 : A.1 = true
    · rw [if_pos q1, if_pos q1]
      obtain ⟨b1, b2, b3, b4⟩ := tkA_cl (T := T) (n := n) (i := A.2.1) (to := to + 2) (f := fA)
      simp only [b1, b2]
      generalize hB : (tkA T n A.2.1 fA (to + 2)).2.2 = fB at *
      generalize clA T n A.2.1 = B at *
      by_cases q2 : B.1 = true
      · rw [if_pos q2, if_pos q2]
        obtain ⟨c1, c2, c3, c4⟩ := tkA_cl (T := T) (n := n) (i := B.2.1) (to := to + 3) (f := fB)
        simp only [c1, c2]
        generalize hC : (tkA T n B.2.1 fB (to + 3)).2.2 = fC at *
        generalize clA T n B.2.1 = C at *
        by_cases q3 : C.1 = true
        · rw [if_pos q3, if_pos q3]
          obtain ⟨d1, d2, d3, d4⟩ := tkD_cl (T := T) (n := n) (i := C.2.1) (to := to + 4) (f := fC)
          refine ⟨d1, d2, fun q hq => by rw [d3 q (by omega), c3 q (by omega), b3 q (by omega), a3 q (by omega), up_n (by omega)], fun h => ?_⟩
          refine ⟨by rw [d3 to (by omega), c3 to (by omega), b3 to (by omega), a3 to (by omega), up_i], Or.inl ⟨rfl, by rw [d3 _ (by omega), c3 _ (by omega), b3 _ (by omega), a4 q1], by rw [d3 _ (by omega), c3 _ (by omega), b4 q2], by rw [d3 _ (by omega), c4 q3], d4 h⟩⟩
        · rw [if_neg q3, if_neg q3]
          simp only [hC, c2]
          exact ⟨trivial, trivial, fun q hq => by rw [c3 q (by omega), b3 q (by omega), a3 q (by omega), up_n (by omega)], fun h => by simp at h⟩
      · rw [if_neg q2, if_neg q2]
        simp only [hB, b2]
        exact ⟨trivial, trivial, fun q hq => by rw [b3 q (by omega), a3 q (by omega), up_n (by omega)], fun h => by simp at h⟩
    · rw [if_neg q1, if_neg q1]
      simp only [hA, a2]
      exact ⟨trivial, trivial, fun q hq => by rw [a3 q (by omega), up_n (by omega)], fun h => by simp at h⟩
  · rw [if_neg h1, if_neg h1]
    by_cases h2 : sgA T n 109 i = true
    · rw [if_pos h2, if_pos h2]
      obtain ⟨a1, a2, a3, a4⟩ := tkD_cl (T := T) (n := n) (i := i + 1) (to := to + 1) (f := upd f to (nI 109))
      simp only [a1, a2]
      generalize hA : (tkD T n (i + 1) (upd f to (nI 109)) (to + 1)).2.2 = fA at *
      generalize clD T n (i + 1) = A at *
      by_cases q1 : A.1 = true
      · rw [if_pos q1, if_pos q1]
        obtain ⟨d1, d2, d3, d4⟩ := tkD_cl (T := T) (n := n) (i := A.2.1) (to := to + 2) (f := fA)
        refine ⟨d1, d2, fun q hq => by rw [d3 q (by omega), a3 q (by omega), up_n (by omega)], fun h => ?_⟩
        exact ⟨by rw [d3 to (by omega), a3 to (by omega), up_i], Or.inr (Or.inl ⟨rfl, by rw [d3 _ (by omega), a4 q1], d4 h⟩)⟩
      · rw [if_neg q1, if_neg q1]
        simp only [hA, a2]
        exact ⟨trivial, trivial, fun q hq => by rw [a3 q (by omega), up_n (by omega)], fun h => by simp at h⟩
    · rw [if_neg h2, if_neg h2]
      by_cases h3 : sgA T n 100 i = true
      · rw [if_pos h3, if_pos h3]
        obtain ⟨a1, a2, a3, a4⟩ := tkD_cl (T := T) (n := n) (i := i + 1) (to := to + 1) (f := upd f to (nI 100))
        exact ⟨a1, a2, fun q hq => by rw [a3 q (by omega), up_n (by omega)], fun h => ⟨by rw [a3 to (by omega), up_i], Or.inr (Or.inr ⟨rfl, a4 h⟩)⟩⟩
      · rw [if_neg h3, if_neg h3]
        exact ⟨rfl, rfl, fun q hq => up_n (by omega), fun h => by simp at h⟩
/-- the whole text: -1 or the place where it ends; its clauses, how many -/
def pcL (T : Nat → Nat) (n : Nat) : Nat → Nat → Nat → (Nat → Cl) → Int32 × (Nat → Cl) × Nat
  | 0, c, i, V => (nI i, V, c)
  | r + 1, c, i, V => if 0 < c ∧ sgA T n 59 i = false then (nI i, V, c)
    else if (clV T n (if 0 < c then i + 1 else i)).1 = true then
      (if (clV T n (if 0 < c then i + 1 else i)).2.1 = n then (-1, (fun q => if q = c then (clV T n (if 0 < c then i + 1 else i)).2.2 else V q), c + 1)
       else pcL T n r (c + 1) (clV T n (if 0 < c then i + 1 else i)).2.1 (fun q => if q = c then (clV T n (if 0 < c then i + 1 else i)).2.2 else V q))
    else (nI (clV T n (if 0 < c then i + 1 else i)).2.1, V, c)
theorem WC.up {f f' : Nat → Int32} {to : Nat} {v : Cl} (h : WC f to v) (hf : ∀ q, q < to + 5 → f' q = f q) : WC f' to v := by
  unfold WC at *
  rw [hf _ (by omega), hf _ (by omega), hf _ (by omega), hf _ (by omega), hf _ (by omega)]
  exact h
theorem wc_put {f f' : Nat → Int32} {c : Nat} {V : Nat → Cl} {v : Cl} (hW : ∀ q, q < c → WC f (5 * q) (V q)) (hf : ∀ q, q < 5 * c → f' q = f q) (h : WC f' (5 * c) v) : ∀ q, q < c + 1 → WC f' (5 * q) (if q = c then v else V q) := by
  intro q hq
  by_cases e : q = c
  · subst e; rw [if_pos rfl]; exact h
  · rw [if_neg e]
    exact (hW q (by omega)).up (fun r hr => hf r (by omega))
theorem pz_pc {T : Nat → Nat} {n : Nat} : ∀ (r c i : Nat) (f : Nat → Int32) (V : Nat → Cl), (∀ q, q < c → WC f (5 * q) (V q)) → (pzL T n r c i f c).1 = (pcL T n r c i V).1 ∧ (pzL T n r c i f c).2.2.2 = (pcL T n r c i V).2.2 ∧ ∀ q, q < (pcL T n r c i V).2.2 → WC (pzL T n r c i f c).2.2.1 (5 * q) ((pcL T n r c i V).2.1 q) := by
  intro r
  induction r with
  | zero => intro c i f V h; exact ⟨rfl, rfl, h⟩
  | succ r ih =>
    intro c i f V h
    unfold pzL pcL
    by_cases h1 : 0 < c ∧ sgA T n 59 i = false
    · rw [if_pos h1, if_pos h1]; exact ⟨rfl, rfl, h⟩
    · rw [if_neg h1, if_neg h1]
      obtain ⟨a1, a2, a3, a4⟩ := tkC_cl (T := T) (n := n) (i := if 0 < c then i + 1 else i) (to := 5 * c) (f := f)
      simp only [a1, a2]
      by_cases h2 : (clV T n (if 0 < c then i + 1 else i)).1 = true
      · rw [if_pos h2, if_pos h2]
        have hw := wc_put h a3 (a4 h2)
        by_cases h3 : (clV T n (if 0 < c then i + 1 else i)).2.1 = n
        · rw [if_pos h3, if_pos h3]
          exact ⟨rfl, rfl, hw⟩
        · rw [if_neg h3, if_neg h3]
          exact ih (c + 1) _ _ _ hw
      · rw [if_neg h2, if_neg h2]
        exact ⟨rfl, rfl, fun q hq => (h q hq).up (fun p hp => a3 p (by simp only at hq; omega))⟩
theorem pcL_c {T : Nat → Nat} {n : Nat} : ∀ (r c i : Nat) (V : Nat → Cl), (pcL T n r c i V).2.2 ≤ c + r := by
  intro r
  induction r with
  | zero => intro c i V; exact Nat.le_refl _
  | succ r ih =>
    intro c i V
    rw [pcL]
    by_cases h1 : 0 < c ∧ sgA T n 59 i = false
    · rw [if_pos h1]; show c ≤ _; omega
    · rw [if_neg h1]
      by_cases h2 : (clV T n (if 0 < c then i + 1 else i)).1 = true
      · rw [if_pos h2]
        by_cases h3 : (clV T n (if 0 < c then i + 1 else i)).2.1 = n
        · rw [if_pos h3]; show c + 1 ≤ _; omega
        · rw [if_neg h3]
          have := ih (c + 1) (clV T n (if 0 < c then i + 1 else i)).2.1 (fun q => if q = c then (clV T n (if 0 < c then i + 1 else i)).2.2 else V q)
          omega
      · rw [if_neg h2]; show c ≤ _; omega
/-- a clause is done: the set-up behind it; whether it went -/
def exC (s : Ms) (v : Cl) : Ms × Bool := if v.1 = nI 112 then (tPoint s v.2.1 v.2.2.1 v.2.2.2.1 v.2.2.2.2, !decide (aPoint s v.2.1 v.2.2.1 v.2.2.2.1 v.2.2.2.2 < 0)) else if v.1 = nI 109 then (tMark s v.2.1 v.2.2.1, !decide (aMark s v.2.1 v.2.2.1 < 0)) else (tDrop s v.2.1, !decide (aDrop s v.2.1 < 0))
def exN (V : Nat → Cl) : Nat → Nat → Ms → Nat → Ms × Nat
  | 0, _, s, n => (s, n)
  | k + 1, r, s, n => exN V k (r + 1) (exC s (V r)).1 (if (exC s (V r)).2 = true then n + 1 else n)
def pcF (s : Ms) : Int32 × (Nat → Cl) × Nat := pcL s.2.2.1.2 s.2.2.1.1 12 0 0 (fun _ => (0, 0, 0, 0, 0))
def sTx0 (s : Ms) : Ms := (s.1, s.2.1, (0, s.2.2.1.2), s.2.2.2)
def aRead (s : Ms) : Int32 := if (pcF s).1 = -1 then nI (exN (pcF s).2.1 (pcF s).2.2 0 (sTx0 s) 0).2 else -10 - (pcF s).1
def tRead (s : Ms) : Ms := if (pcF s).1 = -1 then (exN (pcF s).2.1 (pcF s).2.2 0 (sTx0 s) 0).1 else sTx0 s
theorem tx_Fr {σ : St} {i c : Nat} {f : Nat → Int32} : Fr [48, 50] σ (txS σ i f c) := by
  unfold txS
  exact (Fr.rf.sI (by simp)).sI (by simp)

set_option maxHeartbeats 4000000 in
set_option maxRecDepth 100000 in
theorem c_X7_doClause {E : Ev} {d : Nat} {σ : St} {s : Ms} (hs : SyIs σ s) {a : Nat} (ha : a < 12) {v : Cl} (hW : WC (σ.1 50) (5 * a) v) : Con E (d + 3) yX7_doClause cX7_doClause 4 ((Option.some FieldType.boolean)) [.ref (ev_a E 0), .int (nI a)] σ (fun r σ2 => r = some (.int (bI (exC s v).2)) ∧ SyIs σ2 (exC s v).1 ∧ Fr [0, 3, 4, 5] σ σ2) := by
  refine con_of (by decide) (Nat.le_of_ble_eq_true rfl) (fun X hX C => ?_)
  have C : Cx E X cX7_doClause RX7 4 ((Option.some FieldType.boolean)) := C
  show G E _ X _ _ _ 0 [(0, .ref (ev_a E 0)), (1, .int (nI a))] []
  refine g_aload_n C dX7_doClause_0 rfl ?_
  refine gf_X7_text C (by rfl) dX7_doClause_1 kf_RX7_48 ?_
  refine g_iload_n C dX7_doClause_4 rfl ?_
  refine g_ic (n := 1) C dX7_doClause_5 (by decide) ?_
  refine g_callVp C (ob_X6 (by rfl)) (c_X6_part (d := d) (by omega)) dX7_doClause_6 km_RX7_117 kn_RX6 kc_yX6_part ki_yX6_part kx_yX6_part (by omega) (by decide) ⟨by decide, by decide, rfl⟩ rfl (Nat.le_of_ble_eq_true rfl) ?_
  refine g_istore_n C dX7_doClause_9 (by decide) ?_
  refine g_aload_n C dX7_doClause_10 rfl ?_
  refine gf_X7_text C (by rfl) dX7_doClause_11 kf_RX7_48 ?_
  refine g_iload_n C dX7_doClause_14 rfl ?_
  refine g_ic (n := 2) C dX7_doClause_15 (by decide) ?_
  refine g_callVp C (ob_X6 (by rfl)) (c_X6_part (d := d) (by omega)) dX7_doClause_16 km_RX7_117 kn_RX6 kc_yX6_part ki_yX6_part kx_yX6_part (by omega) (by decide) ⟨by decide, by decide, rfl⟩ rfl (Nat.le_of_ble_eq_true rfl) ?_
  refine g_istore_n C dX7_doClause_19 (by decide) ?_
  refine g_aload_n C dX7_doClause_20 rfl ?_
  refine gf_X7_text C (by rfl) dX7_doClause_21 kf_RX7_48 ?_
  refine g_iload_n C dX7_doClause_24 rfl ?_
  refine g_ic (n := 0) C dX7_doClause_25 (by decide) ?_
  refine g_callVp C (ob_X6 (by rfl)) (c_X6_part (d := d) (by omega)) dX7_doClause_26 km_RX7_117 kn_RX6 kc_yX6_part ki_yX6_part kx_yX6_part (by omega) (by decide) ⟨by decide, by decide, rfl⟩ rfl (Nat.le_of_ble_eq_true rfl) ?_
  rcases hW.2 with ⟨hv, e1, e2, e3, e4⟩ | ⟨hv, e1, e2⟩ | ⟨hv, e1⟩
  · rw [show σ.1 50 (5 * a + 0) = nI 112 from by rw [Nat.add_zero, hW.1, hv]]
    refine g_lsw C (off := 27) 56 dX7_doClause_29 (by decide) (by decide) (by decide) ?_
    refine g_aload_n C dX7_doClause_56 rfl ?_
    refine g_iload_n C dX7_doClause_57 rfl ?_
    refine g_iload_n C dX7_doClause_58 rfl ?_
    refine g_aload_n C dX7_doClause_59 rfl ?_
    refine gf_X7_text C (by rfl) dX7_doClause_60 kf_RX7_48 ?_
    refine g_iload_n C dX7_doClause_63 rfl ?_
    refine g_ic (n := 3) C dX7_doClause_64 (by decide) ?_
    refine g_callVp C (ob_X6 (by rfl)) (c_X6_part (d := d) (by omega)) dX7_doClause_65 km_RX7_117 kn_RX6 kc_yX6_part ki_yX6_part kx_yX6_part (by omega) (by decide) ⟨by decide, by decide, rfl⟩ rfl (Nat.le_of_ble_eq_true rfl) ?_
    refine g_aload_n C dX7_doClause_68 rfl ?_
    refine gf_X7_text C (by rfl) dX7_doClause_69 kf_RX7_48 ?_
    refine g_iload_n C dX7_doClause_72 rfl ?_
    refine g_ic (n := 4) C dX7_doClause_73 (by decide) ?_
    refine g_callVp C (ob_X6 (by rfl)) (c_X6_part (d := d) (by omega)) dX7_doClause_74 km_RX7_117 kn_RX6 kc_yX6_part ki_yX6_part kx_yX6_part (by omega) (by decide) ⟨by decide, by decide, rfl⟩ rfl (Nat.le_of_ble_eq_true rfl) ?_
    refine g_callV C (ob_X7 (by rfl)) (c_X7_pointF (d := d) hs) dX7_doClause_77 km_RX7_121 kn_RX7 kc_yX7_point ki_yX7_point kx_yX7_point (by omega) (by decide) ⟨by decide, by decide, rfl⟩ rfl (Nat.le_of_ble_eq_true rfl) (fun r1 σ1 q1 => ?_)
    obtain ⟨rfl, u1, u2⟩ := q1
    rw [e1, e2, e3, e4] at u1
    rw [e1, e2, e3, e4]
    refine g_iflt C 87 dX7_doClause_80 (by decide) (fun h80 => ?_) (fun h80 => ?_)
    · refine g_ic (n := 0) C dX7_doClause_87 (by decide) ?_
      refine g_zret C (by first | exact bI_01 _ | exact Or.inl rfl | exact Or.inr rfl) dX7_doClause_88 ?_
      exact ⟨congrArg (fun v => some (Value.int v)) (by rw [show (exC s v).2 = !decide (aPoint s v.2.1 v.2.2.1 v.2.2.2.1 v.2.2.2.2 < 0) from by unfold exC; rw [if_pos hv]]; simp [h80]; rfl), by rw [show (exC s v).1 = tPoint s v.2.1 v.2.2.1 v.2.2.2.1 v.2.2.2.2 from by unfold exC; rw [if_pos hv]]; exact u1, u2⟩
    · refine g_ic (n := 1) C dX7_doClause_83 (by decide) ?_
      refine g_goto C 88 dX7_doClause_84 (by decide) ?_
      refine g_zret C (by first | exact bI_01 _ | exact Or.inl rfl | exact Or.inr rfl) dX7_doClause_88 ?_
      exact ⟨congrArg (fun v => some (Value.int v)) (by rw [show (exC s v).2 = !decide (aPoint s v.2.1 v.2.2.1 v.2.2.2.1 v.2.2.2.2 < 0) from by unfold exC; rw [if_pos hv]]; simp [h80]; rfl), by rw [show (exC s v).1 = tPoint s v.2.1 v.2.2.1 v.2.2.2.1 v.2.2.2.2 from by unfold exC; rw [if_pos hv]]; exact u1, u2⟩
  · rw [show σ.1 50 (5 * a + 0) = nI 109 from by rw [Nat.add_zero, hW.1, hv]]
    refine g_lsw C (off := 60) 89 dX7_doClause_29 (by decide) (by decide) (by decide) ?_
    refine g_aload_n C dX7_doClause_89 rfl ?_
    refine g_iload_n C dX7_doClause_90 rfl ?_
    refine g_iload_n C dX7_doClause_91 rfl ?_
    refine g_callV C (ob_X7 (by rfl)) (c_X7_markF (d := d) hs) dX7_doClause_92 km_RX7_124 kn_RX7 kc_yX7_mark ki_yX7_mark kx_yX7_mark (by omega) (by decide) ⟨by decide, by decide, rfl⟩ rfl (Nat.le_of_ble_eq_true rfl) (fun r1 σ1 q1 => ?_)
    obtain ⟨rfl, u1, u2⟩ := q1
    rw [e1, e2] at u1
    rw [e1, e2]
    refine g_iflt C 102 dX7_doClause_95 (by decide) (fun h95 => ?_) (fun h95 => ?_)
    · refine g_ic (n := 0) C dX7_doClause_102 (by decide) ?_
      refine g_zret C (by first | exact bI_01 _ | exact Or.inl rfl | exact Or.inr rfl) dX7_doClause_103 ?_
      exact ⟨congrArg (fun v => some (Value.int v)) (by rw [show (exC s v).2 = !decide (aMark s v.2.1 v.2.2.1 < 0) from by unfold exC; rw [if_neg (by rw [hv]; decide), if_pos hv]]; simp [h95]; rfl), by rw [show (exC s v).1 = tMark s v.2.1 v.2.2.1 from by unfold exC; rw [if_neg (by rw [hv]; decide), if_pos hv]]; exact u1, u2⟩
    · refine g_ic (n := 1) C dX7_doClause_98 (by decide) ?_
      refine g_goto C 103 dX7_doClause_99 (by decide) ?_
      refine g_zret C (by first | exact bI_01 _ | exact Or.inl rfl | exact Or.inr rfl) dX7_doClause_103 ?_
      exact ⟨congrArg (fun v => some (Value.int v)) (by rw [show (exC s v).2 = !decide (aMark s v.2.1 v.2.2.1 < 0) from by unfold exC; rw [if_neg (by rw [hv]; decide), if_pos hv]]; simp [h95]; rfl), by rw [show (exC s v).1 = tMark s v.2.1 v.2.2.1 from by unfold exC; rw [if_neg (by rw [hv]; decide), if_pos hv]]; exact u1, u2⟩
  · rw [show σ.1 50 (5 * a + 0) = nI 100 from by rw [Nat.add_zero, hW.1, hv]]
    refine g_lsw C (off := 75) 104 dX7_doClause_29 (by decide) (by decide) (by decide) ?_
    refine g_aload_n C dX7_doClause_104 rfl ?_
    refine g_iload_n C dX7_doClause_105 rfl ?_
    refine g_callV C (ob_X7 (by rfl)) (c_X7_dropF (d := d) hs) dX7_doClause_106 km_RX7_127 kn_RX7 kc_yX7_drop ki_yX7_drop kx_yX7_drop (by omega) (by decide) ⟨by decide, by decide, rfl⟩ rfl (Nat.le_of_ble_eq_true rfl) (fun r1 σ1 q1 => ?_)
    obtain ⟨rfl, u1, u2⟩ := q1
    rw [e1] at u1
    rw [e1]
    refine g_iflt C 116 dX7_doClause_109 (by decide) (fun h109 => ?_) (fun h109 => ?_)
    · refine g_ic (n := 0) C dX7_doClause_116 (by decide) ?_
      refine g_zret C (by first | exact bI_01 _ | exact Or.inl rfl | exact Or.inr rfl) dX7_doClause_117 ?_
      exact ⟨congrArg (fun v => some (Value.int v)) (by rw [show (exC s v).2 = !decide (aDrop s v.2.1 < 0) from by unfold exC; rw [if_neg (by rw [hv]; decide), if_neg (by rw [hv]; decide)]]; simp [h109]; rfl), by rw [show (exC s v).1 = tDrop s v.2.1 from by unfold exC; rw [if_neg (by rw [hv]; decide), if_neg (by rw [hv]; decide)]]; exact u1, u2⟩
    · refine g_ic (n := 1) C dX7_doClause_112 (by decide) ?_
      refine g_goto C 117 dX7_doClause_113 (by decide) ?_
      refine g_zret C (by first | exact bI_01 _ | exact Or.inl rfl | exact Or.inr rfl) dX7_doClause_117 ?_
      exact ⟨congrArg (fun v => some (Value.int v)) (by rw [show (exC s v).2 = !decide (aDrop s v.2.1 < 0) from by unfold exC; rw [if_neg (by rw [hv]; decide), if_neg (by rw [hv]; decide)]]; simp [h109]; rfl), by rw [show (exC s v).1 = tDrop s v.2.1 from by unfold exC; rw [if_neg (by rw [hv]; decide), if_neg (by rw [hv]; decide)]]; exact u1, u2⟩

set_option maxHeartbeats 4000000 in
set_option maxRecDepth 100000 in
theorem l_X7_read {E : Ev} {d : Nat} {X : Mx} (C : Cx E X cX7_read RX7 4 ((Option.some FieldType.int))) {V : Nat → Cl} {c : Nat} (hc : c ≤ 12) : ∀ (k : Nat) (r0 : Nat) (s : Ms) (n : Nat) (σ : St), c = r0 + k → SyIs σ s → σ.1 48 4 = nI c → (∀ q, q < c → WC (σ.1 50) (5 * q) (V q)) → G E (d + 4) X 4 (fun r σ2 => r = some (.int (nI (exN V k r0 s n).2)) ∧ SyIs σ2 (exN V k r0 s n).1 ∧ Fs σ σ2) σ 30 ([(0, .ref (ev_a E 0)), (2, .int (nI n)), (3, .int (nI r0))]) [] := by
  intro k
  induction k with
  | zero =>
    intro r0 s n σ hr hs h4 hW
    refine g_iload_n C dX7_read_30 rfl ?_
    refine g_aload_n C dX7_read_31 rfl ?_
    refine gf_X7_text C (by rfl) dX7_read_32 kf_RX7_48 ?_
    refine gn_X6_clauses C (by rfl) dX7_read_35 nw_X7_111 ?_
    rw [h4]
    first | refine g_icgeN C 58 dX7_read_38 (by decide) (by omega) (by omega) (fun h38 => ?_) (fun h38 => ?_) | refine g_icge C 58 dX7_read_38 (by decide) (fun h38 => ?_) (fun h38 => ?_)
    · refine g_iload_n C dX7_read_58 rfl ?_
      refine g_iret C dX7_read_59 ?_
      exact ⟨rfl, hs, Fs.rf⟩
    · omega
  | succ k ih =>
    intro r0 s n σ hr hs h4 hW
    refine g_iload_n C dX7_read_30 rfl ?_
    refine g_aload_n C dX7_read_31 rfl ?_
    refine gf_X7_text C (by rfl) dX7_read_32 kf_RX7_48 ?_
    refine gn_X6_clauses C (by rfl) dX7_read_35 nw_X7_111 ?_
    rw [h4]
    first | refine g_icgeN C 58 dX7_read_38 (by decide) (by omega) (by omega) (fun h38 => ?_) (fun h38 => ?_) | refine g_icge C 58 dX7_read_38 (by decide) (fun h38 => ?_) (fun h38 => ?_)
    · omega
    · refine g_aload_n C dX7_read_41 rfl ?_
      refine g_iload_n C dX7_read_42 rfl ?_
      refine g_callV C (ob_X7 (by rfl)) (c_X7_doClause (d := d) hs (by omega) (hW r0 (by omega))) dX7_read_43 km_RX7_114 kn_RX7 kc_yX7_doClause ki_yX7_doClause kx_yX7_doClause (by omega) (by decide) ⟨by decide, by decide, rfl⟩ rfl (Nat.le_of_ble_eq_true rfl) (fun r1 σ1 q1 => ?_)
      obtain ⟨rfl, u1, u2⟩ := q1
      refine g_ifeqB C 52 dX7_read_46 (by decide) (fun h46 => ?_) (fun h46 => ?_)
      · refine g_iinc1 C dX7_read_52 rfl (by decide) ?_
        refine g_goto C 30 dX7_read_55 (by decide) ?_
        first | (refine g_loc ([(0, .ref (ev_a E 0)), (2, .int (nI (n + 1))), (3, .int (nI (r0 + 1)))]) (And.intro rfl (And.intro rfl (And.intro rfl trivial))) ?_; rw [show exN V (k + 1) r0 s n = exN V k (r0 + 1) (exC s (V r0)).1 (n + 1) from by simp only [exN, h46, if_true]]; exact g_post (fun r σ2 q => ⟨q.1, q.2.1, (u2.s (by decide)).tr q.2.2⟩) (ih (r0 + 1) _ (n + 1) σ1 (by omega) u1 (by rw [(u2 48 (by simp)).1]; exact h4) (by rw [(u2 50 (by simp)).1]; exact hW))) | (refine g_loc ([(0, .ref (ev_a E 0)), (2, .int (nI n)), (3, .int (nI (r0 + 1)))]) (And.intro rfl (And.intro rfl (And.intro rfl trivial))) ?_; rw [show exN V (k + 1) r0 s n = exN V k (r0 + 1) (exC s (V r0)).1 (n) from by simp only [exN, h46, Bool.false_eq_true, if_false]]; exact g_post (fun r σ2 q => ⟨q.1, q.2.1, (u2.s (by decide)).tr q.2.2⟩) (ih (r0 + 1) _ (n) σ1 (by omega) u1 (by rw [(u2 48 (by simp)).1]; exact h4) (by rw [(u2 50 (by simp)).1]; exact hW)))
      · refine g_iinc1 C dX7_read_49 rfl (by decide) ?_
        refine g_iinc1 C dX7_read_52 rfl (by decide) ?_
        refine g_goto C 30 dX7_read_55 (by decide) ?_
        first | (refine g_loc ([(0, .ref (ev_a E 0)), (2, .int (nI (n + 1))), (3, .int (nI (r0 + 1)))]) (And.intro rfl (And.intro rfl (And.intro rfl trivial))) ?_; rw [show exN V (k + 1) r0 s n = exN V k (r0 + 1) (exC s (V r0)).1 (n + 1) from by simp only [exN, h46, if_true]]; exact g_post (fun r σ2 q => ⟨q.1, q.2.1, (u2.s (by decide)).tr q.2.2⟩) (ih (r0 + 1) _ (n + 1) σ1 (by omega) u1 (by rw [(u2 48 (by simp)).1]; exact h4) (by rw [(u2 50 (by simp)).1]; exact hW))) | (refine g_loc ([(0, .ref (ev_a E 0)), (2, .int (nI n)), (3, .int (nI (r0 + 1)))]) (And.intro rfl (And.intro rfl (And.intro rfl trivial))) ?_; rw [show exN V (k + 1) r0 s n = exN V k (r0 + 1) (exC s (V r0)).1 (n) from by simp only [exN, h46, Bool.false_eq_true, if_false]]; exact g_post (fun r σ2 q => ⟨q.1, q.2.1, (u2.s (by decide)).tr q.2.2⟩) (ih (r0 + 1) _ (n) σ1 (by omega) u1 (by rw [(u2 48 (by simp)).1]; exact h4) (by rw [(u2 50 (by simp)).1]; exact hW)))

set_option maxHeartbeats 4000000 in
set_option maxRecDepth 100000 in
theorem c_X7_read {E : Ev} {d : Nat} {σ : St} {s : Ms} (hs : SyIs σ s) : Con E (d + 4) yX7_read cX7_read 4 ((Option.some FieldType.int)) [.ref (ev_a E 0)] σ (SyTo (.int (aRead s)) σ (tRead s)) := by
  refine con_of (by decide) (Nat.le_of_ble_eq_true rfl) (fun X hX C => ?_)
  have C : Cx E X cX7_read RX7 4 ((Option.some FieldType.int)) := C
  obtain ⟨hS, hI, hO, hT, hA⟩ := id hs
  show G E _ X _ _ _ 0 [(0, .ref (ev_a E 0))] []
  refine g_aload_n C dX7_read_0 rfl ?_
  refine gf_X7_text C (by rfl) dX7_read_1 kf_RX7_48 ?_
  refine g_callV C (ob_X6 (by rfl)) (c_X6_parse (d := d) hT) dX7_read_4 km_RX7_107 kn_RX6 kc_yX6_parse ki_yX6_parse kx_yX6_parse (by omega) (by decide) ⟨by decide, by decide, rfl⟩ rfl (Nat.le_of_ble_eq_true rfl) (fun r1 σ1 q1 => ?_)
  obtain ⟨rfl, rfl⟩ := q1
  obtain ⟨p1, p2, p3⟩ := pz_pc (T := s.2.2.1.2) (n := s.2.2.1.1) 12 0 0 (σ.1 50) (fun _ => (0, 0, 0, 0, 0)) (fun q hq => absurd hq (by omega))
  have hc12 := pcL_c (T := s.2.2.1.2) (n := s.2.2.1.1) 12 0 0 (fun _ => (0, 0, 0, 0, 0))
  rw [p1, p2]
  refine g_istore_n C dX7_read_7 (by decide) ?_
  refine g_aload_n C dX7_read_8 rfl ?_
  refine gf_X7_text C (by rfl) dX7_read_9 kf_RX7_48 ?_
  refine g_ic (n := 0) C dX7_read_12 (by decide) ?_
  refine gq_X6_size C (by rfl) dX7_read_13 nw_X7_103 ?_
  generalize hσ1 : sI _ 48 (upd _ 1 (nI 0)) = σ1
  have F1 : Fr [48, 50] σ σ1 := by rw [← hσ1]; exact tx_Fr.sI (by simp)
  have t0 : σ1.1 48 1 = nI 0 := by rw [← hσ1, sI_self, up_i]
  have t4 : σ1.1 48 4 = nI (pcF s).2.2 := by rw [← hσ1, sI_self, up_n (by decide), tx_48_4]; rfl
  have t50 : σ1.1 50 = (pzL s.2.2.1.2 s.2.2.1.1 12 0 0 (σ.1 50) 0).2.2.1 := by rw [← hσ1, sI_ne (by decide), tx_50]
  have hs1 : SyIs σ1 (sTx0 s) := ⟨hS.go F1 (by decide), hI.go (by rw [(F1 0 (by simp)).1]) F1 (by decide), hO.go (by rw [(F1 0 (by simp)).1]) F1 (by decide), ⟨t0, Nat.zero_le _, fun j hj => absurd hj (Nat.not_lt_zero j)⟩, hA.go F1 (by decide)⟩
  refine g_iload_n C dX7_read_16 rfl ?_
  refine g_icz (v := -1) C dX7_read_17 (by decide) ?_
  refine g_iceq C 26 dX7_read_18 (by decide) (fun h18 => ?_) (fun h18 => ?_)
  · refine g_ic (n := 0) C dX7_read_26 (by decide) ?_
    refine g_istore_n C dX7_read_27 (by decide) ?_
    refine g_ic (n := 0) C dX7_read_28 (by decide) ?_
    refine g_istore_n C dX7_read_29 (by decide) ?_
    refine g_loc ([(0, .ref (ev_a E 0)), (2, .int (nI 0)), (3, .int (nI 0))]) (And.intro rfl (And.intro rfl (And.intro rfl trivial))) ?_
    refine g_post (fun r σ2 q => ?_) (l_X7_read C (V := (pcF s).2.1) (c := (pcF s).2.2) (by unfold pcF; omega) (pcF s).2.2 0 (sTx0 s) 0 σ1 (by omega) hs1 t4 (by rw [t50]; exact p3))
    exact ⟨by rw [q.1]; exact congrArg (fun v => some (Value.int v)) (by unfold aRead; rw [if_pos (show (pcF s).1 = -1 from h18)]), by rw [show tRead s = (exN (pcF s).2.1 (pcF s).2.2 0 (sTx0 s) 0).1 from by unfold tRead; rw [if_pos (show (pcF s).1 = -1 from h18)]]; exact q.2.1, (F1.s (by decide)).tr q.2.2⟩
  · refine g_bp C (-10) dX7_read_21 (by decide) ?_
    refine g_iload_n C dX7_read_23 rfl ?_
    first | refine g_isubN C dX7_read_24 (by omega) ?_ | refine g_isub C dX7_read_24 ?_
    refine g_iret C dX7_read_25 ?_
    exact ⟨congrArg (fun v => some (Value.int v)) (by unfold aRead; rw [if_neg (show ¬ (pcF s).1 = -1 from h18)]; rfl), by rw [show tRead s = sTx0 s from by unfold tRead; rw [if_neg (show ¬ (pcF s).1 = -1 from h18)]]; exact hs1, F1.s (by decide)⟩

