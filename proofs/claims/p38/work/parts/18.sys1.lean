/-! THE SYSTEM's STATE in numbers: set-up (points; seen, events, book), the image, the text, the tapes; what the cells hold; ranges; the contracts of ShapeMoves, first part -/
abbrev Pts : Type := Nat × (Nat → Nat → Int32)
abbrev Rw : Type := Nat × (Nat → Nat) × (Nat → Nat)
abbrev Su : Type := Pts × Rw × Rw × Rw
abbrev Tp : Type := Int32 × Nat × (Nat → Int64)
abbrev Ms : Type := Su × Option Su × (Nat × (Nat → Nat)) × (Nat → Tp)
def RwN (σ : St) (r cap : Nat) (w : Rw) : Prop := RwIs σ r cap w.1 (fun j => nI (w.2.1 j)) (fun j => nI (w.2.2 j))
def SuIs (σ : St) (a b c e : Nat) (u : Su) : Prop := ShIs σ a u.1.1 u.1.2 ∧ RwN σ b 5 u.2.1 ∧ RwN σ c 8 u.2.2.1 ∧ RwN σ e 8 u.2.2.2
def GoIs (σ : St) (p : Pts) : Prop := σ.1 0 4 = bI true ∨ (σ.1 0 4 = bI false ∧ GrIs σ 30 p.1 p.2 (gLst p.2 p.1) ∧ (σ.1 30 12 = nI 0 ∨ SgIs σ 30 (gLst p.2 p.1)))
def ImIs (σ : St) (i : Option Su) : Prop := match i with
  | none => σ.1 0 2 = bI false
  | some u => σ.1 0 2 = bI true ∧ SuIs σ 6 21 24 27 u
def TaIs (σ : St) (t : Nat → Tp) : Prop := ∀ k, k < 6 → TpIs σ (52 + 2 * k) (t k).1 (t k).2.1 (t k).2.2
def SyIs (σ : St) (s : Ms) : Prop := SuIs σ 3 12 15 18 s.1 ∧ ImIs σ s.2.1 ∧ GoIs σ s.1.1 ∧ Tx σ s.2.2.1.1 s.2.2.1.2 ∧ TaIs σ s.2.2.2
/-- nothing of the reference's is otherwise -/
def Fs (σ σ' : St) : Prop := ∀ c, 64 ≤ c → σ'.1 c = σ.1 c ∧ σ'.2 c = σ.2 c
theorem Fs.rf {σ : St} : Fs σ σ := fun _ _ => ⟨rfl, rfl⟩
theorem Fs.tr {σ σ1 σ2 : St} (h : Fs σ σ1) (h2 : Fs σ1 σ2) : Fs σ σ2 := fun c hc => ⟨(h2 c hc).1.trans (h c hc).1, (h2 c hc).2.trans (h c hc).2⟩
theorem Fr.s {l : List Nat} {σ σ' : St} (h : Fr l σ σ') (hl : l.all (fun c => decide (c < 64)) = true) : Fs σ σ' := fun c hc => h c (fun q => by
  have := List.all_eq_true.mp hl c q
  simp at this
  omega)
def SyTo (v : Value) (σ : St) (s : Ms) : Option Value → St → Prop := fun r σ' => r = some v ∧ SyIs σ' s ∧ Fs σ σ'
theorem SuIs.go {σ σ' : St} {a b c e : Nat} {u : Su} {l : List Nat} (h : SuIs σ a b c e u) (hF : Fr l σ σ') (hl : ([a, a + 1, a + 2, b, b + 1, b + 2, c, c + 1, c + 2, e, e + 1, e + 2].all (fun q => !l.contains q)) = true) : SuIs σ' a b c e u := by
  have k : ∀ q, q ∈ [a, a + 1, a + 2, b, b + 1, b + 2, c, c + 1, c + 2, e, e + 1, e + 2] → q ∉ l := fun q hq hc => by
    have := List.all_eq_true.mp hl q hq
    simp at this
    exact this hc
  exact ⟨h.1.go hF (k _ (by simp)) (k _ (by simp)) (k _ (by simp)), h.2.1.go hF (k _ (by simp)) (k _ (by simp)) (k _ (by simp)), h.2.2.1.go hF (k _ (by simp)) (k _ (by simp)) (k _ (by simp)), h.2.2.2.go hF (k _ (by simp)) (k _ (by simp)) (k _ (by simp))⟩
theorem TaIs.go {σ σ' : St} {t : Nat → Tp} {l : List Nat} (h : TaIs σ t) (hF : Fr l σ σ') (hl : (List.range 6).all (fun k => !l.contains (52 + 2 * k) && !l.contains (52 + 2 * k + 1)) = true) : TaIs σ' t := fun k hk => by
  have := List.all_eq_true.mp hl k (List.mem_range.mpr hk)
  simp at this
  exact (h k hk).go hF (fun q => this.1 q) (fun q => this.2 q)
theorem ImIs.go {σ σ' : St} {i : Option Su} {l : List Nat} (h : ImIs σ i) (h0 : σ'.1 0 2 = σ.1 0 2) (hF : Fr l σ σ') (hl : ([6, 7, 8, 21, 22, 23, 24, 25, 26, 27, 28, 29].all (fun q => !l.contains q)) = true) : ImIs σ' i := by
  cases i with
  | none => exact h0.trans h
  | some u => exact ⟨h0.trans h.1, h.2.go hF hl⟩
theorem GoIs.go {σ σ' : St} {p : Pts} {l : List Nat} (h : GoIs σ p) (h0 : σ'.1 0 4 = σ.1 0 4) (hF : Fr l σ σ') (hl : ([30, 31, 32, 33, 34, 35, 36, 37, 38].all (fun q => !l.contains q)) = true) : GoIs σ' p := by
  have k : ∀ q, q ∈ [30, 31, 32, 33, 34, 35, 36, 37, 38] → q ∉ l := fun q hq hc => by
    have := List.all_eq_true.mp hl q hq
    simp at this
    exact this hc
  rcases h with h | ⟨h1, h2, h3⟩
  · exact Or.inl (h0.trans h)
  · refine Or.inr ⟨h0.trans h1, h2.go hF (k _ (by simp)) (k _ (by simp)) (k _ (by simp)) (k _ (by simp)) (k _ (by simp)) (k _ (by simp)) (k _ (by simp)), ?_⟩
    rcases h3 with h3 | h3
    · exact Or.inl (by rw [(hF _ (k 30 (by simp))).1]; exact h3)
    · exact Or.inr ⟨by rw [(hF _ (k 30 (by simp))).1]; exact h3.1, h3.2.go hF (k _ (by simp)) (k _ (by simp)) (k _ (by simp))⟩
def inB (x : Int32) (lo hi : Int) : Bool := decide (lo ≤ x.toInt ∧ x.toInt ≤ hi)
theorem ltI {x y : Int32} : x < y ↔ x.toInt < y.toInt := Int32.lt_iff_toInt_lt
theorem leI {x y : Int32} : x ≤ y ↔ x.toInt ≤ y.toInt := Int32.le_iff_toInt_le
theorem in_lo {x : Int32} {k : Int} (h : x < 0) : inB x 0 k = false := by
  rw [ltI, Int32.toInt_zero] at h
  simp only [inB, decide_eq_false_iff_not]
  omega
theorem in_le_t {x : Int32} {k : Nat} (hk : k < 2 ^ 31) (h : ¬ x < 0) (h2 : x ≤ nI k) : inB x 0 k = true := by
  rw [ltI, Int32.toInt_zero] at h
  rw [leI, nI_toInt hk] at h2
  simp only [inB, decide_eq_true_eq]
  omega
theorem in_le_f {x : Int32} {k : Nat} (hk : k < 2 ^ 31) (h2 : ¬ x ≤ nI k) : inB x 0 k = false := by
  rw [leI, nI_toInt hk] at h2
  simp only [inB, decide_eq_false_iff_not]
  omega
theorem in_gt_t {x : Int32} {k : Nat} (hk : k < 2 ^ 31) (h2 : nI k < x) : inB x 0 k = false := by
  rw [ltI, nI_toInt hk] at h2
  simp only [inB, decide_eq_false_iff_not]
  omega
theorem in_gt_f {x : Int32} {k : Nat} (hk : k < 2 ^ 31) (h : ¬ x < 0) (h2 : ¬ nI k < x) : inB x 0 k = true := by
  rw [ltI, Int32.toInt_zero] at h
  rw [ltI, nI_toInt hk] at h2
  simp only [inB, decide_eq_true_eq]
  omega
theorem in_ge_t {x : Int32} {k : Nat} (hk : k + 1 < 2 ^ 31) (h2 : nI (k + 1) ≤ x) : inB x 0 k = false := by
  rw [leI, nI_toInt hk] at h2
  simp only [inB, decide_eq_false_iff_not]
  omega
theorem in_ge_f {x : Int32} {k : Nat} (hk : k + 1 < 2 ^ 31) (h : ¬ x < 0) (h2 : ¬ nI (k + 1) ≤ x) : inB x 0 k = true := by
  rw [ltI, Int32.toInt_zero] at h
  rw [leI, nI_toInt hk] at h2
  simp only [inB, decide_eq_true_eq]
  omega
theorem in_n {x : Int32} {k : Nat} (h : inB x 0 k = true) : ∃ j : Nat, j ≤ k ∧ x = nI j := by
  simp only [inB, decide_eq_true_eq] at h
  have := x.toInt_lt
  refine ⟨x.toInt.toNat, by omega, ?_⟩
  rw [← Int32.toInt_inj, nI_toInt (by omega)]
  omega
theorem bI_t {p : Prop} [Decidable p] (h : p) : nI 1 = bI (decide p) := by rw [decide_eq_true h]; rfl
theorem bI_f {p : Prop} [Decidable p] (h : ¬ p) : nI 0 = bI (decide p) := by rw [decide_eq_false h]; rfl
theorem bI_tb {b : Bool} (h : b = true) : nI 1 = bI b := by rw [h]; rfl
theorem bI_fb {b : Bool} (h : b = false) : nI 0 = bI b := by rw [h]; rfl
theorem m3_toInt : (-3 : Int32).toInt = -3 := by decide
def plB (x y z : Int32) : Bool := inB x (-3) 3 && (inB y (-3) 3 && inB z (-3) 3)
/-- the fraction in lowest terms, by trying -/
def pfL (a b w : Nat) : Nat → Nat
  | 0 => w
  | k + 1 => if k = 0 then w else if a % (k + 1) = 0 ∧ b % (k + 1) = 0 then w / (k + 1) else pfL a b w k
set_option maxHeartbeats 4000000 in
set_option maxRecDepth 100000 in
theorem c_X7_isMark {E : Ev} {d : Nat} {σ : St} {x : Int32} : Con E (d) yX7_isMark cX7_isMark 1 ((Option.some FieldType.boolean)) [.int x] σ (Det (some (.int (bI (inB x 0 4)))) σ) := by
  refine con_of (by decide) (Nat.le_of_ble_eq_true rfl) (fun X hX C => ?_)
  have C : Cx E X cX7_isMark RX7 1 ((Option.some FieldType.boolean)) := C
  show G E _ X _ _ _ 0 [(0, .int x)] []
  refine g_iload_n C dX7_isMark_0 rfl ?_
  refine g_iflt C 13 dX7_isMark_1 (by decide) (fun h1 => ?_) (fun h1 => ?_)
  · have e1 : inB x 0 4 = false := in_lo h1
    refine g_ic (n := 0) C dX7_isMark_13 (by decide) ?_
    refine g_zret C (by first | exact bI_01 _ | exact Or.inl rfl | exact Or.inr rfl) dX7_isMark_14 ?_
    exact ⟨congrArg (fun v => some (Value.int v)) (by first | exact bI_tb (by assumption) | exact bI_fb (by assumption)), rfl⟩
  · refine g_iload_n C dX7_isMark_4 rfl ?_
    refine g_ic (n := 5) C dX7_isMark_5 (by decide) ?_
    refine g_icge C 13 dX7_isMark_6 (by decide) (fun h6 => ?_) (fun h6 => ?_)
    · have e6 : inB x 0 4 = false := in_ge_t (k := 4) (by decide) h6
      refine g_ic (n := 0) C dX7_isMark_13 (by decide) ?_
      refine g_zret C (by first | exact bI_01 _ | exact Or.inl rfl | exact Or.inr rfl) dX7_isMark_14 ?_
      exact ⟨congrArg (fun v => some (Value.int v)) (by first | exact bI_tb (by assumption) | exact bI_fb (by assumption)), rfl⟩
    · have e6 : inB x 0 4 = true := in_ge_f (k := 4) (by decide) h1 h6
      refine g_ic (n := 1) C dX7_isMark_9 (by decide) ?_
      refine g_goto C 14 dX7_isMark_10 (by decide) ?_
      refine g_zret C (by first | exact bI_01 _ | exact Or.inl rfl | exact Or.inr rfl) dX7_isMark_14 ?_
      exact ⟨congrArg (fun v => some (Value.int v)) (by first | exact bI_tb (by assumption) | exact bI_fb (by assumption)), rfl⟩
set_option maxHeartbeats 4000000 in
set_option maxRecDepth 100000 in
theorem c_X7_isTape {E : Ev} {d : Nat} {σ : St} {x : Int32} : Con E (d) yX7_isTape cX7_isTape 1 ((Option.some FieldType.boolean)) [.int x] σ (Det (some (.int (bI (inB x 0 5)))) σ) := by
  refine con_of (by decide) (Nat.le_of_ble_eq_true rfl) (fun X hX C => ?_)
  have C : Cx E X cX7_isTape RX7 1 ((Option.some FieldType.boolean)) := C
  show G E _ X _ _ _ 0 [(0, .int x)] []
  refine g_iload_n C dX7_isTape_0 rfl ?_
  refine g_iflt C 14 dX7_isTape_1 (by decide) (fun h1 => ?_) (fun h1 => ?_)
  · have e1 : inB x 0 5 = false := in_lo h1
    refine g_ic (n := 0) C dX7_isTape_14 (by decide) ?_
    refine g_zret C (by first | exact bI_01 _ | exact Or.inl rfl | exact Or.inr rfl) dX7_isTape_15 ?_
    exact ⟨congrArg (fun v => some (Value.int v)) (by first | exact bI_tb (by assumption) | exact bI_fb (by assumption)), rfl⟩
  · refine g_iload_n C dX7_isTape_4 rfl ?_
    refine g_bp C (nI 6) dX7_isTape_5 (by decide) ?_
    refine g_icge C 14 dX7_isTape_7 (by decide) (fun h7 => ?_) (fun h7 => ?_)
    · have e7 : inB x 0 5 = false := in_ge_t (k := 5) (by decide) h7
      refine g_ic (n := 0) C dX7_isTape_14 (by decide) ?_
      refine g_zret C (by first | exact bI_01 _ | exact Or.inl rfl | exact Or.inr rfl) dX7_isTape_15 ?_
      exact ⟨congrArg (fun v => some (Value.int v)) (by first | exact bI_tb (by assumption) | exact bI_fb (by assumption)), rfl⟩
    · have e7 : inB x 0 5 = true := in_ge_f (k := 5) (by decide) h1 h7
      refine g_ic (n := 1) C dX7_isTape_10 (by decide) ?_
      refine g_goto C 15 dX7_isTape_11 (by decide) ?_
      refine g_zret C (by first | exact bI_01 _ | exact Or.inl rfl | exact Or.inr rfl) dX7_isTape_15 ?_
      exact ⟨congrArg (fun v => some (Value.int v)) (by first | exact bI_tb (by assumption) | exact bI_fb (by assumption)), rfl⟩
set_option maxHeartbeats 4000000 in
set_option maxRecDepth 100000 in
theorem c_X7_isPart {E : Ev} {d : Nat} {σ : St} {x : Int32} : Con E (d) yX7_isPart cX7_isPart 1 ((Option.some FieldType.boolean)) [.int x] σ (Det (some (.int (bI (inB x 0 1)))) σ) := by
  refine con_of (by decide) (Nat.le_of_ble_eq_true rfl) (fun X hX C => ?_)
  have C : Cx E X cX7_isPart RX7 1 ((Option.some FieldType.boolean)) := C
  show G E _ X _ _ _ 0 [(0, .int x)] []
  refine g_iload_n C dX7_isPart_0 rfl ?_
  refine g_ifeq C 9 dX7_isPart_1 (by decide) (fun h1 => ?_) (fun h1 => ?_)
  · refine g_ic (n := 1) C dX7_isPart_9 (by decide) ?_
    refine g_goto C 14 dX7_isPart_10 (by decide) ?_
    refine g_zret C (by first | exact bI_01 _ | exact Or.inl rfl | exact Or.inr rfl) dX7_isPart_14 ?_
    exact ⟨congrArg (fun v => some (Value.int v)) (by first | (subst h1; rfl) | (subst h6; rfl) | exact bI_fb (by simp only [inB, decide_eq_false_iff_not]; intro q; have e1 : ¬ x.toInt = 0 := (fun e => h1 (by rw [← Int32.toInt_inj]; exact e)); have e2 : ¬ x.toInt = 1 := (fun e => h6 (by rw [← Int32.toInt_inj]; exact e)); omega)), rfl⟩
  · refine g_iload_n C dX7_isPart_4 rfl ?_
    refine g_ic (n := 1) C dX7_isPart_5 (by decide) ?_
    refine g_icne C 13 dX7_isPart_6 (by decide) (fun h6 => ?_) (fun h6 => ?_)
    · refine g_ic (n := 0) C dX7_isPart_13 (by decide) ?_
      refine g_zret C (by first | exact bI_01 _ | exact Or.inl rfl | exact Or.inr rfl) dX7_isPart_14 ?_
      exact ⟨congrArg (fun v => some (Value.int v)) (by first | (subst h1; rfl) | (subst h6; rfl) | exact bI_fb (by simp only [inB, decide_eq_false_iff_not]; intro q; have e1 : ¬ x.toInt = 0 := (fun e => h1 (by rw [← Int32.toInt_inj]; exact e)); have e2 : ¬ x.toInt = 1 := (fun e => h6 (by rw [← Int32.toInt_inj]; exact e)); omega)), rfl⟩
    · refine g_ic (n := 1) C dX7_isPart_9 (by decide) ?_
      refine g_goto C 14 dX7_isPart_10 (by decide) ?_
      refine g_zret C (by first | exact bI_01 _ | exact Or.inl rfl | exact Or.inr rfl) dX7_isPart_14 ?_
      exact ⟨congrArg (fun v => some (Value.int v)) (by first | (subst h1; rfl) | (subst h6; rfl) | exact bI_fb (by simp only [inB, decide_eq_false_iff_not]; intro q; have e1 : ¬ x.toInt = 0 := (fun e => h1 (by rw [← Int32.toInt_inj]; exact e)); have e2 : ¬ x.toInt = 1 := (fun e => h6 (by rw [← Int32.toInt_inj]; exact e)); omega)), rfl⟩
set_option maxHeartbeats 4000000 in
set_option maxRecDepth 100000 in
theorem c_X7_isAxis {E : Ev} {d : Nat} {σ : St} {x : Int32} : Con E (d) yX7_isAxis cX7_isAxis 1 ((Option.some FieldType.boolean)) [.int x] σ (Det (some (.int (bI (inB x (-3) 3)))) σ) := by
  refine con_of (by decide) (Nat.le_of_ble_eq_true rfl) (fun X hX C => ?_)
  have C : Cx E X cX7_isAxis RX7 1 ((Option.some FieldType.boolean)) := C
  show G E _ X _ _ _ 0 [(0, .int x)] []
  refine g_iload_n C dX7_isAxis_0 rfl ?_
  refine g_bp C (-3) dX7_isAxis_1 (by decide) ?_
  refine g_iclt C 15 dX7_isAxis_3 (by decide) (fun h3 => ?_) (fun h3 => ?_)
  · refine g_ic (n := 0) C dX7_isAxis_15 (by decide) ?_
    refine g_zret C (by first | exact bI_01 _ | exact Or.inl rfl | exact Or.inr rfl) dX7_isAxis_16 ?_
    exact ⟨congrArg (fun v => some (Value.int v)) (by first | exact bI_t (by simp only [ltI, leI, m3_toInt, nI_toInt (show 3 < 2 ^ 31 by decide)] at h3; omega) | exact bI_f (by simp only [ltI, leI, m3_toInt, nI_toInt (show 3 < 2 ^ 31 by decide)] at h3; omega)), rfl⟩
  · refine g_iload_n C dX7_isAxis_6 rfl ?_
    refine g_ic (n := 3) C dX7_isAxis_7 (by decide) ?_
    refine g_icgt C 15 dX7_isAxis_8 (by decide) (fun h8 => ?_) (fun h8 => ?_)
    · refine g_ic (n := 0) C dX7_isAxis_15 (by decide) ?_
      refine g_zret C (by first | exact bI_01 _ | exact Or.inl rfl | exact Or.inr rfl) dX7_isAxis_16 ?_
      exact ⟨congrArg (fun v => some (Value.int v)) (by first | exact bI_t (by simp only [ltI, leI, m3_toInt, nI_toInt (show 3 < 2 ^ 31 by decide)] at h3 h8; omega) | exact bI_f (by simp only [ltI, leI, m3_toInt, nI_toInt (show 3 < 2 ^ 31 by decide)] at h3 h8; omega)), rfl⟩
    · refine g_ic (n := 1) C dX7_isAxis_11 (by decide) ?_
      refine g_goto C 16 dX7_isAxis_12 (by decide) ?_
      refine g_zret C (by first | exact bI_01 _ | exact Or.inl rfl | exact Or.inr rfl) dX7_isAxis_16 ?_
      exact ⟨congrArg (fun v => some (Value.int v)) (by first | exact bI_t (by simp only [ltI, leI, m3_toInt, nI_toInt (show 3 < 2 ^ 31 by decide)] at h3 h8; omega) | exact bI_f (by simp only [ltI, leI, m3_toInt, nI_toInt (show 3 < 2 ^ 31 by decide)] at h3 h8; omega)), rfl⟩
set_option maxHeartbeats 4000000 in
set_option maxRecDepth 100000 in
theorem c_X7_isPlace {E : Ev} {d : Nat} {σ : St} {x y z : Int32} : Con E (d + 1) yX7_isPlace cX7_isPlace 3 ((Option.some FieldType.boolean)) [.int x, .int y, .int z] σ (Det (some (.int (bI (plB x y z)))) σ) := by
  refine con_of (by decide) (Nat.le_of_ble_eq_true rfl) (fun X hX C => ?_)
  have C : Cx E X cX7_isPlace RX7 3 ((Option.some FieldType.boolean)) := C
  show G E _ X _ _ _ 0 [(0, .int x), (1, .int y), (2, .int z)] []
  refine g_iload_n C dX7_isPlace_0 rfl ?_
  refine g_callSp C (c_X7_isAxis (d := d) ) dX7_isPlace_1 km_RX7_300 kn_RX7 kc_yX7_isAxis ks_yX7_isAxis (by omega) (by decide) ⟨by decide, by decide, rfl⟩ rfl (Nat.le_of_ble_eq_true rfl) ?_
  refine g_ifeqB C 25 dX7_isPlace_4 (by decide) (fun h4 => ?_) (fun h4 => ?_)
  · refine g_ic (n := 0) C dX7_isPlace_25 (by decide) ?_
    refine g_zret C (by first | exact bI_01 _ | exact Or.inl rfl | exact Or.inr rfl) dX7_isPlace_26 ?_
    exact ⟨congrArg (fun v => some (Value.int v)) (by simp [plB, h4]; rfl), rfl⟩
  · refine g_iload_n C dX7_isPlace_7 rfl ?_
    refine g_callSp C (c_X7_isAxis (d := d) ) dX7_isPlace_8 km_RX7_300 kn_RX7 kc_yX7_isAxis ks_yX7_isAxis (by omega) (by decide) ⟨by decide, by decide, rfl⟩ rfl (Nat.le_of_ble_eq_true rfl) ?_
    refine g_ifeqB C 25 dX7_isPlace_11 (by decide) (fun h11 => ?_) (fun h11 => ?_)
    · refine g_ic (n := 0) C dX7_isPlace_25 (by decide) ?_
      refine g_zret C (by first | exact bI_01 _ | exact Or.inl rfl | exact Or.inr rfl) dX7_isPlace_26 ?_
      exact ⟨congrArg (fun v => some (Value.int v)) (by simp [plB, h4, h11]; rfl), rfl⟩
    · refine g_iload_n C dX7_isPlace_14 rfl ?_
      refine g_callSp C (c_X7_isAxis (d := d) ) dX7_isPlace_15 km_RX7_300 kn_RX7 kc_yX7_isAxis ks_yX7_isAxis (by omega) (by decide) ⟨by decide, by decide, rfl⟩ rfl (Nat.le_of_ble_eq_true rfl) ?_
      refine g_ifeqB C 25 dX7_isPlace_18 (by decide) (fun h18 => ?_) (fun h18 => ?_)
      · refine g_ic (n := 0) C dX7_isPlace_25 (by decide) ?_
        refine g_zret C (by first | exact bI_01 _ | exact Or.inl rfl | exact Or.inr rfl) dX7_isPlace_26 ?_
        exact ⟨congrArg (fun v => some (Value.int v)) (by simp [plB, h4, h11, h18]; rfl), rfl⟩
      · refine g_ic (n := 1) C dX7_isPlace_21 (by decide) ?_
        refine g_goto C 26 dX7_isPlace_22 (by decide) ?_
        refine g_zret C (by first | exact bI_01 _ | exact Or.inl rfl | exact Or.inr rfl) dX7_isPlace_26 ?_
        exact ⟨congrArg (fun v => some (Value.int v)) (by simp [plB, h4, h11, h18]; rfl), rfl⟩
set_option maxHeartbeats 4000000 in
set_option maxRecDepth 100000 in
theorem c_X7_isPoint {E : Ev} {d : Nat} {σ : St} {n : Nat} {P : Nat → Nat → Int32} {x : Int32} (h : ShIs σ 3 n P) : Con E (d) yX7_isPoint cX7_isPoint 2 ((Option.some FieldType.boolean)) [.ref (ev_a E 0), .int x] σ (Det (some (.int (bI (hpB n x)))) σ) := by
  refine con_of (by decide) (Nat.le_of_ble_eq_true rfl) (fun X hX C => ?_)
  have C : Cx E X cX7_isPoint RX7 2 ((Option.some FieldType.boolean)) := C
  show G E _ X _ _ _ 0 [(0, .ref (ev_a E 0)), (1, .int x)] []
  refine g_iload_n C dX7_isPoint_0 rfl ?_
  refine g_iflt C 22 dX7_isPoint_1 (by decide) (fun h1 => ?_) (fun h1 => ?_)
  · refine g_ic (n := 0) C dX7_isPoint_22 (by decide) ?_
    refine g_zret C (by first | exact bI_01 _ | exact Or.inl rfl | exact Or.inr rfl) dX7_isPoint_23 ?_
    exact ⟨congrArg (fun v => some (Value.int v)) (by simp [hpB, h1]; rfl), rfl⟩
  · refine g_iload_n C dX7_isPoint_4 rfl ?_
    refine g_aload_n C dX7_isPoint_5 rfl ?_
    refine gf_X7_now C (by rfl) dX7_isPoint_6 kf_RX7_12 ?_
    refine gn_X3_shape C (by rfl) dX7_isPoint_9 nw_X7_67 ?_
    refine gn_X4_size C (by rfl) dX7_isPoint_12 nw_X7_74 ?_
    rw [h.2.2.1]
    refine g_icge C 22 dX7_isPoint_15 (by decide) (fun h15 => ?_) (fun h15 => ?_)
    · refine g_ic (n := 0) C dX7_isPoint_22 (by decide) ?_
      refine g_zret C (by first | exact bI_01 _ | exact Or.inl rfl | exact Or.inr rfl) dX7_isPoint_23 ?_
      exact ⟨congrArg (fun v => some (Value.int v)) (by simp [hpB, h1, h15]; rfl), rfl⟩
    · refine g_ic (n := 1) C dX7_isPoint_18 (by decide) ?_
      refine g_goto C 23 dX7_isPoint_19 (by decide) ?_
      refine g_zret C (by first | exact bI_01 _ | exact Or.inl rfl | exact Or.inr rfl) dX7_isPoint_23 ?_
      exact ⟨congrArg (fun v => some (Value.int v)) (by simp [hpB, h1, h15]; rfl), rfl⟩
set_option maxHeartbeats 4000000 in
set_option maxRecDepth 100000 in
theorem l_X7_partOfFraction {E : Ev} {d : Nat} {X : Mx} (C : Cx E X cX7_partOfFraction RX7 5 ((Option.some FieldType.int))) {σ : St} {a b w v : Nat} (ha : a < 2 ^ 20) (hb : b < 2 ^ 20) (hv : v < 2 ^ 20) : ∀ (k : Nat), k ≤ b → G E d X 5 (Det (some (.int (nI (pfL a b v k)))) σ) σ 13 ([(0, .int (nI a)), (1, .int (nI b)), (2, .int (nI w)), (3, .int (nI v)), (4, .int (nI k))]) [] := by
  intro k
  induction k with
  | zero =>
    intro hk
    refine g_iload C dX7_partOfFraction_13 rfl ?_
    refine g_ic (n := 1) C dX7_partOfFraction_15 (by decide) ?_
    first | refine g_icleN C 44 dX7_partOfFraction_16 (by decide) (by omega) (by omega) (fun h16 => ?_) (fun h16 => ?_) | refine g_icle C 44 dX7_partOfFraction_16 (by decide) (fun h16 => ?_) (fun h16 => ?_)
    · refine g_iload_n C dX7_partOfFraction_44 rfl ?_
      refine g_iret C dX7_partOfFraction_45 ?_
      exact ⟨congrArg (fun v => some (Value.int v)) (by first | rfl | (rw [pfL, if_pos (by omega)])), rfl⟩
    · omega
  | succ k ih =>
    intro hk
    refine g_iload C dX7_partOfFraction_13 rfl ?_
    refine g_ic (n := 1) C dX7_partOfFraction_15 (by decide) ?_
    first | refine g_icleN C 44 dX7_partOfFraction_16 (by decide) (by omega) (by omega) (fun h16 => ?_) (fun h16 => ?_) | refine g_icle C 44 dX7_partOfFraction_16 (by decide) (fun h16 => ?_) (fun h16 => ?_)
    · refine g_iload_n C dX7_partOfFraction_44 rfl ?_
      refine g_iret C dX7_partOfFraction_45 ?_
      exact ⟨congrArg (fun v => some (Value.int v)) (by first | rfl | (rw [pfL, if_pos (by omega)])), rfl⟩
    · refine g_iload_n C dX7_partOfFraction_19 rfl ?_
      refine g_iload C dX7_partOfFraction_20 rfl ?_
      refine g_iremN C dX7_partOfFraction_22 (by omega) (by omega) (by omega) ?_
      have b1 := Nat.mod_le a (k + 1)
      refine g_ifneN C 38 dX7_partOfFraction_23 (by decide) (by omega) (fun h23 => ?_) (fun h23 => ?_)
      · refine g_iinc C (nI k) dX7_partOfFraction_38 rfl (pk_m1 k) (by decide) ?_
        refine g_goto C 13 dX7_partOfFraction_41 (by decide) ?_
        refine g_loc ([(0, .int (nI a)), (1, .int (nI b)), (2, .int (nI w)), (3, .int (nI v)), (4, .int (nI k))]) (And.intro rfl (And.intro rfl (And.intro rfl (And.intro rfl (And.intro rfl trivial))))) ?_
        rw [show pfL a b v (k + 1) = pfL a b v k from by first | rw [pfL, if_neg (by omega), if_neg (fun q => h23 q.1)] | rw [pfL, if_neg (by omega), if_neg (fun q => h30 q.2)]]
        exact ih (by omega)
      · refine g_iload_n C dX7_partOfFraction_26 rfl ?_
        refine g_iload C dX7_partOfFraction_27 rfl ?_
        refine g_iremN C dX7_partOfFraction_29 (by omega) (by omega) (by omega) ?_
        have b2 := Nat.mod_le b (k + 1)
        refine g_ifneN C 38 dX7_partOfFraction_30 (by decide) (by omega) (fun h30 => ?_) (fun h30 => ?_)
        · refine g_iinc C (nI k) dX7_partOfFraction_38 rfl (pk_m1 k) (by decide) ?_
          refine g_goto C 13 dX7_partOfFraction_41 (by decide) ?_
          refine g_loc ([(0, .int (nI a)), (1, .int (nI b)), (2, .int (nI w)), (3, .int (nI v)), (4, .int (nI k))]) (And.intro rfl (And.intro rfl (And.intro rfl (And.intro rfl (And.intro rfl trivial))))) ?_
          rw [show pfL a b v (k + 1) = pfL a b v k from by first | rw [pfL, if_neg (by omega), if_neg (fun q => h23 q.1)] | rw [pfL, if_neg (by omega), if_neg (fun q => h30 q.2)]]
          exact ih (by omega)
        · refine g_iload_n C dX7_partOfFraction_33 rfl ?_
          refine g_iload C dX7_partOfFraction_34 rfl ?_
          refine g_idivN C dX7_partOfFraction_36 (by omega) (by omega) (by omega) ?_
          refine g_iret C dX7_partOfFraction_37 ?_
          exact ⟨congrArg (fun v => some (Value.int v)) (by rw [pfL, if_neg (by omega), if_pos ⟨h23, h30⟩]), rfl⟩
set_option maxHeartbeats 4000000 in
set_option maxRecDepth 100000 in
theorem c_X7_partOfFraction {E : Ev} {d : Nat} {σ : St} {a b w : Nat} (ha : a < 2 ^ 20) (hb : b < 2 ^ 20) (hw : w < 2) : Con E (d) yX7_partOfFraction cX7_partOfFraction 5 ((Option.some FieldType.int)) [.int (nI a), .int (nI b), .int (nI w)] σ (Det (some (.int (nI (pfL a b (if w = 0 then a else b) b)))) σ) := by
  refine con_of (by decide) (Nat.le_of_ble_eq_true rfl) (fun X hX C => ?_)
  have C : Cx E X cX7_partOfFraction RX7 5 ((Option.some FieldType.int)) := C
  show G E _ X _ _ _ 0 [(0, .int (nI a)), (1, .int (nI b)), (2, .int (nI w))] []
  refine g_iload_n C dX7_partOfFraction_0 rfl ?_
  refine g_ifneN C 8 dX7_partOfFraction_1 (by decide) (by omega) (fun h1 => ?_) (fun h1 => ?_)
  · refine g_iload_n C dX7_partOfFraction_8 rfl ?_
    refine g_istore_n C dX7_partOfFraction_9 (by decide) ?_
    refine g_iload_n C dX7_partOfFraction_10 rfl ?_
    refine g_istore C dX7_partOfFraction_11 (by decide) ?_
    first | (refine g_loc ([(0, .int (nI a)), (1, .int (nI b)), (2, .int (nI w)), (3, .int (nI a)), (4, .int (nI b))]) (And.intro rfl (And.intro rfl (And.intro rfl (And.intro rfl (And.intro rfl trivial))))) ?_; rw [if_pos (by assumption)]; exact l_X7_partOfFraction C ha hb ha b (Nat.le_refl _)) | (refine g_loc ([(0, .int (nI a)), (1, .int (nI b)), (2, .int (nI w)), (3, .int (nI b)), (4, .int (nI b))]) (And.intro rfl (And.intro rfl (And.intro rfl (And.intro rfl (And.intro rfl trivial))))) ?_; rw [if_neg (by assumption)]; exact l_X7_partOfFraction C ha hb hb b (Nat.le_refl _))
  · refine g_iload_n C dX7_partOfFraction_4 rfl ?_
    refine g_goto C 9 dX7_partOfFraction_5 (by decide) ?_
    refine g_istore_n C dX7_partOfFraction_9 (by decide) ?_
    refine g_iload_n C dX7_partOfFraction_10 rfl ?_
    refine g_istore C dX7_partOfFraction_11 (by decide) ?_
    first | (refine g_loc ([(0, .int (nI a)), (1, .int (nI b)), (2, .int (nI w)), (3, .int (nI a)), (4, .int (nI b))]) (And.intro rfl (And.intro rfl (And.intro rfl (And.intro rfl (And.intro rfl trivial))))) ?_; rw [if_pos (by assumption)]; exact l_X7_partOfFraction C ha hb ha b (Nat.le_refl _)) | (refine g_loc ([(0, .int (nI a)), (1, .int (nI b)), (2, .int (nI w)), (3, .int (nI b)), (4, .int (nI b))]) (And.intro rfl (And.intro rfl (And.intro rfl (And.intro rfl (And.intro rfl trivial))))) ?_; rw [if_neg (by assumption)]; exact l_X7_partOfFraction C ha hb hb b (Nat.le_refl _))
theorem GK30 : GK 30 := ⟨rfl, rfl, rfl, rfl, rfl, rfl, rfl, rfl, rfl⟩
theorem GK39 : GK 39 := ⟨rfl, rfl, rfl, rfl, rfl, rfl, rfl, rfl, rfl⟩
/-- the group has been found -/
def GnIs (σ : St) (p : Pts) : Prop := σ.1 0 4 = bI false ∧ GrIs σ 30 p.1 p.2 (gLst p.2 p.1) ∧ (σ.1 30 12 = nI 0 ∨ SgIs σ 30 (gLst p.2 p.1))
set_option maxHeartbeats 4000000 in
set_option maxRecDepth 100000 in
theorem c_X7_groupNow {E : Ev} {d : Nat} {σ : St} {s : Ms} (hs : SyIs σ s) : Con E (d + 6) yX7_groupNow cX7_groupNow 1 ((Option.some (FieldType.object "ShapeMoves$Group"))) [.ref (ev_a E 0)] σ (fun r σ2 => r = some (.ref (ev_a E 30)) ∧ SyIs σ2 s ∧ GnIs σ2 s.1.1 ∧ Fs σ σ2) := by
  refine con_of (by decide) (Nat.le_of_ble_eq_true rfl) (fun X hX C => ?_)
  have C : Cx E X cX7_groupNow RX7 1 ((Option.some (FieldType.object "ShapeMoves$Group"))) := C
  obtain ⟨hS, hI, hO, hT, hA⟩ := id hs
  show G E _ X _ _ _ 0 [(0, .ref (ev_a E 0))] []
  refine g_aload_n C dX7_groupNow_0 rfl ?_
  refine gf_X7_isGroupOld C (by rfl) dX7_groupNow_1 kf_RX7_32 ?_
  refine g_ifeq C 26 dX7_groupNow_4 (by decide) (fun h4 => ?_) (fun h4 => ?_)
  · refine g_aload_n C dX7_groupNow_26 rfl ?_
    refine gf_X7_nowGroup C (by rfl) dX7_groupNow_27 kf_RX7_28 ?_
    refine g_aret C dX7_groupNow_30 ?_
    rcases hO with hO | hO
    · rw [hO] at h4; exact absurd h4 (by decide)
    · exact ⟨rfl, ⟨hS, hI, Or.inr hO, hT, hA⟩, hO, Fs.rf⟩
  · refine g_aload_n C dX7_groupNow_7 rfl ?_
    refine gf_X7_nowGroup C (by rfl) dX7_groupNow_8 kf_RX7_28 ?_
    refine g_aload_n C dX7_groupNow_11 rfl ?_
    refine gf_X7_now C (by rfl) dX7_groupNow_12 kf_RX7_12 ?_
    refine gn_X3_shape C (by rfl) dX7_groupNow_15 nw_X7_67 ?_
    refine g_callV C (ob_X0 (by rfl)) (c_X0_find (d := d) (b := 3) GK30 (Or.inl (by omega)) hS.1) dX7_groupNow_18 km_RX7_263 kn_RX0 kc_yX0_find ki_yX0_find kx_yX0_find (by omega) (by decide) ⟨by decide, by decide, rfl⟩ rfl (Nat.le_of_ble_eq_true rfl) (fun r1 σ1 q1 => ?_)
    obtain ⟨rfl, u1, u2, u3⟩ := q1
    refine g_aload_n C dX7_groupNow_21 rfl ?_
    refine g_ic (n := 0) C dX7_groupNow_22 (by decide) ?_
    refine gp_X7_isGroupOld C (by rfl) (by first | exact bI_01 _ | exact Or.inl rfl | exact Or.inr rfl) dX7_groupNow_23 kf_RX7_32 ?_
    refine g_aload_n C dX7_groupNow_26 rfl ?_
    refine gf_X7_nowGroup C (by rfl) dX7_groupNow_27 kf_RX7_28 ?_
    refine g_aret C dX7_groupNow_30 ?_
    have hF : Fr [0, 30, 31, 32, 33, 34, 35, 36] σ (sI σ1 0 (upd (σ1.1 0) 4 (nI 0))) := (u3.mono (by simp)).sI (by simp)
    have hG4 : (sI σ1 0 (upd (σ1.1 0) 4 (nI 0))).1 0 4 = bI false := by rw [sI_self, up_i]; rfl
    have hgr : GrIs (sI σ1 0 (upd (σ1.1 0) 4 (nI 0))) 30 s.1.1.1 s.1.1.2 (gLst s.1.1.2 s.1.1.1) := u1.go (l := [0]) (Fr.rf.sI (by simp)) (by simp) (by simp) (by simp) (by simp) (by simp) (by simp) (by simp)
    have h12 : (sI σ1 0 (upd (σ1.1 0) 4 (nI 0))).1 30 12 = nI 0 := by rw [sI_ne (by decide)]; exact u2
    exact ⟨rfl, ⟨hS.go hF (by decide), hI.go (by rw [sI_self, up_n (by decide), (u3 0 (by simp)).1]) hF (by decide), Or.inr ⟨hG4, hgr, Or.inl h12⟩, hT.go hF (by simp) (by simp), hA.go hF (by decide)⟩, ⟨hG4, hgr, Or.inl h12⟩, hF.s (by decide)⟩
