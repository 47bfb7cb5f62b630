/-! THE TEXT: n bytes T; the parser at place i, with its parts f and c clauses -/
def sgA (T : Nat → Nat) (n c i : Nat) : Bool := decide (i < n) && decide (T i = c)
def dgA (T : Nat → Nat) (n i : Nat) : Bool := decide (i < n) && (decide (48 ≤ T i) && decide (T i ≤ 57))
def tkD (T : Nat → Nat) (n i : Nat) (f : Nat → Int32) (to : Nat) : Bool × Nat × (Nat → Int32) := if dgA T n i = true then (true, i + 1, upd f to (nI (T i - 48))) else (false, i, f)
def tkA (T : Nat → Nat) (n i : Nat) (f : Nat → Int32) (to : Nat) : Bool × Nat × (Nat → Int32) :=
  if sgA T n 45 i = true then
    (if dgA T n (i + 1) = true then (if sgA T n 44 (i + 1 + 1) = true then (true, i + 1 + 1 + 1, upd (upd f to (nI (T (i + 1) - 48))) to (- nI (T (i + 1) - 48))) else (false, i + 1 + 1, upd (upd f to (nI (T (i + 1) - 48))) to (- nI (T (i + 1) - 48)))) else (false, i + 1, f))
  else (if dgA T n i = true then (if sgA T n 44 (i + 1) = true then (true, i + 1 + 1, upd f to (nI (T i - 48))) else (false, i + 1, upd f to (nI (T i - 48)))) else (false, i, f))
def tkC (T : Nat → Nat) (n i : Nat) (f : Nat → Int32) (to : Nat) : Bool × Nat × (Nat → Int32) :=
  if sgA T n 112 i = true then
    (let a := tkA T n (i + 1) (upd f to (nI 112)) (to + 1)
     if a.1 = true then
       (let b := tkA T n a.2.1 a.2.2 (to + 2)
        if b.1 = true then
          (let e := tkA T n b.2.1 b.2.2 (to + 3)
           if e.1 = true then tkD T n e.2.1 e.2.2 (to + 4) else (false, e.2))
        else (false, b.2))
     else (false, a.2))
  else if sgA T n 109 i = true then
    (let a := tkD T n (i + 1) (upd f to (nI 109)) (to + 1)
     if a.1 = true then tkD T n a.2.1 a.2.2 (to + 2) else (false, a.2))
  else if sgA T n 100 i = true then tkD T n (i + 1) (upd f to (nI 100)) (to + 1) else (false, i, upd f to (nI 100))
theorem tkD_le {T : Nat → Nat} {n i to : Nat} {f : Nat → Int32} (h : i ≤ n) : i ≤ (tkD T n i f to).2.1 ∧ (tkD T n i f to).2.1 ≤ n := by
  unfold tkD
  split
  · rename_i q
    simp only [dgA, Bool.and_eq_true, decide_eq_true_eq] at q
    simp only
    omega
  · exact ⟨Nat.le_refl _, h⟩
theorem tkA_le {T : Nat → Nat} {n i to : Nat} {f : Nat → Int32} (h : i ≤ n) : i ≤ (tkA T n i f to).2.1 ∧ (tkA T n i f to).2.1 ≤ n := by
  have s : ∀ c j, sgA T n c j = true → j + 1 ≤ n := fun c j q => by
    simp only [sgA, Bool.and_eq_true, decide_eq_true_eq] at q
    omega
  have g : ∀ j, dgA T n j = true → j + 1 ≤ n := fun j q => by
    simp only [dgA, Bool.and_eq_true, decide_eq_true_eq] at q
    omega
  have n1 := s 45 i
  have n2 := g (i + 1)
  have n3 := g i
  have n4 := s 44 (i + 1 + 1)
  have n5 := s 44 (i + 1)
  clear s g
  cases h1 : sgA T n 45 i <;> cases h2 : dgA T n (i + 1) <;> cases h3 : dgA T n i <;> cases h4 : sgA T n 44 (i + 1 + 1) <;> cases h5 : sgA T n 44 (i + 1) <;> simp [tkA, h1, h2, h3, h4, h5] at n1 n2 n3 n4 n5 ⊢ <;> omega
theorem tkC_le {T : Nat → Nat} {n i to : Nat} {f : Nat → Int32} (h : i ≤ n) : i ≤ (tkC T n i f to).2.1 ∧ (tkC T n i f to).2.1 ≤ n := by
  have s1 : ∀ c, sgA T n c i = true → i + 1 ≤ n := fun c q => by
    simp only [sgA, Bool.and_eq_true, decide_eq_true_eq] at q
    omega
  unfold tkC
  split
  · rename_i q
    have a1 := tkA_le (T := T) (f := upd f to (nI 112)) (to := to + 1) (s1 _ q)
    simp only
    split
    · have b1 := tkA_le (T := T) (f := (tkA T n (i + 1) (upd f to (nI 112)) (to + 1)).2.2) (to := to + 2) a1.2
      split
      · have e1 := tkA_le (T := T) (f := (tkA T n (tkA T n (i + 1) (upd f to (nI 112)) (to + 1)).2.1 (tkA T n (i + 1) (upd f to (nI 112)) (to + 1)).2.2 (to + 2)).2.2) (to := to + 3) b1.2
        split
        · have g1 := tkD_le (T := T) (f := (tkA T n (tkA T n (tkA T n (i + 1) (upd f to (nI 112)) (to + 1)).2.1 (tkA T n (i + 1) (upd f to (nI 112)) (to + 1)).2.2 (to + 2)).2.1 (tkA T n (tkA T n (i + 1) (upd f to (nI 112)) (to + 1)).2.1 (tkA T n (i + 1) (upd f to (nI 112)) (to + 1)).2.2 (to + 2)).2.2 (to + 3)).2.2) (to := to + 4) e1.2
          omega
        · simp only; omega
      · simp only; omega
    · simp only; omega
  · split
    · rename_i q
      have a1 := tkD_le (T := T) (f := upd f to (nI 109)) (to := to + 1) (s1 _ q)
      simp only
      split
      · have b1 := tkD_le (T := T) (f := (tkD T n (i + 1) (upd f to (nI 109)) (to + 1)).2.2) (to := to + 2) a1.2
        omega
      · simp only; omega
    · split
      · rename_i q
        have a1 := tkD_le (T := T) (f := upd f to (nI 100)) (to := to + 1) (s1 _ q)
        omega
      · simp only; omega
def pzL (T : Nat → Nat) (n : Nat) : Nat → Nat → Nat → (Nat → Int32) → Nat → Int32 × Nat × (Nat → Int32) × Nat
  | 0, _, i, f, c => (nI i, i, f, c)
  | r + 1, k, i, f, c =>
    if 0 < k ∧ sgA T n 59 i = false then (nI i, i, f, c)
    else
      (let t := tkC T n (if 0 < k then i + 1 else i) f (5 * k)
       if t.1 = true then (if t.2.1 = n then (-1, t.2.1, t.2.2, c + 1) else pzL T n r (k + 1) t.2.1 t.2.2 (c + 1))
       else (nI t.2.1, t.2.1, t.2.2, c))
/-- the text's cell and its parts as they stand in the parser -/
def txS (σ : St) (i : Nat) (f : Nat → Int32) (c : Nat) : St := sI (sI σ 48 (upd (upd (σ.1 48) 2 (nI i)) 4 (nI c))) 50 f
def Tx (σ : St) (n : Nat) (T : Nat → Nat) : Prop := σ.1 48 1 = nI n ∧ n ≤ 100 ∧ ∀ j, j < n → σ.1 49 j = nI (T j) ∧ T j < 128
section TXS
variable {σ : St} {i j c q : Nat} {f g : Nat → Int32}
theorem tx_48_1 : (txS σ i f c).1 48 1 = σ.1 48 1 := by unfold txS; rw [sI_ne (by decide), sI_self, up_n (by decide), up_n (by decide)]
theorem tx_48_2 : (txS σ i f c).1 48 2 = nI i := by unfold txS; rw [sI_ne (by decide), sI_self, up_n (by decide), up_i]
theorem tx_48_4 : (txS σ i f c).1 48 4 = nI c := by unfold txS; rw [sI_ne (by decide), sI_self, up_i]
theorem tx_49 : (txS σ i f c).1 49 = σ.1 49 := by unfold txS; rw [sI_ne (by decide), sI_ne (by decide)]
theorem tx_50 : (txS σ i f c).1 50 = f := by unfold txS; rw [sI_self]
theorem up_up2 {h : Nat → Int32} {a b : Int32} : upd (upd (upd h 2 a) 4 b) 2 = fun x => upd (upd h 2 x) 4 b := by
  funext x k
  simp only [upd]
  by_cases h1 : k = 2
  · subst h1; simp
  · by_cases h2 : k = 4
    · subst h2; simp
    · simp [h1, h2]
theorem up_up4 {h : Nat → Int32} {b x : Int32} : upd (upd h 4 b) 4 x = upd h 4 x := by
  funext k
  simp only [upd]
  split <;> rfl
theorem sI_com {σ : St} {a b : Nat} {f g : Nat → Int32} (h : a ≠ b) : sI (sI σ a f) b g = sI (sI σ b g) a f := by
  unfold sI
  simp only [Prod.mk.injEq, and_true]
  funext q
  by_cases h1 : q = a
  · subst h1; simp [h]
  · simp [h1]
theorem tx_put2 {x : Nat} : sI (txS σ i f c) 48 (upd ((txS σ i f c).1 48) 2 (nI x)) = txS σ x f c := by
  have e : (txS σ i f c).1 48 = upd (upd (σ.1 48) 2 (nI i)) 4 (nI c) := by unfold txS; rw [sI_ne (by decide), sI_self]
  rw [e, up_up2]
  unfold txS
  rw [sI_com (by decide), sI_sI]
theorem tx_put4 {x : Nat} : sI (txS σ i f c) 48 (upd ((txS σ i f c).1 48) 4 (nI x)) = txS σ i f x := by
  have e : (txS σ i f c).1 48 = upd (upd (σ.1 48) 2 (nI i)) 4 (nI c) := by unfold txS; rw [sI_ne (by decide), sI_self]
  rw [e, up_up4]
  unfold txS
  rw [sI_com (by decide), sI_sI]
theorem tx_part : sI (txS σ i f c) 50 g = txS σ i g c := by unfold txS; rw [sI_sI]
end TXS
theorem sgA_lt {T : Nat → Nat} {n c i : Nat} (h : sgA T n c i = true) : i < n := by
  simp only [sgA, Bool.and_eq_true, decide_eq_true_eq] at h
  exact h.1

theorem sg_f {T : Nat → Nat} {n c i : Nat} (h : ¬ (i < n ∧ T i = c)) : sgA T n c i = false := by
  simp only [sgA, Bool.and_eq_false_iff, decide_eq_false_iff_not]
  omega
theorem sg_t {T : Nat → Nat} {n c i : Nat} (h : i < n ∧ T i = c) : sgA T n c i = true := by
  simp only [sgA, Bool.and_eq_true, decide_eq_true_eq]
  exact h

theorem dg_f {T : Nat → Nat} {n i : Nat} (h : ¬ (i < n ∧ 48 ≤ T i ∧ T i ≤ 57)) : dgA T n i = false := by
  simp only [dgA, Bool.and_eq_false_iff, decide_eq_false_iff_not]
  omega
theorem dg_t {T : Nat → Nat} {n i : Nat} (h : i < n ∧ 48 ≤ T i ∧ T i ≤ 57) : dgA T n i = true := by
  simp only [dgA, Bool.and_eq_true, decide_eq_true_eq]
  exact h

set_option maxHeartbeats 4000000 in
set_option maxRecDepth 100000 in
theorem c_X6_takeSign {E : Ev} {d : Nat} {σ : St} {n i c : Nat} {T : Nat → Nat} {f : Nat → Int32} (h : Tx σ n T) (hi : i ≤ n) {g : Nat} (hg : g < 128) : Con E (d) yX6_takeSign cX6_takeSign 2 ((Option.some FieldType.boolean)) [.ref (ev_a E 48), .int (nI g)] (txS σ i f c) (Det (some (.int (bI (sgA T n g i)))) (txS σ (if sgA T n g i = true then i + 1 else i) f c)) := by
  refine con_of (by decide) (Nat.le_of_ble_eq_true rfl) (fun X hX C => ?_)
  have C : Cx E X cX6_takeSign RX6 2 ((Option.some FieldType.boolean)) := C
  obtain ⟨hsz, hn, hT⟩ := id h
  show G E _ X _ _ _ 0 [(0, .ref (ev_a E 48)), (1, .int (nI g))] []
  refine g_aload_n C dX6_takeSign_0 rfl ?_
  refine gf_X6_place C (by rfl) dX6_takeSign_1 kf_RX6_17 ?_
  rw [tx_48_2]
  refine g_aload_n C dX6_takeSign_4 rfl ?_
  refine gf_X6_size C (by rfl) dX6_takeSign_5 kf_RX6_13 ?_
  rw [tx_48_1, hsz]
  refine g_icgeN C 24 dX6_takeSign_8 (by decide) (by omega) (by omega) (fun h8 => ?_) (fun h8 => ?_)
  · refine g_ic (n := 0) C dX6_takeSign_24 (by decide) ?_
    refine g_zret C (by first | exact bI_01 _ | exact Or.inl rfl | exact Or.inr rfl) dX6_takeSign_25 ?_
    have e := sg_f (T := T) (n := n) (c := g) (i := i) (by omega)
    exact ⟨congrArg (fun v => some (Value.int v)) (by simp [e]; rfl), by simp [e]⟩
  · refine g_aload_n C dX6_takeSign_11 rfl ?_
    refine gf_X6_signs C (by rfl) dX6_takeSign_12 kf_RX6_9 ?_
    refine g_aload_n C dX6_takeSign_15 rfl ?_
    refine gf_X6_place C (by rfl) dX6_takeSign_16 kf_RX6_17 ?_
    refine g_baldN C (by rfl) (by omega) (by first | decide | omega) dX6_takeSign_19 ?_
    rw [tx_49, (hT i (by omega)).1]
    have b1 := (hT i (by omega)).2
    refine g_iload_n C dX6_takeSign_20 rfl ?_
    refine g_iceqN C 26 dX6_takeSign_21 (by decide) (by omega) (by omega) (fun h21 => ?_) (fun h21 => ?_)
    · refine g_aload_n C dX6_takeSign_26 rfl ?_
      refine g_dup C dX6_takeSign_27 rfl ?_
      refine gf_X6_place C (by rfl) dX6_takeSign_28 kf_RX6_17 ?_
      rw [tx_48_2]
      refine g_ic (n := 1) C dX6_takeSign_31 (by decide) ?_
      first | refine g_iaddN C dX6_takeSign_32 ?_ | refine g_iadd C dX6_takeSign_32 ?_
      refine gp_X6_place C (by rfl) dX6_takeSign_33 kf_RX6_17 ?_
      refine g_ic (n := 1) C dX6_takeSign_36 (by decide) ?_
      refine g_zret C (by first | exact bI_01 _ | exact Or.inl rfl | exact Or.inr rfl) dX6_takeSign_37 ?_
      have e := sg_t (T := T) (n := n) (c := g) (i := i) (by omega)
      exact ⟨congrArg (fun v => some (Value.int v)) (by simp [e]; rfl), by rw [tx_put2]; simp [e]⟩
    · refine g_ic (n := 0) C dX6_takeSign_24 (by decide) ?_
      refine g_zret C (by first | exact bI_01 _ | exact Or.inl rfl | exact Or.inr rfl) dX6_takeSign_25 ?_
      have e := sg_f (T := T) (n := n) (c := g) (i := i) (by omega)
      exact ⟨congrArg (fun v => some (Value.int v)) (by simp [e]; rfl), by simp [e]⟩

set_option maxHeartbeats 4000000 in
set_option maxRecDepth 100000 in
theorem c_X6_takeDigit {E : Ev} {d : Nat} {σ : St} {n i c : Nat} {T : Nat → Nat} {f : Nat → Int32} (h : Tx σ n T) (hi : i ≤ n) {to : Nat} (hto : to < 60) : Con E (d) yX6_takeDigit cX6_takeDigit 2 ((Option.some FieldType.boolean)) [.ref (ev_a E 48), .int (nI to)] (txS σ i f c) (Det (some (.int (bI (tkD T n i f to).1))) (txS σ (tkD T n i f to).2.1 (tkD T n i f to).2.2 c)) := by
  refine con_of (by decide) (Nat.le_of_ble_eq_true rfl) (fun X hX C => ?_)
  have C : Cx E X cX6_takeDigit RX6 2 ((Option.some FieldType.boolean)) := C
  obtain ⟨hsz, hn, hT⟩ := id h
  show G E _ X _ _ _ 0 [(0, .ref (ev_a E 48)), (1, .int (nI to))] []
  refine g_aload_n C dX6_takeDigit_0 rfl ?_
  refine gf_X6_place C (by rfl) dX6_takeDigit_1 kf_RX6_17 ?_
  rw [tx_48_2]
  refine g_aload_n C dX6_takeDigit_4 rfl ?_
  refine gf_X6_size C (by rfl) dX6_takeDigit_5 kf_RX6_13 ?_
  rw [tx_48_1, hsz]
  refine g_icgeN C 39 dX6_takeDigit_8 (by decide) (by omega) (by omega) (fun h8 => ?_) (fun h8 => ?_)
  · refine g_ic (n := 0) C dX6_takeDigit_39 (by decide) ?_
    refine g_zret C (by first | exact bI_01 _ | exact Or.inl rfl | exact Or.inr rfl) dX6_takeDigit_40 ?_
    have e := dg_f (T := T) (n := n) (i := i) (by omega)
    exact ⟨congrArg (fun v => some (Value.int v)) (by simp [tkD, e]; rfl), by simp [tkD, e]⟩
  · refine g_aload_n C dX6_takeDigit_11 rfl ?_
    refine gf_X6_signs C (by rfl) dX6_takeDigit_12 kf_RX6_9 ?_
    refine g_aload_n C dX6_takeDigit_15 rfl ?_
    refine gf_X6_place C (by rfl) dX6_takeDigit_16 kf_RX6_17 ?_
    refine g_baldN C (by rfl) (by omega) (by first | decide | omega) dX6_takeDigit_19 ?_
    rw [tx_49, (hT i (by omega)).1]
    have b1 := (hT i (by omega)).2
    refine g_bp C (nI 48) dX6_takeDigit_20 (by decide) ?_
    refine g_icltN C 39 dX6_takeDigit_22 (by decide) (by omega) (by omega) (fun h22 => ?_) (fun h22 => ?_)
    · refine g_ic (n := 0) C dX6_takeDigit_39 (by decide) ?_
      refine g_zret C (by first | exact bI_01 _ | exact Or.inl rfl | exact Or.inr rfl) dX6_takeDigit_40 ?_
      have e := dg_f (T := T) (n := n) (i := i) (by omega)
      exact ⟨congrArg (fun v => some (Value.int v)) (by simp [tkD, e]; rfl), by simp [tkD, e]⟩
    · refine g_aload_n C dX6_takeDigit_25 rfl ?_
      refine gf_X6_signs C (by rfl) dX6_takeDigit_26 kf_RX6_9 ?_
      refine g_aload_n C dX6_takeDigit_29 rfl ?_
      refine gf_X6_place C (by rfl) dX6_takeDigit_30 kf_RX6_17 ?_
      refine g_baldN C (by rfl) (by omega) (by first | decide | omega) dX6_takeDigit_33 ?_
      rw [tx_49, (hT i (by omega)).1]
      have b1 := (hT i (by omega)).2
      refine g_bp C (nI 57) dX6_takeDigit_34 (by decide) ?_
      refine g_icleN C 41 dX6_takeDigit_36 (by decide) (by omega) (by omega) (fun h36 => ?_) (fun h36 => ?_)
      · refine g_aload_n C dX6_takeDigit_41 rfl ?_
        refine gf_X6_parts C (by rfl) dX6_takeDigit_42 kf_RX6_20 ?_
        refine g_iload_n C dX6_takeDigit_45 rfl ?_
        refine g_aload_n C dX6_takeDigit_46 rfl ?_
        refine gf_X6_signs C (by rfl) dX6_takeDigit_47 kf_RX6_9 ?_
        refine g_aload_n C dX6_takeDigit_50 rfl ?_
        refine gf_X6_place C (by rfl) dX6_takeDigit_51 kf_RX6_17 ?_
        refine g_baldN C (by rfl) (by omega) (by first | decide | omega) dX6_takeDigit_54 ?_
        rw [tx_49, (hT i (by omega)).1]
        refine g_bp C (nI 48) dX6_takeDigit_55 (by decide) ?_
        first | refine g_isubN C dX6_takeDigit_57 (by omega) ?_ | refine g_isub C dX6_takeDigit_57 ?_
        refine g_iastN C (by rfl) (by omega) (by first | decide | omega) dX6_takeDigit_58 ?_
        rw [tx_50, tx_part]
        refine g_aload_n C dX6_takeDigit_59 rfl ?_
        refine g_dup C dX6_takeDigit_60 rfl ?_
        refine gf_X6_place C (by rfl) dX6_takeDigit_61 kf_RX6_17 ?_
        rw [tx_48_2]
        refine g_ic (n := 1) C dX6_takeDigit_64 (by decide) ?_
        first | refine g_iaddN C dX6_takeDigit_65 ?_ | refine g_iadd C dX6_takeDigit_65 ?_
        refine gp_X6_place C (by rfl) dX6_takeDigit_66 kf_RX6_17 ?_
        refine g_ic (n := 1) C dX6_takeDigit_69 (by decide) ?_
        refine g_zret C (by first | exact bI_01 _ | exact Or.inl rfl | exact Or.inr rfl) dX6_takeDigit_70 ?_
        have e := dg_t (T := T) (n := n) (i := i) (by omega)
        exact ⟨congrArg (fun v => some (Value.int v)) (by simp [tkD, e]; rfl), by rw [tx_put2]; simp [tkD, e]⟩
      · refine g_ic (n := 0) C dX6_takeDigit_39 (by decide) ?_
        refine g_zret C (by first | exact bI_01 _ | exact Or.inl rfl | exact Or.inr rfl) dX6_takeDigit_40 ?_
        have e := dg_f (T := T) (n := n) (i := i) (by omega)
        exact ⟨congrArg (fun v => some (Value.int v)) (by simp [tkD, e]; rfl), by simp [tkD, e]⟩

set_option maxHeartbeats 4000000 in
set_option maxRecDepth 100000 in
theorem c_X6_takeAxis {E : Ev} {d : Nat} {σ : St} {n i c : Nat} {T : Nat → Nat} {f : Nat → Int32} (h : Tx σ n T) (hi : i ≤ n) {to : Nat} (hto : to < 60) : Con E (d + 1) yX6_takeAxis cX6_takeAxis 3 ((Option.some FieldType.boolean)) [.ref (ev_a E 48), .int (nI to)] (txS σ i f c) (Det (some (.int (bI (tkA T n i f to).1))) (txS σ (tkA T n i f to).2.1 (tkA T n i f to).2.2 c)) := by
  refine con_of (by decide) (Nat.le_of_ble_eq_true rfl) (fun X hX C => ?_)
  have C : Cx E X cX6_takeAxis RX6 3 ((Option.some FieldType.boolean)) := C
  obtain ⟨hsz, hn, hT⟩ := id h
  show G E _ X _ _ _ 0 [(0, .ref (ev_a E 48)), (1, .int (nI to))] []
  refine g_aload_n C dX6_takeAxis_0 rfl ?_
  refine g_bp C (nI 45) dX6_takeAxis_1 (by decide) ?_
  refine g_callVp C (ob_X6 (by rfl)) (c_X6_takeSign (d := d) h (by first | omega | assumption) (by decide)) dX6_takeAxis_3 km_RX6_27 kn_RX6 kc_yX6_takeSign ki_yX6_takeSign kx_yX6_takeSign (by omega) (by decide) ⟨by decide, by decide, rfl⟩ rfl (Nat.le_of_ble_eq_true rfl) ?_
  rcases hs : sgA T n 45 i with _ | _
  · rw [if_neg (by decide)]
    have b0 : i ≤ n := hi
    refine g_istore_n C dX6_takeAxis_6 (by decide) ?_
    refine g_aload_n C dX6_takeAxis_7 rfl ?_
    refine g_iload_n C dX6_takeAxis_8 rfl ?_
    refine g_callVp C (ob_X6 (by rfl)) (c_X6_takeDigit (d := d) h (by first | assumption | omega) (by omega)) dX6_takeAxis_9 km_RX6_38 kn_RX6 kc_yX6_takeDigit ki_yX6_takeDigit kx_yX6_takeDigit (by omega) (by decide) ⟨by decide, by decide, rfl⟩ rfl (Nat.le_of_ble_eq_true rfl) ?_
    rcases hd : dgA T n (i) with _ | _
    · refine g_ifneB C 17 dX6_takeAxis_12 (by decide) (fun h12 => ?_) (fun h12 => ?_)
      · exact absurd h12 (by rw [show (tkD T n (i) f to).1 = false from by simp [tkD, hd]]; decide)
      · refine g_ic (n := 0) C dX6_takeAxis_15 (by decide) ?_
        refine g_zret C (by first | exact bI_01 _ | exact Or.inl rfl | exact Or.inr rfl) dX6_takeAxis_16 ?_
        exact ⟨congrArg (fun v => some (Value.int v)) (by simp [tkA, hs, hd]; rfl), by simp [tkA, tkD, hs, hd]⟩
    · refine g_ifneB C 17 dX6_takeAxis_12 (by decide) (fun h12 => ?_) (fun h12 => ?_)
      · have b1 : i + 1 ≤ n := by simp only [dgA, Bool.and_eq_true, decide_eq_true_eq] at hd; omega
        simp only [show tkD T n (i) f to = (true, i + 1, upd f to (nI (T (i) - 48))) from by simp [tkD, hd]]
        refine g_iload_n C dX6_takeAxis_17 rfl ?_
        refine g_ifeqB C 34 dX6_takeAxis_18 (by decide) (fun h18 => ?_) (fun h18 => ?_)
        · refine g_aload_n C dX6_takeAxis_34 rfl ?_
          refine g_bp C (nI 44) dX6_takeAxis_35 (by decide) ?_
          refine g_callVp C (ob_X6 (by rfl)) (c_X6_takeSign (d := d) h (by first | omega | assumption) (by decide)) dX6_takeAxis_37 km_RX6_27 kn_RX6 kc_yX6_takeSign ki_yX6_takeSign kx_yX6_takeSign (by omega) (by decide) ⟨by decide, by decide, rfl⟩ rfl (Nat.le_of_ble_eq_true rfl) ?_
          refine g_zret C (by first | exact bI_01 _ | exact Or.inl rfl | exact Or.inr rfl) dX6_takeAxis_40 ?_
          exact ⟨congrArg (fun v => some (Value.int v)) (by simp [tkA, hs, hd]; split <;> simp_all), by simp [tkA, hs, hd]; split <;> simp_all⟩
        · exact absurd h18 (by decide)
      · exact absurd h12 (by rw [show (tkD T n (i) f to).1 = true from by simp [tkD, hd]]; decide)
  · rw [if_pos rfl]
    have b0 : i + 1 ≤ n := sgA_lt hs
    refine g_istore_n C dX6_takeAxis_6 (by decide) ?_
    refine g_aload_n C dX6_takeAxis_7 rfl ?_
    refine g_iload_n C dX6_takeAxis_8 rfl ?_
    refine g_callVp C (ob_X6 (by rfl)) (c_X6_takeDigit (d := d) h (by first | assumption | omega) (by omega)) dX6_takeAxis_9 km_RX6_38 kn_RX6 kc_yX6_takeDigit ki_yX6_takeDigit kx_yX6_takeDigit (by omega) (by decide) ⟨by decide, by decide, rfl⟩ rfl (Nat.le_of_ble_eq_true rfl) ?_
    rcases hd : dgA T n (i + 1) with _ | _
    · refine g_ifneB C 17 dX6_takeAxis_12 (by decide) (fun h12 => ?_) (fun h12 => ?_)
      · exact absurd h12 (by rw [show (tkD T n (i + 1) f to).1 = false from by simp [tkD, hd]]; decide)
      · refine g_ic (n := 0) C dX6_takeAxis_15 (by decide) ?_
        refine g_zret C (by first | exact bI_01 _ | exact Or.inl rfl | exact Or.inr rfl) dX6_takeAxis_16 ?_
        exact ⟨congrArg (fun v => some (Value.int v)) (by simp [tkA, hs, hd]; rfl), by simp [tkA, tkD, hs, hd]⟩
    · refine g_ifneB C 17 dX6_takeAxis_12 (by decide) (fun h12 => ?_) (fun h12 => ?_)
      · have b1 : i + 1 + 1 ≤ n := by simp only [dgA, Bool.and_eq_true, decide_eq_true_eq] at hd; omega
        simp only [show tkD T n (i + 1) f to = (true, i + 1 + 1, upd f to (nI (T (i + 1) - 48))) from by simp [tkD, hd]]
        refine g_iload_n C dX6_takeAxis_17 rfl ?_
        refine g_ifeqB C 34 dX6_takeAxis_18 (by decide) (fun h18 => ?_) (fun h18 => ?_)
        · exact absurd h18 (by decide)
        · refine g_aload_n C dX6_takeAxis_21 rfl ?_
          refine gf_X6_parts C (by rfl) dX6_takeAxis_22 kf_RX6_20 ?_
          refine g_iload_n C dX6_takeAxis_25 rfl ?_
          refine g_aload_n C dX6_takeAxis_26 rfl ?_
          refine gf_X6_parts C (by rfl) dX6_takeAxis_27 kf_RX6_20 ?_
          refine g_iload_n C dX6_takeAxis_30 rfl ?_
          refine g_ialdN C (by rfl) (by omega) (by first | decide | omega) dX6_takeAxis_31 ?_
          rw [tx_50, up_i]
          refine g_ineg C dX6_takeAxis_32 ?_
          refine g_iastN C (by rfl) (by omega) (by first | decide | omega) dX6_takeAxis_33 ?_
          rw [tx_50, tx_part]
          refine g_aload_n C dX6_takeAxis_34 rfl ?_
          refine g_bp C (nI 44) dX6_takeAxis_35 (by decide) ?_
          refine g_callVp C (ob_X6 (by rfl)) (c_X6_takeSign (d := d) h (by first | omega | assumption) (by decide)) dX6_takeAxis_37 km_RX6_27 kn_RX6 kc_yX6_takeSign ki_yX6_takeSign kx_yX6_takeSign (by omega) (by decide) ⟨by decide, by decide, rfl⟩ rfl (Nat.le_of_ble_eq_true rfl) ?_
          refine g_zret C (by first | exact bI_01 _ | exact Or.inl rfl | exact Or.inr rfl) dX6_takeAxis_40 ?_
          exact ⟨congrArg (fun v => some (Value.int v)) (by simp [tkA, hs, hd]; split <;> simp_all), by simp [tkA, hs, hd]; split <;> simp_all⟩
      · exact absurd h12 (by rw [show (tkD T n (i + 1) f to).1 = true from by simp [tkD, hd]]; decide)

set_option maxHeartbeats 4000000 in
set_option maxRecDepth 100000 in
theorem c_X6_takeClause {E : Ev} {d : Nat} {σ : St} {n i c : Nat} {T : Nat → Nat} {f : Nat → Int32} (h : Tx σ n T) (hi : i ≤ n) {to : Nat} (hto : to + 4 < 60) : Con E (d + 2) yX6_takeClause cX6_takeClause 2 ((Option.some FieldType.boolean)) [.ref (ev_a E 48), .int (nI to)] (txS σ i f c) (Det (some (.int (bI (tkC T n i f to).1))) (txS σ (tkC T n i f to).2.1 (tkC T n i f to).2.2 c)) := by
  refine con_of (by decide) (Nat.le_of_ble_eq_true rfl) (fun X hX C => ?_)
  have C : Cx E X cX6_takeClause RX6 2 ((Option.some FieldType.boolean)) := C
  obtain ⟨hsz, hn, hT⟩ := id h
  show G E _ X _ _ _ 0 [(0, .ref (ev_a E 48)), (1, .int (nI to))] []
  refine g_aload_n C dX6_takeClause_0 rfl ?_
  refine g_bp C (nI 112) dX6_takeClause_1 (by decide) ?_
  refine g_callVp C (ob_X6 (by rfl)) (c_X6_takeSign (d := d) h hi (by decide)) dX6_takeClause_3 km_RX6_27 kn_RX6 kc_yX6_takeSign ki_yX6_takeSign kx_yX6_takeSign (by omega) (by decide) ⟨by decide, by decide, rfl⟩ rfl (Nat.le_of_ble_eq_true rfl) ?_
  refine g_ifeqB C 63 dX6_takeClause_6 (by decide) (fun h6 => ?_) (fun h6 => ?_)
  · rw [if_neg (by rw [h6]; decide)]
    refine g_aload_n C dX6_takeClause_63 rfl ?_
    refine g_bp C (nI 109) dX6_takeClause_64 (by decide) ?_
    refine g_callVp C (ob_X6 (by rfl)) (c_X6_takeSign (d := d) h hi (by decide)) dX6_takeClause_66 km_RX6_27 kn_RX6 kc_yX6_takeSign ki_yX6_takeSign kx_yX6_takeSign (by omega) (by decide) ⟨by decide, by decide, rfl⟩ rfl (Nat.le_of_ble_eq_true rfl) ?_
    refine g_ifeqB C 106 dX6_takeClause_69 (by decide) (fun h69 => ?_) (fun h69 => ?_)
    · rw [if_neg (by rw [h69]; decide)]
      refine g_aload_n C dX6_takeClause_106 rfl ?_
      refine gf_X6_parts C (by rfl) dX6_takeClause_107 kf_RX6_20 ?_
      refine g_iload_n C dX6_takeClause_110 rfl ?_
      refine g_bp C (nI 100) dX6_takeClause_111 (by decide) ?_
      refine g_iastN C (by rfl) (by omega) (by first | decide | omega) dX6_takeClause_113 ?_
      rw [tx_50, tx_part]
      refine g_aload_n C dX6_takeClause_114 rfl ?_
      refine g_bp C (nI 100) dX6_takeClause_115 (by decide) ?_
      refine g_callVp C (ob_X6 (by rfl)) (c_X6_takeSign (d := d) h hi (by decide)) dX6_takeClause_117 km_RX6_27 kn_RX6 kc_yX6_takeSign ki_yX6_takeSign kx_yX6_takeSign (by omega) (by decide) ⟨by decide, by decide, rfl⟩ rfl (Nat.le_of_ble_eq_true rfl) ?_
      refine g_ifeqB C 137 dX6_takeClause_120 (by decide) (fun h120 => ?_) (fun h120 => ?_)
      · refine g_ic (n := 0) C dX6_takeClause_137 (by decide) ?_
        refine g_zret C (by first | exact bI_01 _ | exact Or.inl rfl | exact Or.inr rfl) dX6_takeClause_138 ?_
        exact ⟨congrArg (fun v => some (Value.int v)) (by simp [tkC, h6, h69, h120]; rfl), by simp [tkC, h6, h69, h120]⟩
      · rw [if_pos h120]
        have b0 : i + 1 ≤ n := sgA_lt h120
        refine g_aload_n C dX6_takeClause_123 rfl ?_
        refine g_iload_n C dX6_takeClause_124 rfl ?_
        refine g_ic (n := 1) C dX6_takeClause_125 (by decide) ?_
        first | refine g_iaddN C dX6_takeClause_126 ?_ | refine g_iadd C dX6_takeClause_126 ?_
        refine g_callVp C (ob_X6 (by rfl)) (c_X6_takeDigit (d := d) h b0 (by omega)) dX6_takeClause_127 km_RX6_38 kn_RX6 kc_yX6_takeDigit ki_yX6_takeDigit kx_yX6_takeDigit (by omega) (by decide) ⟨by decide, by decide, rfl⟩ rfl (Nat.le_of_ble_eq_true rfl) ?_
        refine g_ifeqB C 137 dX6_takeClause_130 (by decide) (fun h130 => ?_) (fun h130 => ?_)
        · refine g_ic (n := 0) C dX6_takeClause_137 (by decide) ?_
          refine g_zret C (by first | exact bI_01 _ | exact Or.inl rfl | exact Or.inr rfl) dX6_takeClause_138 ?_
          exact ⟨congrArg (fun v => some (Value.int v)) (by simp [tkC, h6, h69, h120, h130]; rfl), by simp [tkC, h6, h69, h120, h130]⟩
        · refine g_ic (n := 1) C dX6_takeClause_133 (by decide) ?_
          refine g_goto C 138 dX6_takeClause_134 (by decide) ?_
          refine g_zret C (by first | exact bI_01 _ | exact Or.inl rfl | exact Or.inr rfl) dX6_takeClause_138 ?_
          exact ⟨congrArg (fun v => some (Value.int v)) (by simp [tkC, h6, h69, h120, h130]; rfl), by simp [tkC, h6, h69, h120, h130]⟩
    · rw [if_pos h69]
      have b0 : i + 1 ≤ n := sgA_lt h69
      refine g_aload_n C dX6_takeClause_72 rfl ?_
      refine gf_X6_parts C (by rfl) dX6_takeClause_73 kf_RX6_20 ?_
      refine g_iload_n C dX6_takeClause_76 rfl ?_
      refine g_bp C (nI 109) dX6_takeClause_77 (by decide) ?_
      refine g_iastN C (by rfl) (by omega) (by first | decide | omega) dX6_takeClause_79 ?_
      rw [tx_50, tx_part]
      refine g_aload_n C dX6_takeClause_80 rfl ?_
      refine g_iload_n C dX6_takeClause_81 rfl ?_
      refine g_ic (n := 1) C dX6_takeClause_82 (by decide) ?_
      first | refine g_iaddN C dX6_takeClause_83 ?_ | refine g_iadd C dX6_takeClause_83 ?_
      refine g_callVp C (ob_X6 (by rfl)) (c_X6_takeDigit (d := d) h b0 (by omega)) dX6_takeClause_84 km_RX6_38 kn_RX6 kc_yX6_takeDigit ki_yX6_takeDigit kx_yX6_takeDigit (by omega) (by decide) ⟨by decide, by decide, rfl⟩ rfl (Nat.le_of_ble_eq_true rfl) ?_
      refine g_ifeqB C 104 dX6_takeClause_87 (by decide) (fun h87 => ?_) (fun h87 => ?_)
      · refine g_ic (n := 0) C dX6_takeClause_104 (by decide) ?_
        refine g_zret C (by first | exact bI_01 _ | exact Or.inl rfl | exact Or.inr rfl) dX6_takeClause_105 ?_
        exact ⟨congrArg (fun v => some (Value.int v)) (by simp [tkC, h6, h69, h87]; rfl), by simp [tkC, h6, h69, h87]⟩
      · refine g_aload_n C dX6_takeClause_90 rfl ?_
        refine g_iload_n C dX6_takeClause_91 rfl ?_
        refine g_ic (n := 2) C dX6_takeClause_92 (by decide) ?_
        first | refine g_iaddN C dX6_takeClause_93 ?_ | refine g_iadd C dX6_takeClause_93 ?_
        refine g_callVp C (ob_X6 (by rfl)) (c_X6_takeDigit (d := d) h (tkD_le b0).2 (by omega)) dX6_takeClause_94 km_RX6_38 kn_RX6 kc_yX6_takeDigit ki_yX6_takeDigit kx_yX6_takeDigit (by omega) (by decide) ⟨by decide, by decide, rfl⟩ rfl (Nat.le_of_ble_eq_true rfl) ?_
        refine g_ifeqB C 104 dX6_takeClause_97 (by decide) (fun h97 => ?_) (fun h97 => ?_)
        · refine g_ic (n := 0) C dX6_takeClause_104 (by decide) ?_
          refine g_zret C (by first | exact bI_01 _ | exact Or.inl rfl | exact Or.inr rfl) dX6_takeClause_105 ?_
          exact ⟨congrArg (fun v => some (Value.int v)) (by simp [tkC, h6, h69, h87, h97]; rfl), by simp [tkC, h6, h69, h87, h97]⟩
        · refine g_ic (n := 1) C dX6_takeClause_100 (by decide) ?_
          refine g_goto C 105 dX6_takeClause_101 (by decide) ?_
          refine g_zret C (by first | exact bI_01 _ | exact Or.inl rfl | exact Or.inr rfl) dX6_takeClause_105 ?_
          exact ⟨congrArg (fun v => some (Value.int v)) (by simp [tkC, h6, h69, h87, h97]; rfl), by simp [tkC, h6, h69, h87, h97]⟩
  · rw [if_pos h6]
    have b0 : i + 1 ≤ n := sgA_lt h6
    refine g_aload_n C dX6_takeClause_9 rfl ?_
    refine gf_X6_parts C (by rfl) dX6_takeClause_10 kf_RX6_20 ?_
    refine g_iload_n C dX6_takeClause_13 rfl ?_
    refine g_bp C (nI 112) dX6_takeClause_14 (by decide) ?_
    refine g_iastN C (by rfl) (by omega) (by first | decide | omega) dX6_takeClause_16 ?_
    rw [tx_50, tx_part]
    refine g_aload_n C dX6_takeClause_17 rfl ?_
    refine g_iload_n C dX6_takeClause_18 rfl ?_
    refine g_ic (n := 1) C dX6_takeClause_19 (by decide) ?_
    first | refine g_iaddN C dX6_takeClause_20 ?_ | refine g_iadd C dX6_takeClause_20 ?_
    refine g_callVp C (ob_X6 (by rfl)) (c_X6_takeAxis (d := d) h b0 (by omega)) dX6_takeClause_21 km_RX6_35 kn_RX6 kc_yX6_takeAxis ki_yX6_takeAxis kx_yX6_takeAxis (by omega) (by decide) ⟨by decide, by decide, rfl⟩ rfl (Nat.le_of_ble_eq_true rfl) ?_
    refine g_ifeqB C 61 dX6_takeClause_24 (by decide) (fun h24 => ?_) (fun h24 => ?_)
    · refine g_ic (n := 0) C dX6_takeClause_61 (by decide) ?_
      refine g_zret C (by first | exact bI_01 _ | exact Or.inl rfl | exact Or.inr rfl) dX6_takeClause_62 ?_
      exact ⟨congrArg (fun v => some (Value.int v)) (by simp [tkC, h6, h24]; rfl), by simp [tkC, h6, h24]⟩
    · refine g_aload_n C dX6_takeClause_27 rfl ?_
      refine g_iload_n C dX6_takeClause_28 rfl ?_
      refine g_ic (n := 2) C dX6_takeClause_29 (by decide) ?_
      first | refine g_iaddN C dX6_takeClause_30 ?_ | refine g_iadd C dX6_takeClause_30 ?_
      refine g_callVp C (ob_X6 (by rfl)) (c_X6_takeAxis (d := d) h (tkA_le b0).2 (by omega)) dX6_takeClause_31 km_RX6_35 kn_RX6 kc_yX6_takeAxis ki_yX6_takeAxis kx_yX6_takeAxis (by omega) (by decide) ⟨by decide, by decide, rfl⟩ rfl (Nat.le_of_ble_eq_true rfl) ?_
      refine g_ifeqB C 61 dX6_takeClause_34 (by decide) (fun h34 => ?_) (fun h34 => ?_)
      · refine g_ic (n := 0) C dX6_takeClause_61 (by decide) ?_
        refine g_zret C (by first | exact bI_01 _ | exact Or.inl rfl | exact Or.inr rfl) dX6_takeClause_62 ?_
        exact ⟨congrArg (fun v => some (Value.int v)) (by simp [tkC, h6, h24, h34]; rfl), by simp [tkC, h6, h24, h34]⟩
      · refine g_aload_n C dX6_takeClause_37 rfl ?_
        refine g_iload_n C dX6_takeClause_38 rfl ?_
        refine g_ic (n := 3) C dX6_takeClause_39 (by decide) ?_
        first | refine g_iaddN C dX6_takeClause_40 ?_ | refine g_iadd C dX6_takeClause_40 ?_
        refine g_callVp C (ob_X6 (by rfl)) (c_X6_takeAxis (d := d) h (tkA_le (tkA_le b0).2).2 (by omega)) dX6_takeClause_41 km_RX6_35 kn_RX6 kc_yX6_takeAxis ki_yX6_takeAxis kx_yX6_takeAxis (by omega) (by decide) ⟨by decide, by decide, rfl⟩ rfl (Nat.le_of_ble_eq_true rfl) ?_
        refine g_ifeqB C 61 dX6_takeClause_44 (by decide) (fun h44 => ?_) (fun h44 => ?_)
        · refine g_ic (n := 0) C dX6_takeClause_61 (by decide) ?_
          refine g_zret C (by first | exact bI_01 _ | exact Or.inl rfl | exact Or.inr rfl) dX6_takeClause_62 ?_
          exact ⟨congrArg (fun v => some (Value.int v)) (by simp [tkC, h6, h24, h34, h44]; rfl), by simp [tkC, h6, h24, h34, h44]⟩
        · refine g_aload_n C dX6_takeClause_47 rfl ?_
          refine g_iload_n C dX6_takeClause_48 rfl ?_
          refine g_ic (n := 4) C dX6_takeClause_49 (by decide) ?_
          first | refine g_iaddN C dX6_takeClause_50 ?_ | refine g_iadd C dX6_takeClause_50 ?_
          refine g_callVp C (ob_X6 (by rfl)) (c_X6_takeDigit (d := d) h (tkA_le (tkA_le (tkA_le b0).2).2).2 (by omega)) dX6_takeClause_51 km_RX6_38 kn_RX6 kc_yX6_takeDigit ki_yX6_takeDigit kx_yX6_takeDigit (by omega) (by decide) ⟨by decide, by decide, rfl⟩ rfl (Nat.le_of_ble_eq_true rfl) ?_
          refine g_ifeqB C 61 dX6_takeClause_54 (by decide) (fun h54 => ?_) (fun h54 => ?_)
          · refine g_ic (n := 0) C dX6_takeClause_61 (by decide) ?_
            refine g_zret C (by first | exact bI_01 _ | exact Or.inl rfl | exact Or.inr rfl) dX6_takeClause_62 ?_
            exact ⟨congrArg (fun v => some (Value.int v)) (by simp [tkC, h6, h24, h34, h44, h54]; rfl), by simp [tkC, h6, h24, h34, h44, h54]⟩
          · refine g_ic (n := 1) C dX6_takeClause_57 (by decide) ?_
            refine g_goto C 62 dX6_takeClause_58 (by decide) ?_
            refine g_zret C (by first | exact bI_01 _ | exact Or.inl rfl | exact Or.inr rfl) dX6_takeClause_62 ?_
            exact ⟨congrArg (fun v => some (Value.int v)) (by simp [tkC, h6, h24, h34, h44, h54]; rfl), by simp [tkC, h6, h24, h34, h44, h54]⟩

theorem nI_le0 {k : Nat} (hk : k < 2 ^ 31) : nI k ≤ 0 ↔ k = 0 := by
  rw [Int32.le_iff_toInt_le, nI_toInt hk, Int32.toInt_zero]
  omega
theorem sI_id {σ : St} {c : Nat} : sI σ c (σ.1 c) = σ := by
  unfold sI
  have e : (fun q => if q = c then σ.1 c else σ.1 q) = σ.1 := by
    funext q
    by_cases h : q = c
    · subst h; simp
    · simp [h]
  rw [e]
theorem tx_start {σ : St} : sI (sI σ 48 (upd (σ.1 48) 2 (nI 0))) 48 (upd ((sI σ 48 (upd (σ.1 48) 2 (nI 0))).1 48) 4 (nI 0)) = txS σ 0 (σ.1 50) 0 := by
  unfold txS
  rw [sI_self, sI_sI]
  have e : ∀ g : Nat → Int32, (sI σ 48 g).1 50 = σ.1 50 := fun g => sI_ne (by decide)
  rw [← e (upd (upd (σ.1 48) 2 (nI 0)) 4 (nI 0)), sI_id]
def pzT (σ : St) (T : Nat → Nat) (n r k i : Nat) (f : Nat → Int32) (c : Nat) : Option Value → St → Prop := Det (some (.int (pzL T n r k i f c).1)) (txS σ (pzL T n r k i f c).2.1 (pzL T n r k i f c).2.2.1 (pzL T n r k i f c).2.2.2)

set_option maxHeartbeats 4000000 in
set_option maxRecDepth 100000 in
theorem l_X6_parse {E : Ev} {d : Nat} {X : Mx} (C : Cx E X cX6_parse RX6 2 ((Option.some FieldType.int))) {σ : St} {n : Nat} {T : Nat → Nat} (h : Tx σ n T) : ∀ (k : Nat) (j i : Nat) (f : Nat → Int32) (c : Nat), 12 = j + k → i ≤ n → G E (d + 3) X 2 (pzT σ T n k j i f c) (txS σ i f c) 12 ([(0, .ref (ev_a E 48)), (1, .int (nI j))]) [] := by
  intro k
  induction k with
  | zero =>
    intro j i f c hjk hi
    obtain ⟨hsz, hn, hT⟩ := id h
    refine g_iload_n C dX6_parse_12 rfl ?_
    refine g_bp C (nI 12) dX6_parse_13 (by decide) ?_
    first | refine g_icgeN C 80 dX6_parse_15 (by decide) (by omega) (by omega) (fun h15 => ?_) (fun h15 => ?_) | refine g_icge C 80 dX6_parse_15 (by decide) (fun h15 => ?_) (fun h15 => ?_)
    · refine g_aload_n C dX6_parse_80 rfl ?_
      refine gf_X6_place C (by rfl) dX6_parse_81 kf_RX6_17 ?_
      rw [tx_48_2]
      refine g_iret C dX6_parse_84 ?_
      exact ⟨rfl, rfl⟩
    · omega
  | succ k ih =>
    intro j i f c hjk hi
    obtain ⟨hsz, hn, hT⟩ := id h
    refine g_iload_n C dX6_parse_12 rfl ?_
    refine g_bp C (nI 12) dX6_parse_13 (by decide) ?_
    first | refine g_icgeN C 80 dX6_parse_15 (by decide) (by omega) (by omega) (fun h15 => ?_) (fun h15 => ?_) | refine g_icge C 80 dX6_parse_15 (by decide) (fun h15 => ?_) (fun h15 => ?_)
    · omega
    · rcases Nat.eq_zero_or_pos j with hj | hj
      · have hj0 : ¬ 0 < j := by omega
        refine g_iload_n C dX6_parse_18 rfl ?_
        refine g_ifle C 36 dX6_parse_19 (by decide) (fun h19 => ?_) (fun h19 => ?_)
        · have b0 : i ≤ n := hi
          refine g_aload_n C dX6_parse_36 rfl ?_
          refine g_ic (n := 5) C dX6_parse_37 (by decide) ?_
          refine g_iload_n C dX6_parse_38 rfl ?_
          first | refine g_imulN C dX6_parse_39 ?_ | refine g_imul C dX6_parse_39 ?_
          refine g_callVp C (ob_X6 (by rfl)) (c_X6_takeClause (d := d) h (by first | assumption | omega) (by omega)) dX6_parse_40 km_RX6_31 kn_RX6 kc_yX6_takeClause ki_yX6_takeClause kx_yX6_takeClause (by omega) (by decide) ⟨by decide, by decide, rfl⟩ rfl (Nat.le_of_ble_eq_true rfl) ?_
          refine g_ifneB C 51 dX6_parse_43 (by decide) (fun h43 => ?_) (fun h43 => ?_)
          · have b1 : (tkC T n i f (5 * j)).2.1 ≤ n := (tkC_le b0).2
            refine g_aload_n C dX6_parse_51 rfl ?_
            refine g_dup C dX6_parse_52 rfl ?_
            refine gf_X6_clauses C (by rfl) dX6_parse_53 kf_RX6_24 ?_
            rw [tx_48_4]
            refine g_ic (n := 1) C dX6_parse_56 (by decide) ?_
            first | refine g_iaddN C dX6_parse_57 ?_ | refine g_iadd C dX6_parse_57 ?_
            refine gp_X6_clauses C (by rfl) dX6_parse_58 kf_RX6_24 ?_
            rw [tx_put4]
            refine g_aload_n C dX6_parse_61 rfl ?_
            refine gf_X6_place C (by rfl) dX6_parse_62 kf_RX6_17 ?_
            rw [tx_48_2]
            refine g_aload_n C dX6_parse_65 rfl ?_
            refine gf_X6_size C (by rfl) dX6_parse_66 kf_RX6_13 ?_
            rw [tx_48_1, hsz]
            first | refine g_icneN C 74 dX6_parse_69 (by decide) (by omega) (by omega) (fun h69 => ?_) (fun h69 => ?_) | refine g_icne C 74 dX6_parse_69 (by decide) (fun h69 => ?_) (fun h69 => ?_)
            · refine g_iinc1 C dX6_parse_74 rfl (by decide) ?_
              refine g_goto C 12 dX6_parse_77 (by decide) ?_
              refine g_loc ([(0, .ref (ev_a E 48)), (1, .int (nI (j + 1)))]) (And.intro rfl (And.intro rfl trivial)) ?_
              have e : pzL T n (k + 1) j i f c = pzL T n k (j + 1) (tkC T n i f (5 * j)).2.1 (tkC T n i f (5 * j)).2.2 (c + 1) := by simp [pzL, hj0, h43, h69]
              unfold pzT
              rw [e]
              exact ih (j + 1) _ _ _ (by omega) b1
            · refine g_icz (v := -1) C dX6_parse_72 (by decide) ?_
              refine g_iret C dX6_parse_73 ?_
              exact ⟨congrArg (fun v => some (Value.int v)) (by simp [pzL, hj0, h43, h69]), by simp [pzL, hj0, h43, h69]⟩
          · refine g_aload_n C dX6_parse_46 rfl ?_
            refine gf_X6_place C (by rfl) dX6_parse_47 kf_RX6_17 ?_
            rw [tx_48_2]
            refine g_iret C dX6_parse_50 ?_
            exact ⟨congrArg (fun v => some (Value.int v)) (by simp [pzL, hj0, h43]), by simp [pzL, hj0, h43]⟩
        · exact absurd ((nI_le0 (by omega)).mpr hj) h19
      · refine g_iload_n C dX6_parse_18 rfl ?_
        refine g_ifle C 36 dX6_parse_19 (by decide) (fun h19 => ?_) (fun h19 => ?_)
        · exact absurd ((nI_le0 (by omega)).mp h19) (by omega)
        · refine g_aload_n C dX6_parse_22 rfl ?_
          refine g_bp C (nI 59) dX6_parse_23 (by decide) ?_
          refine g_callVp C (ob_X6 (by rfl)) (c_X6_takeSign (d := d) h hi (by decide)) dX6_parse_25 km_RX6_27 kn_RX6 kc_yX6_takeSign ki_yX6_takeSign kx_yX6_takeSign (by omega) (by decide) ⟨by decide, by decide, rfl⟩ rfl (Nat.le_of_ble_eq_true rfl) ?_
          refine g_ifneB C 36 dX6_parse_28 (by decide) (fun h28 => ?_) (fun h28 => ?_)
          · rw [if_pos h28]
            have b0 : i + 1 ≤ n := sgA_lt h28
            refine g_aload_n C dX6_parse_36 rfl ?_
            refine g_ic (n := 5) C dX6_parse_37 (by decide) ?_
            refine g_iload_n C dX6_parse_38 rfl ?_
            first | refine g_imulN C dX6_parse_39 ?_ | refine g_imul C dX6_parse_39 ?_
            refine g_callVp C (ob_X6 (by rfl)) (c_X6_takeClause (d := d) h (by first | assumption | omega) (by omega)) dX6_parse_40 km_RX6_31 kn_RX6 kc_yX6_takeClause ki_yX6_takeClause kx_yX6_takeClause (by omega) (by decide) ⟨by decide, by decide, rfl⟩ rfl (Nat.le_of_ble_eq_true rfl) ?_
            refine g_ifneB C 51 dX6_parse_43 (by decide) (fun h43 => ?_) (fun h43 => ?_)
            · have b1 : (tkC T n (i + 1) f (5 * j)).2.1 ≤ n := (tkC_le b0).2
              refine g_aload_n C dX6_parse_51 rfl ?_
              refine g_dup C dX6_parse_52 rfl ?_
              refine gf_X6_clauses C (by rfl) dX6_parse_53 kf_RX6_24 ?_
              rw [tx_48_4]
              refine g_ic (n := 1) C dX6_parse_56 (by decide) ?_
              first | refine g_iaddN C dX6_parse_57 ?_ | refine g_iadd C dX6_parse_57 ?_
              refine gp_X6_clauses C (by rfl) dX6_parse_58 kf_RX6_24 ?_
              rw [tx_put4]
              refine g_aload_n C dX6_parse_61 rfl ?_
              refine gf_X6_place C (by rfl) dX6_parse_62 kf_RX6_17 ?_
              rw [tx_48_2]
              refine g_aload_n C dX6_parse_65 rfl ?_
              refine gf_X6_size C (by rfl) dX6_parse_66 kf_RX6_13 ?_
              rw [tx_48_1, hsz]
              first | refine g_icneN C 74 dX6_parse_69 (by decide) (by omega) (by omega) (fun h69 => ?_) (fun h69 => ?_) | refine g_icne C 74 dX6_parse_69 (by decide) (fun h69 => ?_) (fun h69 => ?_)
              · refine g_iinc1 C dX6_parse_74 rfl (by decide) ?_
                refine g_goto C 12 dX6_parse_77 (by decide) ?_
                refine g_loc ([(0, .ref (ev_a E 48)), (1, .int (nI (j + 1)))]) (And.intro rfl (And.intro rfl trivial)) ?_
                have e : pzL T n (k + 1) j i f c = pzL T n k (j + 1) (tkC T n (i + 1) f (5 * j)).2.1 (tkC T n (i + 1) f (5 * j)).2.2 (c + 1) := by simp [pzL, hj, h28, h43, h69]
                unfold pzT
                rw [e]
                exact ih (j + 1) _ _ _ (by omega) b1
              · refine g_icz (v := -1) C dX6_parse_72 (by decide) ?_
                refine g_iret C dX6_parse_73 ?_
                exact ⟨congrArg (fun v => some (Value.int v)) (by simp [pzL, hj, h28, h43, h69]), by simp [pzL, hj, h28, h43, h69]⟩
            · refine g_aload_n C dX6_parse_46 rfl ?_
              refine gf_X6_place C (by rfl) dX6_parse_47 kf_RX6_17 ?_
              rw [tx_48_2]
              refine g_iret C dX6_parse_50 ?_
              exact ⟨congrArg (fun v => some (Value.int v)) (by simp [pzL, hj, h28, h43]), by simp [pzL, hj, h28, h43]⟩
          · rw [if_neg (by rw [h28]; decide)]
            refine g_aload_n C dX6_parse_31 rfl ?_
            refine gf_X6_place C (by rfl) dX6_parse_32 kf_RX6_17 ?_
            rw [tx_48_2]
            refine g_iret C dX6_parse_35 ?_
            exact ⟨congrArg (fun v => some (Value.int v)) (by simp [pzL, hj, h28]), by simp [pzL, hj, h28]⟩

set_option maxHeartbeats 4000000 in
set_option maxRecDepth 100000 in
theorem c_X6_parse {E : Ev} {d : Nat} {σ : St} {n : Nat} {T : Nat → Nat} (h : Tx σ n T) : Con E (d + 3) yX6_parse cX6_parse 2 ((Option.some FieldType.int)) [.ref (ev_a E 48)] σ (pzT σ T n 12 0 0 (σ.1 50) 0) := by
  refine con_of (by decide) (Nat.le_of_ble_eq_true rfl) (fun X hX C => ?_)
  have C : Cx E X cX6_parse RX6 2 ((Option.some FieldType.int)) := C
  obtain ⟨hsz, hn, hT⟩ := id h
  show G E _ X _ _ _ 0 [(0, .ref (ev_a E 48))] []
  refine g_aload_n C dX6_parse_0 rfl ?_
  refine g_ic (n := 0) C dX6_parse_1 (by decide) ?_
  refine gp_X6_place C (by rfl) dX6_parse_2 kf_RX6_17 ?_
  refine g_aload_n C dX6_parse_5 rfl ?_
  refine g_ic (n := 0) C dX6_parse_6 (by decide) ?_
  refine gp_X6_clauses C (by rfl) dX6_parse_7 kf_RX6_24 ?_
  rw [tx_start]
  refine g_ic (n := 0) C dX6_parse_10 (by decide) ?_
  refine g_istore_n C dX6_parse_11 (by decide) ?_
  refine g_loc ([(0, .ref (ev_a E 48)), (1, .int (nI 0))]) (And.intro rfl (And.intro rfl trivial)) ?_
  exact l_X6_parse C h 12 0 0 _ 0 (by omega) (Nat.zero_le _)

theorem i2b_n : ∀ g, g < 128 → (nI g).toInt8.toInt32 = nI g := by decide +kernel
theorem nar_by {g : Nat} (h : g < 128) : vp_nar .byte (nI g) = nI g := by rw [vp_nar_byte]; exact i2b_n g h
def TxTo (v : Option Value) (σ : St) (n : Nat) (T : Nat → Nat) : Option Value → St → Prop := fun q σ' => q = v ∧ Tx σ' n T ∧ Fr [48, 49] σ σ'
theorem Tx.go {σ σ' : St} {n : Nat} {T : Nat → Nat} {l : List Nat} (h : Tx σ n T) (hF : Fr l σ σ') (h0 : 48 ∉ l) (h1 : 49 ∉ l) : Tx σ' n T := by
  obtain ⟨a1, a2, a3⟩ := h
  exact ⟨by rw [(hF _ h0).1]; exact a1, a2, fun p hp => by rw [(hF _ h1).1]; exact a3 p hp⟩

set_option maxHeartbeats 4000000 in
set_option maxRecDepth 100000 in
theorem c_X6_add {E : Ev} {d : Nat} {σ : St} {n g : Nat} {T : Nat → Nat} (h : Tx σ n T) (hn2 : n < 100) (hg : g < 128) : Con E (d) yX6_add cX6_add 2 ((Option.some FieldType.int)) [.ref (ev_a E 48), .int (nI g)] σ (TxTo (some (.int (nI (n + 1)))) σ (n + 1) (fun j => if j = n then g else T j)) := by
  refine con_of (by decide) (Nat.le_of_ble_eq_true rfl) (fun X hX C => ?_)
  have C : Cx E X cX6_add RX6 2 ((Option.some FieldType.int)) := C
  obtain ⟨hsz, hn, hT⟩ := id h
  show G E _ X _ _ _ 0 [(0, .ref (ev_a E 48)), (1, .int (nI g))] []
  refine g_aload_n C dX6_add_0 rfl ?_
  refine gf_X6_signs C (by rfl) dX6_add_1 kf_RX6_9 ?_
  refine g_aload_n C dX6_add_4 rfl ?_
  refine gf_X6_size C (by rfl) dX6_add_5 kf_RX6_13 ?_
  rw [hsz]
  refine g_iload_n C dX6_add_8 rfl ?_
  refine g_i2b C _ dX6_add_9 rfl ?_
  rw [i2b_n g hg]
  refine g_bastN C (by rfl) (by omega) (by first | decide | omega) dX6_add_10 ?_
  rw [nar_by hg]
  refine g_aload_n C dX6_add_11 rfl ?_
  refine g_dup C dX6_add_12 rfl ?_
  refine gf_X6_size C (by rfl) dX6_add_13 kf_RX6_13 ?_
  rw [sI_ne (show 48 ≠ 49 by decide), hsz]
  refine g_ic (n := 1) C dX6_add_16 (by decide) ?_
  first | refine g_iaddN C dX6_add_17 ?_ | refine g_iadd C dX6_add_17 ?_
  refine gp_X6_size C (by rfl) dX6_add_18 kf_RX6_13 ?_
  refine g_aload_n C dX6_add_21 rfl ?_
  refine gf_X6_size C (by rfl) dX6_add_22 kf_RX6_13 ?_
  rw [sI_self, up_i]
  refine g_iret C dX6_add_25 ?_
  exact ⟨rfl, ⟨by rw [sI_self, up_i], by omega, fun j hj => by
    rw [sI_ne (show 49 ≠ 48 by decide), sI_self]
    by_cases e : j = n
    · subst e; rw [up_i]; simp; exact hg
    · rw [up_n e]; simp only [e, if_false]; exact hT j (by omega)⟩, (Fr.rf.sI (by simp)).sI (by simp)⟩

set_option maxHeartbeats 4000000 in
set_option maxRecDepth 100000 in
theorem c_X6_part {E : Ev} {d : Nat} {σ : St} {a b : Nat} (h : 5 * a + b < 60) : Con E (d) yX6_part cX6_part 3 ((Option.some FieldType.int)) [.ref (ev_a E 48), .int (nI a), .int (nI b)] σ (Det (some (.int (σ.1 50 (5 * a + b)))) σ) := by
  refine con_of (by decide) (Nat.le_of_ble_eq_true rfl) (fun X hX C => ?_)
  have C : Cx E X cX6_part RX6 3 ((Option.some FieldType.int)) := C
  show G E _ X _ _ _ 0 [(0, .ref (ev_a E 48)), (1, .int (nI a)), (2, .int (nI b))] []
  refine g_aload_n C dX6_part_0 rfl ?_
  refine gf_X6_parts C (by rfl) dX6_part_1 kf_RX6_20 ?_
  refine g_ic (n := 5) C dX6_part_4 (by decide) ?_
  refine g_iload_n C dX6_part_5 rfl ?_
  first | refine g_imulN C dX6_part_6 ?_ | refine g_imul C dX6_part_6 ?_
  refine g_iload_n C dX6_part_7 rfl ?_
  first | refine g_iaddN C dX6_part_8 ?_ | refine g_iadd C dX6_part_8 ?_
  refine g_ialdN C (by rfl) (by omega) (by first | decide | omega) dX6_part_9 ?_
  refine g_iret C dX6_part_10 ?_
  exact ⟨rfl, rfl⟩

