/-! ROWS (two columns), TAPES, THE TEXT: what their cells hold; and the contracts of ShapeMoves$Rows, $Tape, $Text -/
def RwIs (σ : St) (r cap n : Nat) (A B : Nat → Int32) : Prop := kd r = (3, 0) ∧ kd (r + 1) = (12, cap) ∧ kd (r + 2) = (12, cap) ∧ n ≤ cap ∧ cap ≤ 8 ∧ σ.1 r 2 = nI n ∧ ∀ j, j < n → σ.1 (r + 1) j = A j ∧ σ.1 (r + 2) j = B j
theorem RwIs.go {σ σ' : St} {r cap n : Nat} {A B : Nat → Int32} {l : List Nat} (h : RwIs σ r cap n A B) (hF : Fr l σ σ') (h0 : r ∉ l) (h1 : r + 1 ∉ l) (h2 : r + 2 ∉ l) : RwIs σ' r cap n A B := by
  obtain ⟨a1, a2, a3, a4, a5, a6, a7⟩ := h
  exact ⟨a1, a2, a3, a4, a5, by rw [(hF _ h0).1]; exact a6, fun p hp => by rw [(hF _ h1).1, (hF _ h2).1]; exact a7 p hp⟩
def RwTo (v : Option Value) (σ : St) (r cap n : Nat) (A B : Nat → Int32) : Option Value → St → Prop := fun q σ' => q = v ∧ RwIs σ' r cap n A B ∧ Fr [r, r + 1, r + 2] σ σ'
set_option maxHeartbeats 4000000 in
set_option maxRecDepth 100000 in
theorem c_X2_isFull {E : Ev} {d : Nat} {σ : St} {r cap n : Nat} {A B : Nat → Int32} (h : RwIs σ r cap n A B) : Con E (d) yX2_isFull cX2_isFull 1 ((Option.some FieldType.boolean)) [.ref (ev_a E r)] σ (Det (some (.int (bI (decide (n = cap))))) σ) := by
  refine con_of (by decide) (Nat.le_of_ble_eq_true rfl) (fun X hX C => ?_)
  have C : Cx E X cX2_isFull RX2 1 ((Option.some FieldType.boolean)) := C
  obtain ⟨hk, hk1, hk2, hn, hc, hsz, hA⟩ := id h
  show G E _ X _ _ _ 0 [(0, .ref (ev_a E r))] []
  refine g_aload_n C dX2_isFull_0 rfl ?_
  refine gf_X2_size C hk dX2_isFull_1 kf_RX2_7 ?_
  rw [hsz]
  refine g_aload_n C dX2_isFull_4 rfl ?_
  refine gf_X2_first C hk dX2_isFull_5 kf_RX2_13 ?_
  refine g_alen C 12 hk1 (by decide) dX2_isFull_8 ?_
  first | refine g_icneN C 16 dX2_isFull_9 (by decide) (by omega) (by omega) (fun h9 => ?_) (fun h9 => ?_) | refine g_icne C 16 dX2_isFull_9 (by decide) (fun h9 => ?_) (fun h9 => ?_)
  · refine g_ic (n := 0) C dX2_isFull_16 (by decide) ?_
    refine g_zret C (by first | exact bI_01 _ | exact Or.inl rfl | exact Or.inr rfl) dX2_isFull_17 ?_
    exact ⟨congrArg (fun v => some (Value.int v)) (by simp [h9]; rfl), rfl⟩
  · refine g_ic (n := 1) C dX2_isFull_12 (by decide) ?_
    refine g_goto C 17 dX2_isFull_13 (by decide) ?_
    refine g_zret C (by first | exact bI_01 _ | exact Or.inl rfl | exact Or.inr rfl) dX2_isFull_17 ?_
    exact ⟨congrArg (fun v => some (Value.int v)) (by simp [h9]; rfl), rfl⟩
set_option maxHeartbeats 4000000 in
set_option maxRecDepth 100000 in
theorem c_X2_add {E : Ev} {d : Nat} {σ : St} {r cap n : Nat} {A B : Nat → Int32} (h : RwIs σ r cap n A B) (hf : n < cap) {x y : Int32} : Con E (d) yX2_add cX2_add 3 ((Option.some FieldType.int)) [.ref (ev_a E r), .int x, .int y] σ (RwTo (some (.int (nI (n + 1)))) σ r cap (n + 1) (upd A n x) (upd B n y)) := by
  refine con_of (by decide) (Nat.le_of_ble_eq_true rfl) (fun X hX C => ?_)
  have C : Cx E X cX2_add RX2 3 ((Option.some FieldType.int)) := C
  obtain ⟨hk, hk1, hk2, hn, hc, hsz, hA⟩ := id h
  show G E _ X _ _ _ 0 [(0, .ref (ev_a E r)), (1, .int x), (2, .int y)] []
  refine g_aload_n C dX2_add_0 rfl ?_
  refine gf_X2_first C hk dX2_add_1 kf_RX2_13 ?_
  refine g_aload_n C dX2_add_4 rfl ?_
  refine gf_X2_size C hk dX2_add_5 kf_RX2_7 ?_
  rw [hsz]
  refine g_iload_n C dX2_add_8 rfl ?_
  refine g_iastN C hk1 (by omega) (by first | decide | omega) dX2_add_9 ?_
  refine g_aload_n C dX2_add_10 rfl ?_
  refine gf_X2_second C hk dX2_add_11 kf_RX2_17 ?_
  refine g_aload_n C dX2_add_14 rfl ?_
  refine gf_X2_size C hk dX2_add_15 kf_RX2_7 ?_
  rw [sI_ne ne01, hsz]
  refine g_iload_n C dX2_add_18 rfl ?_
  refine g_iastN C hk2 (by omega) (by first | decide | omega) dX2_add_19 ?_
  refine g_aload_n C dX2_add_20 rfl ?_
  refine g_dup C dX2_add_21 rfl ?_
  refine gf_X2_size C hk dX2_add_22 kf_RX2_7 ?_
  rw [sI_ne ne02, sI_ne ne01, hsz]
  refine g_ic (n := 1) C dX2_add_25 (by decide) ?_
  first | refine g_iaddN C dX2_add_26 ?_ | refine g_iadd C dX2_add_26 ?_
  refine gp_X2_size C hk dX2_add_27 kf_RX2_7 ?_
  refine g_aload_n C dX2_add_30 rfl ?_
  refine gf_X2_size C hk dX2_add_31 kf_RX2_7 ?_
  rw [sI_self, up_i]
  refine g_iret C dX2_add_34 ?_
  exact ⟨rfl, ⟨hk, hk1, hk2, by omega, hc, by rw [sI_self, up_i], fun j hj => by
    rw [sI_ne ne10, sI_ne ne12, sI_self, sI_ne ne20, sI_self, sI_ne ne21]
    by_cases e : j = n
    · subst e; rw [up_i, up_i, up_i, up_i]; exact ⟨rfl, rfl⟩
    · rw [up_n e, up_n e, up_n e, up_n e]; exact hA j (by omega)⟩, ((Fr.rf.sI (by simp)).sI (by simp)).sI (by simp)⟩
set_option maxHeartbeats 4000000 in
set_option maxRecDepth 100000 in
theorem c_X2_empty {E : Ev} {d : Nat} {σ : St} {r cap n : Nat} {A B : Nat → Int32} (h : RwIs σ r cap n A B) : Con E (d) yX2_empty cX2_empty 1 ((Option.some FieldType.int)) [.ref (ev_a E r)] σ (RwTo (some (.int (nI 0))) σ r cap 0 A B) := by
  refine con_of (by decide) (Nat.le_of_ble_eq_true rfl) (fun X hX C => ?_)
  have C : Cx E X cX2_empty RX2 1 ((Option.some FieldType.int)) := C
  obtain ⟨hk, hk1, hk2, hn, hc, hsz, hA⟩ := id h
  show G E _ X _ _ _ 0 [(0, .ref (ev_a E r))] []
  refine g_aload_n C dX2_empty_0 rfl ?_
  refine g_ic (n := 0) C dX2_empty_1 (by decide) ?_
  refine gp_X2_size C hk dX2_empty_2 kf_RX2_7 ?_
  refine g_ic (n := 0) C dX2_empty_5 (by decide) ?_
  refine g_iret C dX2_empty_6 ?_
  exact ⟨rfl, ⟨hk, hk1, hk2, by omega, hc, by rw [sI_self, up_i], fun j hj => absurd hj (by omega)⟩, Fr.rf.sI (by simp)⟩
set_option maxHeartbeats 4000000 in
set_option maxRecDepth 100000 in
theorem c_X2_become {E : Ev} {d : Nat} {σ : St} {r cap n : Nat} {A B : Nat → Int32} (h : RwIs σ r cap n A B) {j : Nat} (hj : kd j = (3, 0)) (hj1 : kd (j + 1) = (12, cap)) (hj2 : kd (j + 2) = (12, cap)) (ha : j + 2 < r ∨ r + 2 < j) : Con E (d + 1) yX2_become cX2_become 2 ((Option.none : Option FieldType)) [.ref (ev_a E j), .ref (ev_a E r)] σ (RwTo none σ j cap n A B) := by
  refine con_of (by decide) (Nat.le_of_ble_eq_true rfl) (fun X hX C => ?_)
  have C : Cx E X cX2_become RX2 2 ((Option.none : Option FieldType)) := C
  obtain ⟨hk, hk1, hk2, hn, hc, hsz, hA⟩ := id h
  show G E _ X _ _ _ 0 [(0, .ref (ev_a E j)), (1, .ref (ev_a E r))] []
  refine g_aload_n C dX2_become_0 rfl ?_
  refine gf_X2_first C hk dX2_become_1 kf_RX2_13 ?_
  refine g_ic (n := 0) C dX2_become_4 (by decide) ?_
  refine g_aload_n C dX2_become_5 rfl ?_
  refine gf_X2_first C hj dX2_become_6 kf_RX2_13 ?_
  refine g_ic (n := 0) C dX2_become_9 (by decide) ?_
  refine g_aload_n C dX2_become_10 rfl ?_
  refine gf_X2_size C hk dX2_become_11 kf_RX2_7 ?_
  rw [hsz]
  refine g_cpiN C hk1 hj1 (by omega) (by omega) (by omega) (by omega) km_RX2_20 (by omega) (Nat.le_of_ble_eq_true rfl) dX2_become_14 ?_
  refine g_aload_n C dX2_become_17 rfl ?_
  refine gf_X2_second C hk dX2_become_18 kf_RX2_17 ?_
  refine g_ic (n := 0) C dX2_become_21 (by decide) ?_
  refine g_aload_n C dX2_become_22 rfl ?_
  refine gf_X2_second C hj dX2_become_23 kf_RX2_17 ?_
  refine g_ic (n := 0) C dX2_become_26 (by decide) ?_
  refine g_aload_n C dX2_become_27 rfl ?_
  refine gf_X2_size C hk dX2_become_28 kf_RX2_7 ?_
  rw [sI_ne (show r ≠ j + 1 from by omega), hsz]
  refine g_cpiN C hk2 hj2 (by omega) (by omega) (by omega) (by omega) km_RX2_20 (by omega) (Nat.le_of_ble_eq_true rfl) dX2_become_31 ?_
  refine g_aload_n C dX2_become_34 rfl ?_
  refine g_aload_n C dX2_become_35 rfl ?_
  refine gf_X2_size C hk dX2_become_36 kf_RX2_7 ?_
  rw [sI_ne (show r ≠ j + 2 from by omega), sI_ne (show r ≠ j + 1 from by omega), hsz]
  refine gp_X2_size C hj dX2_become_39 kf_RX2_7 ?_
  refine g_vret C dX2_become_42 ?_
  exact ⟨rfl, ⟨hj, hj1, hj2, hn, hc, by rw [sI_self, up_i], fun q hq => by
    rw [sI_ne ne10, sI_ne ne12, sI_self, sI_ne ne20, sI_self, sI_ne ne21, sI_ne (by omega)]
    unfold va_cpy
    obtain ⟨a1, a2⟩ := hA q hq
    simp only [Nat.zero_le, true_and, Nat.zero_add, Nat.sub_zero]
    rw [if_pos (by omega), if_pos (by omega)]
    exact ⟨a1, a2⟩⟩, ((Fr.rf.sI (by simp)).sI (by simp)).sI (by simp)⟩
def TpIs (σ : St) (t : Nat) (so : Int32) (n : Nat) (V : Nat → Int64) : Prop := kd t = (7, 0) ∧ kd (t + 1) = (13, 60) ∧ n ≤ 60 ∧ σ.1 t 1 = so ∧ σ.1 t 2 = nI n ∧ ∀ j, j < n → σ.2 (t + 1) j = V j
theorem TpIs.go {σ σ' : St} {t n : Nat} {so : Int32} {V : Nat → Int64} {l : List Nat} (h : TpIs σ t so n V) (hF : Fr l σ σ') (h0 : t ∉ l) (h1 : t + 1 ∉ l) : TpIs σ' t so n V := by
  obtain ⟨a1, a2, a3, a4, a5, a6⟩ := h
  exact ⟨a1, a2, a3, by rw [(hF _ h0).1]; exact a4, by rw [(hF _ h0).1]; exact a5, fun p hp => by rw [(hF _ h1).2]; exact a6 p hp⟩
def TpTo (v : Option Value) (σ : St) (t : Nat) (so : Int32) (n : Nat) (V : Nat → Int64) : Option Value → St → Prop := fun q σ' => q = v ∧ TpIs σ' t so n V ∧ Fr [t, t + 1] σ σ'
def hpB (n : Nat) (i : Int32) : Bool := !decide (i < 0) && !decide (nI n ≤ i)
def asI (so : Int32) (v : Int64) : Int64 := if so = nI 0 then v.toInt32.toInt8.toInt32.toInt64 else if so = nI 1 then v.toInt32.toInt16.toInt32.toInt64 else if so = nI 2 then v.toInt32.toInt64 else if so = nI 3 then v else if v = 0 then 0 else 1
theorem upL_i {f : Nat → Int64} {k : Nat} {x : Int64} : vp_updL f k x k = x := by simp [vp_updL]
theorem upL_n {f : Nat → Int64} {k j : Nat} {x : Int64} (h : j ≠ k) : vp_updL f k x j = f j := by simp [vp_updL, h]
theorem hpB_t {n : Nat} {i : Int32} (hn : n < 2 ^ 31) (h : hpB n i = true) : ∃ j : Nat, j < n ∧ i = nI j := by
  simp only [hpB, Bool.and_eq_true, Bool.not_eq_true', decide_eq_false_iff_not] at h
  rcases pk_ix i (n := n) hn with q | q | q
  · exact absurd q h.1
  · exact absurd q h.2
  · exact q
set_option maxHeartbeats 4000000 in
set_option maxRecDepth 100000 in
theorem c_X5_hasPlace {E : Ev} {d : Nat} {σ : St} {t n : Nat} {so : Int32} {V : Nat → Int64} (h : TpIs σ t so n V) {i : Int32} : Con E (d) yX5_hasPlace cX5_hasPlace 2 ((Option.some FieldType.boolean)) [.ref (ev_a E t), .int i] σ (Det (some (.int (bI (hpB n i)))) σ) := by
  refine con_of (by decide) (Nat.le_of_ble_eq_true rfl) (fun X hX C => ?_)
  have C : Cx E X cX5_hasPlace RX5 2 ((Option.some FieldType.boolean)) := C
  obtain ⟨hk, hk1, hn, hso, hsz, hV⟩ := id h
  show G E _ X _ _ _ 0 [(0, .ref (ev_a E t)), (1, .int i)] []
  refine g_iload_n C dX5_hasPlace_0 rfl ?_
  refine g_iflt C 16 dX5_hasPlace_1 (by decide) (fun h1 => ?_) (fun h1 => ?_)
  · refine g_ic (n := 0) C dX5_hasPlace_16 (by decide) ?_
    refine g_zret C (by first | exact bI_01 _ | exact Or.inl rfl | exact Or.inr rfl) dX5_hasPlace_17 ?_
    exact ⟨congrArg (fun v => some (Value.int v)) (by simp [hpB, h1]; rfl), rfl⟩
  · refine g_iload_n C dX5_hasPlace_4 rfl ?_
    refine g_aload_n C dX5_hasPlace_5 rfl ?_
    refine gf_X5_size C hk dX5_hasPlace_6 kf_RX5_17 ?_
    rw [hsz]
    refine g_icge C 16 dX5_hasPlace_9 (by decide) (fun h9 => ?_) (fun h9 => ?_)
    · refine g_ic (n := 0) C dX5_hasPlace_16 (by decide) ?_
      refine g_zret C (by first | exact bI_01 _ | exact Or.inl rfl | exact Or.inr rfl) dX5_hasPlace_17 ?_
      exact ⟨congrArg (fun v => some (Value.int v)) (by simp [hpB, h1, h9]; rfl), rfl⟩
    · refine g_ic (n := 1) C dX5_hasPlace_12 (by decide) ?_
      refine g_goto C 17 dX5_hasPlace_13 (by decide) ?_
      refine g_zret C (by first | exact bI_01 _ | exact Or.inl rfl | exact Or.inr rfl) dX5_hasPlace_17 ?_
      exact ⟨congrArg (fun v => some (Value.int v)) (by simp [hpB, h1, h9]; rfl), rfl⟩
set_option maxHeartbeats 4000000 in
set_option maxRecDepth 100000 in
theorem l_X5_become {E : Ev} {d : Nat} {X : Mx} (C : Cx E X cX5_become RX5 4 ((Option.none : Option FieldType))) {t n : Nat} {so : Int32} (hk : kd t = (7, 0)) (hk1 : kd (t + 1) = (13, 60)) (hn : n ≤ 60) : ∀ (k : Nat) (i : Nat) (σ : St), 60 = i + k → σ.1 t 1 = so → σ.1 t 2 = nI n → (∀ j, j < i → σ.2 (t + 1) j = 0) → G E d X 4 (fun r σ2 => r = none ∧ TpIs σ2 t so n (fun j => 0) ∧ Fr [t, t + 1] σ σ2) σ 12 ([(0, .ref (ev_a E t)), (1, .int so), (2, .int (nI n)), (3, .int (nI i))]) [] := by
  intro k
  induction k with
  | zero =>
    intro i σ hi hso hsz hV
    refine g_iload_n C dX5_become_12 rfl ?_
    refine g_bp C (nI 60) dX5_become_13 (by decide) ?_
    first | refine g_icgeN C 31 dX5_become_15 (by decide) (by omega) (by omega) (fun h15 => ?_) (fun h15 => ?_) | refine g_icge C 31 dX5_become_15 (by decide) (fun h15 => ?_) (fun h15 => ?_)
    · refine g_vret C dX5_become_31 ?_
      exact ⟨rfl, ⟨hk, hk1, hn, hso, hsz, fun j hj => hV j (by omega)⟩, Fr.rf⟩
    · omega
  | succ k ih =>
    intro i σ hi hso hsz hV
    refine g_iload_n C dX5_become_12 rfl ?_
    refine g_bp C (nI 60) dX5_become_13 (by decide) ?_
    first | refine g_icgeN C 31 dX5_become_15 (by decide) (by omega) (by omega) (fun h15 => ?_) (fun h15 => ?_) | refine g_icge C 31 dX5_become_15 (by decide) (fun h15 => ?_) (fun h15 => ?_)
    · omega
    · refine g_aload_n C dX5_become_18 rfl ?_
      refine gf_X5_items C hk dX5_become_19 kf_RX5_9 ?_
      refine g_iload_n C dX5_become_22 rfl ?_
      refine g_lc (v := 0) C dX5_become_23 (by decide) ?_
      refine g_lastN C hk1 (by omega) (by first | decide | omega) dX5_become_24 ?_
      refine g_iinc1 C dX5_become_25 rfl (by decide) ?_
      refine g_goto C 12 dX5_become_28 (by decide) ?_
      refine g_loc ([(0, .ref (ev_a E t)), (1, .int so), (2, .int (nI n)), (3, .int (nI (i + 1)))]) (And.intro rfl (And.intro rfl (And.intro rfl (And.intro rfl trivial)))) ?_
      refine g_post (fun r σ2 q => ⟨q.1, q.2.1, Fr.tr (Fr.rf.sL (by simp)) q.2.2⟩) (ih (i + 1) (sL σ (t + 1) (vp_updL (σ.2 (t + 1)) i 0)) (by omega) hso hsz (fun j hj => ?_))
      rw [sL_self]
      by_cases e : j = i
      · subst e; rw [upL_i]
      · rw [upL_n e]; exact hV j (by omega)
set_option maxHeartbeats 4000000 in
set_option maxRecDepth 100000 in
theorem c_X5_become {E : Ev} {d : Nat} {σ : St} {t n : Nat} {so : Int32} (hk : kd t = (7, 0)) (hk1 : kd (t + 1) = (13, 60)) (hn : n ≤ 60) : Con E (d) yX5_become cX5_become 4 ((Option.none : Option FieldType)) [.ref (ev_a E t), .int so, .int (nI n)] σ (TpTo none σ t so n (fun _ => 0)) := by
  refine con_of (by decide) (Nat.le_of_ble_eq_true rfl) (fun X hX C => ?_)
  have C : Cx E X cX5_become RX5 4 ((Option.none : Option FieldType)) := C
  show G E _ X _ _ _ 0 [(0, .ref (ev_a E t)), (1, .int so), (2, .int (nI n))] []
  refine g_aload_n C dX5_become_0 rfl ?_
  refine g_iload_n C dX5_become_1 rfl ?_
  refine gp_X5_sort C hk dX5_become_2 kf_RX5_13 ?_
  refine g_aload_n C dX5_become_5 rfl ?_
  refine g_iload_n C dX5_become_6 rfl ?_
  refine gp_X5_size C hk dX5_become_7 kf_RX5_17 ?_
  refine g_ic (n := 0) C dX5_become_10 (by decide) ?_
  refine g_istore_n C dX5_become_11 (by decide) ?_
  refine g_loc ([(0, .ref (ev_a E t)), (1, .int so), (2, .int (nI n)), (3, .int (nI 0))]) (And.intro rfl (And.intro rfl (And.intro rfl (And.intro rfl trivial)))) ?_
  refine g_post (fun r σ2 q => ⟨q.1, q.2.1, Fr.tr ((Fr.rf.sI (by simp)).sI (by simp)) q.2.2⟩) (l_X5_become C hk hk1 hn 60 0 _ (by omega) ?_ ?_ (fun j hj => absurd hj (by omega)))
  · rw [sI_self, up_n (by decide), sI_self, up_i]
  · rw [sI_self, up_i]
theorem sw_in {n : Nat} (hn : n < 2 ^ 31) (x : Int32) : (x.toInt < 0 ∨ (n : Int) < x.toInt) ∨ ∃ j : Nat, j ≤ n ∧ x = nI j := by
  rcases Decidable.em (x.toInt < 0 ∨ (n : Int) < x.toInt) with h | h
  · exact Or.inl h
  · refine Or.inr ⟨x.toInt.toNat, by omega, ?_⟩
    rw [← Int32.toInt_inj, nI_toInt (by omega)]
    omega
theorem sw_ne {n j : Nat} {x : Int32} (h : x.toInt < 0 ∨ (n : Int) < x.toInt) (hj : j ≤ n) (hn : n < 2 ^ 31) : ¬ x = nI j := fun e => by
  rw [e, nI_toInt (by omega)] at h
  omega
theorem lg0 (v : Int64) : lg_cmp v 0 = 0 ↔ v = 0 := by
  unfold lg_cmp
  constructor
  · intro h
    split at h
    · exact absurd h (by decide)
    · split at h
      · assumption
      · exact absurd h (by decide)
  · intro h
    subst h
    simp
set_option maxHeartbeats 4000000 in
set_option maxRecDepth 100000 in
theorem c_X5_asItem {E : Ev} {d : Nat} {σ : St} {t n : Nat} {so : Int32} {V : Nat → Int64} (h : TpIs σ t so n V) {v : Int64} : Con E (d) yX5_asItem cX5_asItem 3 ((Option.some FieldType.long)) [.ref (ev_a E t), .long v] σ (Det (some (.long (asI so v))) σ) := by
  refine con_of (by decide) (Nat.le_of_ble_eq_true rfl) (fun X hX C => ?_)
  have C : Cx E X cX5_asItem RX5 3 ((Option.some FieldType.long)) := C
  obtain ⟨hk, hk1, hn, hso, hsz, hV⟩ := id h
  show G E _ X _ _ _ 0 [(0, .ref (ev_a E t)), (1, .long v)] []
  rcases sw_in (n := 3) (by decide) so with h4 | ⟨w, hw, hso2⟩
  · refine g_aload_n C dX5_asItem_0 rfl ?_
    refine gf_X5_sort C hk dX5_asItem_1 kf_RX5_13 ?_
    rw [hso]
    refine g_tsOut C 52 dX5_asItem_4 h4 (by decide) ?_
    refine g_lload_n C dX5_asItem_52 rfl ?_
    refine g_lc (v := 0) C dX5_asItem_53 (by decide) ?_
    refine g_lcmp C dX5_asItem_54 ?_
    refine g_ifeq C 62 dX5_asItem_55 (by decide) (fun h55 => ?_) (fun h55 => ?_)
    · refine g_lc (v := 0) C dX5_asItem_62 (by decide) ?_
      refine g_lret C dX5_asItem_63 ?_
      exact ⟨congrArg (fun v => some (Value.long v)) (by unfold asI; rw [if_neg (sw_ne (j := 0) h4 (by decide) (by decide)), if_neg (sw_ne (j := 1) h4 (by decide) (by decide)), if_neg (sw_ne (j := 2) h4 (by decide) (by decide)), if_neg (sw_ne (j := 3) h4 (by decide) (by decide))]; first | rw [if_pos ((lg0 v).mp h55)] | rw [if_neg (fun e => h55 ((lg0 v).mpr e))]), rfl⟩
    · refine g_lc (v := 1) C dX5_asItem_58 (by decide) ?_
      refine g_goto C 63 dX5_asItem_59 (by decide) ?_
      refine g_lret C dX5_asItem_63 ?_
      exact ⟨congrArg (fun v => some (Value.long v)) (by unfold asI; rw [if_neg (sw_ne (j := 0) h4 (by decide) (by decide)), if_neg (sw_ne (j := 1) h4 (by decide) (by decide)), if_neg (sw_ne (j := 2) h4 (by decide) (by decide)), if_neg (sw_ne (j := 3) h4 (by decide) (by decide))]; first | rw [if_pos ((lg0 v).mp h55)] | rw [if_neg (fun e => h55 ((lg0 v).mpr e))]), rfl⟩
  · have hw4 : w = 0 ∨ w = 1 ∨ w = 2 ∨ w = 3 := by omega
    subst hso2
    rcases hw4 with rfl | rfl | rfl | rfl
    · refine g_aload_n C dX5_asItem_0 rfl ?_
      refine gf_X5_sort C hk dX5_asItem_1 kf_RX5_13 ?_
      rw [hso]
      refine g_tsIn C 36 dX5_asItem_4 (by decide) (by decide) rfl (by decide) ?_
      refine g_lload_n C dX5_asItem_36 rfl ?_
      refine g_l2i C _ dX5_asItem_37 rfl ?_
      refine g_i2b C _ dX5_asItem_38 rfl ?_
      refine g_i2l C _ dX5_asItem_39 rfl ?_
      refine g_lret C dX5_asItem_40 ?_
      exact ⟨congrArg (fun v => some (Value.long v)) rfl, rfl⟩
    · refine g_aload_n C dX5_asItem_0 rfl ?_
      refine gf_X5_sort C hk dX5_asItem_1 kf_RX5_13 ?_
      rw [hso]
      refine g_tsIn C 41 dX5_asItem_4 (by decide) (by decide) rfl (by decide) ?_
      refine g_lload_n C dX5_asItem_41 rfl ?_
      refine g_l2i C _ dX5_asItem_42 rfl ?_
      refine g_i2s C _ dX5_asItem_43 rfl ?_
      refine g_i2l C _ dX5_asItem_44 rfl ?_
      refine g_lret C dX5_asItem_45 ?_
      exact ⟨congrArg (fun v => some (Value.long v)) rfl, rfl⟩
    · refine g_aload_n C dX5_asItem_0 rfl ?_
      refine gf_X5_sort C hk dX5_asItem_1 kf_RX5_13 ?_
      rw [hso]
      refine g_tsIn C 46 dX5_asItem_4 (by decide) (by decide) rfl (by decide) ?_
      refine g_lload_n C dX5_asItem_46 rfl ?_
      refine g_l2i C _ dX5_asItem_47 rfl ?_
      refine g_i2l C _ dX5_asItem_48 rfl ?_
      refine g_lret C dX5_asItem_49 ?_
      exact ⟨congrArg (fun v => some (Value.long v)) rfl, rfl⟩
    · refine g_aload_n C dX5_asItem_0 rfl ?_
      refine gf_X5_sort C hk dX5_asItem_1 kf_RX5_13 ?_
      rw [hso]
      refine g_tsIn C 50 dX5_asItem_4 (by decide) (by decide) rfl (by decide) ?_
      refine g_lload_n C dX5_asItem_50 rfl ?_
      refine g_lret C dX5_asItem_51 ?_
      exact ⟨congrArg (fun v => some (Value.long v)) rfl, rfl⟩
