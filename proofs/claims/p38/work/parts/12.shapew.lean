/-! what is written to POINTS -/
def pDrop (P : Nat → Nat → Int32) (k : Nat) : Nat → Nat → Int32 := fun p i => if p < k then P p i else P (p + 1) i
def pAdd (P : Nat → Nat → Int32) (n : Nat) (x y z v : Int32) : Nat → Nat → Int32 := fun p i => if p = n then (match i with | 0 => x | 1 => y | 2 => z | _ => v) else P p i
def pMap (F : (Nat → Int32) → Nat → Int32) (P : Nat → Nat → Int32) : Nat → Nat → Int32 := fun p => F (P p)
def rwTake (m : Nat) (r : Nat → Int32) : Nat → Int32 := fun i => if i < 3 then cxr r m i else r i
def rwGone (v : Int32) (r : Nat → Int32) : Nat → Int32 := fun i => if i = 3 ∧ r 3 = v then 0 else r i
def rwAll (v : Int32) (r : Nat → Int32) : Nat → Int32 := fun i => if i = 3 then v else r i
def pFrom (F : (Nat → Int32) → Nat → Int32) (P : Nat → Nat → Int32) (i : Nat) : Nat → Nat → Int32 := fun p => if p < i then P p else F (P p)
def pOne (F : (Nat → Int32) → Nat → Int32) (P : Nat → Nat → Int32) (i : Nat) : Nat → Nat → Int32 := fun p => if p = i then F (P p) else P p
theorem pFrom_one {F : (Nat → Int32) → Nat → Int32} {P : Nat → Nat → Int32} {i : Nat} : pFrom F (pOne F P i) (i + 1) = pFrom F P i := by
  funext p
  unfold pFrom pOne
  by_cases h : p < i
  · rw [if_pos (by omega), if_neg (by omega), if_pos h]
  · by_cases h2 : p = i
    · rw [if_pos (by omega), if_pos h2, if_neg h]
    · rw [if_neg (by omega), if_neg h2, if_neg h]
theorem pFrom_end {F : (Nat → Int32) → Nat → Int32} {P : Nat → Nat → Int32} {n p : Nat} (h : p < n) : pFrom F P n p = P p := by unfold pFrom; rw [if_pos h]
/-- the answer v, and POINTS at b are n by P then; nothing else is otherwise -/
def ShTo (v : Option Value) (σ : St) (b n : Nat) (P : Nat → Nat → Int32) : Option Value → St → Prop := fun r σ' => r = v ∧ ShIs σ' b n P ∧ Fr [b, b + 1, b + 2] σ σ'
theorem drop_pl {f : Nat → Int32} {P : Nat → Nat → Int32} {n p : Nat} (hp : p < n) (hf : ∀ q, q < n → f (3 * q) = P q 0 ∧ f (3 * q + 1) = P q 1 ∧ f (3 * q + 2) = P q 2) (q : Nat) (hq : q < n - 1) (i : Nat) (hi : i < 3) : (va_cpy f f (3 * p + 3) (3 * p) (3 * (n - p - 1))) (3 * q + i) = pDrop P p q i := by
  have key : ∀ q, q < n → f (3 * q + i) = P q i := fun q hq => by
    obtain ⟨a, b, c⟩ := hf q hq
    match i, hi with
    | 0, _ => exact a
    | 1, _ => exact b
    | 2, _ => exact c
  unfold va_cpy pDrop
  by_cases h : q < p
  · rw [if_neg (by omega), if_pos h, key q (by omega)]
  · rw [if_pos (by omega), if_neg h, show 3 * p + 3 + (3 * q + i - 3 * p) = 3 * (q + 1) + i from by omega, key (q + 1) (by omega)]
theorem drop_mk {g : Nat → Int32} {P : Nat → Nat → Int32} {n p : Nat} (hp : p < n) (hg : ∀ q, q < n → g q = P q 3) (q : Nat) (hq : q < n - 1) : (va_cpy g g (p + 1) p (n - p - 1)) q = pDrop P p q 3 := by
  unfold va_cpy pDrop
  by_cases h : q < p
  · rw [if_neg (by omega), if_pos h, hg q (by omega)]
  · rw [if_pos (by omega), if_neg h, show p + 1 + (q - p) = q + 1 from by omega, hg (q + 1) (by omega)]
theorem up_i {f : Nat → Int32} {k : Nat} {x : Int32} : upd f k x k = x := by simp [upd]
theorem up_n {f : Nat → Int32} {k j : Nat} {x : Int32} (h : j ≠ k) : upd f k x j = f j := by simp [upd, h]
theorem ne12 {b : Nat} : b + 1 ≠ b + 2 := by omega
theorem ne10 {b : Nat} : b + 1 ≠ b := by omega
theorem ne20 {b : Nat} : b + 2 ≠ b := by omega
theorem ne21 {b : Nat} : b + 2 ≠ b + 1 := by omega
theorem ne01 {b : Nat} : b ≠ b + 1 := by omega
theorem ne02 {b : Nat} : b ≠ b + 2 := by omega
set_option maxHeartbeats 4000000 in
set_option maxRecDepth 100000 in
theorem c_X4_setPlace {E : Ev} {d : Nat} {σ : St} {b p : Nat} {x y z : Int32} (hk : kd b = (2, 0)) (hk1 : kd (b + 1) = (12, 24)) (hp : p < 8) : Con E (d) yX4_setPlace cX4_setPlace 5 ((Option.none : Option FieldType)) [.ref (ev_a E b), .int (nI p), .int x, .int y, .int z] σ (Det none (sI σ (b + 1) (upd (upd (upd (σ.1 (b + 1)) (3 * p) x) (3 * p + 1) y) (3 * p + 2) z))) := by
  refine con_of (by decide) (Nat.le_of_ble_eq_true rfl) (fun X hX C => ?_)
  have C : Cx E X cX4_setPlace RX4 5 ((Option.none : Option FieldType)) := C
  show G E _ X _ _ _ 0 [(0, .ref (ev_a E b)), (1, .int (nI p)), (2, .int x), (3, .int y), (4, .int z)] []
  refine g_aload_n C dX4_setPlace_0 rfl ?_
  refine gf_X4_places C hk dX4_setPlace_1 kf_RX4_11 ?_
  refine g_ic (n := 3) C dX4_setPlace_4 (by decide) ?_
  refine g_iload_n C dX4_setPlace_5 rfl ?_
  first | refine g_imulN C dX4_setPlace_6 ?_ | refine g_imul C dX4_setPlace_6 ?_
  refine g_iload_n C dX4_setPlace_7 rfl ?_
  refine g_iastN C hk1 (by omega) (by first | decide | omega) dX4_setPlace_8 ?_
  refine g_aload_n C dX4_setPlace_9 rfl ?_
  refine gf_X4_places C hk dX4_setPlace_10 kf_RX4_11 ?_
  refine g_ic (n := 3) C dX4_setPlace_13 (by decide) ?_
  refine g_iload_n C dX4_setPlace_14 rfl ?_
  first | refine g_imulN C dX4_setPlace_15 ?_ | refine g_imul C dX4_setPlace_15 ?_
  refine g_ic (n := 1) C dX4_setPlace_16 (by decide) ?_
  first | refine g_iaddN C dX4_setPlace_17 ?_ | refine g_iadd C dX4_setPlace_17 ?_
  refine g_iload_n C dX4_setPlace_18 rfl ?_
  refine g_iastN C hk1 (by omega) (by first | decide | omega) dX4_setPlace_19 ?_
  refine g_aload_n C dX4_setPlace_20 rfl ?_
  refine gf_X4_places C hk dX4_setPlace_21 kf_RX4_11 ?_
  refine g_ic (n := 3) C dX4_setPlace_24 (by decide) ?_
  refine g_iload_n C dX4_setPlace_25 rfl ?_
  first | refine g_imulN C dX4_setPlace_26 ?_ | refine g_imul C dX4_setPlace_26 ?_
  refine g_ic (n := 2) C dX4_setPlace_27 (by decide) ?_
  first | refine g_iaddN C dX4_setPlace_28 ?_ | refine g_iadd C dX4_setPlace_28 ?_
  refine g_iload C dX4_setPlace_29 rfl ?_
  refine g_iastN C hk1 (by omega) (by first | decide | omega) dX4_setPlace_31 ?_
  refine g_vret C dX4_setPlace_32 ?_
  exact ⟨rfl, by simp only [sI_self, sI_sI]⟩
theorem sp_is {σ : St} {b n p : Nat} {P : Nat → Nat → Int32} {x y z : Int32} (hP : ∀ q, q < n → σ.1 (b + 1) (3 * q) = P q 0 ∧ σ.1 (b + 1) (3 * q + 1) = P q 1 ∧ σ.1 (b + 1) (3 * q + 2) = P q 2 ∧ σ.1 (b + 2) q = P q 3) (q : Nat) (hq : q < n ∨ q = p) :
    (upd (upd (upd (σ.1 (b + 1)) (3 * p) x) (3 * p + 1) y) (3 * p + 2) z) (3 * q) = (if q = p then x else P q 0) ∧ (upd (upd (upd (σ.1 (b + 1)) (3 * p) x) (3 * p + 1) y) (3 * p + 2) z) (3 * q + 1) = (if q = p then y else P q 1) ∧ (upd (upd (upd (σ.1 (b + 1)) (3 * p) x) (3 * p + 1) y) (3 * p + 2) z) (3 * q + 2) = (if q = p then z else P q 2) := by
  by_cases h : q = p
  · subst h
    refine ⟨?_, ?_, ?_⟩
    · rw [up_n (by omega), up_n (by omega), up_i, if_pos rfl]
    · rw [up_n (by omega), up_i, if_pos rfl]
    · rw [up_i, if_pos rfl]
  · obtain ⟨a1, a2, a3, -⟩ := hP q (by omega)
    refine ⟨?_, ?_, ?_⟩
    · rw [up_n (by omega), up_n (by omega), up_n (by omega), if_neg h, a1]
    · rw [up_n (by omega), up_n (by omega), up_n (by omega), if_neg h, a2]
    · rw [up_n (by omega), up_n (by omega), up_n (by omega), if_neg h, a3]
set_option maxHeartbeats 4000000 in
set_option maxRecDepth 100000 in
theorem c_X4_add {E : Ev} {d : Nat} {σ : St} {b n : Nat} {P : Nat → Nat → Int32} (h : ShIs σ b n P) (hn : n < 8) {x y z v : Int32} : Con E (d + 1) yX4_add cX4_add 6 ((Option.some FieldType.int)) [.ref (ev_a E b), .int x, .int y, .int z, .int v] σ (ShTo (some (.int (nI n))) σ b (n + 1) (pAdd P n x y z v)) := by
  refine con_of (by decide) (Nat.le_of_ble_eq_true rfl) (fun X hX C => ?_)
  have C : Cx E X cX4_add RX4 6 ((Option.some FieldType.int)) := C
  obtain ⟨hk, h8, hsz, hk1, hk2, hP⟩ := id h
  show G E _ X _ _ _ 0 [(0, .ref (ev_a E b)), (1, .int x), (2, .int y), (3, .int z), (4, .int v)] []
  refine g_aload_n C dX4_add_0 rfl ?_
  refine gf_X4_size C hk dX4_add_1 kf_RX4_18 ?_
  rw [hsz]
  refine g_istore C dX4_add_4 (by decide) ?_
  refine g_aload_n C dX4_add_6 rfl ?_
  refine g_iload C dX4_add_7 rfl ?_
  refine g_iload_n C dX4_add_9 rfl ?_
  refine g_iload_n C dX4_add_10 rfl ?_
  refine g_iload_n C dX4_add_11 rfl ?_
  refine g_callVu C (ob_X4 hk) (c_X4_setPlace (d := d) hk hk1 (by omega)) dX4_add_12 km_RX4_28 kn_RX4 kc_yX4_setPlace ki_yX4_setPlace kx_yX4_setPlace (by omega) (by decide) ⟨by decide, by decide, rfl⟩ rfl (Nat.le_of_ble_eq_true rfl) ?_
  refine g_aload_n C dX4_add_15 rfl ?_
  refine gf_X4_marks C hk dX4_add_16 kf_RX4_15 ?_
  refine g_iload C dX4_add_19 rfl ?_
  refine g_iload C dX4_add_21 rfl ?_
  refine g_iastN C hk2 (by omega) (by first | decide | omega) dX4_add_23 ?_
  refine g_aload_n C dX4_add_24 rfl ?_
  refine g_dup C dX4_add_25 rfl ?_
  refine gf_X4_size C hk dX4_add_26 kf_RX4_18 ?_
  rw [sI_ne ne02, sI_ne ne01, hsz]
  refine g_ic (n := 1) C dX4_add_29 (by decide) ?_
  first | refine g_iaddN C dX4_add_30 ?_ | refine g_iadd C dX4_add_30 ?_
  refine gp_X4_size C hk dX4_add_31 kf_RX4_18 ?_
  refine g_iload C dX4_add_34 rfl ?_
  refine g_iret C dX4_add_36 ?_
  exact ⟨rfl, ⟨hk, by omega, by rw [sI_self, up_i], hk1, hk2, fun q hq => by
    rw [sI_ne ne10, sI_ne ne12, sI_self, sI_ne ne20, sI_self, sI_ne ne21]
    obtain ⟨e1, e2, e3⟩ := sp_is (x := x) (y := y) (z := z) hP q (by omega : q < n ∨ q = n)
    refine ⟨e1, e2, e3, ?_⟩
    by_cases hqn : q = n
    · subst hqn; rw [up_i]; simp [pAdd]
    · rw [up_n hqn, (hP q (by omega)).2.2.2]; simp [pAdd, hqn]⟩, ((Fr.rf.sI (by simp)).sI (by simp)).sI (by simp)⟩
set_option maxHeartbeats 4000000 in
set_option maxRecDepth 100000 in
theorem c_X4_remove {E : Ev} {d : Nat} {σ : St} {b n : Nat} {P : Nat → Nat → Int32} (h : ShIs σ b n P) {p : Nat} (hp : p < n) : Con E (d + 1) yX4_remove cX4_remove 3 ((Option.none : Option FieldType)) [.ref (ev_a E b), .int (nI p)] σ (ShTo none σ b (n - 1) (pDrop P p)) := by
  refine con_of (by decide) (Nat.le_of_ble_eq_true rfl) (fun X hX C => ?_)
  have C : Cx E X cX4_remove RX4 3 ((Option.none : Option FieldType)) := C
  obtain ⟨hk, h8, hsz, hk1, hk2, hP⟩ := id h
  show G E _ X _ _ _ 0 [(0, .ref (ev_a E b)), (1, .int (nI p))] []
  refine g_aload_n C dX4_remove_0 rfl ?_
  refine gf_X4_size C hk dX4_remove_1 kf_RX4_18 ?_
  rw [hsz]
  refine g_iload_n C dX4_remove_4 rfl ?_
  first | refine g_isubN C dX4_remove_5 (by omega) ?_ | refine g_isub C dX4_remove_5 ?_
  refine g_ic (n := 1) C dX4_remove_6 (by decide) ?_
  first | refine g_isubN C dX4_remove_7 (by omega) ?_ | refine g_isub C dX4_remove_7 ?_
  refine g_istore_n C dX4_remove_8 (by decide) ?_
  refine g_aload_n C dX4_remove_9 rfl ?_
  refine gf_X4_places C hk dX4_remove_10 kf_RX4_11 ?_
  refine g_ic (n := 3) C dX4_remove_13 (by decide) ?_
  refine g_iload_n C dX4_remove_14 rfl ?_
  first | refine g_imulN C dX4_remove_15 ?_ | refine g_imul C dX4_remove_15 ?_
  refine g_ic (n := 3) C dX4_remove_16 (by decide) ?_
  first | refine g_iaddN C dX4_remove_17 ?_ | refine g_iadd C dX4_remove_17 ?_
  refine g_aload_n C dX4_remove_18 rfl ?_
  refine gf_X4_places C hk dX4_remove_19 kf_RX4_11 ?_
  refine g_ic (n := 3) C dX4_remove_22 (by decide) ?_
  refine g_iload_n C dX4_remove_23 rfl ?_
  first | refine g_imulN C dX4_remove_24 ?_ | refine g_imul C dX4_remove_24 ?_
  refine g_ic (n := 3) C dX4_remove_25 (by decide) ?_
  refine g_iload_n C dX4_remove_26 rfl ?_
  first | refine g_imulN C dX4_remove_27 ?_ | refine g_imul C dX4_remove_27 ?_
  refine g_cpiN C hk1 hk1 (by omega) (by omega) (by decide) (by decide) km_RX4_22 (by omega) (Nat.le_of_ble_eq_true rfl) dX4_remove_28 ?_
  refine g_aload_n C dX4_remove_31 rfl ?_
  refine gf_X4_marks C hk dX4_remove_32 kf_RX4_15 ?_
  refine g_iload_n C dX4_remove_35 rfl ?_
  refine g_ic (n := 1) C dX4_remove_36 (by decide) ?_
  first | refine g_iaddN C dX4_remove_37 ?_ | refine g_iadd C dX4_remove_37 ?_
  refine g_aload_n C dX4_remove_38 rfl ?_
  refine gf_X4_marks C hk dX4_remove_39 kf_RX4_15 ?_
  refine g_iload_n C dX4_remove_42 rfl ?_
  refine g_iload_n C dX4_remove_43 rfl ?_
  refine g_cpiN C hk2 hk2 (by omega) (by omega) (by decide) (by decide) km_RX4_22 (by omega) (Nat.le_of_ble_eq_true rfl) dX4_remove_44 ?_
  refine g_aload_n C dX4_remove_47 rfl ?_
  refine g_dup C dX4_remove_48 rfl ?_
  refine gf_X4_size C hk dX4_remove_49 kf_RX4_18 ?_
  rw [sI_ne ne02, sI_ne ne01, hsz]
  refine g_ic (n := 1) C dX4_remove_52 (by decide) ?_
  first | refine g_isubN C dX4_remove_53 (by omega) ?_ | refine g_isub C dX4_remove_53 ?_
  refine gp_X4_size C hk dX4_remove_54 kf_RX4_18 ?_
  refine g_vret C dX4_remove_57 ?_
  exact ⟨rfl, ⟨hk, by omega, by rw [sI_self, up_i], hk1, hk2, fun q hq => by
    rw [sI_ne ne10, sI_ne ne12, sI_self, sI_ne ne20, sI_self, sI_ne ne21]
    have hf : ∀ q, q < n → σ.1 (b + 1) (3 * q) = P q 0 ∧ σ.1 (b + 1) (3 * q + 1) = P q 1 ∧ σ.1 (b + 1) (3 * q + 2) = P q 2 := fun q hq => ⟨(hP q hq).1, (hP q hq).2.1, (hP q hq).2.2.1⟩
    exact ⟨drop_pl hp hf q hq 0 (by decide), drop_pl hp hf q hq 1 (by decide), drop_pl hp hf q hq 2 (by decide), drop_mk hp (fun q hq => (hP q hq).2.2.2) q hq⟩⟩, ((Fr.rf.sI (by simp)).sI (by simp)).sI (by simp)⟩
set_option maxHeartbeats 4000000 in
set_option maxRecDepth 100000 in
theorem c_X4_become {E : Ev} {d : Nat} {σ : St} {b n : Nat} {P : Nat → Nat → Int32} (h : ShIs σ b n P) {j : Nat} (hj : kd j = (2, 0)) (hj1 : kd (j + 1) = (12, 24)) (hj2 : kd (j + 2) = (12, 8)) (ha : j + 2 < b ∨ b + 2 < j) : Con E (d + 1) yX4_become cX4_become 2 ((Option.none : Option FieldType)) [.ref (ev_a E j), .ref (ev_a E b)] σ (ShTo none σ j n P) := by
  refine con_of (by decide) (Nat.le_of_ble_eq_true rfl) (fun X hX C => ?_)
  have C : Cx E X cX4_become RX4 2 ((Option.none : Option FieldType)) := C
  obtain ⟨hk, h8, hsz, hk1, hk2, hP⟩ := id h
  show G E _ X _ _ _ 0 [(0, .ref (ev_a E j)), (1, .ref (ev_a E b))] []
  refine g_aload_n C dX4_become_0 rfl ?_
  refine gf_X4_places C hk dX4_become_1 kf_RX4_11 ?_
  refine g_ic (n := 0) C dX4_become_4 (by decide) ?_
  refine g_aload_n C dX4_become_5 rfl ?_
  refine gf_X4_places C hj dX4_become_6 kf_RX4_11 ?_
  refine g_ic (n := 0) C dX4_become_9 (by decide) ?_
  refine g_bp C (nI 24) dX4_become_10 (by decide) ?_
  refine g_cpiN C hk1 hj1 (by omega) (by omega) (by decide) (by decide) km_RX4_22 (by omega) (Nat.le_of_ble_eq_true rfl) dX4_become_12 ?_
  refine g_aload_n C dX4_become_15 rfl ?_
  refine gf_X4_marks C hk dX4_become_16 kf_RX4_15 ?_
  refine g_ic (n := 0) C dX4_become_19 (by decide) ?_
  refine g_aload_n C dX4_become_20 rfl ?_
  refine gf_X4_marks C hj dX4_become_21 kf_RX4_15 ?_
  refine g_ic (n := 0) C dX4_become_24 (by decide) ?_
  refine g_bp C (nI 8) dX4_become_25 (by decide) ?_
  refine g_cpiN C hk2 hj2 (by omega) (by omega) (by decide) (by decide) km_RX4_22 (by omega) (Nat.le_of_ble_eq_true rfl) dX4_become_27 ?_
  refine g_aload_n C dX4_become_30 rfl ?_
  refine g_aload_n C dX4_become_31 rfl ?_
  refine gf_X4_size C hk dX4_become_32 kf_RX4_18 ?_
  rw [sI_ne (show b ≠ j + 2 from by omega), sI_ne (show b ≠ j + 1 from by omega), hsz]
  refine gp_X4_size C hj dX4_become_35 kf_RX4_18 ?_
  refine g_vret C dX4_become_38 ?_
  exact ⟨rfl, ⟨hj, h8, by rw [sI_self, up_i], hj1, hj2, fun q hq => by
    rw [sI_ne ne10, sI_ne ne12, sI_self, sI_ne ne20, sI_self, sI_ne ne21, sI_ne (by omega)]
    unfold va_cpy
    obtain ⟨a1, a2, a3, a4⟩ := hP q hq
    simp only [Nat.zero_le, true_and, Nat.zero_add, Nat.sub_zero]
    rw [if_pos (by omega), if_pos (by omega), if_pos (by omega), if_pos (by omega)]
    exact ⟨a1, a2, a3, a4⟩⟩, ((Fr.rf.sI (by simp)).sI (by simp)).sI (by simp)⟩
set_option maxHeartbeats 4000000 in
set_option maxRecDepth 100000 in
theorem l_X4_markAll {E : Ev} {d : Nat} {X : Mx} (C : Cx E X cX4_markAll RX4 3 ((Option.none : Option FieldType))) {b n : Nat} {v : Int32} : ∀ (k : Nat) (i : Nat) (P : Nat → Nat → Int32) (σ : St), n = i + k → ShIs σ b n P → G E (d) X 3 (fun r σ2 => r = none ∧ ShIs σ2 b n (pFrom (rwAll v) P i) ∧ Fr [b, b + 1, b + 2] σ σ2) σ 2 ([(0, .ref (ev_a E b)), (1, .int v), (2, .int (nI i))]) [] := by
  intro k
  induction k with
  | zero =>
    intro i P σ hi h
    obtain ⟨hk, h8, hsz, hk1, hk2, hP⟩ := id h
    refine g_iload_n C dX4_markAll_2 rfl ?_
    refine g_aload_n C dX4_markAll_3 rfl ?_
    refine gf_X4_size C hk dX4_markAll_4 kf_RX4_18 ?_
    rw [hsz]
    first | refine g_icgeN C 23 dX4_markAll_7 (by decide) (by omega) (by omega) (fun h7 => ?_) (fun h7 => ?_) | refine g_icge C 23 dX4_markAll_7 (by decide) (fun h7 => ?_) (fun h7 => ?_)
    · refine g_vret C dX4_markAll_23 ?_
      exact ⟨rfl, h.to (fun p hp i _ => by rw [pFrom_end (by omega)]), Fr.rf⟩
    · omega
  | succ k ih =>
    intro i P σ hi h
    obtain ⟨hk, h8, hsz, hk1, hk2, hP⟩ := id h
    refine g_iload_n C dX4_markAll_2 rfl ?_
    refine g_aload_n C dX4_markAll_3 rfl ?_
    refine gf_X4_size C hk dX4_markAll_4 kf_RX4_18 ?_
    rw [hsz]
    first | refine g_icgeN C 23 dX4_markAll_7 (by decide) (by omega) (by omega) (fun h7 => ?_) (fun h7 => ?_) | refine g_icge C 23 dX4_markAll_7 (by decide) (fun h7 => ?_) (fun h7 => ?_)
    · omega
    · refine g_aload_n C dX4_markAll_10 rfl ?_
      refine gf_X4_marks C hk dX4_markAll_11 kf_RX4_15 ?_
      refine g_iload_n C dX4_markAll_14 rfl ?_
      refine g_iload_n C dX4_markAll_15 rfl ?_
      refine g_iastN C hk2 (by omega) (by first | decide | omega) dX4_markAll_16 ?_
      refine g_iinc1 C dX4_markAll_17 rfl (by decide) ?_
      refine g_goto C 2 dX4_markAll_20 (by decide) ?_
      refine g_loc ([(0, .ref (ev_a E b)), (1, .int v), (2, .int (nI (i + 1)))]) (And.intro rfl (And.intro rfl (And.intro rfl trivial))) ?_
      have h1 : ShIs (sI σ (b + 2) (upd (σ.1 (b + 2)) i v)) b n (pOne (rwAll v) P i) := ⟨hk, h8, by rw [sI_ne ne02]; exact hsz, hk1, hk2, fun p hp => by
        rw [sI_ne ne12, sI_self]
        obtain ⟨a1, a2, a3, a4⟩ := hP p hp
        by_cases e : p = i
        · subst e; rw [up_i]; simp [pOne, rwAll, a1, a2, a3]
        · rw [up_n e]; simp [pOne, e, a1, a2, a3, a4]⟩
      refine g_post (fun r σ2 q => ⟨q.1, by have e := q.2.1; rw [pFrom_one] at e; exact e, Fr.tr (Fr.rf.sI (by simp)) q.2.2⟩) (ih (i + 1) (pOne (rwAll v) P i) _ (by omega) h1)
set_option maxHeartbeats 4000000 in
set_option maxRecDepth 100000 in
theorem c_X4_markAll {E : Ev} {d : Nat} {σ : St} {b n : Nat} {P : Nat → Nat → Int32} (h : ShIs σ b n P) {v : Int32} : Con E (d) yX4_markAll cX4_markAll 3 ((Option.none : Option FieldType)) [.ref (ev_a E b), .int v] σ (ShTo none σ b n (pMap (rwAll v) P)) := by
  refine con_of (by decide) (Nat.le_of_ble_eq_true rfl) (fun X hX C => ?_)
  have C : Cx E X cX4_markAll RX4 3 ((Option.none : Option FieldType)) := C
  show G E _ X _ _ _ 0 [(0, .ref (ev_a E b)), (1, .int v)] []
  refine g_ic (n := 0) C dX4_markAll_0 (by decide) ?_
  refine g_istore_n C dX4_markAll_1 (by decide) ?_
  refine g_loc ([(0, .ref (ev_a E b)), (1, .int v), (2, .int (nI 0))]) (And.intro rfl (And.intro rfl (And.intro rfl trivial))) ?_
  exact g_post (fun r σ2 q => ⟨q.1, q.2.1, q.2.2⟩) (l_X4_markAll C n 0 P σ (by omega) h)
set_option maxHeartbeats 4000000 in
set_option maxRecDepth 100000 in
theorem l_X4_replaceMark {E : Ev} {d : Nat} {X : Mx} (C : Cx E X cX4_replaceMark RX4 3 ((Option.none : Option FieldType))) {b n : Nat} {v : Int32} : ∀ (k : Nat) (i : Nat) (P : Nat → Nat → Int32) (σ : St), n = i + k → ShIs σ b n P → G E (d) X 3 (fun r σ2 => r = none ∧ ShIs σ2 b n (pFrom (rwGone v) P i) ∧ Fr [b, b + 1, b + 2] σ σ2) σ 2 ([(0, .ref (ev_a E b)), (1, .int v), (2, .int (nI i))]) [] := by
  intro k
  induction k with
  | zero =>
    intro i P σ hi h
    obtain ⟨hk, h8, hsz, hk1, hk2, hP⟩ := id h
    refine g_iload_n C dX4_replaceMark_2 rfl ?_
    refine g_aload_n C dX4_replaceMark_3 rfl ?_
    refine gf_X4_size C hk dX4_replaceMark_4 kf_RX4_18 ?_
    rw [hsz]
    first | refine g_icgeN C 33 dX4_replaceMark_7 (by decide) (by omega) (by omega) (fun h7 => ?_) (fun h7 => ?_) | refine g_icge C 33 dX4_replaceMark_7 (by decide) (fun h7 => ?_) (fun h7 => ?_)
    · refine g_vret C dX4_replaceMark_33 ?_
      exact ⟨rfl, h.to (fun p hp i _ => by rw [pFrom_end (by omega)]), Fr.rf⟩
    · omega
  | succ k ih =>
    intro i P σ hi h
    obtain ⟨hk, h8, hsz, hk1, hk2, hP⟩ := id h
    refine g_iload_n C dX4_replaceMark_2 rfl ?_
    refine g_aload_n C dX4_replaceMark_3 rfl ?_
    refine gf_X4_size C hk dX4_replaceMark_4 kf_RX4_18 ?_
    rw [hsz]
    first | refine g_icgeN C 33 dX4_replaceMark_7 (by decide) (by omega) (by omega) (fun h7 => ?_) (fun h7 => ?_) | refine g_icge C 33 dX4_replaceMark_7 (by decide) (fun h7 => ?_) (fun h7 => ?_)
    · omega
    · refine g_aload_n C dX4_replaceMark_10 rfl ?_
      refine gf_X4_marks C hk dX4_replaceMark_11 kf_RX4_15 ?_
      refine g_iload_n C dX4_replaceMark_14 rfl ?_
      refine g_ialdN C hk2 (by omega) (by first | decide | omega) dX4_replaceMark_15 ?_
      rw [(hP i (by omega)).2.2.2]
      refine g_iload_n C dX4_replaceMark_16 rfl ?_
      refine g_icne C 27 dX4_replaceMark_17 (by decide) (fun h17 => ?_) (fun h17 => ?_)
      · refine g_iinc1 C dX4_replaceMark_27 rfl (by decide) ?_
        refine g_goto C 2 dX4_replaceMark_30 (by decide) ?_
        refine g_loc ([(0, .ref (ev_a E b)), (1, .int v), (2, .int (nI (i + 1)))]) (And.intro rfl (And.intro rfl (And.intro rfl trivial))) ?_
        have h1 : ShIs (σ) b n (pOne (rwGone v) P i) := h.to (fun p hp j hj => by
          by_cases e : p = i
          · subst e; simp [pOne, rwGone, h17]
          · simp [pOne, e])
        refine g_post (fun r σ2 q => ⟨q.1, by have e := q.2.1; rw [pFrom_one] at e; exact e, Fr.tr (Fr.rf) q.2.2⟩) (ih (i + 1) (pOne (rwGone v) P i) _ (by omega) h1)
      · refine g_aload_n C dX4_replaceMark_20 rfl ?_
        refine gf_X4_marks C hk dX4_replaceMark_21 kf_RX4_15 ?_
        refine g_iload_n C dX4_replaceMark_24 rfl ?_
        refine g_ic (n := 0) C dX4_replaceMark_25 (by decide) ?_
        refine g_iastN C hk2 (by omega) (by first | decide | omega) dX4_replaceMark_26 ?_
        refine g_iinc1 C dX4_replaceMark_27 rfl (by decide) ?_
        refine g_goto C 2 dX4_replaceMark_30 (by decide) ?_
        refine g_loc ([(0, .ref (ev_a E b)), (1, .int v), (2, .int (nI (i + 1)))]) (And.intro rfl (And.intro rfl (And.intro rfl trivial))) ?_
        have h1 : ShIs (sI σ (b + 2) (upd (σ.1 (b + 2)) i (nI 0))) b n (pOne (rwGone v) P i) := ⟨hk, h8, by rw [sI_ne ne02]; exact hsz, hk1, hk2, fun p hp => by
          rw [sI_ne ne12, sI_self]
          obtain ⟨a1, a2, a3, a4⟩ := hP p hp
          by_cases e : p = i
          · subst e; rw [up_i]; simp [pOne, rwGone, a1, a2, a3, h17]; rfl
          · rw [up_n e]; simp [pOne, e, a1, a2, a3, a4]⟩
        refine g_post (fun r σ2 q => ⟨q.1, by have e := q.2.1; rw [pFrom_one] at e; exact e, Fr.tr (Fr.rf.sI (by simp)) q.2.2⟩) (ih (i + 1) (pOne (rwGone v) P i) _ (by omega) h1)
set_option maxHeartbeats 4000000 in
set_option maxRecDepth 100000 in
theorem c_X4_replaceMark {E : Ev} {d : Nat} {σ : St} {b n : Nat} {P : Nat → Nat → Int32} (h : ShIs σ b n P) {v : Int32} : Con E (d) yX4_replaceMark cX4_replaceMark 3 ((Option.none : Option FieldType)) [.ref (ev_a E b), .int v] σ (ShTo none σ b n (pMap (rwGone v) P)) := by
  refine con_of (by decide) (Nat.le_of_ble_eq_true rfl) (fun X hX C => ?_)
  have C : Cx E X cX4_replaceMark RX4 3 ((Option.none : Option FieldType)) := C
  show G E _ X _ _ _ 0 [(0, .ref (ev_a E b)), (1, .int v)] []
  refine g_ic (n := 0) C dX4_replaceMark_0 (by decide) ?_
  refine g_istore_n C dX4_replaceMark_1 (by decide) ?_
  refine g_loc ([(0, .ref (ev_a E b)), (1, .int v), (2, .int (nI 0))]) (And.intro rfl (And.intro rfl (And.intro rfl trivial))) ?_
  exact g_post (fun r σ2 q => ⟨q.1, q.2.1, q.2.2⟩) (l_X4_replaceMark C n 0 P σ (by omega) h)
set_option maxHeartbeats 4000000 in
set_option maxRecDepth 100000 in
theorem l_X4_takeBy {E : Ev} {d : Nat} {X : Mx} (C : Cx E X cX4_takeBy RX4 3 ((Option.none : Option FieldType))) {b n : Nat} {a : Nat} (ha : a < 48) : ∀ (k : Nat) (i : Nat) (P : Nat → Nat → Int32) (σ : St), n = i + k → ShIs σ b n P → G E (d + 2) X 3 (fun r σ2 => r = none ∧ ShIs σ2 b n (pFrom (rwTake a) P i) ∧ Fr [b, b + 1, b + 2] σ σ2) σ 2 ([(0, .ref (ev_a E b)), (1, .int (nI a)), (2, .int (nI i))]) [] := by
  intro k
  induction k with
  | zero =>
    intro i P σ hi h
    obtain ⟨hk, h8, hsz, hk1, hk2, hP⟩ := id h
    refine g_iload_n C dX4_takeBy_2 rfl ?_
    refine g_aload_n C dX4_takeBy_3 rfl ?_
    refine gf_X4_size C hk dX4_takeBy_4 kf_RX4_18 ?_
    rw [hsz]
    first | refine g_icgeN C 42 dX4_takeBy_7 (by decide) (by omega) (by omega) (fun h7 => ?_) (fun h7 => ?_) | refine g_icge C 42 dX4_takeBy_7 (by decide) (fun h7 => ?_) (fun h7 => ?_)
    · refine g_vret C dX4_takeBy_42 ?_
      exact ⟨rfl, h.to (fun p hp i _ => by rw [pFrom_end (by omega)]), Fr.rf⟩
    · omega
  | succ k ih =>
    intro i P σ hi h
    obtain ⟨hk, h8, hsz, hk1, hk2, hP⟩ := id h
    refine g_iload_n C dX4_takeBy_2 rfl ?_
    refine g_aload_n C dX4_takeBy_3 rfl ?_
    refine gf_X4_size C hk dX4_takeBy_4 kf_RX4_18 ?_
    rw [hsz]
    first | refine g_icgeN C 42 dX4_takeBy_7 (by decide) (by omega) (by omega) (fun h7 => ?_) (fun h7 => ?_) | refine g_icge C 42 dX4_takeBy_7 (by decide) (fun h7 => ?_) (fun h7 => ?_)
    · omega
    · refine g_aload_n C dX4_takeBy_10 rfl ?_
      refine g_iload_n C dX4_takeBy_11 rfl ?_
      refine g_aload_n C dX4_takeBy_12 rfl ?_
      refine g_iload_n C dX4_takeBy_13 rfl ?_
      refine g_iload_n C dX4_takeBy_14 rfl ?_
      refine g_ic (n := 0) C dX4_takeBy_15 (by decide) ?_
      refine g_callVp C (ob_X4 hk) (c_X4_axisBehind (d := d) h (by first | assumption | omega) (by first | assumption | omega) (by omega)) dX4_takeBy_16 km_RX4_41 kn_RX4 kc_yX4_axisBehind ki_yX4_axisBehind kx_yX4_axisBehind (by omega) (by decide) ⟨by decide, by decide, rfl⟩ rfl (Nat.le_of_ble_eq_true rfl) ?_
      refine g_aload_n C dX4_takeBy_19 rfl ?_
      refine g_iload_n C dX4_takeBy_20 rfl ?_
      refine g_iload_n C dX4_takeBy_21 rfl ?_
      refine g_ic (n := 1) C dX4_takeBy_22 (by decide) ?_
      refine g_callVp C (ob_X4 hk) (c_X4_axisBehind (d := d) h (by first | assumption | omega) (by first | assumption | omega) (by omega)) dX4_takeBy_23 km_RX4_41 kn_RX4 kc_yX4_axisBehind ki_yX4_axisBehind kx_yX4_axisBehind (by omega) (by decide) ⟨by decide, by decide, rfl⟩ rfl (Nat.le_of_ble_eq_true rfl) ?_
      refine g_aload_n C dX4_takeBy_26 rfl ?_
      refine g_iload_n C dX4_takeBy_27 rfl ?_
      refine g_iload_n C dX4_takeBy_28 rfl ?_
      refine g_ic (n := 2) C dX4_takeBy_29 (by decide) ?_
      refine g_callVp C (ob_X4 hk) (c_X4_axisBehind (d := d) h (by first | assumption | omega) (by first | assumption | omega) (by omega)) dX4_takeBy_30 km_RX4_41 kn_RX4 kc_yX4_axisBehind ki_yX4_axisBehind kx_yX4_axisBehind (by omega) (by decide) ⟨by decide, by decide, rfl⟩ rfl (Nat.le_of_ble_eq_true rfl) ?_
      refine g_callVu C (ob_X4 hk) (c_X4_setPlace (d := d) hk hk1 (by omega)) dX4_takeBy_33 km_RX4_28 kn_RX4 kc_yX4_setPlace ki_yX4_setPlace kx_yX4_setPlace (by omega) (by decide) ⟨by decide, by decide, rfl⟩ rfl (Nat.le_of_ble_eq_true rfl) ?_
      refine g_iinc1 C dX4_takeBy_36 rfl (by decide) ?_
      refine g_goto C 2 dX4_takeBy_39 (by decide) ?_
      refine g_loc ([(0, .ref (ev_a E b)), (1, .int (nI a)), (2, .int (nI (i + 1)))]) (And.intro rfl (And.intro rfl (And.intro rfl trivial))) ?_
      have h1 : ShIs (sI σ (b + 1) (upd (upd (upd (σ.1 (b + 1)) (3 * i) (cxr (P i) a 0)) (3 * i + 1) (cxr (P i) a 1)) (3 * i + 2) (cxr (P i) a 2))) b n (pOne (rwTake a) P i) := ⟨hk, h8, by rw [sI_ne ne01]; exact hsz, hk1, hk2, fun p hp => by
        rw [sI_self, sI_ne ne21]
        obtain ⟨e1, e2, e3⟩ := sp_is (x := cxr (P i) a 0) (y := cxr (P i) a 1) (z := cxr (P i) a 2) (p := i) hP p (by omega : p < n ∨ p = i)
        rw [e1, e2, e3, (hP p hp).2.2.2]
        by_cases e : p = i
        · subst e; simp [pOne, rwTake]
        · simp [pOne, e]⟩
      refine g_post (fun r σ2 q => ⟨q.1, by have e := q.2.1; rw [pFrom_one] at e; exact e, Fr.tr (Fr.rf.sI (by simp)) q.2.2⟩) (ih (i + 1) (pOne (rwTake a) P i) _ (by omega) h1)
set_option maxHeartbeats 4000000 in
set_option maxRecDepth 100000 in
theorem c_X4_takeBy {E : Ev} {d : Nat} {σ : St} {b n : Nat} {P : Nat → Nat → Int32} (h : ShIs σ b n P) {a : Nat} (ha : a < 48) : Con E (d + 2) yX4_takeBy cX4_takeBy 3 ((Option.none : Option FieldType)) [.ref (ev_a E b), .int (nI a)] σ (ShTo none σ b n (pMap (rwTake a) P)) := by
  refine con_of (by decide) (Nat.le_of_ble_eq_true rfl) (fun X hX C => ?_)
  have C : Cx E X cX4_takeBy RX4 3 ((Option.none : Option FieldType)) := C
  show G E _ X _ _ _ 0 [(0, .ref (ev_a E b)), (1, .int (nI a))] []
  refine g_ic (n := 0) C dX4_takeBy_0 (by decide) ?_
  refine g_istore_n C dX4_takeBy_1 (by decide) ?_
  refine g_loc ([(0, .ref (ev_a E b)), (1, .int (nI a)), (2, .int (nI 0))]) (And.intro rfl (And.intro rfl (And.intro rfl trivial))) ?_
  exact g_post (fun r σ2 q => ⟨q.1, q.2.1, q.2.2⟩) (l_X4_takeBy C ha n 0 P σ (by omega) h)
/-- what happens: of n POINTS by P -/
def hapN (n w t : Nat) : Nat := if w = 0 ∧ t < n then n - 1 else n
def hapP (P : Nat → Nat → Int32) (n w t : Nat) : Nat → Nat → Int32 := match w with
  | 0 => if t < n then pDrop P t else P
  | 1 => pMap (rwGone (nI t)) P
  | 2 => pMap (rwTake t) P
  | _ => pMap (rwAll (nI t)) P
set_option maxHeartbeats 4000000 in
set_option maxRecDepth 100000 in
theorem c_X4_happen {E : Ev} {d : Nat} {σ : St} {b n : Nat} {P : Nat → Nat → Int32} (h : ShIs σ b n P) {w t : Nat} (hw : w < 4) (ht : w = 2 → t < 48) (htn : t < 48) : Con E (d + 3) yX4_happen cX4_happen 3 ((Option.none : Option FieldType)) [.ref (ev_a E b), .int (nI w), .int (nI t)] σ (ShTo none σ b (hapN n w t) (hapP P n w t)) := by
  refine con_of (by decide) (Nat.le_of_ble_eq_true rfl) (fun X hX C => ?_)
  have C : Cx E X cX4_happen RX4 3 ((Option.none : Option FieldType)) := C
  obtain ⟨hk, h8, hsz, hk1, hk2, hP⟩ := id h
  show G E _ X _ _ _ 0 [(0, .ref (ev_a E b)), (1, .int (nI w)), (2, .int (nI t))] []
  have hw4 : w = 0 ∨ w = 1 ∨ w = 2 ∨ w = 3 := by omega
  rcases hw4 with rfl | rfl | rfl | rfl
  · refine g_iload_n C dX4_happen_0 rfl ?_
    refine g_tsIn C 28 dX4_happen_1 (by decide) (by decide) rfl (by decide) ?_
    refine g_iload_n C dX4_happen_28 rfl ?_
    refine g_aload_n C dX4_happen_29 rfl ?_
    refine gf_X4_size C hk dX4_happen_30 kf_RX4_18 ?_
    rw [hsz]
    first | refine g_icgeN C 65 dX4_happen_33 (by decide) (by omega) (by omega) (fun h33 => ?_) (fun h33 => ?_) | refine g_icge C 65 dX4_happen_33 (by decide) (fun h33 => ?_) (fun h33 => ?_)
    · refine g_vret C dX4_happen_65 ?_
      refine ⟨rfl, ?_⟩
      first | (show ShIs _ b (hapN n 0 t) (hapP P n 0 t) ∧ _; rw [hapN, if_pos ⟨rfl, by assumption⟩, hapP, if_pos (by assumption)]; exact q1) | (rw [hapN, if_neg (by omega), hapP, if_neg (by omega)]; exact ⟨h, Fr.rf⟩)
    · refine g_aload_n C dX4_happen_36 rfl ?_
      refine g_iload_n C dX4_happen_37 rfl ?_
      refine g_callV C (ob_X4 hk) (c_X4_remove (d := d) h (by omega)) dX4_happen_38 km_RX4_59 kn_RX4 kc_yX4_remove ki_yX4_remove kx_yX4_remove (by omega) (by decide) ⟨by decide, by decide, rfl⟩ rfl (Nat.le_of_ble_eq_true rfl) (fun r1 σ1 q1 => ?_)
      obtain ⟨rfl, q1⟩ := q1
      refine g_goto C 65 dX4_happen_41 (by decide) ?_
      refine g_vret C dX4_happen_65 ?_
      refine ⟨rfl, ?_⟩
      first | (show ShIs _ b (hapN n 0 t) (hapP P n 0 t) ∧ _; rw [hapN, if_pos ⟨rfl, by assumption⟩, hapP, if_pos (by assumption)]; exact q1) | (rw [hapN, if_neg (by omega), hapP, if_neg (by omega)]; exact ⟨h, Fr.rf⟩)
  · refine g_iload_n C dX4_happen_0 rfl ?_
    refine g_tsIn C 44 dX4_happen_1 (by decide) (by decide) rfl (by decide) ?_
    refine g_aload_n C dX4_happen_44 rfl ?_
    refine g_iload_n C dX4_happen_45 rfl ?_
    refine g_callV C (ob_X4 hk) (c_X4_replaceMark (d := d) h) dX4_happen_46 km_RX4_63 kn_RX4 kc_yX4_replaceMark ki_yX4_replaceMark kx_yX4_replaceMark (by omega) (by decide) ⟨by decide, by decide, rfl⟩ rfl (Nat.le_of_ble_eq_true rfl) (fun r1 σ1 q1 => ?_)
    obtain ⟨rfl, q1⟩ := q1
    refine g_goto C 65 dX4_happen_49 (by decide) ?_
    refine g_vret C dX4_happen_65 ?_
    exact ⟨rfl, q1⟩
  · refine g_iload_n C dX4_happen_0 rfl ?_
    refine g_tsIn C 52 dX4_happen_1 (by decide) (by decide) rfl (by decide) ?_
    refine g_aload_n C dX4_happen_52 rfl ?_
    refine g_iload_n C dX4_happen_53 rfl ?_
    refine g_callV C (ob_X4 hk) (c_X4_takeBy (d := d) h (by omega)) dX4_happen_54 km_RX4_66 kn_RX4 kc_yX4_takeBy ki_yX4_takeBy kx_yX4_takeBy (by omega) (by decide) ⟨by decide, by decide, rfl⟩ rfl (Nat.le_of_ble_eq_true rfl) (fun r1 σ1 q1 => ?_)
    obtain ⟨rfl, q1⟩ := q1
    refine g_goto C 65 dX4_happen_57 (by decide) ?_
    refine g_vret C dX4_happen_65 ?_
    exact ⟨rfl, q1⟩
  · refine g_iload_n C dX4_happen_0 rfl ?_
    refine g_tsOut C 60 dX4_happen_1 (by decide) (by decide) ?_
    refine g_aload_n C dX4_happen_60 rfl ?_
    refine g_iload_n C dX4_happen_61 rfl ?_
    refine g_callV C (ob_X4 hk) (c_X4_markAll (d := d) h) dX4_happen_62 km_RX4_69 kn_RX4 kc_yX4_markAll ki_yX4_markAll kx_yX4_markAll (by omega) (by decide) ⟨by decide, by decide, rfl⟩ rfl (Nat.le_of_ble_eq_true rfl) (fun r1 σ1 q1 => ?_)
    obtain ⟨rfl, q1⟩ := q1
    refine g_vret C dX4_happen_65 ?_
    exact ⟨rfl, q1⟩
