/-! THE REFERENCE: points, what a move does, the moves that keep, classes, orbits -/
/-- the points stand in w -/
def PIs (σ : St) (n : Nat) (P : Nat → Nat → Int32) : Prop := n ≤ 8 ∧ σ.1 65 0 = nI n ∧ ∀ p, p < n → ∀ i, i < 4 → σ.1 65 (1 + 4 * p + i) = P p i
theorem PIs.a0 {σ : St} {n p : Nat} {P : Nat → Nat → Int32} (h : PIs σ n P) (hp : p < n) : σ.1 65 (1 + 4 * p) = P p 0 := h.2.2 p hp 0 (by decide)
theorem PIs.go {σ σ' : St} {n : Nat} {P : Nat → Nat → Int32} {l : List Nat} (h : PIs σ n P) (hF : Fr l σ σ') (h0 : 65 ∉ l) : PIs σ' n P := ⟨h.1, by rw [(hF _ h0).1]; exact h.2.1, fun p hp i hi => by rw [(hF _ h0).1]; exact h.2.2 p hp i hi⟩
/-- nothing but the cells of l, and of the reference's own fields those of fs, is otherwise -/
def Fk (fs l : List Nat) (σ σ' : St) : Prop := Fr (64 :: l) σ σ' ∧ ∀ q, q ∉ fs → σ'.1 64 q = σ.1 64 q
theorem Fk.rf {fs l : List Nat} {σ : St} : Fk fs l σ σ := ⟨Fr.rf, fun _ _ => rfl⟩
theorem Fk.tr {fs l : List Nat} {σ σ1 σ2 : St} (h : Fk fs l σ σ1) (h2 : Fk fs l σ1 σ2) : Fk fs l σ σ2 := ⟨h.1.tr h2.1, fun q hq => (h2.2 q hq).trans (h.2 q hq)⟩
theorem Fk.mono {fs fs' l l' : List Nat} {σ σ1 : St} (h : Fk fs l σ σ1) (hf : ∀ c, c ∈ fs → c ∈ fs') (hl : ∀ c, c ∈ l → c ∈ l') : Fk fs' l' σ σ1 := ⟨h.1.mono (fun c hc => by rcases List.mem_cons.mp hc with e | e; exact e ▸ List.mem_cons_self; exact List.mem_cons_of_mem _ (hl c e)), fun q hq => h.2 q (fun w => hq (hf q w))⟩
theorem Fk.sI {fs l : List Nat} {σ σ1 : St} {c : Nat} {f : Nat → Int32} (h : Fk fs l σ σ1) (hc : c ∈ l) (h6 : c ≠ 64) : Fk fs l σ (sI σ1 c f) := ⟨h.1.sI (List.mem_cons_of_mem _ hc), fun q hq => by rw [sI_ne (fun e => h6 e.symm)]; exact h.2 q hq⟩
def setF (σ : St) (b c : Nat) (x : Int32) : St := sI σ b (upd (σ.1 b) c x)
theorem Fk.sF {fs l : List Nat} {σ σ1 : St} {c : Nat} {x : Int32} (h : Fk fs l σ σ1) (hc : c ∈ fs) : Fk fs l σ (setF σ1 64 c x) := ⟨h.1.sI List.mem_cons_self, fun q hq => by unfold setF; rw [sI_self, up_n (fun e => hq (by rw [e]; exact hc))]; exact h.2 q hq⟩
/-- the moves found stand in group -/
def GmB (σ : St) (L : List Nat) : Prop := Lok L ∧ σ.1 64 6 = nI L.length ∧ ∀ j, j < L.length → σ.1 68 j = nI (lg L j)
theorem GmB.go {σ σ' : St} {L : List Nat} {fs l : List Nat} (h : GmB σ L) (hF : Fk fs l σ σ') (h0 : 68 ∉ l) (h6 : 6 ∉ fs) : GmB σ' L := ⟨h.1, by rw [hF.2 6 h6]; exact h.2.1, fun j hj => by rw [(hF.1 68 (by simp [h0])).1]; exact h.2.2 j hj⟩
def IiB (σ : St) (n : Nat) (P : Nat → Nat → Int32) : Prop := ∀ q, q < 48 → σ.1 69 q = bI (kpt P n q)
theorem mc_kp {P : Nat → Nat → Int32} {n m : Nat} : ∀ (k i c : Nat), c ≤ mcL P n m k i c ∧ (mcL P n m k i c = c ↔ kpL P n m k i = true) := by
  intro k
  induction k with
  | zero => intro i c; exact ⟨Nat.le_refl _, fun _ => rfl, fun _ => rfl⟩
  | succ k ih =>
    intro i c
    unfold mcL kpL
    by_cases h : mvd P n m i = true
    · rw [if_pos h, if_pos h]
      have := (ih (i + 1) (c + 1)).1
      exact ⟨by omega, fun q => by omega, fun q => absurd q (by decide)⟩
    · rw [if_neg h, if_neg h]
      exact ih (i + 1) c
theorem mv_kp {P : Nat → Nat → Int32} {n m : Nat} : mvN P n m = 0 ↔ kpt P n m = true := (mc_kp n 0 0).2
theorem min_nI {a b : Nat} (ha : a < 2 ^ 31) (hb : b < 2 ^ 31) : (if nI b < nI a then nI b else nI a) = nI (if b < a then b else a) := by
  by_cases h : b < a
  · rw [if_pos h, if_pos ((nI_ltI hb ha).mpr h)]
  · rw [if_neg h, if_neg (fun q => h ((nI_ltI hb ha).mp q))]
def lsL (L : List Nat) (m : Nat) : Nat → Nat → Nat → Nat
  | 0, _, a => a
  | k + 1, i, a => lsL L m k (i + 1) (if cjN (lg L i) m < a then cjN (lg L i) m else a)
/-- the least of a move's class -/
def lsN (L : List Nat) (m : Nat) : Nat := lsL L m L.length 0 m
theorem lsL_lt {L : List Nat} {m : Nat} : ∀ (k i a : Nat), a < 48 → lsL L m k i a < 48 := by
  intro k
  induction k with
  | zero => intro i a h; exact h
  | succ k ih => intro i a h; unfold lsL; exact ih _ _ (by split <;> omega)
theorem lsN_lt {L : List Nat} {m : Nat} (h : m < 48) : lsN L m < 48 := lsL_lt _ _ _ h
def cmL (L : List Nat) (c : Nat) : Nat → Nat → Nat → Nat
  | 0, _, n => n
  | k + 1, i, n => cmL L c k (i + 1) (if lsN L (lg L i) = c then n + 1 else n)
def cnL (L : List Nat) (x : Int32) : Nat → Nat → Nat → Int32
  | 0, _, n => -1 - nI n
  | k + 1, i, n => if lsN L (lg L i) = lg L i then (if nI n = x then nI (lg L i) else cnL L x k (i + 1) (n + 1)) else cnL L x k (i + 1) n
theorem tu_1 : ∀ m, m < 48 → (tuI m = 1 ↔ ¬ tuI m = -1) := by decide +kernel
theorem bI_and (a b : Bool) : bI a &&& bI b = bI (a && b) := by cases a <;> cases b <;> rfl

theorem n1_64 {n : Nat} (hn : n ≤ 8) : (nI n - nI 1).toInt64.toInt = (n : Int) - 1 := by
  rw [x64]
  rcases (show n = 0 ∨ n = 1 ∨ n = 2 ∨ n = 3 ∨ n = 4 ∨ n = 5 ∨ n = 6 ∨ n = 7 ∨ n = 8 from by omega) with rfl | rfl | rfl | rfl | rfl | rfl | rfl | rfl | rfl <;> decide

set_option maxHeartbeats 4000000 in
set_option maxRecDepth 100000 in
theorem c_X8_isPoint {E : Ev} {d : Nat} {σ : St} {n : Nat} {P : Nat → Nat → Int32} (h : PIs σ n P) {x : Int32} : Con E (d + 1) yX8_isPoint cX8_isPoint 2 ((Option.some FieldType.boolean)) [.ref (ev_a E 64), .int x] σ (Det (some (.int (bI (hpB n x)))) σ) := by
  refine con_of (by decide) (Nat.le_of_ble_eq_true rfl) (fun X hX C => ?_)
  have C : Cx E X cX8_isPoint RX8 2 ((Option.some FieldType.boolean)) := C
  show G E _ X _ _ _ 0 [(0, .ref (ev_a E 64)), (1, .int x)] []
  refine g_iload_n C dX8_isPoint_0 rfl ?_
  refine g_i2l C _ dX8_isPoint_1 rfl ?_
  refine g_lc (v := 0) C dX8_isPoint_2 (by decide) ?_
  refine g_aload_n C dX8_isPoint_3 rfl ?_
  refine gf_X8_w C (by rfl) dX8_isPoint_4 kf_RX8_11 ?_
  refine g_ic (n := 0) C dX8_isPoint_7 (by decide) ?_
  refine g_ialdN C (by rfl) (by omega) (by first | decide | omega) dX8_isPoint_8 ?_
  rw [h.2.1]
  refine g_ic (n := 1) C dX8_isPoint_9 (by decide) ?_
  refine g_isub C dX8_isPoint_10 ?_
  refine g_i2l C _ dX8_isPoint_11 rfl ?_
  refine g_callSp C (c_X8_in (d := d) (0) ((n : Int) - 1) (by decide) (n1_64 h.1)) dX8_isPoint_12 km_RX8_56 kn_RX8 kc_yX8_in ks_yX8_in (by omega) (by decide) ⟨by decide, by decide, rfl⟩ rfl (Nat.le_of_ble_eq_true rfl) ?_
  refine g_zret C (by first | exact bI_01 _ | exact Or.inl rfl | exact Or.inr rfl) dX8_isPoint_15 ?_
  exact ⟨congrArg (fun v => some (Value.int v)) (by rw [hp_in (by have := h.1; omega)]), rfl⟩

set_option maxHeartbeats 4000000 in
set_option maxRecDepth 100000 in
theorem l_X8_pointAt {E : Ev} {d : Nat} {X : Mx} (C : Cx E X cX8_pointAt RX8 6 ((Option.some FieldType.int))) {σ : St} {n : Nat} {P : Nat → Nat → Int32} (h : PIs σ n P) {x y z : Int32} : ∀ (k : Nat) (i : Nat), n = i + k → G E d X 6 (Det (some (.int (oI (ptL P x y z k i)))) σ) σ 3 ([(0, .ref (ev_a E 64)), (1, .int x), (2, .int y), (3, .int z), (4, .int (nI i))]) [] := by
  intro k
  induction k with
  | zero =>
    intro i hi
    have h8 := h.1
    refine g_iload C dX8_pointAt_3 rfl ?_
    refine g_aload_n C dX8_pointAt_5 rfl ?_
    refine gf_X8_w C (by rfl) dX8_pointAt_6 kf_RX8_11 ?_
    refine g_ic (n := 0) C dX8_pointAt_9 (by decide) ?_
    refine g_ialdN C (by rfl) (by omega) (by first | decide | omega) dX8_pointAt_10 ?_
    rw [h.2.1]
    first | refine g_icgeN C 68 dX8_pointAt_11 (by decide) (by omega) (by omega) (fun h11 => ?_) (fun h11 => ?_) | refine g_icge C 68 dX8_pointAt_11 (by decide) (fun h11 => ?_) (fun h11 => ?_)
    · refine g_bp C (-5) dX8_pointAt_68 (by decide) ?_
      refine g_iret C dX8_pointAt_70 ?_
      exact ⟨congrArg (fun v => some (Value.int v)) (rfl), rfl⟩
    · omega
  | succ k ih =>
    intro i hi
    have h8 := h.1
    refine g_iload C dX8_pointAt_3 rfl ?_
    refine g_aload_n C dX8_pointAt_5 rfl ?_
    refine gf_X8_w C (by rfl) dX8_pointAt_6 kf_RX8_11 ?_
    refine g_ic (n := 0) C dX8_pointAt_9 (by decide) ?_
    refine g_ialdN C (by rfl) (by omega) (by first | decide | omega) dX8_pointAt_10 ?_
    rw [h.2.1]
    first | refine g_icgeN C 68 dX8_pointAt_11 (by decide) (by omega) (by omega) (fun h11 => ?_) (fun h11 => ?_) | refine g_icge C 68 dX8_pointAt_11 (by decide) (fun h11 => ?_) (fun h11 => ?_)
    · omega
    · refine g_ic (n := 1) C dX8_pointAt_14 (by decide) ?_
      refine g_ic (n := 4) C dX8_pointAt_15 (by decide) ?_
      refine g_iload C dX8_pointAt_16 rfl ?_
      first | refine g_imulN C dX8_pointAt_18 ?_ | refine g_imul C dX8_pointAt_18 ?_
      first | refine g_iaddN C dX8_pointAt_19 ?_ | refine g_iadd C dX8_pointAt_19 ?_
      refine g_istore C dX8_pointAt_20 (by decide) ?_
      refine g_aload_n C dX8_pointAt_22 rfl ?_
      refine gf_X8_w C (by rfl) dX8_pointAt_23 kf_RX8_11 ?_
      refine g_iload C dX8_pointAt_26 rfl ?_
      refine g_ialdN C (by rfl) (by omega) (by first | decide | omega) dX8_pointAt_28 ?_
      rw [h.a0 (by omega)]
      refine g_iload_n C dX8_pointAt_29 rfl ?_
      refine g_icne C 62 dX8_pointAt_30 (by decide) (fun h30 => ?_) (fun h30 => ?_)
      · refine g_iinc1 C dX8_pointAt_62 rfl (by decide) ?_
        refine g_goto C 3 dX8_pointAt_65 (by decide) ?_
        refine g_loc ([(0, .ref (ev_a E 64)), (1, .int x), (2, .int y), (3, .int z), (4, .int (nI (i + 1)))]) (And.intro rfl (And.intro rfl (And.intro rfl (And.intro rfl (And.intro rfl trivial))))) ?_
        rw [show ptL P x y z (k + 1) i = ptL P x y z k (i + 1) from by simp [ptL, h11, h30]]
        exact ih (i + 1) (by omega)
      · refine g_aload_n C dX8_pointAt_33 rfl ?_
        refine gf_X8_w C (by rfl) dX8_pointAt_34 kf_RX8_11 ?_
        refine g_iload C dX8_pointAt_37 rfl ?_
        refine g_ic (n := 1) C dX8_pointAt_39 (by decide) ?_
        first | refine g_iaddN C dX8_pointAt_40 ?_ | refine g_iadd C dX8_pointAt_40 ?_
        refine g_ialdN C (by rfl) (by omega) (by first | decide | omega) dX8_pointAt_41 ?_
        rw [h.2.2 i (by omega) 1 (by decide)]
        refine g_iload_n C dX8_pointAt_42 rfl ?_
        refine g_icne C 62 dX8_pointAt_43 (by decide) (fun h43 => ?_) (fun h43 => ?_)
        · refine g_iinc1 C dX8_pointAt_62 rfl (by decide) ?_
          refine g_goto C 3 dX8_pointAt_65 (by decide) ?_
          refine g_loc ([(0, .ref (ev_a E 64)), (1, .int x), (2, .int y), (3, .int z), (4, .int (nI (i + 1)))]) (And.intro rfl (And.intro rfl (And.intro rfl (And.intro rfl (And.intro rfl trivial))))) ?_
          rw [show ptL P x y z (k + 1) i = ptL P x y z k (i + 1) from by simp [ptL, h11, h30, h43]]
          exact ih (i + 1) (by omega)
        · refine g_aload_n C dX8_pointAt_46 rfl ?_
          refine gf_X8_w C (by rfl) dX8_pointAt_47 kf_RX8_11 ?_
          refine g_iload C dX8_pointAt_50 rfl ?_
          refine g_ic (n := 2) C dX8_pointAt_52 (by decide) ?_
          first | refine g_iaddN C dX8_pointAt_53 ?_ | refine g_iadd C dX8_pointAt_53 ?_
          refine g_ialdN C (by rfl) (by omega) (by first | decide | omega) dX8_pointAt_54 ?_
          rw [h.2.2 i (by omega) 2 (by decide)]
          refine g_iload_n C dX8_pointAt_55 rfl ?_
          refine g_icne C 62 dX8_pointAt_56 (by decide) (fun h56 => ?_) (fun h56 => ?_)
          · refine g_iinc1 C dX8_pointAt_62 rfl (by decide) ?_
            refine g_goto C 3 dX8_pointAt_65 (by decide) ?_
            refine g_loc ([(0, .ref (ev_a E 64)), (1, .int x), (2, .int y), (3, .int z), (4, .int (nI (i + 1)))]) (And.intro rfl (And.intro rfl (And.intro rfl (And.intro rfl (And.intro rfl trivial))))) ?_
            rw [show ptL P x y z (k + 1) i = ptL P x y z k (i + 1) from by simp [ptL, h11, h30, h43, h56]]
            exact ih (i + 1) (by omega)
          · refine g_iload C dX8_pointAt_59 rfl ?_
            refine g_iret C dX8_pointAt_61 ?_
            exact ⟨congrArg (fun v => some (Value.int v)) (by simp [ptL, oI, h30, h43, h56]), rfl⟩

set_option maxHeartbeats 4000000 in
set_option maxRecDepth 100000 in
theorem c_X8_pointAt {E : Ev} {d : Nat} {σ : St} {n : Nat} {P : Nat → Nat → Int32} (h : PIs σ n P) {x y z : Int32} : Con E (d) yX8_pointAt cX8_pointAt 6 ((Option.some FieldType.int)) [.ref (ev_a E 64), .int x, .int y, .int z] σ (Det (some (.int (oI (ptL P x y z n 0)))) σ) := by
  refine con_of (by decide) (Nat.le_of_ble_eq_true rfl) (fun X hX C => ?_)
  have C : Cx E X cX8_pointAt RX8 6 ((Option.some FieldType.int)) := C
  show G E _ X _ _ _ 0 [(0, .ref (ev_a E 64)), (1, .int x), (2, .int y), (3, .int z)] []
  refine g_ic (n := 0) C dX8_pointAt_0 (by decide) ?_
  refine g_istore C dX8_pointAt_1 (by decide) ?_
  refine g_loc ([(0, .ref (ev_a E 64)), (1, .int x), (2, .int y), (3, .int z), (4, .int (nI 0))]) (And.intro rfl (And.intro rfl (And.intro rfl (And.intro rfl (And.intro rfl trivial))))) ?_
  exact l_X8_pointAt C h n 0 (by omega)

set_option maxHeartbeats 4000000 in
set_option maxRecDepth 100000 in
theorem c_X8_moved {E : Ev} {d : Nat} {σ : St} {n : Nat} {P : Nat → Nat → Int32} (h : PIs σ n P) {a p i : Nat} (ha : a < 48) (hp : p < n) (hi : i < 3) : Con E (d + 5) yX8_moved cX8_moved 5 ((Option.some FieldType.int)) [.ref (ev_a E 64), .int (nI a), .int (nI p), .int (nI i)] σ (Det (some (.int (cxr (P p) a i))) σ) := by
  refine con_of (by decide) (Nat.le_of_ble_eq_true rfl) (fun X hX C => ?_)
  have C : Cx E X cX8_moved RX8 5 ((Option.some FieldType.int)) := C
  have h8 := h.1
  show G E _ X _ _ _ 0 [(0, .ref (ev_a E 64)), (1, .int (nI a)), (2, .int (nI p)), (3, .int (nI i))] []
  refine g_aload_n C dX8_moved_0 rfl ?_
  refine gf_X8_w C (by rfl) dX8_moved_1 kf_RX8_11 ?_
  refine g_ic (n := 1) C dX8_moved_4 (by decide) ?_
  refine g_ic (n := 4) C dX8_moved_5 (by decide) ?_
  refine g_iload_n C dX8_moved_6 rfl ?_
  first | refine g_imulN C dX8_moved_7 ?_ | refine g_imul C dX8_moved_7 ?_
  first | refine g_iaddN C dX8_moved_8 ?_ | refine g_iadd C dX8_moved_8 ?_
  refine g_iload_n C dX8_moved_9 rfl ?_
  refine g_iload_n C dX8_moved_10 rfl ?_
  refine g_callSp C (c_X8_axis (d := d) (by first | assumption | omega | exact axN_lt _ (by assumption) _ (by omega)) (by first | assumption | omega | exact axN_lt _ (by assumption) _ (by omega))) dX8_moved_11 km_RX8_74 kn_RX8 kc_yX8_axis ks_yX8_axis (by omega) (by decide) ⟨by decide, by decide, rfl⟩ rfl (Nat.le_of_ble_eq_true rfl) ?_
  have b1 := axN_lt a ha i hi
  first | refine g_iaddN C dX8_moved_14 ?_ | refine g_iadd C dX8_moved_14 ?_
  refine g_ialdN C (by rfl) (by omega) (by first | decide | omega) dX8_moved_15 ?_
  rw [h.2.2 p hp (axN a i) (by omega)]
  refine g_istore C dX8_moved_16 (by decide) ?_
  refine g_iload_n C dX8_moved_18 rfl ?_
  refine g_iload_n C dX8_moved_19 rfl ?_
  refine g_callSp C (c_X8_bit (d := d) (by first | assumption | omega | exact axN_lt _ (by assumption) _ (by omega)) (by first | assumption | omega | exact axN_lt _ (by assumption) _ (by omega))) dX8_moved_20 km_RX8_70 kn_RX8 kc_yX8_bit ks_yX8_bit (by omega) (by decide) ⟨by decide, by decide, rfl⟩ rfl (Nat.le_of_ble_eq_true rfl) ?_
  have b2 := sbN_lt a i
  refine g_ic (n := 1) C dX8_moved_23 (by decide) ?_
  refine g_icneN C 33 dX8_moved_24 (by decide) (by omega) (by omega) (fun h24 => ?_) (fun h24 => ?_)
  · refine g_iload C dX8_moved_33 rfl ?_
    refine g_iret C dX8_moved_35 ?_
    exact ⟨congrArg (fun v => some (Value.int v)) (by first | (rw [cxr, if_pos (by omega)]; done) | (rw [cxr, if_neg (by omega)]; done)), rfl⟩
  · refine g_iload C dX8_moved_27 rfl ?_
    refine g_ineg C dX8_moved_29 ?_
    refine g_goto C 35 dX8_moved_30 (by decide) ?_
    refine g_iret C dX8_moved_35 ?_
    exact ⟨congrArg (fun v => some (Value.int v)) (by first | (rw [cxr, if_pos (by omega)]; done) | (rw [cxr, if_neg (by omega)]; done)), rfl⟩

set_option maxHeartbeats 4000000 in
set_option maxRecDepth 100000 in
theorem c_X8_goesTo {E : Ev} {d : Nat} {σ : St} {n : Nat} {P : Nat → Nat → Int32} (h : PIs σ n P) {a p : Nat} (ha : a < 48) (hp : p < n) : Con E (d + 6) yX8_goesTo cX8_goesTo 3 ((Option.some FieldType.int)) [.ref (ev_a E 64), .int (nI a), .int (nI p)] σ (Det (some (.int (oI (goT P n a p)))) σ) := by
  refine con_of (by decide) (Nat.le_of_ble_eq_true rfl) (fun X hX C => ?_)
  have C : Cx E X cX8_goesTo RX8 3 ((Option.some FieldType.int)) := C
  show G E _ X _ _ _ 0 [(0, .ref (ev_a E 64)), (1, .int (nI a)), (2, .int (nI p))] []
  refine g_aload_n C dX8_goesTo_0 rfl ?_
  refine g_aload_n C dX8_goesTo_1 rfl ?_
  refine g_iload_n C dX8_goesTo_2 rfl ?_
  refine g_iload_n C dX8_goesTo_3 rfl ?_
  refine g_ic (n := 0) C dX8_goesTo_4 (by decide) ?_
  refine g_callVp C (ob_X8 (by rfl)) (c_X8_moved (d := d) h (by first | assumption | omega) (by first | assumption | omega) (by omega)) dX8_goesTo_5 km_RX8_84 kn_RX8 kc_yX8_moved ki_yX8_moved kx_yX8_moved (by omega) (by decide) ⟨by decide, by decide, rfl⟩ rfl (Nat.le_of_ble_eq_true rfl) ?_
  refine g_aload_n C dX8_goesTo_8 rfl ?_
  refine g_iload_n C dX8_goesTo_9 rfl ?_
  refine g_iload_n C dX8_goesTo_10 rfl ?_
  refine g_ic (n := 1) C dX8_goesTo_11 (by decide) ?_
  refine g_callVp C (ob_X8 (by rfl)) (c_X8_moved (d := d) h (by first | assumption | omega) (by first | assumption | omega) (by omega)) dX8_goesTo_12 km_RX8_84 kn_RX8 kc_yX8_moved ki_yX8_moved kx_yX8_moved (by omega) (by decide) ⟨by decide, by decide, rfl⟩ rfl (Nat.le_of_ble_eq_true rfl) ?_
  refine g_aload_n C dX8_goesTo_15 rfl ?_
  refine g_iload_n C dX8_goesTo_16 rfl ?_
  refine g_iload_n C dX8_goesTo_17 rfl ?_
  refine g_ic (n := 2) C dX8_goesTo_18 (by decide) ?_
  refine g_callVp C (ob_X8 (by rfl)) (c_X8_moved (d := d) h (by first | assumption | omega) (by first | assumption | omega) (by omega)) dX8_goesTo_19 km_RX8_84 kn_RX8 kc_yX8_moved ki_yX8_moved kx_yX8_moved (by omega) (by decide) ⟨by decide, by decide, rfl⟩ rfl (Nat.le_of_ble_eq_true rfl) ?_
  refine g_callVp C (ob_X8 (by rfl)) (c_X8_pointAt (d := d) h) dX8_goesTo_22 km_RX8_87 kn_RX8 kc_yX8_pointAt ki_yX8_pointAt kx_yX8_pointAt (by omega) (by decide) ⟨by decide, by decide, rfl⟩ rfl (Nat.le_of_ble_eq_true rfl) ?_
  refine g_iret C dX8_goesTo_25 ?_
  exact ⟨congrArg (fun v => some (Value.int v)) (rfl), rfl⟩

set_option maxHeartbeats 4000000 in
set_option maxRecDepth 100000 in
theorem c_X8_markOf {E : Ev} {d : Nat} {σ : St} {n : Nat} {P : Nat → Nat → Int32} (h : PIs σ n P) {p : Nat} (hp : p < n) : Con E (d) yX8_markOf cX8_markOf 2 ((Option.some FieldType.int)) [.ref (ev_a E 64), .int (nI p)] σ (Det (some (.int (P p 3))) σ) := by
  refine con_of (by decide) (Nat.le_of_ble_eq_true rfl) (fun X hX C => ?_)
  have C : Cx E X cX8_markOf RX8 2 ((Option.some FieldType.int)) := C
  have h8 := h.1
  show G E _ X _ _ _ 0 [(0, .ref (ev_a E 64)), (1, .int (nI p))] []
  refine g_aload_n C dX8_markOf_0 rfl ?_
  refine gf_X8_w C (by rfl) dX8_markOf_1 kf_RX8_11 ?_
  refine g_ic (n := 1) C dX8_markOf_4 (by decide) ?_
  refine g_ic (n := 4) C dX8_markOf_5 (by decide) ?_
  refine g_iload_n C dX8_markOf_6 rfl ?_
  first | refine g_imulN C dX8_markOf_7 ?_ | refine g_imul C dX8_markOf_7 ?_
  first | refine g_iaddN C dX8_markOf_8 ?_ | refine g_iadd C dX8_markOf_8 ?_
  refine g_ic (n := 3) C dX8_markOf_9 (by decide) ?_
  first | refine g_iaddN C dX8_markOf_10 ?_ | refine g_iadd C dX8_markOf_10 ?_
  refine g_ialdN C (by rfl) (by omega) (by first | decide | omega) dX8_markOf_11 ?_
  rw [h.2.2 p hp 3 (by decide)]
  refine g_iret C dX8_markOf_12 ?_
  exact ⟨congrArg (fun v => some (Value.int v)) (rfl), rfl⟩

set_option maxHeartbeats 4000000 in
set_option maxRecDepth 100000 in
theorem l_X8_movedMany {E : Ev} {d : Nat} {X : Mx} (C : Cx E X cX8_movedMany RX8 5 ((Option.some FieldType.int))) {σ : St} {n : Nat} {P : Nat → Nat → Int32} (h : PIs σ n P) {a : Nat} (ha : a < 48) : ∀ (k : Nat) (i c : Nat), n = i + k → c ≤ i → G E (d + 7) X 5 (Det (some (.int (nI (mcL P n a k i c)))) σ) σ 4 ([(0, .ref (ev_a E 64)), (1, .int (nI a)), (2, .int (nI c)), (3, .int (nI i))]) [] := by
  intro k
  induction k with
  | zero =>
    intro i c hi hc
    have h8 := h.1
    refine g_iload_n C dX8_movedMany_4 rfl ?_
    refine g_aload_n C dX8_movedMany_5 rfl ?_
    refine gf_X8_w C (by rfl) dX8_movedMany_6 kf_RX8_11 ?_
    refine g_ic (n := 0) C dX8_movedMany_9 (by decide) ?_
    refine g_ialdN C (by rfl) (by omega) (by first | decide | omega) dX8_movedMany_10 ?_
    rw [h.2.1]
    first | refine g_icgeN C 57 dX8_movedMany_11 (by decide) (by omega) (by omega) (fun h11 => ?_) (fun h11 => ?_) | refine g_icge C 57 dX8_movedMany_11 (by decide) (fun h11 => ?_) (fun h11 => ?_)
    · refine g_iload_n C dX8_movedMany_57 rfl ?_
      refine g_iret C dX8_movedMany_58 ?_
      exact ⟨congrArg (fun v => some (Value.int v)) (rfl), rfl⟩
    · omega
  | succ k ih =>
    intro i c hi hc
    have h8 := h.1
    refine g_iload_n C dX8_movedMany_4 rfl ?_
    refine g_aload_n C dX8_movedMany_5 rfl ?_
    refine gf_X8_w C (by rfl) dX8_movedMany_6 kf_RX8_11 ?_
    refine g_ic (n := 0) C dX8_movedMany_9 (by decide) ?_
    refine g_ialdN C (by rfl) (by omega) (by first | decide | omega) dX8_movedMany_10 ?_
    rw [h.2.1]
    first | refine g_icgeN C 57 dX8_movedMany_11 (by decide) (by omega) (by omega) (fun h11 => ?_) (fun h11 => ?_) | refine g_icge C 57 dX8_movedMany_11 (by decide) (fun h11 => ?_) (fun h11 => ?_)
    · omega
    · refine g_aload_n C dX8_movedMany_14 rfl ?_
      refine g_iload_n C dX8_movedMany_15 rfl ?_
      refine g_iload_n C dX8_movedMany_16 rfl ?_
      refine g_callVp C (ob_X8 (by rfl)) (c_X8_goesTo (d := d) h (by first | assumption | omega) (by first | assumption | omega)) dX8_movedMany_17 km_RX8_90 kn_RX8 kc_yX8_goesTo ki_yX8_goesTo kx_yX8_goesTo (by omega) (by decide) ⟨by decide, by decide, rfl⟩ rfl (Nat.le_of_ble_eq_true rfl) ?_
      rcases hg : goT P n a i with _ | q
      · refine g_istore C dX8_movedMany_20 (by decide) ?_
        refine g_iload_n C dX8_movedMany_22 rfl ?_
        refine g_iload C dX8_movedMany_23 rfl ?_
        refine g_bp C (-5) dX8_movedMany_25 (by decide) ?_
        refine g_iceq C 44 dX8_movedMany_27 (by decide) (fun h27 => ?_) (fun h27 => ?_)
        · have hv : mvd P n a i = true := by simp [mvd, hg]
          refine g_ic (n := 1) C dX8_movedMany_44 (by decide) ?_
          refine g_goto C 49 dX8_movedMany_45 (by decide) ?_
          first | refine g_iaddN C dX8_movedMany_49 ?_ | refine g_iadd C dX8_movedMany_49 ?_
          refine g_istore_n C dX8_movedMany_50 (by decide) ?_
          refine g_iinc1 C dX8_movedMany_51 rfl (by decide) ?_
          refine g_goto C 4 dX8_movedMany_54 (by decide) ?_
          refine g_loc ([(0, .ref (ev_a E 64)), (1, .int (nI a)), (2, .int (nI (c + 1))), (3, .int (nI (i + 1)))]) (And.intro rfl (And.intro rfl (And.intro rfl (And.intro rfl trivial)))) ?_
          rw [show mcL P n a (k + 1) i c = mcL P n a k (i + 1) (c + 1) from by rw [mcL, if_pos hv]]
          exact ih (i + 1) (c + 1) (by omega) (by omega)
        · exact absurd rfl h27
      · show G E _ X _ _ _ _ _ [.int (nI q)]
        have hq := goT_lt hg
        refine g_istore C dX8_movedMany_20 (by decide) ?_
        refine g_iload_n C dX8_movedMany_22 rfl ?_
        refine g_iload C dX8_movedMany_23 rfl ?_
        refine g_bp C (-5) dX8_movedMany_25 (by decide) ?_
        refine g_iceq C 44 dX8_movedMany_27 (by decide) (fun h27 => ?_) (fun h27 => ?_)
        · exact absurd h27 (oI_ne q hq (by omega))
        · refine g_aload_n C dX8_movedMany_30 rfl ?_
          refine g_iload C dX8_movedMany_31 rfl ?_
          refine g_callVp C (ob_X8 (by rfl)) (c_X8_markOf (d := d) h hq) dX8_movedMany_33 km_RX8_93 kn_RX8 kc_yX8_markOf ki_yX8_markOf kx_yX8_markOf (by omega) (by decide) ⟨by decide, by decide, rfl⟩ rfl (Nat.le_of_ble_eq_true rfl) ?_
          refine g_aload_n C dX8_movedMany_36 rfl ?_
          refine g_iload_n C dX8_movedMany_37 rfl ?_
          refine g_callVp C (ob_X8 (by rfl)) (c_X8_markOf (d := d) h (by omega)) dX8_movedMany_38 km_RX8_93 kn_RX8 kc_yX8_markOf ki_yX8_markOf kx_yX8_markOf (by omega) (by decide) ⟨by decide, by decide, rfl⟩ rfl (Nat.le_of_ble_eq_true rfl) ?_
          refine g_iceq C 48 dX8_movedMany_41 (by decide) (fun h41 => ?_) (fun h41 => ?_)
          · have hv : ¬ mvd P n a i = true := by simp only [mvd, hg, decide_eq_true_eq]; exact fun w => w h41
            refine g_ic (n := 0) C dX8_movedMany_48 (by decide) ?_
            first | refine g_iaddN C dX8_movedMany_49 ?_ | refine g_iadd C dX8_movedMany_49 ?_
            refine g_istore_n C dX8_movedMany_50 (by decide) ?_
            refine g_iinc1 C dX8_movedMany_51 rfl (by decide) ?_
            refine g_goto C 4 dX8_movedMany_54 (by decide) ?_
            refine g_loc ([(0, .ref (ev_a E 64)), (1, .int (nI a)), (2, .int (nI (c + 0))), (3, .int (nI (i + 1)))]) (And.intro rfl (And.intro rfl (And.intro rfl (And.intro rfl trivial)))) ?_
            rw [show mcL P n a (k + 1) i c = mcL P n a k (i + 1) c from by rw [mcL, if_neg hv]]
            exact ih (i + 1) c (by omega) (by omega)
          · have hv : mvd P n a i = true := by simp only [mvd, hg, decide_eq_true_eq]; exact h41
            refine g_ic (n := 1) C dX8_movedMany_44 (by decide) ?_
            refine g_goto C 49 dX8_movedMany_45 (by decide) ?_
            first | refine g_iaddN C dX8_movedMany_49 ?_ | refine g_iadd C dX8_movedMany_49 ?_
            refine g_istore_n C dX8_movedMany_50 (by decide) ?_
            refine g_iinc1 C dX8_movedMany_51 rfl (by decide) ?_
            refine g_goto C 4 dX8_movedMany_54 (by decide) ?_
            refine g_loc ([(0, .ref (ev_a E 64)), (1, .int (nI a)), (2, .int (nI (c + 1))), (3, .int (nI (i + 1)))]) (And.intro rfl (And.intro rfl (And.intro rfl (And.intro rfl trivial)))) ?_
            rw [show mcL P n a (k + 1) i c = mcL P n a k (i + 1) (c + 1) from by rw [mcL, if_pos hv]]
            exact ih (i + 1) (c + 1) (by omega) (by omega)

set_option maxHeartbeats 4000000 in
set_option maxRecDepth 100000 in
theorem c_X8_movedMany {E : Ev} {d : Nat} {σ : St} {n : Nat} {P : Nat → Nat → Int32} (h : PIs σ n P) {a : Nat} (ha : a < 48) : Con E (d + 7) yX8_movedMany cX8_movedMany 5 ((Option.some FieldType.int)) [.ref (ev_a E 64), .int (nI a)] σ (Det (some (.int (nI (mvN P n a)))) σ) := by
  refine con_of (by decide) (Nat.le_of_ble_eq_true rfl) (fun X hX C => ?_)
  have C : Cx E X cX8_movedMany RX8 5 ((Option.some FieldType.int)) := C
  show G E _ X _ _ _ 0 [(0, .ref (ev_a E 64)), (1, .int (nI a))] []
  refine g_ic (n := 0) C dX8_movedMany_0 (by decide) ?_
  refine g_istore_n C dX8_movedMany_1 (by decide) ?_
  refine g_ic (n := 0) C dX8_movedMany_2 (by decide) ?_
  refine g_istore_n C dX8_movedMany_3 (by decide) ?_
  refine g_loc ([(0, .ref (ev_a E 64)), (1, .int (nI a)), (2, .int (nI 0)), (3, .int (nI 0))]) (And.intro rfl (And.intro rfl (And.intro rfl (And.intro rfl trivial)))) ?_
  exact l_X8_movedMany C h ha n 0 0 (by omega) (by omega)

def FdR (σ : St) (n : Nat) (P : Nat → Nat → Int32) (m : Nat) (a : List Nat) : Prop := GmB σ a ∧ a.length ≤ m ∧ (∀ j, j < a.length → lg a j < m) ∧ ∀ q, q < m → σ.1 69 q = bI (kpt P n q)

set_option maxHeartbeats 4000000 in
set_option maxRecDepth 100000 in
theorem l_X8_finds {E : Ev} {d : Nat} {X : Mx} (C : Cx E X cX8_finds RX8 2 ((Option.none : Option FieldType))) {n : Nat} {P : Nat → Nat → Int32} : ∀ (k : Nat) (m : Nat) (a : List Nat) (σ : St), 48 = m + k → FdR σ n P m a → PIs σ n P → G E (d + 8) X 2 (fun r σ2 => r = none ∧ GmB σ2 (gpL P n k m a) ∧ IiB σ2 n P ∧ Fk [6] [68, 69] σ σ2) σ 7 ([(0, .ref (ev_a E 64)), (1, .int (nI m))]) [] := by
  intro k
  induction k with
  | zero =>
    intro m a σ hi hI h
    obtain ⟨hB, ha1, ha2, hM⟩ := id hI
    obtain ⟨⟨hL1, hL2, hL3⟩, hgs, hgm⟩ := id hB
    refine g_iload_n C dX8_finds_7 rfl ?_
    refine g_bp C (nI 48) dX8_finds_8 (by decide) ?_
    first | refine g_icgeN C 67 dX8_finds_10 (by decide) (by omega) (by omega) (fun h10 => ?_) (fun h10 => ?_) | refine g_icge C 67 dX8_finds_10 (by decide) (fun h10 => ?_) (fun h10 => ?_)
    · refine g_vret C dX8_finds_67 ?_
      exact ⟨rfl, hB, fun q hq => hM q (by omega), Fk.rf⟩
    · omega
  | succ k ih =>
    intro m a σ hi hI h
    obtain ⟨hB, ha1, ha2, hM⟩ := id hI
    obtain ⟨⟨hL1, hL2, hL3⟩, hgs, hgm⟩ := id hB
    refine g_iload_n C dX8_finds_7 rfl ?_
    refine g_bp C (nI 48) dX8_finds_8 (by decide) ?_
    first | refine g_icgeN C 67 dX8_finds_10 (by decide) (by omega) (by omega) (fun h10 => ?_) (fun h10 => ?_) | refine g_icge C 67 dX8_finds_10 (by decide) (fun h10 => ?_) (fun h10 => ?_)
    · omega
    · refine g_aload_n C dX8_finds_13 rfl ?_
      refine gf_X8_isIn C (by rfl) dX8_finds_14 kf_RX8_24 ?_
      refine g_iload_n C dX8_finds_17 rfl ?_
      refine g_aload_n C dX8_finds_18 rfl ?_
      refine g_iload_n C dX8_finds_19 rfl ?_
      refine g_callVp C (ob_X8 (by rfl)) (c_X8_movedMany (d := d) h (by omega)) dX8_finds_20 km_RX8_101 kn_RX8 kc_yX8_movedMany ki_yX8_movedMany kx_yX8_movedMany (by omega) (by decide) ⟨by decide, by decide, rfl⟩ rfl (Nat.le_of_ble_eq_true rfl) ?_
      have b1 := mvN_le (P := P) (n := n) (m := m)
      have b8 := h.1
      refine g_ifneN C 30 dX8_finds_23 (by decide) (by omega) (fun h23 => ?_) (fun h23 => ?_)
      · have hk : kpt P n m = false := by cases hc : kpt P n m with | false => rfl | true => exact absurd (mv_kp.mpr hc) h23
        refine g_ic (n := 0) C dX8_finds_30 (by decide) ?_
        rw [show nI 0 = bI (kpt P n m) from by rw [hk]; rfl]
        refine g_zastN C (by rfl) (by omega) (by first | decide | omega) dX8_finds_31 ?_
        rw [nar_b]
        refine g_aload_n C dX8_finds_32 rfl ?_
        refine gf_X8_isIn C (by rfl) dX8_finds_33 kf_RX8_24 ?_
        refine g_iload_n C dX8_finds_36 rfl ?_
        refine g_zaldN C (by rfl) (by omega) (by first | decide | omega) dX8_finds_37 ?_
        rw [sI_self, up_i]
        refine g_ifeqB C 61 dX8_finds_38 (by decide) (fun h38 => ?_) (fun h38 => ?_)
        · refine g_iinc1 C dX8_finds_61 rfl (by decide) ?_
          refine g_goto C 7 dX8_finds_64 (by decide) ?_
          refine g_loc ([(0, .ref (ev_a E 64)), (1, .int (nI (m + 1)))]) (And.intro rfl (And.intro rfl trivial)) ?_
          have hF : Fk [6] [68, 69] σ (sI σ 69 (upd (σ.1 69) m (bI (kpt P n m)))) := Fk.rf.sI (by simp) (by decide)
          have hB2 : GmB (sI σ 69 (upd (σ.1 69) m (bI (kpt P n m)))) a := ⟨⟨hL1, hL2, hL3⟩, by rw [sI_ne (by decide)]; exact hgs, fun j hj => by rw [sI_ne (by decide)]; exact hgm j hj⟩
          have hI2 : FdR (sI σ 69 (upd (σ.1 69) m (bI (kpt P n m)))) n P (m + 1) a := by
            refine ⟨hB2, by omega, fun j hj => ?_, fun q hq => ?_⟩
            · have := ha2 j hj; omega
            · rw [sI_self]; by_cases e : q = m
              · subst e; rw [up_i]
              · rw [up_n e]; exact hM q (by omega)
          have e : gpL P n (k + 1) m a = gpL P n k (m + 1) a := by simp [gpL, hk]
          refine g_post (fun r σ2 q => ?_) (ih (m + 1) a (sI σ 69 (upd (σ.1 69) m (bI (kpt P n m)))) (by omega) hI2 (h.go hF.1 (by simp)))
          obtain ⟨q1, q2, q3, q4⟩ := q
          rw [e]
          exact ⟨q1, q2, q3, hF.tr q4⟩
        · rw [hk] at h38; exact absurd h38 (by decide)
      · have hk : kpt P n m = true := mv_kp.mp h23
        refine g_ic (n := 1) C dX8_finds_26 (by decide) ?_
        rw [show nI 1 = bI (kpt P n m) from by rw [hk]; rfl]
        refine g_goto C 31 dX8_finds_27 (by decide) ?_
        refine g_zastN C (by rfl) (by omega) (by first | decide | omega) dX8_finds_31 ?_
        rw [nar_b]
        refine g_aload_n C dX8_finds_32 rfl ?_
        refine gf_X8_isIn C (by rfl) dX8_finds_33 kf_RX8_24 ?_
        refine g_iload_n C dX8_finds_36 rfl ?_
        refine g_zaldN C (by rfl) (by omega) (by first | decide | omega) dX8_finds_37 ?_
        rw [sI_self, up_i]
        refine g_ifeqB C 61 dX8_finds_38 (by decide) (fun h38 => ?_) (fun h38 => ?_)
        · rw [hk] at h38; exact absurd h38 (by decide)
        · refine g_aload_n C dX8_finds_41 rfl ?_
          refine gf_X8_group C (by rfl) dX8_finds_42 kf_RX8_21 ?_
          refine g_aload_n C dX8_finds_45 rfl ?_
          refine gf_X8_size C (by rfl) dX8_finds_46 kf_RX8_97 ?_
          rw [sI_ne (show 64 ≠ 69 by decide), hgs]
          refine g_iload_n C dX8_finds_49 rfl ?_
          refine g_iastN C (by rfl) (by omega) (by first | decide | omega) dX8_finds_50 ?_
          refine g_aload_n C dX8_finds_51 rfl ?_
          refine g_dup C dX8_finds_52 rfl ?_
          refine gf_X8_size C (by rfl) dX8_finds_53 kf_RX8_97 ?_
          rw [sI_ne (show 64 ≠ 68 by decide), sI_ne (show 64 ≠ 69 by decide), hgs]
          refine g_ic (n := 1) C dX8_finds_56 (by decide) ?_
          first | refine g_iaddN C dX8_finds_57 ?_ | refine g_iadd C dX8_finds_57 ?_
          refine gp_X8_size C (by rfl) dX8_finds_58 kf_RX8_97 ?_
          refine g_iinc1 C dX8_finds_61 rfl (by decide) ?_
          refine g_goto C 7 dX8_finds_64 (by decide) ?_
          refine g_loc ([(0, .ref (ev_a E 64)), (1, .int (nI (m + 1)))]) (And.intro rfl (And.intro rfl trivial)) ?_
          show G E _ X _ _ (setF (sI (sI σ 69 (upd (σ.1 69) m (bI (kpt P n m)))) 68 (upd ((sI σ 69 (upd (σ.1 69) m (bI (kpt P n m)))).1 68) a.length (nI m))) 64 6 (nI (a.length + 1))) _ _ _
          have hF : Fk [6] [68, 69] σ (setF (sI (sI σ 69 (upd (σ.1 69) m (bI (kpt P n m)))) 68 (upd ((sI σ 69 (upd (σ.1 69) m (bI (kpt P n m)))).1 68) a.length (nI m))) 64 6 (nI (a.length + 1))) := ((Fk.rf.sI (by simp) (by decide)).sI (by simp) (by decide)).sF (by simp)
          have hB2 : GmB (setF (sI (sI σ 69 (upd (σ.1 69) m (bI (kpt P n m)))) 68 (upd ((sI σ 69 (upd (σ.1 69) m (bI (kpt P n m)))).1 68) a.length (nI m))) 64 6 (nI (a.length + 1))) (a ++ [m]) := by
            refine ⟨⟨by simp <;> omega, fun j hj => ?_, fun i j hi hj e => ?_⟩, by unfold setF; rw [sI_self, up_i]; simp, fun j hj => ?_⟩
            · simp at hj; rw [lg_app]; split
              · have := ha2 j (by assumption); omega
              · rw [if_pos (by omega)]; omega
            · simp at hi hj; rw [lg_app, lg_app] at e
              by_cases ci : i < a.length <;> by_cases cj : j < a.length
              · rw [if_pos ci, if_pos cj] at e; exact hL3 i j ci cj e
              · rw [if_pos ci, if_neg cj, if_pos (by omega)] at e; have := ha2 i ci; omega
              · rw [if_neg ci, if_pos (by omega), if_pos cj] at e; have := ha2 j cj; omega
              · omega
            · simp at hj; unfold setF; rw [sI_ne (by omega), sI_self, lg_app]
              by_cases cj : j < a.length
              · rw [if_pos cj, up_n (by omega), sI_ne (by omega)]; exact hgm j cj
              · rw [if_neg cj, if_pos (by omega), show j = a.length from by omega, up_i]
          have hI2 : FdR (setF (sI (sI σ 69 (upd (σ.1 69) m (bI (kpt P n m)))) 68 (upd ((sI σ 69 (upd (σ.1 69) m (bI (kpt P n m)))).1 68) a.length (nI m))) 64 6 (nI (a.length + 1))) n P (m + 1) (a ++ [m]) := by
            refine ⟨hB2, by simp; omega, fun j hj => ?_, fun q hq => ?_⟩
            · simp at hj; rw [lg_app]; split
              · have := ha2 j (by assumption); omega
              · rw [if_pos (by omega)]; omega
            · unfold setF; rw [sI_ne (by omega), sI_ne (by omega)]; rw [sI_self]; by_cases e : q = m
              · subst e; rw [up_i]
              · rw [up_n e]; exact hM q (by omega)
          have e : gpL P n (k + 1) m a = gpL P n k (m + 1) (a ++ [m]) := by simp [gpL, hk]
          refine g_post (fun r σ2 q => ?_) (ih (m + 1) (a ++ [m]) (setF (sI (sI σ 69 (upd (σ.1 69) m (bI (kpt P n m)))) 68 (upd ((sI σ 69 (upd (σ.1 69) m (bI (kpt P n m)))).1 68) a.length (nI m))) 64 6 (nI (a.length + 1))) (by omega) hI2 (h.go hF.1 (by simp)))
          obtain ⟨q1, q2, q3, q4⟩ := q
          rw [e]
          exact ⟨q1, q2, q3, hF.tr q4⟩

set_option maxHeartbeats 4000000 in
set_option maxRecDepth 100000 in
theorem c_X8_finds {E : Ev} {d : Nat} {σ : St} {n : Nat} {P : Nat → Nat → Int32} (h : PIs σ n P) : Con E (d + 8) yX8_finds cX8_finds 2 ((Option.none : Option FieldType)) [.ref (ev_a E 64)] σ (fun r σ2 => r = none ∧ GmB σ2 (gLst P n) ∧ IiB σ2 n P ∧ Fk [6] [68, 69] σ σ2) := by
  refine con_of (by decide) (Nat.le_of_ble_eq_true rfl) (fun X hX C => ?_)
  have C : Cx E X cX8_finds RX8 2 ((Option.none : Option FieldType)) := C
  show G E _ X _ _ _ 0 [(0, .ref (ev_a E 64))] []
  refine g_aload_n C dX8_finds_0 rfl ?_
  refine g_ic (n := 0) C dX8_finds_1 (by decide) ?_
  refine gp_X8_size C (by rfl) dX8_finds_2 kf_RX8_97 ?_
  refine g_ic (n := 0) C dX8_finds_5 (by decide) ?_
  refine g_istore_n C dX8_finds_6 (by decide) ?_
  refine g_loc ([(0, .ref (ev_a E 64)), (1, .int (nI 0))]) (And.intro rfl (And.intro rfl trivial)) ?_
  show G E _ X _ _ (setF σ 64 6 (nI 0)) _ _ _
  have hF : Fk [6] [68, 69] σ (setF σ 64 6 (nI 0)) := Fk.rf.sF (by simp)
  refine g_post (fun r σ2 q => ?_) (l_X8_finds C 48 0 [] _ (by omega) ⟨⟨⟨by simp, fun j hj => absurd hj (by simp), fun i j hi => absurd hi (by simp)⟩, by unfold setF; rw [sI_self, up_i]; rfl, fun j hj => absurd hj (by simp)⟩, by simp, fun j hj => absurd hj (by simp), fun q hq => absurd hq (by omega)⟩ (h.go hF.1 (by simp)))
  obtain ⟨q1, q2, q3, q4⟩ := q
  exact ⟨q1, q2, q3, hF.tr q4⟩

set_option maxHeartbeats 4000000 in
set_option maxRecDepth 100000 in
theorem l_X8_leastOf {E : Ev} {d : Nat} {X : Mx} (C : Cx E X cX8_leastOf RX8 4 ((Option.some FieldType.int))) {σ : St} {L : List Nat} (hB : GmB σ L) {m : Nat} (hm : m < 48) : ∀ (k : Nat) (i a : Nat), L.length = i + k → a < 48 → G E (d + 7) X 4 (Det (some (.int (nI (lsL L m k i a)))) σ) σ 4 ([(0, .ref (ev_a E 64)), (1, .int (nI m)), (2, .int (nI a)), (3, .int (nI i))]) [] := by
  intro k
  induction k with
  | zero =>
    intro i a hi ha
    obtain ⟨⟨hL1, hL2, hL3⟩, hgs, hgm⟩ := id hB
    refine g_iload_n C dX8_leastOf_4 rfl ?_
    refine g_aload_n C dX8_leastOf_5 rfl ?_
    refine gf_X8_size C (by rfl) dX8_leastOf_6 kf_RX8_97 ?_
    rw [hgs]
    first | refine g_icgeN C 45 dX8_leastOf_9 (by decide) (by omega) (by omega) (fun h9 => ?_) (fun h9 => ?_) | refine g_icge C 45 dX8_leastOf_9 (by decide) (fun h9 => ?_) (fun h9 => ?_)
    · refine g_iload_n C dX8_leastOf_45 rfl ?_
      refine g_iret C dX8_leastOf_46 ?_
      exact ⟨congrArg (fun v => some (Value.int v)) (rfl), rfl⟩
    · omega
  | succ k ih =>
    intro i a hi ha
    obtain ⟨⟨hL1, hL2, hL3⟩, hgs, hgm⟩ := id hB
    refine g_iload_n C dX8_leastOf_4 rfl ?_
    refine g_aload_n C dX8_leastOf_5 rfl ?_
    refine gf_X8_size C (by rfl) dX8_leastOf_6 kf_RX8_97 ?_
    rw [hgs]
    first | refine g_icgeN C 45 dX8_leastOf_9 (by decide) (by omega) (by omega) (fun h9 => ?_) (fun h9 => ?_) | refine g_icge C 45 dX8_leastOf_9 (by decide) (fun h9 => ?_) (fun h9 => ?_)
    · omega
    · refine g_iload_n C dX8_leastOf_12 rfl ?_
      refine g_aload_n C dX8_leastOf_13 rfl ?_
      refine gf_X8_group C (by rfl) dX8_leastOf_14 kf_RX8_21 ?_
      refine g_iload_n C dX8_leastOf_17 rfl ?_
      refine g_ialdN C (by rfl) (by omega) (by first | decide | omega) dX8_leastOf_18 ?_
      rw [hgm i (by omega)]
      have hg := hL2 i (by omega)
      refine g_iload_n C dX8_leastOf_19 rfl ?_
      refine g_callSp C (c_X8_times (d := d) hg hm) dX8_leastOf_20 km_RX8_81 kn_RX8 kc_yX8_times ks_yX8_times (by omega) (by decide) ⟨by decide, by decide, rfl⟩ rfl (Nat.le_of_ble_eq_true rfl) ?_
      refine g_aload_n C dX8_leastOf_23 rfl ?_
      refine gf_X8_group C (by rfl) dX8_leastOf_24 kf_RX8_21 ?_
      refine g_iload_n C dX8_leastOf_27 rfl ?_
      refine g_ialdN C (by rfl) (by omega) (by first | decide | omega) dX8_leastOf_28 ?_
      rw [hgm i (by omega)]
      refine g_callSp C (c_X8_inverse (d := d) hg) dX8_leastOf_29 km_RX8_104 kn_RX8 kc_yX8_inverse ks_yX8_inverse (by omega) (by decide) ⟨by decide, by decide, rfl⟩ rfl (Nat.le_of_ble_eq_true rfl) ?_
      refine g_callSp C (c_X8_times (d := d) (mulN_lt _ hg _ hm) (invN_lt _ hg)) dX8_leastOf_32 km_RX8_81 kn_RX8 kc_yX8_times ks_yX8_times (by omega) (by decide) ⟨by decide, by decide, rfl⟩ rfl (Nat.le_of_ble_eq_true rfl) ?_
      have hc : cjN (lg L i) m < 48 := mulN_lt _ (mulN_lt _ hg _ hm) _ (invN_lt _ hg)
      refine g_min C km_RX8_107 ks_yJ9_min_7cf53 kn_RJ9 kc_yJ9_min_7cf53 (by omega) (Nat.le_of_ble_eq_true rfl) dX8_leastOf_35 ?_
      rw [show nI (mulN (mulN (lg L i) m) (invN (lg L i))) = nI (cjN (lg L i) m) from rfl, min_nI (by omega) (by omega)]
      refine g_istore_n C dX8_leastOf_38 (by decide) ?_
      refine g_iinc1 C dX8_leastOf_39 rfl (by decide) ?_
      refine g_goto C 4 dX8_leastOf_42 (by decide) ?_
      refine g_loc ([(0, .ref (ev_a E 64)), (1, .int (nI m)), (2, .int (nI (if cjN (lg L i) m < a then cjN (lg L i) m else a))), (3, .int (nI (i + 1)))]) (And.intro rfl (And.intro rfl (And.intro rfl (And.intro rfl trivial)))) ?_
      exact ih (i + 1) _ (by omega) (by split <;> omega)

set_option maxHeartbeats 4000000 in
set_option maxRecDepth 100000 in
theorem c_X8_leastOf {E : Ev} {d : Nat} {σ : St} {L : List Nat} (hB : GmB σ L) {m : Nat} (hm : m < 48) : Con E (d + 7) yX8_leastOf cX8_leastOf 4 ((Option.some FieldType.int)) [.ref (ev_a E 64), .int (nI m)] σ (Det (some (.int (nI (lsN L m)))) σ) := by
  refine con_of (by decide) (Nat.le_of_ble_eq_true rfl) (fun X hX C => ?_)
  have C : Cx E X cX8_leastOf RX8 4 ((Option.some FieldType.int)) := C
  show G E _ X _ _ _ 0 [(0, .ref (ev_a E 64)), (1, .int (nI m))] []
  refine g_iload_n C dX8_leastOf_0 rfl ?_
  refine g_istore_n C dX8_leastOf_1 (by decide) ?_
  refine g_ic (n := 0) C dX8_leastOf_2 (by decide) ?_
  refine g_istore_n C dX8_leastOf_3 (by decide) ?_
  refine g_loc ([(0, .ref (ev_a E 64)), (1, .int (nI m)), (2, .int (nI m)), (3, .int (nI 0))]) (And.intro rfl (And.intro rfl (And.intro rfl (And.intro rfl trivial)))) ?_
  exact l_X8_leastOf C hB hm L.length 0 m (by omega) hm

set_option maxHeartbeats 4000000 in
set_option maxRecDepth 100000 in
theorem l_X8_classMany {E : Ev} {d : Nat} {X : Mx} (C : Cx E X cX8_classMany RX8 5 ((Option.some FieldType.int))) {σ : St} {L : List Nat} (hB : GmB σ L) {m c : Nat} (hc : c < 48) : ∀ (k : Nat) (i n : Nat), L.length = i + k → n ≤ i → G E (d + 8) X 5 (Det (some (.int (nI (cmL L c k i n)))) σ) σ 11 ([(0, .ref (ev_a E 64)), (1, .int (nI m)), (2, .int (nI c)), (3, .int (nI n)), (4, .int (nI i))]) [] := by
  intro k
  induction k with
  | zero =>
    intro i n hi hn
    obtain ⟨⟨hL1, hL2, hL3⟩, hgs, hgm⟩ := id hB
    refine g_iload C dX8_classMany_11 rfl ?_
    refine g_aload_n C dX8_classMany_13 rfl ?_
    refine gf_X8_size C (by rfl) dX8_classMany_14 kf_RX8_97 ?_
    rw [hgs]
    first | refine g_icgeN C 49 dX8_classMany_17 (by decide) (by omega) (by omega) (fun h17 => ?_) (fun h17 => ?_) | refine g_icge C 49 dX8_classMany_17 (by decide) (fun h17 => ?_) (fun h17 => ?_)
    · refine g_iload_n C dX8_classMany_49 rfl ?_
      refine g_iret C dX8_classMany_50 ?_
      exact ⟨congrArg (fun v => some (Value.int v)) (rfl), rfl⟩
    · omega
  | succ k ih =>
    intro i n hi hn
    obtain ⟨⟨hL1, hL2, hL3⟩, hgs, hgm⟩ := id hB
    refine g_iload C dX8_classMany_11 rfl ?_
    refine g_aload_n C dX8_classMany_13 rfl ?_
    refine gf_X8_size C (by rfl) dX8_classMany_14 kf_RX8_97 ?_
    rw [hgs]
    first | refine g_icgeN C 49 dX8_classMany_17 (by decide) (by omega) (by omega) (fun h17 => ?_) (fun h17 => ?_) | refine g_icge C 49 dX8_classMany_17 (by decide) (fun h17 => ?_) (fun h17 => ?_)
    · omega
    · refine g_iload_n C dX8_classMany_20 rfl ?_
      refine g_aload_n C dX8_classMany_21 rfl ?_
      refine g_aload_n C dX8_classMany_22 rfl ?_
      refine gf_X8_group C (by rfl) dX8_classMany_23 kf_RX8_21 ?_
      refine g_iload C dX8_classMany_26 rfl ?_
      refine g_ialdN C (by rfl) (by omega) (by first | decide | omega) dX8_classMany_28 ?_
      rw [hgm i (by omega)]
      have hg := hL2 i (by omega)
      refine g_callVp C (ob_X8 (by rfl)) (c_X8_leastOf (d := d) hB hg) dX8_classMany_29 km_RX8_112 kn_RX8 kc_yX8_leastOf ki_yX8_leastOf kx_yX8_leastOf (by omega) (by decide) ⟨by decide, by decide, rfl⟩ rfl (Nat.le_of_ble_eq_true rfl) ?_
      have hl := lsN_lt (L := L) hg
      refine g_iload_n C dX8_classMany_32 rfl ?_
      refine g_icneN C 40 dX8_classMany_33 (by decide) (by omega) (by omega) (fun h33 => ?_) (fun h33 => ?_)
      · have e : cmL L c (k + 1) i n = cmL L c k (i + 1) n := by rw [cmL, if_neg h33]
        refine g_ic (n := 0) C dX8_classMany_40 (by decide) ?_
        first | refine g_iaddN C dX8_classMany_41 ?_ | refine g_iadd C dX8_classMany_41 ?_
        refine g_istore_n C dX8_classMany_42 (by decide) ?_
        refine g_iinc1 C dX8_classMany_43 rfl (by decide) ?_
        refine g_goto C 11 dX8_classMany_46 (by decide) ?_
        rw [e]
        first | (refine g_loc ([(0, .ref (ev_a E 64)), (1, .int (nI m)), (2, .int (nI c)), (3, .int (nI (n + 1))), (4, .int (nI (i + 1)))]) (And.intro rfl (And.intro rfl (And.intro rfl (And.intro rfl (And.intro rfl trivial))))) ?_; exact ih (i + 1) (n + 1) (by omega) (by omega)) | (refine g_loc ([(0, .ref (ev_a E 64)), (1, .int (nI m)), (2, .int (nI c)), (3, .int (nI (n + 0))), (4, .int (nI (i + 1)))]) (And.intro rfl (And.intro rfl (And.intro rfl (And.intro rfl (And.intro rfl trivial))))) ?_; exact ih (i + 1) n (by omega) (by omega))
      · have e : cmL L c (k + 1) i n = cmL L c k (i + 1) (n + 1) := by rw [cmL, if_pos h33]
        refine g_ic (n := 1) C dX8_classMany_36 (by decide) ?_
        refine g_goto C 41 dX8_classMany_37 (by decide) ?_
        first | refine g_iaddN C dX8_classMany_41 ?_ | refine g_iadd C dX8_classMany_41 ?_
        refine g_istore_n C dX8_classMany_42 (by decide) ?_
        refine g_iinc1 C dX8_classMany_43 rfl (by decide) ?_
        refine g_goto C 11 dX8_classMany_46 (by decide) ?_
        rw [e]
        first | (refine g_loc ([(0, .ref (ev_a E 64)), (1, .int (nI m)), (2, .int (nI c)), (3, .int (nI (n + 1))), (4, .int (nI (i + 1)))]) (And.intro rfl (And.intro rfl (And.intro rfl (And.intro rfl (And.intro rfl trivial))))) ?_; exact ih (i + 1) (n + 1) (by omega) (by omega)) | (refine g_loc ([(0, .ref (ev_a E 64)), (1, .int (nI m)), (2, .int (nI c)), (3, .int (nI (n + 0))), (4, .int (nI (i + 1)))]) (And.intro rfl (And.intro rfl (And.intro rfl (And.intro rfl (And.intro rfl trivial))))) ?_; exact ih (i + 1) n (by omega) (by omega))

set_option maxHeartbeats 4000000 in
set_option maxRecDepth 100000 in
theorem c_X8_classMany {E : Ev} {d : Nat} {σ : St} {L : List Nat} (hB : GmB σ L) {m : Nat} (hm : m < 48) : Con E (d + 8) yX8_classMany cX8_classMany 5 ((Option.some FieldType.int)) [.ref (ev_a E 64), .int (nI m)] σ (Det (some (.int (nI (cmL L (lsN L m) L.length 0 0)))) σ) := by
  refine con_of (by decide) (Nat.le_of_ble_eq_true rfl) (fun X hX C => ?_)
  have C : Cx E X cX8_classMany RX8 5 ((Option.some FieldType.int)) := C
  show G E _ X _ _ _ 0 [(0, .ref (ev_a E 64)), (1, .int (nI m))] []
  refine g_aload_n C dX8_classMany_0 rfl ?_
  refine g_iload_n C dX8_classMany_1 rfl ?_
  refine g_callVp C (ob_X8 (by rfl)) (c_X8_leastOf (d := d) hB (by first | assumption | omega)) dX8_classMany_2 km_RX8_112 kn_RX8 kc_yX8_leastOf ki_yX8_leastOf kx_yX8_leastOf (by omega) (by decide) ⟨by decide, by decide, rfl⟩ rfl (Nat.le_of_ble_eq_true rfl) ?_
  refine g_istore_n C dX8_classMany_5 (by decide) ?_
  refine g_ic (n := 0) C dX8_classMany_6 (by decide) ?_
  refine g_istore_n C dX8_classMany_7 (by decide) ?_
  refine g_ic (n := 0) C dX8_classMany_8 (by decide) ?_
  refine g_istore C dX8_classMany_9 (by decide) ?_
  refine g_loc ([(0, .ref (ev_a E 64)), (1, .int (nI m)), (2, .int (nI (lsN L m))), (3, .int (nI 0)), (4, .int (nI 0))]) (And.intro rfl (And.intro rfl (And.intro rfl (And.intro rfl (And.intro rfl trivial))))) ?_
  exact l_X8_classMany C hB (lsN_lt hm) L.length 0 0 (by omega) (by omega)

set_option maxHeartbeats 4000000 in
set_option maxRecDepth 100000 in
theorem l_X8_classNumber {E : Ev} {d : Nat} {X : Mx} (C : Cx E X cX8_classNumber RX8 4 ((Option.some FieldType.int))) {σ : St} {L : List Nat} (hB : GmB σ L) {x : Int32} : ∀ (k : Nat) (i n : Nat), L.length = i + k → n ≤ i → G E (d + 8) X 4 (Det (some (.int (cnL L x k i n))) σ) σ 4 ([(0, .ref (ev_a E 64)), (1, .int x), (2, .int (nI n)), (3, .int (nI i))]) [] := by
  intro k
  induction k with
  | zero =>
    intro i n hi hn
    obtain ⟨⟨hL1, hL2, hL3⟩, hgs, hgm⟩ := id hB
    refine g_iload_n C dX8_classNumber_4 rfl ?_
    refine g_aload_n C dX8_classNumber_5 rfl ?_
    refine gf_X8_size C (by rfl) dX8_classNumber_6 kf_RX8_97 ?_
    rw [hgs]
    first | refine g_icgeN C 52 dX8_classNumber_9 (by decide) (by omega) (by omega) (fun h9 => ?_) (fun h9 => ?_) | refine g_icge C 52 dX8_classNumber_9 (by decide) (fun h9 => ?_) (fun h9 => ?_)
    · refine g_icz (v := -1) C dX8_classNumber_52 (by decide) ?_
      refine g_iload_n C dX8_classNumber_53 rfl ?_
      refine g_isub C dX8_classNumber_54 ?_
      refine g_iret C dX8_classNumber_55 ?_
      exact ⟨congrArg (fun v => some (Value.int v)) (rfl), rfl⟩
    · omega
  | succ k ih =>
    intro i n hi hn
    obtain ⟨⟨hL1, hL2, hL3⟩, hgs, hgm⟩ := id hB
    refine g_iload_n C dX8_classNumber_4 rfl ?_
    refine g_aload_n C dX8_classNumber_5 rfl ?_
    refine gf_X8_size C (by rfl) dX8_classNumber_6 kf_RX8_97 ?_
    rw [hgs]
    first | refine g_icgeN C 52 dX8_classNumber_9 (by decide) (by omega) (by omega) (fun h9 => ?_) (fun h9 => ?_) | refine g_icge C 52 dX8_classNumber_9 (by decide) (fun h9 => ?_) (fun h9 => ?_)
    · omega
    · refine g_aload_n C dX8_classNumber_12 rfl ?_
      refine g_aload_n C dX8_classNumber_13 rfl ?_
      refine gf_X8_group C (by rfl) dX8_classNumber_14 kf_RX8_21 ?_
      refine g_iload_n C dX8_classNumber_17 rfl ?_
      refine g_ialdN C (by rfl) (by omega) (by first | decide | omega) dX8_classNumber_18 ?_
      rw [hgm i (by omega)]
      have hg := hL2 i (by omega)
      refine g_callVp C (ob_X8 (by rfl)) (c_X8_leastOf (d := d) hB hg) dX8_classNumber_19 km_RX8_112 kn_RX8 kc_yX8_leastOf ki_yX8_leastOf kx_yX8_leastOf (by omega) (by decide) ⟨by decide, by decide, rfl⟩ rfl (Nat.le_of_ble_eq_true rfl) ?_
      have hl := lsN_lt (L := L) hg
      refine g_aload_n C dX8_classNumber_22 rfl ?_
      refine gf_X8_group C (by rfl) dX8_classNumber_23 kf_RX8_21 ?_
      refine g_iload_n C dX8_classNumber_26 rfl ?_
      refine g_ialdN C (by rfl) (by omega) (by first | decide | omega) dX8_classNumber_27 ?_
      rw [hgm i (by omega)]
      refine g_icneN C 46 dX8_classNumber_28 (by decide) (by omega) (by omega) (fun h28 => ?_) (fun h28 => ?_)
      · have e : cnL L x (k + 1) i n = cnL L x k (i + 1) n := by rw [cnL, if_neg h28]
        refine g_iinc1 C dX8_classNumber_46 rfl (by decide) ?_
        refine g_goto C 4 dX8_classNumber_49 (by decide) ?_
        rw [e]
        first | (refine g_loc ([(0, .ref (ev_a E 64)), (1, .int x), (2, .int (nI (n + 1))), (3, .int (nI (i + 1)))]) (And.intro rfl (And.intro rfl (And.intro rfl (And.intro rfl trivial)))) ?_; exact ih (i + 1) (n + 1) (by omega) (by omega)) | (refine g_loc ([(0, .ref (ev_a E 64)), (1, .int x), (2, .int (nI n)), (3, .int (nI (i + 1)))]) (And.intro rfl (And.intro rfl (And.intro rfl (And.intro rfl trivial)))) ?_; exact ih (i + 1) n (by omega) (by omega))
      · refine g_iload_n C dX8_classNumber_31 rfl ?_
        refine g_iload_n C dX8_classNumber_32 rfl ?_
        refine g_icne C 43 dX8_classNumber_33 (by decide) (fun h33 => ?_) (fun h33 => ?_)
        · have e : cnL L x (k + 1) i n = cnL L x k (i + 1) (n + 1) := by rw [cnL, if_pos h28, if_neg h33]
          refine g_iinc1 C dX8_classNumber_43 rfl (by decide) ?_
          refine g_iinc1 C dX8_classNumber_46 rfl (by decide) ?_
          refine g_goto C 4 dX8_classNumber_49 (by decide) ?_
          rw [e]
          first | (refine g_loc ([(0, .ref (ev_a E 64)), (1, .int x), (2, .int (nI (n + 1))), (3, .int (nI (i + 1)))]) (And.intro rfl (And.intro rfl (And.intro rfl (And.intro rfl trivial)))) ?_; exact ih (i + 1) (n + 1) (by omega) (by omega)) | (refine g_loc ([(0, .ref (ev_a E 64)), (1, .int x), (2, .int (nI n)), (3, .int (nI (i + 1)))]) (And.intro rfl (And.intro rfl (And.intro rfl (And.intro rfl trivial)))) ?_; exact ih (i + 1) n (by omega) (by omega))
        · refine g_aload_n C dX8_classNumber_36 rfl ?_
          refine gf_X8_group C (by rfl) dX8_classNumber_37 kf_RX8_21 ?_
          refine g_iload_n C dX8_classNumber_40 rfl ?_
          refine g_ialdN C (by rfl) (by omega) (by first | decide | omega) dX8_classNumber_41 ?_
          rw [hgm i (by omega)]
          refine g_iret C dX8_classNumber_42 ?_
          exact ⟨congrArg (fun v => some (Value.int v)) (by rw [cnL, if_pos h28, if_pos h33]), rfl⟩

set_option maxHeartbeats 4000000 in
set_option maxRecDepth 100000 in
theorem c_X8_classNumber {E : Ev} {d : Nat} {σ : St} {L : List Nat} (hB : GmB σ L) {x : Int32} : Con E (d + 8) yX8_classNumber cX8_classNumber 4 ((Option.some FieldType.int)) [.ref (ev_a E 64), .int x] σ (Det (some (.int (cnL L x L.length 0 0))) σ) := by
  refine con_of (by decide) (Nat.le_of_ble_eq_true rfl) (fun X hX C => ?_)
  have C : Cx E X cX8_classNumber RX8 4 ((Option.some FieldType.int)) := C
  show G E _ X _ _ _ 0 [(0, .ref (ev_a E 64)), (1, .int x)] []
  refine g_ic (n := 0) C dX8_classNumber_0 (by decide) ?_
  refine g_istore_n C dX8_classNumber_1 (by decide) ?_
  refine g_ic (n := 0) C dX8_classNumber_2 (by decide) ?_
  refine g_istore_n C dX8_classNumber_3 (by decide) ?_
  refine g_loc ([(0, .ref (ev_a E 64)), (1, .int x), (2, .int (nI 0)), (3, .int (nI 0))]) (And.intro rfl (And.intro rfl (And.intro rfl (And.intro rfl trivial)))) ?_
  exact l_X8_classNumber C hB L.length 0 0 (by omega) (by omega)

set_option maxHeartbeats 4000000 in
set_option maxRecDepth 100000 in
theorem c_X8_classes {E : Ev} {d : Nat} {σ : St} {L : List Nat} (hB : GmB σ L) : Con E (d + 9) yX8_classes cX8_classes 1 ((Option.some FieldType.int)) [.ref (ev_a E 64)] σ (Det (some (.int (-1 - cnL L (nI 48) L.length 0 0))) σ) := by
  refine con_of (by decide) (Nat.le_of_ble_eq_true rfl) (fun X hX C => ?_)
  have C : Cx E X cX8_classes RX8 1 ((Option.some FieldType.int)) := C
  show G E _ X _ _ _ 0 [(0, .ref (ev_a E 64))] []
  refine g_icz (v := -1) C dX8_classes_0 (by decide) ?_
  refine g_aload_n C dX8_classes_1 rfl ?_
  refine g_bp C (nI 48) dX8_classes_2 (by decide) ?_
  refine g_callVp C (ob_X8 (by rfl)) (c_X8_classNumber (d := d) hB) dX8_classes_4 km_RX8_115 kn_RX8 kc_yX8_classNumber ki_yX8_classNumber kx_yX8_classNumber (by omega) (by decide) ⟨by decide, by decide, rfl⟩ rfl (Nat.le_of_ble_eq_true rfl) ?_
  refine g_isub C dX8_classes_7 ?_
  refine g_iret C dX8_classes_8 ?_
  exact ⟨congrArg (fun v => some (Value.int v)) (rfl), rfl⟩

set_option maxHeartbeats 4000000 in
set_option maxRecDepth 100000 in
theorem l_X8_orbitOf {E : Ev} {d : Nat} {X : Mx} (C : Cx E X cX8_orbitOf RX8 4 ((Option.some FieldType.int))) {σ : St} {L : List Nat} (hB : GmB σ L) {n p : Nat} {P : Nat → Nat → Int32} (h : PIs σ n P) (hp : p < n) : ∀ (k : Nat) (i : Nat) (a : Int32), L.length = i + k → G E (d + 7) X 4 (Det (some (.int (foO P n p L k i a))) σ) σ 4 ([(0, .ref (ev_a E 64)), (1, .int (nI p)), (2, .int a), (3, .int (nI i))]) [] := by
  intro k
  induction k with
  | zero =>
    intro i a hi
    obtain ⟨⟨hL1, hL2, hL3⟩, hgs, hgm⟩ := id hB
    refine g_iload_n C dX8_orbitOf_4 rfl ?_
    refine g_aload_n C dX8_orbitOf_5 rfl ?_
    refine gf_X8_size C (by rfl) dX8_orbitOf_6 kf_RX8_97 ?_
    rw [hgs]
    first | refine g_icgeN C 34 dX8_orbitOf_9 (by decide) (by omega) (by omega) (fun h9 => ?_) (fun h9 => ?_) | refine g_icge C 34 dX8_orbitOf_9 (by decide) (fun h9 => ?_) (fun h9 => ?_)
    · refine g_iload_n C dX8_orbitOf_34 rfl ?_
      refine g_iret C dX8_orbitOf_35 ?_
      exact ⟨congrArg (fun v => some (Value.int v)) (rfl), rfl⟩
    · omega
  | succ k ih =>
    intro i a hi
    obtain ⟨⟨hL1, hL2, hL3⟩, hgs, hgm⟩ := id hB
    refine g_iload_n C dX8_orbitOf_4 rfl ?_
    refine g_aload_n C dX8_orbitOf_5 rfl ?_
    refine gf_X8_size C (by rfl) dX8_orbitOf_6 kf_RX8_97 ?_
    rw [hgs]
    first | refine g_icgeN C 34 dX8_orbitOf_9 (by decide) (by omega) (by omega) (fun h9 => ?_) (fun h9 => ?_) | refine g_icge C 34 dX8_orbitOf_9 (by decide) (fun h9 => ?_) (fun h9 => ?_)
    · omega
    · refine g_iload_n C dX8_orbitOf_12 rfl ?_
      refine g_aload_n C dX8_orbitOf_13 rfl ?_
      refine g_aload_n C dX8_orbitOf_14 rfl ?_
      refine gf_X8_group C (by rfl) dX8_orbitOf_15 kf_RX8_21 ?_
      refine g_iload_n C dX8_orbitOf_18 rfl ?_
      refine g_ialdN C (by rfl) (by omega) (by first | decide | omega) dX8_orbitOf_19 ?_
      rw [hgm i (by omega)]
      have hg := hL2 i (by omega)
      refine g_iload_n C dX8_orbitOf_20 rfl ?_
      refine g_callVp C (ob_X8 (by rfl)) (c_X8_goesTo (d := d) h hg hp) dX8_orbitOf_21 km_RX8_90 kn_RX8 kc_yX8_goesTo ki_yX8_goesTo kx_yX8_goesTo (by omega) (by decide) ⟨by decide, by decide, rfl⟩ rfl (Nat.le_of_ble_eq_true rfl) ?_
      refine g_min C km_RX8_107 ks_yJ9_min_7cf53 kn_RJ9 kc_yJ9_min_7cf53 (by omega) (Nat.le_of_ble_eq_true rfl) dX8_orbitOf_24 ?_
      refine g_istore_n C dX8_orbitOf_27 (by decide) ?_
      refine g_iinc1 C dX8_orbitOf_28 rfl (by decide) ?_
      refine g_goto C 4 dX8_orbitOf_31 (by decide) ?_
      refine g_loc ([(0, .ref (ev_a E 64)), (1, .int (nI p)), (2, .int (if oI (goT P n (lg L i) p) < a then oI (goT P n (lg L i) p) else a)), (3, .int (nI (i + 1)))]) (And.intro rfl (And.intro rfl (And.intro rfl (And.intro rfl trivial)))) ?_
      exact ih (i + 1) _ (by omega)

set_option maxHeartbeats 4000000 in
set_option maxRecDepth 100000 in
theorem c_X8_orbitOf {E : Ev} {d : Nat} {σ : St} {L : List Nat} (hB : GmB σ L) {n p : Nat} {P : Nat → Nat → Int32} (h : PIs σ n P) (hp : p < n) : Con E (d + 7) yX8_orbitOf cX8_orbitOf 4 ((Option.some FieldType.int)) [.ref (ev_a E 64), .int (nI p)] σ (Det (some (.int (oV P n L p))) σ) := by
  refine con_of (by decide) (Nat.le_of_ble_eq_true rfl) (fun X hX C => ?_)
  have C : Cx E X cX8_orbitOf RX8 4 ((Option.some FieldType.int)) := C
  show G E _ X _ _ _ 0 [(0, .ref (ev_a E 64)), (1, .int (nI p))] []
  refine g_iload_n C dX8_orbitOf_0 rfl ?_
  refine g_istore_n C dX8_orbitOf_1 (by decide) ?_
  refine g_ic (n := 0) C dX8_orbitOf_2 (by decide) ?_
  refine g_istore_n C dX8_orbitOf_3 (by decide) ?_
  refine g_loc ([(0, .ref (ev_a E 64)), (1, .int (nI p)), (2, .int (nI p)), (3, .int (nI 0))]) (And.intro rfl (And.intro rfl (And.intro rfl (And.intro rfl trivial)))) ?_
  exact l_X8_orbitOf C hB h hp L.length 0 (nI p) (by omega)

set_option maxHeartbeats 4000000 in
set_option maxRecDepth 100000 in
theorem l_X8_orbits {E : Ev} {d : Nat} {X : Mx} (C : Cx E X cX8_orbits RX8 3 ((Option.some FieldType.int))) {σ : St} {L : List Nat} (hB : GmB σ L) {n : Nat} {P : Nat → Nat → Int32} (h : PIs σ n P) : ∀ (k : Nat) (p c : Nat), n = p + k → c ≤ p → G E (d + 8) X 3 (Det (some (.int (nI (ocL P n L k p c)))) σ) σ 4 ([(0, .ref (ev_a E 64)), (1, .int (nI c)), (2, .int (nI p))]) [] := by
  intro k
  induction k with
  | zero =>
    intro p c hi hc
    have h8 := h.1
    refine g_iload_n C dX8_orbits_4 rfl ?_
    refine g_aload_n C dX8_orbits_5 rfl ?_
    refine gf_X8_w C (by rfl) dX8_orbits_6 kf_RX8_11 ?_
    refine g_ic (n := 0) C dX8_orbits_9 (by decide) ?_
    refine g_ialdN C (by rfl) (by omega) (by first | decide | omega) dX8_orbits_10 ?_
    rw [h.2.1]
    first | refine g_icgeN C 37 dX8_orbits_11 (by decide) (by omega) (by omega) (fun h11 => ?_) (fun h11 => ?_) | refine g_icge C 37 dX8_orbits_11 (by decide) (fun h11 => ?_) (fun h11 => ?_)
    · refine g_iload_n C dX8_orbits_37 rfl ?_
      refine g_iret C dX8_orbits_38 ?_
      exact ⟨congrArg (fun v => some (Value.int v)) (rfl), rfl⟩
    · omega
  | succ k ih =>
    intro p c hi hc
    have h8 := h.1
    refine g_iload_n C dX8_orbits_4 rfl ?_
    refine g_aload_n C dX8_orbits_5 rfl ?_
    refine gf_X8_w C (by rfl) dX8_orbits_6 kf_RX8_11 ?_
    refine g_ic (n := 0) C dX8_orbits_9 (by decide) ?_
    refine g_ialdN C (by rfl) (by omega) (by first | decide | omega) dX8_orbits_10 ?_
    rw [h.2.1]
    first | refine g_icgeN C 37 dX8_orbits_11 (by decide) (by omega) (by omega) (fun h11 => ?_) (fun h11 => ?_) | refine g_icge C 37 dX8_orbits_11 (by decide) (fun h11 => ?_) (fun h11 => ?_)
    · omega
    · refine g_iload_n C dX8_orbits_14 rfl ?_
      refine g_aload_n C dX8_orbits_15 rfl ?_
      refine g_iload_n C dX8_orbits_16 rfl ?_
      refine g_callVp C (ob_X8 (by rfl)) (c_X8_orbitOf (d := d) hB h (by first | assumption | omega)) dX8_orbits_17 km_RX8_118 kn_RX8 kc_yX8_orbitOf ki_yX8_orbitOf kx_yX8_orbitOf (by omega) (by decide) ⟨by decide, by decide, rfl⟩ rfl (Nat.le_of_ble_eq_true rfl) ?_
      refine g_iload_n C dX8_orbits_20 rfl ?_
      refine g_icne C 28 dX8_orbits_21 (by decide) (fun h21 => ?_) (fun h21 => ?_)
      · have e : ocL P n L (k + 1) p c = ocL P n L k (p + 1) c := by rw [ocL, if_neg h21]
        refine g_ic (n := 0) C dX8_orbits_28 (by decide) ?_
        first | refine g_iaddN C dX8_orbits_29 ?_ | refine g_iadd C dX8_orbits_29 ?_
        refine g_istore_n C dX8_orbits_30 (by decide) ?_
        refine g_iinc1 C dX8_orbits_31 rfl (by decide) ?_
        refine g_goto C 4 dX8_orbits_34 (by decide) ?_
        rw [e]
        first | (refine g_loc ([(0, .ref (ev_a E 64)), (1, .int (nI (c + 1))), (2, .int (nI (p + 1)))]) (And.intro rfl (And.intro rfl (And.intro rfl trivial))) ?_; exact ih (p + 1) (c + 1) (by omega) (by omega)) | (refine g_loc ([(0, .ref (ev_a E 64)), (1, .int (nI (c + 0))), (2, .int (nI (p + 1)))]) (And.intro rfl (And.intro rfl (And.intro rfl trivial))) ?_; exact ih (p + 1) c (by omega) (by omega))
      · have e : ocL P n L (k + 1) p c = ocL P n L k (p + 1) (c + 1) := by rw [ocL, if_pos h21]
        refine g_ic (n := 1) C dX8_orbits_24 (by decide) ?_
        refine g_goto C 29 dX8_orbits_25 (by decide) ?_
        first | refine g_iaddN C dX8_orbits_29 ?_ | refine g_iadd C dX8_orbits_29 ?_
        refine g_istore_n C dX8_orbits_30 (by decide) ?_
        refine g_iinc1 C dX8_orbits_31 rfl (by decide) ?_
        refine g_goto C 4 dX8_orbits_34 (by decide) ?_
        rw [e]
        first | (refine g_loc ([(0, .ref (ev_a E 64)), (1, .int (nI (c + 1))), (2, .int (nI (p + 1)))]) (And.intro rfl (And.intro rfl (And.intro rfl trivial))) ?_; exact ih (p + 1) (c + 1) (by omega) (by omega)) | (refine g_loc ([(0, .ref (ev_a E 64)), (1, .int (nI (c + 0))), (2, .int (nI (p + 1)))]) (And.intro rfl (And.intro rfl (And.intro rfl trivial))) ?_; exact ih (p + 1) c (by omega) (by omega))

set_option maxHeartbeats 4000000 in
set_option maxRecDepth 100000 in
theorem c_X8_orbits {E : Ev} {d : Nat} {σ : St} {L : List Nat} (hB : GmB σ L) {n : Nat} {P : Nat → Nat → Int32} (h : PIs σ n P) : Con E (d + 8) yX8_orbits cX8_orbits 3 ((Option.some FieldType.int)) [.ref (ev_a E 64)] σ (Det (some (.int (nI (ocL P n L n 0 0)))) σ) := by
  refine con_of (by decide) (Nat.le_of_ble_eq_true rfl) (fun X hX C => ?_)
  have C : Cx E X cX8_orbits RX8 3 ((Option.some FieldType.int)) := C
  show G E _ X _ _ _ 0 [(0, .ref (ev_a E 64))] []
  refine g_ic (n := 0) C dX8_orbits_0 (by decide) ?_
  refine g_istore_n C dX8_orbits_1 (by decide) ?_
  refine g_ic (n := 0) C dX8_orbits_2 (by decide) ?_
  refine g_istore_n C dX8_orbits_3 (by decide) ?_
  refine g_loc ([(0, .ref (ev_a E 64)), (1, .int (nI 0)), (2, .int (nI 0))]) (And.intro rfl (And.intro rfl (And.intro rfl trivial))) ?_
  exact l_X8_orbits C hB h n 0 0 (by omega) (by omega)

set_option maxHeartbeats 4000000 in
set_option maxRecDepth 100000 in
theorem l_X8_isHanded {E : Ev} {d : Nat} {X : Mx} (C : Cx E X cX8_isHanded RX8 3 ((Option.some FieldType.boolean))) {σ : St} {L : List Nat} (hB : GmB σ L) : ∀ (k : Nat) (i : Nat) (b : Bool), L.length = i + k → G E (d + 2) X 3 (Det (some (.int (bI (b && hdL L k i)))) σ) σ 4 ([(0, .ref (ev_a E 64)), (1, .int (bI b)), (2, .int (nI i))]) [] := by
  intro k
  induction k with
  | zero =>
    intro i b hi
    obtain ⟨⟨hL1, hL2, hL3⟩, hgs, hgm⟩ := id hB
    refine g_iload_n C dX8_isHanded_4 rfl ?_
    refine g_aload_n C dX8_isHanded_5 rfl ?_
    refine gf_X8_size C (by rfl) dX8_isHanded_6 kf_RX8_97 ?_
    rw [hgs]
    first | refine g_icgeN C 39 dX8_isHanded_9 (by decide) (by omega) (by omega) (fun h9 => ?_) (fun h9 => ?_) | refine g_icge C 39 dX8_isHanded_9 (by decide) (fun h9 => ?_) (fun h9 => ?_)
    · refine g_iload_n C dX8_isHanded_39 rfl ?_
      refine g_zret C (bI_01 _) dX8_isHanded_40 ?_
      exact ⟨congrArg (fun v => some (Value.int v)) (by cases b <;> rfl), rfl⟩
    · omega
  | succ k ih =>
    intro i b hi
    obtain ⟨⟨hL1, hL2, hL3⟩, hgs, hgm⟩ := id hB
    refine g_iload_n C dX8_isHanded_4 rfl ?_
    refine g_aload_n C dX8_isHanded_5 rfl ?_
    refine gf_X8_size C (by rfl) dX8_isHanded_6 kf_RX8_97 ?_
    rw [hgs]
    first | refine g_icgeN C 39 dX8_isHanded_9 (by decide) (by omega) (by omega) (fun h9 => ?_) (fun h9 => ?_) | refine g_icge C 39 dX8_isHanded_9 (by decide) (fun h9 => ?_) (fun h9 => ?_)
    · omega
    · refine g_iload_n C dX8_isHanded_12 rfl ?_
      refine g_aload_n C dX8_isHanded_13 rfl ?_
      refine gf_X8_group C (by rfl) dX8_isHanded_14 kf_RX8_21 ?_
      refine g_iload_n C dX8_isHanded_17 rfl ?_
      refine g_ialdN C (by rfl) (by omega) (by first | decide | omega) dX8_isHanded_18 ?_
      rw [hgm i (by omega)]
      have hg := hL2 i (by omega)
      refine g_callSp C (c_X8_turnOf (d := d) hg) dX8_isHanded_19 km_RX8_121 kn_RX8 kc_yX8_turnOf ks_yX8_turnOf (by omega) (by decide) ⟨by decide, by decide, rfl⟩ rfl (Nat.le_of_ble_eq_true rfl) ?_
      refine g_ic (n := 1) C dX8_isHanded_22 (by decide) ?_
      refine g_icne C 30 dX8_isHanded_23 (by decide) (fun h23 => ?_) (fun h23 => ?_)
      · have hc : tuI (lg L i) = -1 := Classical.byContradiction (fun q => h23 ((tu_1 _ hg).mpr q))
        refine g_ic (n := 0) C dX8_isHanded_30 (by decide) ?_
        rw [show nI 0 = bI false from rfl]
        refine g_iand C dX8_isHanded_31 ?_
        rw [bI_and]
        refine g_istore_n C dX8_isHanded_32 (by decide) ?_
        refine g_iinc1 C dX8_isHanded_33 rfl (by decide) ?_
        refine g_goto C 4 dX8_isHanded_36 (by decide) ?_
        first | (refine g_loc ([(0, .ref (ev_a E 64)), (1, .int (bI (b && true))), (2, .int (nI (i + 1)))]) (And.intro rfl (And.intro rfl (And.intro rfl trivial))) ?_; have e : (b && hdL L (k + 1) i) = ((b && true) && hdL L k (i + 1)) := by rw [hdL, if_neg hc, Bool.and_true]) | (refine g_loc ([(0, .ref (ev_a E 64)), (1, .int (bI (b && false))), (2, .int (nI (i + 1)))]) (And.intro rfl (And.intro rfl (And.intro rfl trivial))) ?_; have e : (b && hdL L (k + 1) i) = ((b && false) && hdL L k (i + 1)) := by rw [hdL, if_pos hc]; simp)
        rw [e]
        exact ih (i + 1) _ (by omega)
      · have hc : ¬ tuI (lg L i) = -1 := (tu_1 _ hg).mp h23
        refine g_ic (n := 1) C dX8_isHanded_26 (by decide) ?_
        rw [show nI 1 = bI true from rfl]
        refine g_goto C 31 dX8_isHanded_27 (by decide) ?_
        refine g_iand C dX8_isHanded_31 ?_
        rw [bI_and]
        refine g_istore_n C dX8_isHanded_32 (by decide) ?_
        refine g_iinc1 C dX8_isHanded_33 rfl (by decide) ?_
        refine g_goto C 4 dX8_isHanded_36 (by decide) ?_
        first | (refine g_loc ([(0, .ref (ev_a E 64)), (1, .int (bI (b && true))), (2, .int (nI (i + 1)))]) (And.intro rfl (And.intro rfl (And.intro rfl trivial))) ?_; have e : (b && hdL L (k + 1) i) = ((b && true) && hdL L k (i + 1)) := by rw [hdL, if_neg hc, Bool.and_true]) | (refine g_loc ([(0, .ref (ev_a E 64)), (1, .int (bI (b && false))), (2, .int (nI (i + 1)))]) (And.intro rfl (And.intro rfl (And.intro rfl trivial))) ?_; have e : (b && hdL L (k + 1) i) = ((b && false) && hdL L k (i + 1)) := by rw [hdL, if_pos hc]; simp)
        rw [e]
        exact ih (i + 1) _ (by omega)

set_option maxHeartbeats 4000000 in
set_option maxRecDepth 100000 in
theorem c_X8_isHanded {E : Ev} {d : Nat} {σ : St} {L : List Nat} (hB : GmB σ L) : Con E (d + 2) yX8_isHanded cX8_isHanded 3 ((Option.some FieldType.boolean)) [.ref (ev_a E 64)] σ (Det (some (.int (bI (hdL L L.length 0)))) σ) := by
  refine con_of (by decide) (Nat.le_of_ble_eq_true rfl) (fun X hX C => ?_)
  have C : Cx E X cX8_isHanded RX8 3 ((Option.some FieldType.boolean)) := C
  show G E _ X _ _ _ 0 [(0, .ref (ev_a E 64))] []
  refine g_ic (n := 1) C dX8_isHanded_0 (by decide) ?_
  refine g_istore_n C dX8_isHanded_1 (by decide) ?_
  refine g_ic (n := 0) C dX8_isHanded_2 (by decide) ?_
  refine g_istore_n C dX8_isHanded_3 (by decide) ?_
  refine g_loc ([(0, .ref (ev_a E 64)), (1, .int (bI true)), (2, .int (nI 0))]) (And.intro rfl (And.intro rfl (And.intro rfl trivial))) ?_
  exact l_X8_isHanded C hB L.length 0 true (by omega)

set_option maxHeartbeats 4000000 in
set_option maxRecDepth 100000 in
theorem l_X8_nearest {E : Ev} {d : Nat} {X : Mx} (C : Cx E X cX8_nearest RX8 3 ((Option.some FieldType.int))) {σ : St} {n : Nat} {P : Nat → Nat → Int32} (h : PIs σ n P) (hI : IiB σ n P) : ∀ (k : Nat) (m : Nat) (b : Option Nat) (f : Nat), 48 = m + k → (b = none ∧ f = 9 ∨ ∃ q, b = some q ∧ f = mvN P n q ∧ q < 48) → G E (d + 8) X 3 (Det (some (.int (oI (nrL P n k m b f)))) σ) σ 5 ([(0, .ref (ev_a E 64)), (1, .int (oI b)), (2, .int (nI m))]) [] := by
  intro k
  induction k with
  | zero =>
    intro m b f hm hb
    have h8 := h.1
    refine g_iload_n C dX8_nearest_5 rfl ?_
    refine g_bp C (nI 48) dX8_nearest_6 (by decide) ?_
    first | refine g_icgeN C 51 dX8_nearest_8 (by decide) (by omega) (by omega) (fun h8 => ?_) (fun h8 => ?_) | refine g_icge C 51 dX8_nearest_8 (by decide) (fun h8 => ?_) (fun h8 => ?_)
    · refine g_iload_n C dX8_nearest_51 rfl ?_
      refine g_iret C dX8_nearest_52 ?_
      exact ⟨congrArg (fun v => some (Value.int v)) (rfl), rfl⟩
    · omega
  | succ k ih =>
    intro m b f hm hb
    have h8 := h.1
    refine g_iload_n C dX8_nearest_5 rfl ?_
    refine g_bp C (nI 48) dX8_nearest_6 (by decide) ?_
    first | refine g_icgeN C 51 dX8_nearest_8 (by decide) (by omega) (by omega) (fun h8 => ?_) (fun h8 => ?_) | refine g_icge C 51 dX8_nearest_8 (by decide) (fun h8 => ?_) (fun h8 => ?_)
    · omega
    · refine g_aload_n C dX8_nearest_11 rfl ?_
      refine gf_X8_isIn C (by rfl) dX8_nearest_12 kf_RX8_24 ?_
      refine g_iload_n C dX8_nearest_15 rfl ?_
      refine g_zaldN C (by rfl) (by omega) (by first | decide | omega) dX8_nearest_16 ?_
      rw [hI m (by omega)]
      refine g_ifneB C 43 dX8_nearest_17 (by decide) (fun h17 => ?_) (fun h17 => ?_)
      · have e : nrL P n (k + 1) m b f = nrL P n k (m + 1) b f := by rw [nrL, if_neg (fun q => by rw [h17] at q; exact absurd q.1 (by decide))]
        refine g_iload_n C dX8_nearest_43 rfl ?_
        refine g_istore_n C dX8_nearest_44 (by decide) ?_
        refine g_iinc1 C dX8_nearest_45 rfl (by decide) ?_
        refine g_goto C 5 dX8_nearest_48 (by decide) ?_
        rw [e]
        refine g_loc ([(0, .ref (ev_a E 64)), (1, .int (oI b)), (2, .int (nI (m + 1)))]) (And.intro rfl (And.intro rfl (And.intro rfl trivial))) ?_
        exact ih (m + 1) b f (by omega) hb
      · rcases hb with ⟨rfl, rfl⟩ | ⟨q, rfl, rfl, hq⟩
        · have b0 := mvN_le (P := P) (n := n) (m := m)
          refine g_iload_n C dX8_nearest_20 rfl ?_
          refine g_bp C (-5) dX8_nearest_21 (by decide) ?_
          refine g_iceq C 39 dX8_nearest_23 (by decide) (fun h23 => ?_) (fun h23 => ?_)
          · have e : nrL P n (k + 1) m none 9 = nrL P n k (m + 1) (some m) (mvN P n m) := by rw [nrL, if_pos ⟨h17, (by omega)⟩]
            refine g_iload_n C dX8_nearest_39 rfl ?_
            refine g_goto C 44 dX8_nearest_40 (by decide) ?_
            refine g_istore_n C dX8_nearest_44 (by decide) ?_
            refine g_iinc1 C dX8_nearest_45 rfl (by decide) ?_
            refine g_goto C 5 dX8_nearest_48 (by decide) ?_
            rw [e]
            refine g_loc ([(0, .ref (ev_a E 64)), (1, .int (oI (some m))), (2, .int (nI (m + 1)))]) (And.intro rfl (And.intro rfl (And.intro rfl trivial))) ?_
            exact ih (m + 1) (some m) (mvN P n m) (by omega) (Or.inr ⟨m, rfl, rfl, by omega⟩)
          · exact absurd rfl h23
        · have b0 := mvN_le (P := P) (n := n) (m := m)
          have b1 := mvN_le (P := P) (n := n) (m := q)
          show G E _ X _ _ _ _ [(0, .ref (ev_a E 64)), (1, .int (nI q)), (2, .int (nI m))] _
          refine g_iload_n C dX8_nearest_20 rfl ?_
          refine g_bp C (-5) dX8_nearest_21 (by decide) ?_
          refine g_iceq C 39 dX8_nearest_23 (by decide) (fun h23 => ?_) (fun h23 => ?_)
          · exact absurd h23 (oI_ne q hq (by omega))
          · refine g_aload_n C dX8_nearest_26 rfl ?_
            refine g_iload_n C dX8_nearest_27 rfl ?_
            refine g_callVp C (ob_X8 (by rfl)) (c_X8_movedMany (d := d) h (by omega)) dX8_nearest_28 km_RX8_101 kn_RX8 kc_yX8_movedMany ki_yX8_movedMany kx_yX8_movedMany (by omega) (by decide) ⟨by decide, by decide, rfl⟩ rfl (Nat.le_of_ble_eq_true rfl) ?_
            refine g_aload_n C dX8_nearest_31 rfl ?_
            refine g_iload_n C dX8_nearest_32 rfl ?_
            refine g_callVp C (ob_X8 (by rfl)) (c_X8_movedMany (d := d) h hq) dX8_nearest_33 km_RX8_101 kn_RX8 kc_yX8_movedMany ki_yX8_movedMany kx_yX8_movedMany (by omega) (by decide) ⟨by decide, by decide, rfl⟩ rfl (Nat.le_of_ble_eq_true rfl) ?_
            refine g_icgeN C 43 dX8_nearest_36 (by decide) (by omega) (by omega) (fun h36 => ?_) (fun h36 => ?_)
            · have e : nrL P n (k + 1) m (some q) (mvN P n q) = nrL P n k (m + 1) (some q) (mvN P n q) := by rw [nrL, if_neg (fun q => by have := q.2; omega)]
              refine g_iload_n C dX8_nearest_43 rfl ?_
              refine g_istore_n C dX8_nearest_44 (by decide) ?_
              refine g_iinc1 C dX8_nearest_45 rfl (by decide) ?_
              refine g_goto C 5 dX8_nearest_48 (by decide) ?_
              rw [e]
              refine g_loc ([(0, .ref (ev_a E 64)), (1, .int (oI (some q))), (2, .int (nI (m + 1)))]) (And.intro rfl (And.intro rfl (And.intro rfl trivial))) ?_
              exact ih (m + 1) (some q) (mvN P n q) (by omega) (Or.inr ⟨q, rfl, rfl, hq⟩)
            · have e : nrL P n (k + 1) m (some q) (mvN P n q) = nrL P n k (m + 1) (some m) (mvN P n m) := by rw [nrL, if_pos ⟨h17, h36⟩]
              refine g_iload_n C dX8_nearest_39 rfl ?_
              refine g_goto C 44 dX8_nearest_40 (by decide) ?_
              refine g_istore_n C dX8_nearest_44 (by decide) ?_
              refine g_iinc1 C dX8_nearest_45 rfl (by decide) ?_
              refine g_goto C 5 dX8_nearest_48 (by decide) ?_
              rw [e]
              refine g_loc ([(0, .ref (ev_a E 64)), (1, .int (oI (some m))), (2, .int (nI (m + 1)))]) (And.intro rfl (And.intro rfl (And.intro rfl trivial))) ?_
              exact ih (m + 1) (some m) (mvN P n m) (by omega) (Or.inr ⟨m, rfl, rfl, by omega⟩)

set_option maxHeartbeats 4000000 in
set_option maxRecDepth 100000 in
theorem c_X8_nearest {E : Ev} {d : Nat} {σ : St} {n : Nat} {P : Nat → Nat → Int32} (h : PIs σ n P) (hI : IiB σ n P) : Con E (d + 8) yX8_nearest cX8_nearest 3 ((Option.some FieldType.int)) [.ref (ev_a E 64)] σ (Det (some (.int (oI (nrL P n 48 0 none 9)))) σ) := by
  refine con_of (by decide) (Nat.le_of_ble_eq_true rfl) (fun X hX C => ?_)
  have C : Cx E X cX8_nearest RX8 3 ((Option.some FieldType.int)) := C
  show G E _ X _ _ _ 0 [(0, .ref (ev_a E 64))] []
  refine g_bp C (-5) dX8_nearest_0 (by decide) ?_
  refine g_istore_n C dX8_nearest_2 (by decide) ?_
  refine g_ic (n := 0) C dX8_nearest_3 (by decide) ?_
  refine g_istore_n C dX8_nearest_4 (by decide) ?_
  refine g_loc ([(0, .ref (ev_a E 64)), (1, .int (oI none)), (2, .int (nI 0))]) (And.intro rfl (And.intro rfl (And.intro rfl trivial))) ?_
  exact l_X8_nearest C h hI 48 0 none 9 (by omega) (Or.inl ⟨rfl, rfl⟩)

