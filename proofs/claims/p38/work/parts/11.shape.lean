/-! POINTS: n of them, P p i: of point p X, Y, Z (i 0, 1, 2), MARK (3); and the contracts of ShapeMoves$Shape -/
def cxr (r : Nat → Int32) (m i : Nat) : Int32 := if sbN m i = 0 then r (axN m i) else - r (axN m i)
def ptL (P : Nat → Nat → Int32) (x y z : Int32) : Nat → Nat → Option Nat
  | 0, _ => none
  | k + 1, i => if P i 0 = x ∧ P i 1 = y ∧ P i 2 = z then some i else ptL P x y z k (i + 1)
def oI : Option Nat → Int32
  | none => -5
  | some p => nI p
def goT (P : Nat → Nat → Int32) (n m p : Nat) : Option Nat := ptL P (cxr (P p) m 0) (cxr (P p) m 1) (cxr (P p) m 2) n 0
def mvd (P : Nat → Nat → Int32) (n m p : Nat) : Bool := match goT P n m p with
  | none => true
  | some q => decide (¬ P q 3 = P p 3)
def mcL (P : Nat → Nat → Int32) (n m : Nat) : Nat → Nat → Nat → Nat
  | 0, _, c => c
  | k + 1, i, c => mcL P n m k (i + 1) (if mvd P n m i = true then c + 1 else c)
def mvN (P : Nat → Nat → Int32) (n m : Nat) : Nat := mcL P n m n 0 0
def kpL (P : Nat → Nat → Int32) (n m : Nat) : Nat → Nat → Bool
  | 0, _ => true
  | k + 1, i => if mvd P n m i = true then false else kpL P n m k (i + 1)
def kpt (P : Nat → Nat → Int32) (n m : Nat) : Bool := kpL P n m n 0
def ksL (P : Nat → Nat → Int32) (n : Nat) : Nat → Nat → Nat → Nat
  | 0, _, c => c
  | k + 1, i, c => ksL P n k (i + 1) (if kpt P n i = true then c + 1 else c)
theorem ptL_lt {P : Nat → Nat → Int32} {x y z : Int32} : ∀ (k i q : Nat), ptL P x y z k i = some q → i ≤ q ∧ q < i + k := by
  intro k
  induction k with
  | zero => intro i q h; cases h
  | succ k ih =>
    intro i q h
    unfold ptL at h
    split at h
    · cases h; omega
    · have := ih _ _ h; omega
theorem goT_lt {P : Nat → Nat → Int32} {n m p q : Nat} (h : goT P n m p = some q) : q < n := by have := ptL_lt _ _ _ h; omega
theorem mcL_le {P : Nat → Nat → Int32} {n m : Nat} : ∀ (k i c : Nat), mcL P n m k i c ≤ c + k := by
  intro k
  induction k with
  | zero => intro i c; exact Nat.le_refl _
  | succ k ih =>
    intro i c
    unfold mcL
    exact Nat.le_trans (ih _ _) (by split <;> omega)
def ShIs (σ : St) (b n : Nat) (P : Nat → Nat → Int32) : Prop := kd b = (2, 0) ∧ n ≤ 8 ∧ σ.1 b 2 = nI n ∧ kd (b + 1) = (12, 24) ∧ kd (b + 2) = (12, 8) ∧ ∀ p, p < n → σ.1 (b + 1) (3 * p) = P p 0 ∧ σ.1 (b + 1) (3 * p + 1) = P p 1 ∧ σ.1 (b + 1) (3 * p + 2) = P p 2 ∧ σ.1 (b + 2) p = P p 3
theorem ShIs.i {σ : St} {b n : Nat} {P : Nat → Nat → Int32} (h : ShIs σ b n P) {p i : Nat} (hp : p < n) (hi : i < 3) : σ.1 (b + 1) (3 * p + i) = P p i := by
  obtain ⟨h0, h1, h2, -⟩ := h.2.2.2.2.2 p hp
  match i, hi with
  | 0, _ => exact h0
  | 1, _ => exact h1
  | 2, _ => exact h2
theorem ShIs.to {σ : St} {b n : Nat} {P P' : Nat → Nat → Int32} (h : ShIs σ b n P) (e : ∀ p, p < n → ∀ i, i < 4 → P p i = P' p i) : ShIs σ b n P' := by
  obtain ⟨h1, h2, h3, h4, h5, h6⟩ := h
  exact ⟨h1, h2, h3, h4, h5, fun p hp => by
    have := h6 p hp
    rw [e p hp 0 (by decide), e p hp 1 (by decide), e p hp 2 (by decide), e p hp 3 (by decide)] at this
    exact this⟩
/-- nothing but the cells of l is otherwise -/
def Fr (l : List Nat) (σ σ' : St) : Prop := ∀ c, c ∉ l → σ'.1 c = σ.1 c ∧ σ'.2 c = σ.2 c
theorem Fr.rf {l : List Nat} {σ : St} : Fr l σ σ := fun _ _ => ⟨rfl, rfl⟩
theorem Fr.tr {l : List Nat} {σ σ1 σ2 : St} (h : Fr l σ σ1) (h2 : Fr l σ1 σ2) : Fr l σ σ2 := fun c hc => ⟨(h2 c hc).1.trans (h c hc).1, (h2 c hc).2.trans (h c hc).2⟩
theorem Fr.mono {l l' : List Nat} {σ σ1 : St} (h : Fr l σ σ1) (hl : ∀ c, c ∈ l → c ∈ l') : Fr l' σ σ1 := fun c hc => h c (fun q => hc (hl c q))
theorem Fr.sI {l : List Nat} {σ σ1 : St} {c : Nat} {f : Nat → Int32} (h : Fr l σ σ1) (hc : c ∈ l) : Fr l σ (sI σ1 c f) := fun q hq => by
  have : q ≠ c := fun e => hq (e ▸ hc)
  exact ⟨(sI_ne this).trans (h q hq).1, (h q hq).2⟩
theorem Fr.sL {l : List Nat} {σ σ1 : St} {c : Nat} {f : Nat → Int64} (h : Fr l σ σ1) (hc : c ∈ l) : Fr l σ (sL σ1 c f) := fun q hq => by
  have : q ≠ c := fun e => hq (e ▸ hc)
  exact ⟨(h q hq).1, (sL_ne this).trans (h q hq).2⟩
theorem sI_sI {σ : St} {c : Nat} {f g : Nat → Int32} : sI (sI σ c f) c g = sI σ c g := by
  show (_, _) = (_, _)
  simp only [sI]
  simp only [Prod.mk.injEq, and_true]
  funext q
  split <;> rfl
theorem ShIs.go {σ σ' : St} {b n : Nat} {P : Nat → Nat → Int32} {l : List Nat} (h : ShIs σ b n P) (hF : Fr l σ σ') (h0 : b ∉ l) (h1 : b + 1 ∉ l) (h2 : b + 2 ∉ l) : ShIs σ' b n P := by
  obtain ⟨a1, a2, a3, a4, a5, a6⟩ := h
  exact ⟨a1, a2, by rw [(hF _ h0).1]; exact a3, a4, a5, fun p hp => by rw [(hF _ h1).1, (hF _ h2).1]; exact a6 p hp⟩
set_option maxHeartbeats 4000000 in
set_option maxRecDepth 100000 in
theorem l_X4_pointAt {E : Ev} {d : Nat} {X : Mx} (C : Cx E X cX4_pointAt RX4 6 ((Option.some FieldType.int))) {σ : St} {b n : Nat} {P : Nat → Nat → Int32} (h : ShIs σ b n P) {x y z : Int32} : ∀ (k : Nat) (i : Nat), n = i + k → G E d X 6 (Det (some (.int (oI (ptL P x y z k i)))) σ) σ 3 ([(0, .ref (ev_a E b)), (1, .int x), (2, .int y), (3, .int z), (4, .int (nI i))]) [] := by
  intro k
  induction k with
  | zero =>
    intro i hi
    obtain ⟨hk, h8, hsz, hk1, hk2, hP⟩ := id h
    refine g_iload C dX4_pointAt_3 rfl ?_
    refine g_aload_n C dX4_pointAt_5 rfl ?_
    refine gf_X4_size C hk dX4_pointAt_6 kf_RX4_18 ?_
    rw [hsz]
    first | refine g_icgeN C 64 dX4_pointAt_9 (by decide) (by omega) (by omega) (fun h9 => ?_) (fun h9 => ?_) | refine g_icge C 64 dX4_pointAt_9 (by decide) (fun h9 => ?_) (fun h9 => ?_)
    · refine g_bp C (-5) dX4_pointAt_64 (by decide) ?_
      refine g_iret C dX4_pointAt_66 ?_
      exact ⟨congrArg (fun v => some (Value.int v)) (rfl), rfl⟩
    · omega
  | succ k ih =>
    intro i hi
    obtain ⟨hk, h8, hsz, hk1, hk2, hP⟩ := id h
    refine g_iload C dX4_pointAt_3 rfl ?_
    refine g_aload_n C dX4_pointAt_5 rfl ?_
    refine gf_X4_size C hk dX4_pointAt_6 kf_RX4_18 ?_
    rw [hsz]
    first | refine g_icgeN C 64 dX4_pointAt_9 (by decide) (by omega) (by omega) (fun h9 => ?_) (fun h9 => ?_) | refine g_icge C 64 dX4_pointAt_9 (by decide) (fun h9 => ?_) (fun h9 => ?_)
    · omega
    · refine g_ic (n := 3) C dX4_pointAt_12 (by decide) ?_
      refine g_iload C dX4_pointAt_13 rfl ?_
      first | refine g_imulN C dX4_pointAt_15 ?_ | refine g_imul C dX4_pointAt_15 ?_
      refine g_istore C dX4_pointAt_16 (by decide) ?_
      refine g_aload_n C dX4_pointAt_18 rfl ?_
      refine gf_X4_places C hk dX4_pointAt_19 kf_RX4_11 ?_
      refine g_iload C dX4_pointAt_22 rfl ?_
      refine g_ialdN C hk1 (by omega) (by first | decide | omega) dX4_pointAt_24 ?_
      rw [(hP i (by omega)).1]
      refine g_iload_n C dX4_pointAt_25 rfl ?_
      refine g_icne C 58 dX4_pointAt_26 (by decide) (fun h26 => ?_) (fun h26 => ?_)
      · refine g_iinc1 C dX4_pointAt_58 rfl (by decide) ?_
        refine g_goto C 3 dX4_pointAt_61 (by decide) ?_
        refine g_loc ([(0, .ref (ev_a E b)), (1, .int x), (2, .int y), (3, .int z), (4, .int (nI (i + 1)))]) (And.intro rfl (And.intro rfl (And.intro rfl (And.intro rfl (And.intro rfl trivial))))) ?_
        rw [show ptL P x y z (k + 1) i = ptL P x y z k (i + 1) from by simp [ptL, h9, h26]]
        exact ih (i + 1) (by omega)
      · refine g_aload_n C dX4_pointAt_29 rfl ?_
        refine gf_X4_places C hk dX4_pointAt_30 kf_RX4_11 ?_
        refine g_iload C dX4_pointAt_33 rfl ?_
        refine g_ic (n := 1) C dX4_pointAt_35 (by decide) ?_
        first | refine g_iaddN C dX4_pointAt_36 ?_ | refine g_iadd C dX4_pointAt_36 ?_
        refine g_ialdN C hk1 (by omega) (by first | decide | omega) dX4_pointAt_37 ?_
        rw [(hP i (by omega)).2.1]
        refine g_iload_n C dX4_pointAt_38 rfl ?_
        refine g_icne C 58 dX4_pointAt_39 (by decide) (fun h39 => ?_) (fun h39 => ?_)
        · refine g_iinc1 C dX4_pointAt_58 rfl (by decide) ?_
          refine g_goto C 3 dX4_pointAt_61 (by decide) ?_
          refine g_loc ([(0, .ref (ev_a E b)), (1, .int x), (2, .int y), (3, .int z), (4, .int (nI (i + 1)))]) (And.intro rfl (And.intro rfl (And.intro rfl (And.intro rfl (And.intro rfl trivial))))) ?_
          rw [show ptL P x y z (k + 1) i = ptL P x y z k (i + 1) from by simp [ptL, h9, h26, h39]]
          exact ih (i + 1) (by omega)
        · refine g_aload_n C dX4_pointAt_42 rfl ?_
          refine gf_X4_places C hk dX4_pointAt_43 kf_RX4_11 ?_
          refine g_iload C dX4_pointAt_46 rfl ?_
          refine g_ic (n := 2) C dX4_pointAt_48 (by decide) ?_
          first | refine g_iaddN C dX4_pointAt_49 ?_ | refine g_iadd C dX4_pointAt_49 ?_
          refine g_ialdN C hk1 (by omega) (by first | decide | omega) dX4_pointAt_50 ?_
          rw [(hP i (by omega)).2.2.1]
          refine g_iload_n C dX4_pointAt_51 rfl ?_
          refine g_icne C 58 dX4_pointAt_52 (by decide) (fun h52 => ?_) (fun h52 => ?_)
          · refine g_iinc1 C dX4_pointAt_58 rfl (by decide) ?_
            refine g_goto C 3 dX4_pointAt_61 (by decide) ?_
            refine g_loc ([(0, .ref (ev_a E b)), (1, .int x), (2, .int y), (3, .int z), (4, .int (nI (i + 1)))]) (And.intro rfl (And.intro rfl (And.intro rfl (And.intro rfl (And.intro rfl trivial))))) ?_
            rw [show ptL P x y z (k + 1) i = ptL P x y z k (i + 1) from by simp [ptL, h9, h26, h39, h52]]
            exact ih (i + 1) (by omega)
          · refine g_iload C dX4_pointAt_55 rfl ?_
            refine g_iret C dX4_pointAt_57 ?_
            exact ⟨congrArg (fun v => some (Value.int v)) (by simp [ptL, oI, h26, h39, h52]), rfl⟩
set_option maxHeartbeats 4000000 in
set_option maxRecDepth 100000 in
theorem c_X4_pointAt {E : Ev} {d : Nat} {σ : St} {b n : Nat} {P : Nat → Nat → Int32} (h : ShIs σ b n P) {x y z : Int32} : Con E (d) yX4_pointAt cX4_pointAt 6 ((Option.some FieldType.int)) [.ref (ev_a E b), .int x, .int y, .int z] σ (Det (some (.int (oI (ptL P x y z n 0)))) σ) := by
  refine con_of (by decide) (Nat.le_of_ble_eq_true rfl) (fun X hX C => ?_)
  have C : Cx E X cX4_pointAt RX4 6 ((Option.some FieldType.int)) := C
  show G E _ X _ _ _ 0 [(0, .ref (ev_a E b)), (1, .int x), (2, .int y), (3, .int z)] []
  refine g_ic (n := 0) C dX4_pointAt_0 (by decide) ?_
  refine g_istore C dX4_pointAt_1 (by decide) ?_
  refine g_loc ([(0, .ref (ev_a E b)), (1, .int x), (2, .int y), (3, .int z), (4, .int (nI 0))]) (And.intro rfl (And.intro rfl (And.intro rfl (And.intro rfl (And.intro rfl trivial))))) ?_
  exact l_X4_pointAt C h n 0 (by omega)
set_option maxHeartbeats 4000000 in
set_option maxRecDepth 100000 in
theorem c_X4_axisBehind {E : Ev} {d : Nat} {σ : St} {b n : Nat} {P : Nat → Nat → Int32} (h : ShIs σ b n P) {a p i : Nat} (ha : a < 48) (hp : p < n) (hi : i < 3) : Con E (d + 1) yX4_axisBehind cX4_axisBehind 5 ((Option.some FieldType.int)) [.ref (ev_a E b), .int (nI a), .int (nI p), .int (nI i)] σ (Det (some (.int (cxr (P p) a i))) σ) := by
  refine con_of (by decide) (Nat.le_of_ble_eq_true rfl) (fun X hX C => ?_)
  have C : Cx E X cX4_axisBehind RX4 5 ((Option.some FieldType.int)) := C
  obtain ⟨hk, h8, hsz, hk1, hk2, hP⟩ := id h
  show G E _ X _ _ _ 0 [(0, .ref (ev_a E b)), (1, .int (nI a)), (2, .int (nI p)), (3, .int (nI i))] []
  refine g_aload_n C dX4_axisBehind_0 rfl ?_
  refine gf_X4_places C hk dX4_axisBehind_1 kf_RX4_11 ?_
  refine g_ic (n := 3) C dX4_axisBehind_4 (by decide) ?_
  refine g_iload_n C dX4_axisBehind_5 rfl ?_
  first | refine g_imulN C dX4_axisBehind_6 ?_ | refine g_imul C dX4_axisBehind_6 ?_
  refine g_iload_n C dX4_axisBehind_7 rfl ?_
  refine g_iload_n C dX4_axisBehind_8 rfl ?_
  refine g_callSp C (c_X1_axisAt (d := d) (by first | assumption | omega | exact axN_lt _ (by assumption) _ (by omega)) (by first | assumption | omega | exact axN_lt _ (by assumption) _ (by omega))) dX4_axisBehind_9 km_RX4_32 kn_RX1 kc_yX1_axisAt ks_yX1_axisAt (by omega) (by decide) ⟨by decide, by decide, rfl⟩ rfl (Nat.le_of_ble_eq_true rfl) ?_
  first | refine g_iaddN C dX4_axisBehind_12 ?_ | refine g_iadd C dX4_axisBehind_12 ?_
  have b1 := axN_lt a ha i hi
  refine g_ialdN C hk1 (by omega) (by first | decide | omega) dX4_axisBehind_13 ?_
  rw [h.i hp (axN_lt a ha i hi)]
  refine g_istore C dX4_axisBehind_14 (by decide) ?_
  refine g_iload_n C dX4_axisBehind_16 rfl ?_
  refine g_iload_n C dX4_axisBehind_17 rfl ?_
  refine g_callSp C (c_X1_signBit (d := d) (by first | assumption | omega | exact axN_lt _ (by assumption) _ (by omega)) (by first | assumption | omega | exact axN_lt _ (by assumption) _ (by omega))) dX4_axisBehind_18 km_RX4_38 kn_RX1 kc_yX1_signBit ks_yX1_signBit (by omega) (by decide) ⟨by decide, by decide, rfl⟩ rfl (Nat.le_of_ble_eq_true rfl) ?_
  have b2 := sbN_lt a i
  first | refine g_ifneB C 29 dX4_axisBehind_21 (by decide) (fun h21 => ?_) (fun h21 => ?_) | refine g_ifneN C 29 dX4_axisBehind_21 (by decide) (by omega) (fun h21 => ?_) (fun h21 => ?_) | refine g_ifne C 29 dX4_axisBehind_21 (by decide) (fun h21 => ?_) (fun h21 => ?_)
  · refine g_iload C dX4_axisBehind_29 rfl ?_
    refine g_ineg C dX4_axisBehind_31 ?_
    refine g_iret C dX4_axisBehind_32 ?_
    exact ⟨congrArg (fun v => some (Value.int v)) (by simp [cxr, h21]), rfl⟩
  · refine g_iload C dX4_axisBehind_24 rfl ?_
    refine g_goto C 32 dX4_axisBehind_26 (by decide) ?_
    refine g_iret C dX4_axisBehind_32 ?_
    exact ⟨congrArg (fun v => some (Value.int v)) (by simp [cxr, h21]), rfl⟩
set_option maxHeartbeats 4000000 in
set_option maxRecDepth 100000 in
theorem c_X4_pointBehind {E : Ev} {d : Nat} {σ : St} {b n : Nat} {P : Nat → Nat → Int32} (h : ShIs σ b n P) {a p : Nat} (ha : a < 48) (hp : p < n) : Con E (d + 2) yX4_pointBehind cX4_pointBehind 3 ((Option.some FieldType.int)) [.ref (ev_a E b), .int (nI a), .int (nI p)] σ (Det (some (.int (oI (goT P n a p)))) σ) := by
  refine con_of (by decide) (Nat.le_of_ble_eq_true rfl) (fun X hX C => ?_)
  have C : Cx E X cX4_pointBehind RX4 3 ((Option.some FieldType.int)) := C
  obtain ⟨hk, h8, hsz, hk1, hk2, hP⟩ := id h
  show G E _ X _ _ _ 0 [(0, .ref (ev_a E b)), (1, .int (nI a)), (2, .int (nI p))] []
  refine g_aload_n C dX4_pointBehind_0 rfl ?_
  refine g_aload_n C dX4_pointBehind_1 rfl ?_
  refine g_iload_n C dX4_pointBehind_2 rfl ?_
  refine g_iload_n C dX4_pointBehind_3 rfl ?_
  refine g_ic (n := 0) C dX4_pointBehind_4 (by decide) ?_
  refine g_callVp C (ob_X4 hk) (c_X4_axisBehind (d := d) h (by first | assumption | omega) (by first | assumption | omega) (by omega)) dX4_pointBehind_5 km_RX4_41 kn_RX4 kc_yX4_axisBehind ki_yX4_axisBehind kx_yX4_axisBehind (by omega) (by decide) ⟨by decide, by decide, rfl⟩ rfl (Nat.le_of_ble_eq_true rfl) ?_
  refine g_aload_n C dX4_pointBehind_8 rfl ?_
  refine g_iload_n C dX4_pointBehind_9 rfl ?_
  refine g_iload_n C dX4_pointBehind_10 rfl ?_
  refine g_ic (n := 1) C dX4_pointBehind_11 (by decide) ?_
  refine g_callVp C (ob_X4 hk) (c_X4_axisBehind (d := d) h (by first | assumption | omega) (by first | assumption | omega) (by omega)) dX4_pointBehind_12 km_RX4_41 kn_RX4 kc_yX4_axisBehind ki_yX4_axisBehind kx_yX4_axisBehind (by omega) (by decide) ⟨by decide, by decide, rfl⟩ rfl (Nat.le_of_ble_eq_true rfl) ?_
  refine g_aload_n C dX4_pointBehind_15 rfl ?_
  refine g_iload_n C dX4_pointBehind_16 rfl ?_
  refine g_iload_n C dX4_pointBehind_17 rfl ?_
  refine g_ic (n := 2) C dX4_pointBehind_18 (by decide) ?_
  refine g_callVp C (ob_X4 hk) (c_X4_axisBehind (d := d) h (by first | assumption | omega) (by first | assumption | omega) (by omega)) dX4_pointBehind_19 km_RX4_41 kn_RX4 kc_yX4_axisBehind ki_yX4_axisBehind kx_yX4_axisBehind (by omega) (by decide) ⟨by decide, by decide, rfl⟩ rfl (Nat.le_of_ble_eq_true rfl) ?_
  refine g_callVp C (ob_X4 hk) (c_X4_pointAt (d := d) h) dX4_pointBehind_22 km_RX4_45 kn_RX4 kc_yX4_pointAt ki_yX4_pointAt kx_yX4_pointAt (by omega) (by decide) ⟨by decide, by decide, rfl⟩ rfl (Nat.le_of_ble_eq_true rfl) ?_
  refine g_iret C dX4_pointBehind_25 ?_
  exact ⟨congrArg (fun v => some (Value.int v)) (rfl), rfl⟩
theorem oI_ne (q : Nat) {n : Nat} (h : q < n) (hn : n < 2 ^ 31) : ¬ nI q = -5 := fun e => by
  have h1 := nI_toInt (n := q) (by omega)
  rw [e] at h1
  have h2 : (-5 : Int32).toInt = -5 := by decide
  omega
set_option maxHeartbeats 4000000 in
set_option maxRecDepth 100000 in
theorem c_X4_isMovedBy {E : Ev} {d : Nat} {σ : St} {b n : Nat} {P : Nat → Nat → Int32} (h : ShIs σ b n P) {a p : Nat} (ha : a < 48) (hp : p < n) : Con E (d + 3) yX4_isMovedBy cX4_isMovedBy 4 ((Option.some FieldType.boolean)) [.ref (ev_a E b), .int (nI a), .int (nI p)] σ (Det (some (.int (bI (mvd P n a p)))) σ) := by
  refine con_of (by decide) (Nat.le_of_ble_eq_true rfl) (fun X hX C => ?_)
  have C : Cx E X cX4_isMovedBy RX4 4 ((Option.some FieldType.boolean)) := C
  obtain ⟨hk, h8, hsz, hk1, hk2, hP⟩ := id h
  show G E _ X _ _ _ 0 [(0, .ref (ev_a E b)), (1, .int (nI a)), (2, .int (nI p))] []
  refine g_aload_n C dX4_isMovedBy_0 rfl ?_
  refine g_iload_n C dX4_isMovedBy_1 rfl ?_
  refine g_iload_n C dX4_isMovedBy_2 rfl ?_
  refine g_callVp C (ob_X4 hk) (c_X4_pointBehind (d := d) h (by first | assumption | omega) (by first | assumption | omega)) dX4_isMovedBy_3 km_RX4_48 kn_RX4 kc_yX4_pointBehind ki_yX4_pointBehind kx_yX4_pointBehind (by omega) (by decide) ⟨by decide, by decide, rfl⟩ rfl (Nat.le_of_ble_eq_true rfl) ?_
  rcases hg : goT P n a p with _ | q
  · refine g_istore_n C dX4_isMovedBy_6 (by decide) ?_
    refine g_iload_n C dX4_isMovedBy_7 rfl ?_
    refine g_bp C (-5) dX4_isMovedBy_8 (by decide) ?_
    refine g_iceq C 28 dX4_isMovedBy_10 (by decide) (fun h10 => ?_) (fun h10 => ?_)
    · refine g_ic (n := 1) C dX4_isMovedBy_28 (by decide) ?_
      refine g_goto C 33 dX4_isMovedBy_29 (by decide) ?_
      refine g_zret C (by first | exact bI_01 _ | exact Or.inl rfl | exact Or.inr rfl) dX4_isMovedBy_33 ?_
      exact ⟨congrArg (fun v => some (Value.int v)) (by simp [mvd, hg]; rfl), rfl⟩
    · exact absurd rfl h10
  · show G E _ X _ _ _ _ _ [.int (nI q)]
    have hq := goT_lt hg
    refine g_istore_n C dX4_isMovedBy_6 (by decide) ?_
    refine g_iload_n C dX4_isMovedBy_7 rfl ?_
    refine g_bp C (-5) dX4_isMovedBy_8 (by decide) ?_
    refine g_iceq C 28 dX4_isMovedBy_10 (by decide) (fun h10 => ?_) (fun h10 => ?_)
    · exact absurd h10 (oI_ne q hq (by omega))
    · refine g_aload_n C dX4_isMovedBy_13 rfl ?_
      refine gf_X4_marks C hk dX4_isMovedBy_14 kf_RX4_15 ?_
      refine g_iload_n C dX4_isMovedBy_17 rfl ?_
      refine g_ialdN C hk2 (by omega) (by first | decide | omega) dX4_isMovedBy_18 ?_
      rw [(hP q hq).2.2.2]
      refine g_aload_n C dX4_isMovedBy_19 rfl ?_
      refine gf_X4_marks C hk dX4_isMovedBy_20 kf_RX4_15 ?_
      refine g_iload_n C dX4_isMovedBy_23 rfl ?_
      refine g_ialdN C hk2 (by omega) (by first | decide | omega) dX4_isMovedBy_24 ?_
      rw [(hP p hp).2.2.2]
      refine g_iceq C 32 dX4_isMovedBy_25 (by decide) (fun h25 => ?_) (fun h25 => ?_)
      · refine g_ic (n := 0) C dX4_isMovedBy_32 (by decide) ?_
        refine g_zret C (by first | exact bI_01 _ | exact Or.inl rfl | exact Or.inr rfl) dX4_isMovedBy_33 ?_
        exact ⟨congrArg (fun v => some (Value.int v)) (by simp [mvd, hg, h10, h25]; rfl), rfl⟩
      · refine g_ic (n := 1) C dX4_isMovedBy_28 (by decide) ?_
        refine g_goto C 33 dX4_isMovedBy_29 (by decide) ?_
        refine g_zret C (by first | exact bI_01 _ | exact Or.inl rfl | exact Or.inr rfl) dX4_isMovedBy_33 ?_
        exact ⟨congrArg (fun v => some (Value.int v)) (by simp [mvd, hg, h10, h25]; rfl), rfl⟩
set_option maxHeartbeats 4000000 in
set_option maxRecDepth 100000 in
theorem l_X4_movedBy {E : Ev} {d : Nat} {X : Mx} (C : Cx E X cX4_movedBy RX4 4 ((Option.some FieldType.int))) {σ : St} {b n : Nat} {P : Nat → Nat → Int32} (h : ShIs σ b n P) {a : Nat} (ha : a < 48) : ∀ (k : Nat) (i c : Nat), n = i + k → c ≤ i → G E (d + 4) X 4 (Det (some (.int (nI (mcL P n a k i c)))) σ) σ 4 ([(0, .ref (ev_a E b)), (1, .int (nI a)), (2, .int (nI c)), (3, .int (nI i))]) [] := by
  intro k
  induction k with
  | zero =>
    intro i c hi hc
    obtain ⟨hk, h8, hsz, hk1, hk2, hP⟩ := id h
    refine g_iload_n C dX4_movedBy_4 rfl ?_
    refine g_aload_n C dX4_movedBy_5 rfl ?_
    refine gf_X4_size C hk dX4_movedBy_6 kf_RX4_18 ?_
    rw [hsz]
    first | refine g_icgeN C 30 dX4_movedBy_9 (by decide) (by omega) (by omega) (fun h9 => ?_) (fun h9 => ?_) | refine g_icge C 30 dX4_movedBy_9 (by decide) (fun h9 => ?_) (fun h9 => ?_)
    · refine g_iload_n C dX4_movedBy_30 rfl ?_
      refine g_iret C dX4_movedBy_31 ?_
      exact ⟨congrArg (fun v => some (Value.int v)) (rfl), rfl⟩
    · omega
  | succ k ih =>
    intro i c hi hc
    obtain ⟨hk, h8, hsz, hk1, hk2, hP⟩ := id h
    refine g_iload_n C dX4_movedBy_4 rfl ?_
    refine g_aload_n C dX4_movedBy_5 rfl ?_
    refine gf_X4_size C hk dX4_movedBy_6 kf_RX4_18 ?_
    rw [hsz]
    first | refine g_icgeN C 30 dX4_movedBy_9 (by decide) (by omega) (by omega) (fun h9 => ?_) (fun h9 => ?_) | refine g_icge C 30 dX4_movedBy_9 (by decide) (fun h9 => ?_) (fun h9 => ?_)
    · omega
    · refine g_aload_n C dX4_movedBy_12 rfl ?_
      refine g_iload_n C dX4_movedBy_13 rfl ?_
      refine g_iload_n C dX4_movedBy_14 rfl ?_
      refine g_callVp C (ob_X4 hk) (c_X4_isMovedBy (d := d) h (by first | assumption | omega) (by first | assumption | omega)) dX4_movedBy_15 km_RX4_51 kn_RX4 kc_yX4_isMovedBy ki_yX4_isMovedBy kx_yX4_isMovedBy (by omega) (by decide) ⟨by decide, by decide, rfl⟩ rfl (Nat.le_of_ble_eq_true rfl) ?_
      refine g_ifeqB C 24 dX4_movedBy_18 (by decide) (fun h18 => ?_) (fun h18 => ?_)
      · refine g_iinc1 C dX4_movedBy_24 rfl (by decide) ?_
        refine g_goto C 4 dX4_movedBy_27 (by decide) ?_
        first | refine g_loc ([(0, .ref (ev_a E b)), (1, .int (nI a)), (2, .int (nI (c + 1))), (3, .int (nI (i + 1)))]) (And.intro rfl (And.intro rfl (And.intro rfl (And.intro rfl trivial)))) ?_ | refine g_loc ([(0, .ref (ev_a E b)), (1, .int (nI a)), (2, .int (nI c)), (3, .int (nI (i + 1)))]) (And.intro rfl (And.intro rfl (And.intro rfl (And.intro rfl trivial)))) ?_
        first | (rw [show mcL P n a (k + 1) i c = mcL P n a k (i + 1) (c + 1) from by simp [mcL, h18]]; exact ih (i + 1) (c + 1) (by omega) (by omega)) | (rw [show mcL P n a (k + 1) i c = mcL P n a k (i + 1) c from by simp [mcL, h18]]; exact ih (i + 1) c (by omega) (by omega))
      · refine g_iinc1 C dX4_movedBy_21 rfl (by decide) ?_
        refine g_iinc1 C dX4_movedBy_24 rfl (by decide) ?_
        refine g_goto C 4 dX4_movedBy_27 (by decide) ?_
        first | refine g_loc ([(0, .ref (ev_a E b)), (1, .int (nI a)), (2, .int (nI (c + 1))), (3, .int (nI (i + 1)))]) (And.intro rfl (And.intro rfl (And.intro rfl (And.intro rfl trivial)))) ?_ | refine g_loc ([(0, .ref (ev_a E b)), (1, .int (nI a)), (2, .int (nI c)), (3, .int (nI (i + 1)))]) (And.intro rfl (And.intro rfl (And.intro rfl (And.intro rfl trivial)))) ?_
        first | (rw [show mcL P n a (k + 1) i c = mcL P n a k (i + 1) (c + 1) from by simp [mcL, h18]]; exact ih (i + 1) (c + 1) (by omega) (by omega)) | (rw [show mcL P n a (k + 1) i c = mcL P n a k (i + 1) c from by simp [mcL, h18]]; exact ih (i + 1) c (by omega) (by omega))
set_option maxHeartbeats 4000000 in
set_option maxRecDepth 100000 in
theorem c_X4_movedBy {E : Ev} {d : Nat} {σ : St} {b n : Nat} {P : Nat → Nat → Int32} (h : ShIs σ b n P) {a : Nat} (ha : a < 48) : Con E (d + 4) yX4_movedBy cX4_movedBy 4 ((Option.some FieldType.int)) [.ref (ev_a E b), .int (nI a)] σ (Det (some (.int (nI (mvN P n a)))) σ) := by
  refine con_of (by decide) (Nat.le_of_ble_eq_true rfl) (fun X hX C => ?_)
  have C : Cx E X cX4_movedBy RX4 4 ((Option.some FieldType.int)) := C
  show G E _ X _ _ _ 0 [(0, .ref (ev_a E b)), (1, .int (nI a))] []
  refine g_ic (n := 0) C dX4_movedBy_0 (by decide) ?_
  refine g_istore_n C dX4_movedBy_1 (by decide) ?_
  refine g_ic (n := 0) C dX4_movedBy_2 (by decide) ?_
  refine g_istore_n C dX4_movedBy_3 (by decide) ?_
  refine g_loc ([(0, .ref (ev_a E b)), (1, .int (nI a)), (2, .int (nI 0)), (3, .int (nI 0))]) (And.intro rfl (And.intro rfl (And.intro rfl (And.intro rfl trivial)))) ?_
  exact l_X4_movedBy C h ha n 0 0 (by omega) (by omega)
set_option maxHeartbeats 4000000 in
set_option maxRecDepth 100000 in
theorem l_X4_isKeptBy {E : Ev} {d : Nat} {X : Mx} (C : Cx E X cX4_isKeptBy RX4 3 ((Option.some FieldType.boolean))) {σ : St} {b n : Nat} {P : Nat → Nat → Int32} (h : ShIs σ b n P) {a : Nat} (ha : a < 48) : ∀ (k : Nat) (i : Nat), n = i + k → G E (d + 4) X 3 (Det (some (.int (bI (kpL P n a k i)))) σ) σ 2 ([(0, .ref (ev_a E b)), (1, .int (nI a)), (2, .int (nI i))]) [] := by
  intro k
  induction k with
  | zero =>
    intro i hi
    obtain ⟨hk, h8, hsz, hk1, hk2, hP⟩ := id h
    refine g_iload_n C dX4_isKeptBy_2 rfl ?_
    refine g_aload_n C dX4_isKeptBy_3 rfl ?_
    refine gf_X4_size C hk dX4_isKeptBy_4 kf_RX4_18 ?_
    rw [hsz]
    first | refine g_icgeN C 27 dX4_isKeptBy_7 (by decide) (by omega) (by omega) (fun h7 => ?_) (fun h7 => ?_) | refine g_icge C 27 dX4_isKeptBy_7 (by decide) (fun h7 => ?_) (fun h7 => ?_)
    · refine g_ic (n := 1) C dX4_isKeptBy_27 (by decide) ?_
      refine g_zret C (by first | exact bI_01 _ | exact Or.inl rfl | exact Or.inr rfl) dX4_isKeptBy_28 ?_
      exact ⟨congrArg (fun v => some (Value.int v)) (rfl), rfl⟩
    · omega
  | succ k ih =>
    intro i hi
    obtain ⟨hk, h8, hsz, hk1, hk2, hP⟩ := id h
    refine g_iload_n C dX4_isKeptBy_2 rfl ?_
    refine g_aload_n C dX4_isKeptBy_3 rfl ?_
    refine gf_X4_size C hk dX4_isKeptBy_4 kf_RX4_18 ?_
    rw [hsz]
    first | refine g_icgeN C 27 dX4_isKeptBy_7 (by decide) (by omega) (by omega) (fun h7 => ?_) (fun h7 => ?_) | refine g_icge C 27 dX4_isKeptBy_7 (by decide) (fun h7 => ?_) (fun h7 => ?_)
    · omega
    · refine g_aload_n C dX4_isKeptBy_10 rfl ?_
      refine g_iload_n C dX4_isKeptBy_11 rfl ?_
      refine g_iload_n C dX4_isKeptBy_12 rfl ?_
      refine g_callVp C (ob_X4 hk) (c_X4_isMovedBy (d := d) h (by first | assumption | omega) (by first | assumption | omega)) dX4_isKeptBy_13 km_RX4_51 kn_RX4 kc_yX4_isMovedBy ki_yX4_isMovedBy kx_yX4_isMovedBy (by omega) (by decide) ⟨by decide, by decide, rfl⟩ rfl (Nat.le_of_ble_eq_true rfl) ?_
      refine g_ifeqB C 21 dX4_isKeptBy_16 (by decide) (fun h16 => ?_) (fun h16 => ?_)
      · refine g_iinc1 C dX4_isKeptBy_21 rfl (by decide) ?_
        refine g_goto C 2 dX4_isKeptBy_24 (by decide) ?_
        refine g_loc ([(0, .ref (ev_a E b)), (1, .int (nI a)), (2, .int (nI (i + 1)))]) (And.intro rfl (And.intro rfl (And.intro rfl trivial))) ?_
        rw [show kpL P n a (k + 1) i = kpL P n a k (i + 1) from by simp [kpL, h16]]
        exact ih (i + 1) (by omega)
      · refine g_ic (n := 0) C dX4_isKeptBy_19 (by decide) ?_
        refine g_zret C (by first | exact bI_01 _ | exact Or.inl rfl | exact Or.inr rfl) dX4_isKeptBy_20 ?_
        exact ⟨congrArg (fun v => some (Value.int v)) (by simp [kpL, h16]; rfl), rfl⟩
set_option maxHeartbeats 4000000 in
set_option maxRecDepth 100000 in
theorem c_X4_isKeptBy {E : Ev} {d : Nat} {σ : St} {b n : Nat} {P : Nat → Nat → Int32} (h : ShIs σ b n P) {a : Nat} (ha : a < 48) : Con E (d + 4) yX4_isKeptBy cX4_isKeptBy 3 ((Option.some FieldType.boolean)) [.ref (ev_a E b), .int (nI a)] σ (Det (some (.int (bI (kpt P n a)))) σ) := by
  refine con_of (by decide) (Nat.le_of_ble_eq_true rfl) (fun X hX C => ?_)
  have C : Cx E X cX4_isKeptBy RX4 3 ((Option.some FieldType.boolean)) := C
  show G E _ X _ _ _ 0 [(0, .ref (ev_a E b)), (1, .int (nI a))] []
  refine g_ic (n := 0) C dX4_isKeptBy_0 (by decide) ?_
  refine g_istore_n C dX4_isKeptBy_1 (by decide) ?_
  refine g_loc ([(0, .ref (ev_a E b)), (1, .int (nI a)), (2, .int (nI 0))]) (And.intro rfl (And.intro rfl (And.intro rfl trivial))) ?_
  exact l_X4_isKeptBy C h ha n 0 (by omega)
set_option maxHeartbeats 4000000 in
set_option maxRecDepth 100000 in
theorem l_X4_keepers {E : Ev} {d : Nat} {X : Mx} (C : Cx E X cX4_keepers RX4 3 ((Option.some FieldType.int))) {σ : St} {b n : Nat} {P : Nat → Nat → Int32} (h : ShIs σ b n P) : ∀ (k : Nat) (i c : Nat), 48 = i + k → c ≤ i → G E (d + 5) X 3 (Det (some (.int (nI (ksL P n k i c)))) σ) σ 4 ([(0, .ref (ev_a E b)), (1, .int (nI c)), (2, .int (nI i))]) [] := by
  intro k
  induction k with
  | zero =>
    intro i c hi hc
    obtain ⟨hk, h8, hsz, hk1, hk2, hP⟩ := id h
    refine g_iload_n C dX4_keepers_4 rfl ?_
    refine g_bp C (nI 48) dX4_keepers_5 (by decide) ?_
    first | refine g_icgeN C 27 dX4_keepers_7 (by decide) (by omega) (by omega) (fun h7 => ?_) (fun h7 => ?_) | refine g_icge C 27 dX4_keepers_7 (by decide) (fun h7 => ?_) (fun h7 => ?_)
    · refine g_iload_n C dX4_keepers_27 rfl ?_
      refine g_iret C dX4_keepers_28 ?_
      exact ⟨congrArg (fun v => some (Value.int v)) (rfl), rfl⟩
    · omega
  | succ k ih =>
    intro i c hi hc
    obtain ⟨hk, h8, hsz, hk1, hk2, hP⟩ := id h
    refine g_iload_n C dX4_keepers_4 rfl ?_
    refine g_bp C (nI 48) dX4_keepers_5 (by decide) ?_
    first | refine g_icgeN C 27 dX4_keepers_7 (by decide) (by omega) (by omega) (fun h7 => ?_) (fun h7 => ?_) | refine g_icge C 27 dX4_keepers_7 (by decide) (fun h7 => ?_) (fun h7 => ?_)
    · omega
    · refine g_aload_n C dX4_keepers_10 rfl ?_
      refine g_iload_n C dX4_keepers_11 rfl ?_
      refine g_callVp C (ob_X4 hk) (c_X4_isKeptBy (d := d) h (by first | assumption | omega)) dX4_keepers_12 km_RX4_55 kn_RX4 kc_yX4_isKeptBy ki_yX4_isKeptBy kx_yX4_isKeptBy (by omega) (by decide) ⟨by decide, by decide, rfl⟩ rfl (Nat.le_of_ble_eq_true rfl) ?_
      refine g_ifeqB C 21 dX4_keepers_15 (by decide) (fun h15 => ?_) (fun h15 => ?_)
      · refine g_iinc1 C dX4_keepers_21 rfl (by decide) ?_
        refine g_goto C 4 dX4_keepers_24 (by decide) ?_
        first | refine g_loc ([(0, .ref (ev_a E b)), (1, .int (nI (c + 1))), (2, .int (nI (i + 1)))]) (And.intro rfl (And.intro rfl (And.intro rfl trivial))) ?_ | refine g_loc ([(0, .ref (ev_a E b)), (1, .int (nI c)), (2, .int (nI (i + 1)))]) (And.intro rfl (And.intro rfl (And.intro rfl trivial))) ?_
        first | (rw [show ksL P n (k + 1) i c = ksL P n k (i + 1) (c + 1) from by simp [ksL, h15]]; exact ih (i + 1) (c + 1) (by omega) (by omega)) | (rw [show ksL P n (k + 1) i c = ksL P n k (i + 1) c from by simp [ksL, h15]]; exact ih (i + 1) c (by omega) (by omega))
      · refine g_iinc1 C dX4_keepers_18 rfl (by decide) ?_
        refine g_iinc1 C dX4_keepers_21 rfl (by decide) ?_
        refine g_goto C 4 dX4_keepers_24 (by decide) ?_
        first | refine g_loc ([(0, .ref (ev_a E b)), (1, .int (nI (c + 1))), (2, .int (nI (i + 1)))]) (And.intro rfl (And.intro rfl (And.intro rfl trivial))) ?_ | refine g_loc ([(0, .ref (ev_a E b)), (1, .int (nI c)), (2, .int (nI (i + 1)))]) (And.intro rfl (And.intro rfl (And.intro rfl trivial))) ?_
        first | (rw [show ksL P n (k + 1) i c = ksL P n k (i + 1) (c + 1) from by simp [ksL, h15]]; exact ih (i + 1) (c + 1) (by omega) (by omega)) | (rw [show ksL P n (k + 1) i c = ksL P n k (i + 1) c from by simp [ksL, h15]]; exact ih (i + 1) c (by omega) (by omega))
set_option maxHeartbeats 4000000 in
set_option maxRecDepth 100000 in
theorem c_X4_keepers {E : Ev} {d : Nat} {σ : St} {b n : Nat} {P : Nat → Nat → Int32} (h : ShIs σ b n P) : Con E (d + 5) yX4_keepers cX4_keepers 3 ((Option.some FieldType.int)) [.ref (ev_a E b)] σ (Det (some (.int (nI (ksL P n 48 0 0)))) σ) := by
  refine con_of (by decide) (Nat.le_of_ble_eq_true rfl) (fun X hX C => ?_)
  have C : Cx E X cX4_keepers RX4 3 ((Option.some FieldType.int)) := C
  show G E _ X _ _ _ 0 [(0, .ref (ev_a E b))] []
  refine g_ic (n := 0) C dX4_keepers_0 (by decide) ?_
  refine g_istore_n C dX4_keepers_1 (by decide) ?_
  refine g_ic (n := 0) C dX4_keepers_2 (by decide) ?_
  refine g_istore_n C dX4_keepers_3 (by decide) ?_
  refine g_loc ([(0, .ref (ev_a E b)), (1, .int (nI 0)), (2, .int (nI 0))]) (And.intro rfl (And.intro rfl (And.intro rfl trivial))) ?_
  exact l_X4_keepers C h 48 0 0 (by omega) (by omega)
