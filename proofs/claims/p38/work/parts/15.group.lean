/-! THE GROUP, L: the moves that keep, by numbers; orbits, how many stay; the contracts of ShapeMoves$Group, first part -/
def lg (L : List Nat) (j : Nat) : Nat := L.getD j 0
def GK (g : Nat) : Prop := kd g = (4, 0) ∧ kd (g + 1) = (10, 48) ∧ kd (g + 2) = (12, 48) ∧ kd (g + 3) = (12, 48) ∧ kd (g + 4) = (12, 8) ∧ kd (g + 5) = (12, 48) ∧ kd (g + 6) = (12, 48) ∧ kd (g + 7) = (12, 48) ∧ kd (g + 8) = (12, 48)
/-- a list of moves, none twice -/
def Lok (L : List Nat) : Prop := L.length ≤ 48 ∧ (∀ j, j < L.length → lg L j < 48) ∧ ∀ i j, i < L.length → j < L.length → lg L i = lg L j → i = j
def GrB (σ : St) (g : Nat) (L : List Nat) : Prop := GK g ∧ Lok L ∧ σ.1 g 2 = nI L.length ∧ ∀ j, j < L.length → σ.1 (g + 2) j = nI (lg L j)
theorem GrB.go {σ σ' : St} {g : Nat} {L l : List Nat} (h : GrB σ g L) (hF : Fr l σ σ') (h0 : g ∉ l) (h1 : g + 2 ∉ l) : GrB σ' g L := by
  obtain ⟨a1, a2, a3, a4⟩ := h
  exact ⟨a1, a2, by rw [(hF _ h0).1]; exact a3, fun p hp => by rw [(hF _ h1).1]; exact a4 p hp⟩
/-- the same, but for other fields of the object itself -/
theorem GrB.go2 {σ σ' : St} {g : Nat} {L : List Nat} (h : GrB σ g L) (h0 : σ'.1 g 2 = σ.1 g 2) (h1 : σ'.1 (g + 2) = σ.1 (g + 2)) : GrB σ' g L := by
  obtain ⟨a1, a2, a3, a4⟩ := h
  exact ⟨a1, a2, by rw [h0]; exact a3, fun p hp => by rw [h1]; exact a4 p hp⟩
theorem up_self {f : Nat → Int32} {k : Nat} : upd f k (f k) = f := by
  funext j
  simp only [upd]
  split
  · rename_i h; rw [h]
  · rfl
theorem up_up {f : Nat → Int32} {k : Nat} {a b : Int32} : upd (upd f k a) k b = upd f k b := by
  funext j
  simp only [upd]
  split <;> rfl
def foO (P : Nat → Nat → Int32) (n p : Nat) (L : List Nat) : Nat → Nat → Int32 → Int32
  | 0, _, a => a
  | k + 1, i, a => foO P n p L k (i + 1) (if oI (goT P n (lg L i) p) < a then oI (goT P n (lg L i) p) else a)
def stI (P : Nat → Nat → Int32) (n m p : Nat) : Int32 := if goT P n m p = some p then nI 1 else nI 0
/-- ORBIT of point p -/
def oV (P : Nat → Nat → Int32) (n : Nat) (L : List Nat) (p : Nat) : Int32 := foO P n p L L.length 0 (nI p)
def ocL (P : Nat → Nat → Int32) (n : Nat) (L : List Nat) : Nat → Nat → Nat → Nat
  | 0, _, c => c
  | k + 1, p, c => ocL P n L k (p + 1) (if oV P n L p = nI p then c + 1 else c)
def syL (P : Nat → Nat → Int32) (n m : Nat) : Nat → Nat → Int32 → Int32
  | 0, _, c => c
  | k + 1, p, c => syL P n m k (p + 1) (c + stI P n m p)
theorem oI_eq {a : Option Nat} {p : Nat} (hp : p < 2 ^ 30) (ha : ∀ q, a = some q → q < 2 ^ 30) : oI a = nI p ↔ a = some p := by
  cases a with
  | none =>
    constructor
    · intro h
      exact absurd h.symm (oI_ne p (n := p + 1) (Nat.lt_succ_self p) (by omega))
    · intro h; cases h
  | some q =>
    constructor
    · intro h
      have := ha q rfl
      rw [(nI_eq (by omega) (by omega)).mp h]
    · intro h
      cases h; rfl
set_option maxHeartbeats 4000000 in
set_option maxRecDepth 100000 in
theorem l_X0_findOrbit {E : Ev} {d : Nat} {X : Mx} (C : Cx E X cX0_findOrbit RX0 5 ((Option.none : Option FieldType))) {g n p : Nat} {L : List Nat} {P : Nat → Nat → Int32} {b : Nat} (hp : p < n) (hd : b + 2 < g ∨ g + 8 < b) : ∀ (k : Nat) (i : Nat) (σ : St), L.length = i + k → GrB σ g L → ShIs σ b n P → G E (d + 3) X 5 (fun r σ2 => r = none ∧ σ2.1 (g + 4) = upd (σ.1 (g + 4)) p (foO P n p L k i (σ.1 (g + 4) p)) ∧ (∀ j, j < L.length → σ2.1 (g + 3) (lg L j) = if i ≤ j then σ.1 (g + 3) (lg L j) + stI P n (lg L j) p else σ.1 (g + 3) (lg L j)) ∧ Fr [g + 3, g + 4] σ σ2) σ 9 ([(0, .ref (ev_a E g)), (1, .ref (ev_a E b)), (2, .int (nI p)), (3, .int (nI i))]) [] := by
  intro k
  induction k with
  | zero =>
    intro i σ hi hB h
    obtain ⟨hG, ⟨hL1, hL2, hL3⟩, hgs, hgm⟩ := id hB
    obtain ⟨hg0, hg1, hg2, hg3, hg4, hg5, hg6, hg7, hg8⟩ := id hG
    obtain ⟨hk, h8, hsz, hk1, hk2, hP⟩ := id h
    refine g_iload_n C dX0_findOrbit_9 rfl ?_
    refine g_aload_n C dX0_findOrbit_10 rfl ?_
    refine gf_X0_size C hg0 dX0_findOrbit_11 kf_RX0_19 ?_
    rw [hgs]
    first | refine g_icgeN C 74 dX0_findOrbit_14 (by decide) (by omega) (by omega) (fun h14 => ?_) (fun h14 => ?_) | refine g_icge C 74 dX0_findOrbit_14 (by decide) (fun h14 => ?_) (fun h14 => ?_)
    · refine g_vret C dX0_findOrbit_74 ?_
      refine ⟨rfl, by rw [foO, up_self], fun j hj => by rw [if_neg (by omega)], Fr.rf⟩
    · omega
  | succ k ih =>
    intro i σ hi hB h
    obtain ⟨hG, ⟨hL1, hL2, hL3⟩, hgs, hgm⟩ := id hB
    obtain ⟨hg0, hg1, hg2, hg3, hg4, hg5, hg6, hg7, hg8⟩ := id hG
    obtain ⟨hk, h8, hsz, hk1, hk2, hP⟩ := id h
    refine g_iload_n C dX0_findOrbit_9 rfl ?_
    refine g_aload_n C dX0_findOrbit_10 rfl ?_
    refine gf_X0_size C hg0 dX0_findOrbit_11 kf_RX0_19 ?_
    rw [hgs]
    first | refine g_icgeN C 74 dX0_findOrbit_14 (by decide) (by omega) (by omega) (fun h14 => ?_) (fun h14 => ?_) | refine g_icge C 74 dX0_findOrbit_14 (by decide) (fun h14 => ?_) (fun h14 => ?_)
    · omega
    · refine g_aload_n C dX0_findOrbit_17 rfl ?_
      refine g_aload_n C dX0_findOrbit_18 rfl ?_
      refine gf_X0_byNumber C hg0 dX0_findOrbit_19 kf_RX0_15 ?_
      refine g_iload_n C dX0_findOrbit_22 rfl ?_
      refine g_ialdN C hg2 (by omega) (by first | decide | omega) dX0_findOrbit_23 ?_
      rw [hgm i (by omega)]
      refine g_iload_n C dX0_findOrbit_24 rfl ?_
      refine g_callVp C (ob_X4 hk) (c_X4_pointBehind (d := d) h (hL2 i (by omega)) hp) dX0_findOrbit_25 km_RX0_71 kn_RX4 kc_yX4_pointBehind ki_yX4_pointBehind kx_yX4_pointBehind (by omega) (by decide) ⟨by decide, by decide, rfl⟩ rfl (Nat.le_of_ble_eq_true rfl) ?_
      refine g_istore C dX0_findOrbit_28 (by decide) ?_
      refine g_aload_n C dX0_findOrbit_30 rfl ?_
      refine gf_X0_orbits C hg0 dX0_findOrbit_31 kf_RX0_28 ?_
      refine g_iload_n C dX0_findOrbit_34 rfl ?_
      refine g_aload_n C dX0_findOrbit_35 rfl ?_
      refine gf_X0_orbits C hg0 dX0_findOrbit_36 kf_RX0_28 ?_
      refine g_iload_n C dX0_findOrbit_39 rfl ?_
      refine g_ialdN C hg4 (by omega) (by first | decide | omega) dX0_findOrbit_40 ?_
      refine g_iload C dX0_findOrbit_41 rfl ?_
      refine g_min C km_RX0_75 ks_yJ9_min_7cf53 kn_RJ9 kc_yJ9_min_7cf53 (by omega) (Nat.le_of_ble_eq_true rfl) dX0_findOrbit_43 ?_
      refine g_iastN C hg4 (by omega) (by first | decide | omega) dX0_findOrbit_46 ?_
      refine g_iload C dX0_findOrbit_47 rfl ?_
      refine g_iload_n C dX0_findOrbit_49 rfl ?_
      refine g_icne C 68 dX0_findOrbit_50 (by decide) (fun h50 => ?_) (fun h50 => ?_)
      · refine g_iinc1 C dX0_findOrbit_68 rfl (by decide) ?_
        refine g_goto C 9 dX0_findOrbit_71 (by decide) ?_
        refine g_loc ([(0, .ref (ev_a E g)), (1, .ref (ev_a E b)), (2, .int (nI p)), (3, .int (nI (i + 1)))]) (And.intro rfl (And.intro rfl (And.intro rfl (And.intro rfl trivial)))) ?_
        have hst : stI P n (lg L i) p = nI 0 := by rw [stI, if_neg (fun e => h50 ((oI_eq (by omega) (fun q hq => by have := goT_lt hq; omega)).mpr e))]
        have hF : Fr [g + 3, g + 4] σ (sI σ (g + 4) (upd (σ.1 (g + 4)) p (if oI (goT P n (lg L i) p) < σ.1 (g + 4) p then oI (goT P n (lg L i) p) else σ.1 (g + 4) p))) := Fr.rf.sI (by simp)
        refine g_post (fun r σ2 q => ?_) (ih (i + 1) (sI σ (g + 4) (upd (σ.1 (g + 4)) p (if oI (goT P n (lg L i) p) < σ.1 (g + 4) p then oI (goT P n (lg L i) p) else σ.1 (g + 4) p))) (by omega) (hB.go hF (by simp) (by simp)) (h.go hF (by simp <;> omega) (by simp <;> omega) (by simp <;> omega)))
        obtain ⟨q1, q2, q3, q4⟩ := q
        have e4 : (sI σ (g + 4) (upd (σ.1 (g + 4)) p (if oI (goT P n (lg L i) p) < σ.1 (g + 4) p then oI (goT P n (lg L i) p) else σ.1 (g + 4) p))).1 (g + 4) = upd (σ.1 (g + 4)) p (if oI (goT P n (lg L i) p) < σ.1 (g + 4) p then oI (goT P n (lg L i) p) else σ.1 (g + 4) p) := by rw [sI_self]
        rw [e4, up_i, up_up] at q2
        refine ⟨q1, q2, fun j hj => ?_, hF.tr q4⟩
        rw [q3 j hj]
        by_cases e : j = i
        · subst e; rw [if_neg (by omega), if_pos (Nat.le_refl _), hst, sI_ne (by omega)]; simp [nI_0]
        · rw [sI_ne (by omega)]; by_cases hij : i ≤ j
          · rw [if_pos (by omega), if_pos hij]
          · rw [if_neg (by omega), if_neg hij]
      · refine g_aload_n C dX0_findOrbit_53 rfl ?_
        refine gf_X0_stay C hg0 dX0_findOrbit_54 kf_RX0_23 ?_
        refine g_aload_n C dX0_findOrbit_57 rfl ?_
        refine gf_X0_byNumber C hg0 dX0_findOrbit_58 kf_RX0_15 ?_
        refine g_iload_n C dX0_findOrbit_61 rfl ?_
        refine g_ialdN C hg2 (by omega) (by first | decide | omega) dX0_findOrbit_62 ?_
        rw [sI_ne (show g + 2 ≠ g + 4 by omega), hgm i (by omega)]
        refine g_dup2 C dX0_findOrbit_63 rfl rfl ?_
        refine g_ialdN C hg3 (hL2 i (by omega)) (by first | decide | omega) dX0_findOrbit_64 ?_
        rw [sI_ne (show g + 3 ≠ g + 4 by omega)]
        refine g_ic (n := 1) C dX0_findOrbit_65 (by decide) ?_
        refine g_iadd C dX0_findOrbit_66 ?_
        refine g_iastN C hg3 (hL2 i (by omega)) (by first | decide | omega) dX0_findOrbit_67 ?_
        refine g_iinc1 C dX0_findOrbit_68 rfl (by decide) ?_
        refine g_goto C 9 dX0_findOrbit_71 (by decide) ?_
        refine g_loc ([(0, .ref (ev_a E g)), (1, .ref (ev_a E b)), (2, .int (nI p)), (3, .int (nI (i + 1)))]) (And.intro rfl (And.intro rfl (And.intro rfl (And.intro rfl trivial)))) ?_
        have hst : stI P n (lg L i) p = nI 1 := by rw [stI, if_pos ((oI_eq (by omega) (fun q hq => by have := goT_lt hq; omega)).mp h50)]
        have hF : Fr [g + 3, g + 4] σ (sI (sI σ (g + 4) (upd (σ.1 (g + 4)) p (if oI (goT P n (lg L i) p) < σ.1 (g + 4) p then oI (goT P n (lg L i) p) else σ.1 (g + 4) p))) (g + 3) (upd ((sI σ (g + 4) (upd (σ.1 (g + 4)) p (if oI (goT P n (lg L i) p) < σ.1 (g + 4) p then oI (goT P n (lg L i) p) else σ.1 (g + 4) p))).1 (g + 3)) (lg L i) (σ.1 (g + 3) (lg L i) + nI 1))) := (Fr.rf.sI (by simp)).sI (by simp)
        refine g_post (fun r σ2 q => ?_) (ih (i + 1) (sI (sI σ (g + 4) (upd (σ.1 (g + 4)) p (if oI (goT P n (lg L i) p) < σ.1 (g + 4) p then oI (goT P n (lg L i) p) else σ.1 (g + 4) p))) (g + 3) (upd ((sI σ (g + 4) (upd (σ.1 (g + 4)) p (if oI (goT P n (lg L i) p) < σ.1 (g + 4) p then oI (goT P n (lg L i) p) else σ.1 (g + 4) p))).1 (g + 3)) (lg L i) (σ.1 (g + 3) (lg L i) + nI 1))) (by omega) (hB.go hF (by simp) (by simp)) (h.go hF (by simp <;> omega) (by simp <;> omega) (by simp <;> omega)))
        obtain ⟨q1, q2, q3, q4⟩ := q
        have e4 : (sI (sI σ (g + 4) (upd (σ.1 (g + 4)) p (if oI (goT P n (lg L i) p) < σ.1 (g + 4) p then oI (goT P n (lg L i) p) else σ.1 (g + 4) p))) (g + 3) (upd ((sI σ (g + 4) (upd (σ.1 (g + 4)) p (if oI (goT P n (lg L i) p) < σ.1 (g + 4) p then oI (goT P n (lg L i) p) else σ.1 (g + 4) p))).1 (g + 3)) (lg L i) (σ.1 (g + 3) (lg L i) + nI 1))).1 (g + 4) = upd (σ.1 (g + 4)) p (if oI (goT P n (lg L i) p) < σ.1 (g + 4) p then oI (goT P n (lg L i) p) else σ.1 (g + 4) p) := by rw [sI_ne (by omega), sI_self]
        rw [e4, up_i, up_up] at q2
        refine ⟨q1, q2, fun j hj => ?_, hF.tr q4⟩
        rw [q3 j hj]
        by_cases e : j = i
        · subst e; rw [if_neg (by omega), if_pos (Nat.le_refl _), hst, sI_self, up_i]
        · rw [sI_self, up_n (fun q => e (hL3 j i hj (by omega) q)), sI_ne (show g + 3 ≠ g + 4 by omega)]; by_cases hij : i ≤ j
          · rw [if_pos (by omega), if_pos hij]
          · rw [if_neg (by omega), if_neg hij]
set_option maxHeartbeats 4000000 in
set_option maxRecDepth 100000 in
theorem c_X0_findOrbit {E : Ev} {d : Nat} {σ : St} {g n p : Nat} {L : List Nat} {P : Nat → Nat → Int32} {b : Nat} (hp : p < n) (hd : b + 2 < g ∨ g + 8 < b) (hB : GrB σ g L) (h : ShIs σ b n P) : Con E (d + 3) yX0_findOrbit cX0_findOrbit 5 ((Option.none : Option FieldType)) [.ref (ev_a E g), .ref (ev_a E b), .int (nI p)] σ (fun r σ2 => r = none ∧ σ2.1 (g + 4) = upd (σ.1 (g + 4)) p (oV P n L p) ∧ (∀ j, j < L.length → σ2.1 (g + 3) (lg L j) = σ.1 (g + 3) (lg L j) + stI P n (lg L j) p) ∧ Fr [g + 3, g + 4] σ σ2) := by
  refine con_of (by decide) (Nat.le_of_ble_eq_true rfl) (fun X hX C => ?_)
  have C : Cx E X cX0_findOrbit RX0 5 ((Option.none : Option FieldType)) := C
  obtain ⟨hG, ⟨hL1, hL2, hL3⟩, hgs, hgm⟩ := id hB
  obtain ⟨hg0, hg1, hg2, hg3, hg4, hg5, hg6, hg7, hg8⟩ := id hG
  obtain ⟨hk, h8, hsz, hk1, hk2, hP⟩ := id h
  show G E _ X _ _ _ 0 [(0, .ref (ev_a E g)), (1, .ref (ev_a E b)), (2, .int (nI p))] []
  refine g_aload_n C dX0_findOrbit_0 rfl ?_
  refine gf_X0_orbits C hg0 dX0_findOrbit_1 kf_RX0_28 ?_
  refine g_iload_n C dX0_findOrbit_4 rfl ?_
  refine g_iload_n C dX0_findOrbit_5 rfl ?_
  refine g_iastN C hg4 (by omega) (by first | decide | omega) dX0_findOrbit_6 ?_
  refine g_ic (n := 0) C dX0_findOrbit_7 (by decide) ?_
  refine g_istore_n C dX0_findOrbit_8 (by decide) ?_
  refine g_loc ([(0, .ref (ev_a E g)), (1, .ref (ev_a E b)), (2, .int (nI p)), (3, .int (nI 0))]) (And.intro rfl (And.intro rfl (And.intro rfl (And.intro rfl trivial)))) ?_
  have hF : Fr [g + 3, g + 4] σ (sI σ (g + 4) (upd (σ.1 (g + 4)) p (nI p))) := Fr.rf.sI (by simp)
  refine g_post (fun r σ2 q => ?_) (l_X0_findOrbit C hp hd L.length 0 _ (by omega) (hB.go hF (by simp) (by simp)) (h.go hF (by simp <;> omega) (by simp <;> omega) (by simp <;> omega)))
  obtain ⟨q1, q2, q3, q4⟩ := q
  rw [sI_self, up_i, up_up] at q2
  refine ⟨q1, q2, fun j hj => ?_, hF.tr q4⟩
  rw [q3 j hj, if_pos (Nat.zero_le _), sI_ne (by omega)]
set_option maxHeartbeats 4000000 in
set_option maxRecDepth 100000 in
theorem l2_X0_findOrbits {E : Ev} {d : Nat} {X : Mx} (C : Cx E X cX0_findOrbits RX0 3 ((Option.none : Option FieldType))) {g n : Nat} {L : List Nat} {P : Nat → Nat → Int32} {b : Nat} (hd : b + 2 < g ∨ g + 8 < b) : ∀ (k : Nat) (p c : Nat) (σ : St), n = p + k → c ≤ p → GrB σ g L → ShIs σ b n P → (∀ q, q < p → σ.1 (g + 4) q = oV P n L q) → σ.1 g 5 = nI c → G E (d + 4) X 3 (fun r σ2 => r = none ∧ (∀ q, q < n → σ2.1 (g + 4) q = oV P n L q) ∧ σ2.1 g 5 = nI (ocL P n L k p c) ∧ (∀ j, j < L.length → σ2.1 (g + 3) (lg L j) = syL P n (lg L j) k p (σ.1 (g + 3) (lg L j))) ∧ (∀ q, q ≠ 5 → σ2.1 g q = σ.1 g q) ∧ Fr [g, g + 3, g + 4] σ σ2) σ 35 ([(0, .ref (ev_a E g)), (1, .ref (ev_a E b)), (2, .int (nI p))]) [] := by
  intro k
  induction k with
  | zero =>
    intro p c σ hi hcp hB h hq0 hc5
    obtain ⟨hG, ⟨hL1, hL2, hL3⟩, hgs, hgm⟩ := id hB
    obtain ⟨hg0, hg1, hg2, hg3, hg4, hg5, hg6, hg7, hg8⟩ := id hG
    obtain ⟨hk, h8, hsz, hk1, hk2, hP⟩ := id h
    refine g_iload_n C dX0_findOrbits_35 rfl ?_
    refine g_aload_n C dX0_findOrbits_36 rfl ?_
    refine gn_X4_size C hk dX0_findOrbits_37 nw_X0_66 ?_
    rw [hsz]
    first | refine g_icgeN C 75 dX0_findOrbits_40 (by decide) (by omega) (by omega) (fun h40 => ?_) (fun h40 => ?_) | refine g_icge C 75 dX0_findOrbits_40 (by decide) (fun h40 => ?_) (fun h40 => ?_)
    · refine g_vret C dX0_findOrbits_75 ?_
      exact ⟨rfl, fun q hq => hq0 q (by omega), hc5, fun j hj => rfl, fun q hq => rfl, Fr.rf⟩
    · omega
  | succ k ih =>
    intro p c σ hi hcp hB h hq0 hc5
    obtain ⟨hG, ⟨hL1, hL2, hL3⟩, hgs, hgm⟩ := id hB
    obtain ⟨hg0, hg1, hg2, hg3, hg4, hg5, hg6, hg7, hg8⟩ := id hG
    obtain ⟨hk, h8, hsz, hk1, hk2, hP⟩ := id h
    refine g_iload_n C dX0_findOrbits_35 rfl ?_
    refine g_aload_n C dX0_findOrbits_36 rfl ?_
    refine gn_X4_size C hk dX0_findOrbits_37 nw_X0_66 ?_
    rw [hsz]
    first | refine g_icgeN C 75 dX0_findOrbits_40 (by decide) (by omega) (by omega) (fun h40 => ?_) (fun h40 => ?_) | refine g_icge C 75 dX0_findOrbits_40 (by decide) (fun h40 => ?_) (fun h40 => ?_)
    · omega
    · refine g_aload_n C dX0_findOrbits_43 rfl ?_
      refine g_aload_n C dX0_findOrbits_44 rfl ?_
      refine g_iload_n C dX0_findOrbits_45 rfl ?_
      refine g_callV C (ob_X0 hg0) (c_X0_findOrbit (d := d) (by omega) hd hB h) dX0_findOrbits_46 km_RX0_67 kn_RX0 kc_yX0_findOrbit ki_yX0_findOrbit kx_yX0_findOrbit (by omega) (by decide) ⟨by decide, by decide, rfl⟩ rfl (Nat.le_of_ble_eq_true rfl) (fun r1 σ1 q1 => ?_)
      obtain ⟨rfl, w2, w3, w4⟩ := q1
      have hF1 : Fr [g, g + 3, g + 4] σ σ1 := w4.mono (by simp)
      have hB1 : GrB σ1 g L := hB.go w4 (by simp) (by simp)
      refine g_aload_n C dX0_findOrbits_49 rfl ?_
      refine gf_X0_orbits C hg0 dX0_findOrbits_50 kf_RX0_28 ?_
      refine g_iload_n C dX0_findOrbits_53 rfl ?_
      refine g_ialdN C hg4 (by omega) (by first | decide | omega) dX0_findOrbits_54 ?_
      rw [w2, up_i]
      refine g_iload_n C dX0_findOrbits_55 rfl ?_
      refine g_icne C 69 dX0_findOrbits_56 (by decide) (fun h56 => ?_) (fun h56 => ?_)
      · refine g_iinc1 C dX0_findOrbits_69 rfl (by decide) ?_
        refine g_goto C 35 dX0_findOrbits_72 (by decide) ?_
        refine g_loc ([(0, .ref (ev_a E g)), (1, .ref (ev_a E b)), (2, .int (nI (p + 1)))]) (And.intro rfl (And.intro rfl (And.intro rfl trivial))) ?_
        have hF2 : Fr [g, g + 3, g + 4] σ σ1 := hF1
        have hB2 : GrB σ1 g L := hB1
        have ho : ocL P n L (k + 1) p c = ocL P n L k (p + 1) c := by simp [ocL, h56]
        refine g_post (fun r σ2 q => ?_) (ih (p + 1) c σ1 (by omega) (by omega) hB2 (h.go hF2 (by simp <;> omega) (by simp <;> omega) (by simp <;> omega)) (fun q hq => ?_) ?_)
        · obtain ⟨q1, q2, q3, q4, q5, q6⟩ := q
          refine ⟨q1, q2, by rw [ho]; exact q3, fun j hj => ?_, fun q hq => ?_, hF2.tr q6⟩
          · rw [q4 j hj]; rw [w3 j hj]; try rfl
          · rw [q5 q hq]; rw [(w4 g (by simp)).1]
        · rw [w2]; by_cases e : q = p
          · subst e; rw [up_i]
          · rw [up_n e]; exact hq0 q (by omega)
        · rw [(w4 g (by simp)).1]; exact hc5
      · refine g_aload_n C dX0_findOrbits_59 rfl ?_
        refine g_dup C dX0_findOrbits_60 rfl ?_
        refine gf_X0_orbitsInAll C hg0 dX0_findOrbits_61 kf_RX0_31 ?_
        rw [(w4 g (by simp)).1, hc5]
        refine g_ic (n := 1) C dX0_findOrbits_64 (by decide) ?_
        first | refine g_iaddN C dX0_findOrbits_65 ?_ | refine g_iadd C dX0_findOrbits_65 ?_
        refine gp_X0_orbitsInAll C hg0 dX0_findOrbits_66 kf_RX0_31 ?_
        refine g_iinc1 C dX0_findOrbits_69 rfl (by decide) ?_
        refine g_goto C 35 dX0_findOrbits_72 (by decide) ?_
        refine g_loc ([(0, .ref (ev_a E g)), (1, .ref (ev_a E b)), (2, .int (nI (p + 1)))]) (And.intro rfl (And.intro rfl (And.intro rfl trivial))) ?_
        have hF2 : Fr [g, g + 3, g + 4] σ (sI σ1 g (upd (σ1.1 g) 5 (nI (c + 1)))) := hF1.sI (by simp)
        have hB2 : GrB (sI σ1 g (upd (σ1.1 g) 5 (nI (c + 1)))) g L := hB1.go2 (by rw [sI_self, up_n (by decide)]) (by rw [sI_ne (by omega)])
        have ho : ocL P n L (k + 1) p c = ocL P n L k (p + 1) (c + 1) := by simp [ocL, h56]
        refine g_post (fun r σ2 q => ?_) (ih (p + 1) (c + 1) (sI σ1 g (upd (σ1.1 g) 5 (nI (c + 1)))) (by omega) (by omega) hB2 (h.go hF2 (by simp <;> omega) (by simp <;> omega) (by simp <;> omega)) (fun q hq => ?_) ?_)
        · obtain ⟨q1, q2, q3, q4, q5, q6⟩ := q
          refine ⟨q1, q2, by rw [ho]; exact q3, fun j hj => ?_, fun q hq => ?_, hF2.tr q6⟩
          · rw [q4 j hj]; rw [sI_ne (by omega)]; rw [w3 j hj]; try rfl
          · rw [q5 q hq]; rw [sI_self, up_n hq]; rw [(w4 g (by simp)).1]
        · rw [sI_ne (by omega)]; rw [w2]; by_cases e : q = p
          · subst e; rw [up_i]
          · rw [up_n e]; exact hq0 q (by omega)
        · rw [sI_self, up_i]
set_option maxHeartbeats 4000000 in
set_option maxRecDepth 100000 in
theorem l_X0_findOrbits {E : Ev} {d : Nat} {X : Mx} (C : Cx E X cX0_findOrbits RX0 3 ((Option.none : Option FieldType))) {g n : Nat} {L : List Nat} {P : Nat → Nat → Int32} {b : Nat} (hd : b + 2 < g ∨ g + 8 < b) : ∀ (k : Nat) (i : Nat) (σ : St), L.length = i + k → GrB σ g L → ShIs σ b n P → (∀ j, j < i → σ.1 (g + 3) (lg L j) = nI 0) → G E (d + 4) X 3 (fun r σ2 => r = none ∧ (∀ q, q < n → σ2.1 (g + 4) q = oV P n L q) ∧ σ2.1 g 5 = nI (ocL P n L n 0 0) ∧ (∀ j, j < L.length → σ2.1 (g + 3) (lg L j) = syL P n (lg L j) n 0 (nI 0)) ∧ (∀ q, q ≠ 5 → σ2.1 g q = σ.1 g q) ∧ Fr [g, g + 3, g + 4] σ σ2) σ 2 ([(0, .ref (ev_a E g)), (1, .ref (ev_a E b)), (2, .int (nI i))]) [] := by
  intro k
  induction k with
  | zero =>
    intro i σ hi hB h hz
    obtain ⟨hG, ⟨hL1, hL2, hL3⟩, hgs, hgm⟩ := id hB
    obtain ⟨hg0, hg1, hg2, hg3, hg4, hg5, hg6, hg7, hg8⟩ := id hG
    obtain ⟨hk, h8, hsz, hk1, hk2, hP⟩ := id h
    refine g_iload_n C dX0_findOrbits_2 rfl ?_
    refine g_aload_n C dX0_findOrbits_3 rfl ?_
    refine gf_X0_size C hg0 dX0_findOrbits_4 kf_RX0_19 ?_
    rw [hgs]
    first | refine g_icgeN C 28 dX0_findOrbits_7 (by decide) (by omega) (by omega) (fun h7 => ?_) (fun h7 => ?_) | refine g_icge C 28 dX0_findOrbits_7 (by decide) (fun h7 => ?_) (fun h7 => ?_)
    · refine g_aload_n C dX0_findOrbits_28 rfl ?_
      refine g_ic (n := 0) C dX0_findOrbits_29 (by decide) ?_
      refine gp_X0_orbitsInAll C hg0 dX0_findOrbits_30 kf_RX0_31 ?_
      refine g_ic (n := 0) C dX0_findOrbits_33 (by decide) ?_
      refine g_istore_n C dX0_findOrbits_34 (by decide) ?_
      refine g_loc ([(0, .ref (ev_a E g)), (1, .ref (ev_a E b)), (2, .int (nI 0))]) (And.intro rfl (And.intro rfl (And.intro rfl trivial))) ?_
      have hF : Fr [g, g + 3, g + 4] σ (sI σ g (upd (σ.1 g) 5 (nI 0))) := Fr.rf.sI (by simp)
      refine g_post (fun r σ2 q => ?_) (l2_X0_findOrbits C hd n 0 0 _ (by omega) (Nat.le_refl _) (hB.go2 (by rw [sI_self, up_n (by decide)]) (by rw [sI_ne (by omega)])) (h.go hF (by simp <;> omega) (by simp <;> omega) (by simp <;> omega)) (fun q hq => absurd hq (by omega)) (by rw [sI_self, up_i]))
      obtain ⟨q1, q2, q3, q4, q5, q6⟩ := q
      exact ⟨q1, q2, q3, fun j hj => by rw [q4 j hj, sI_ne (by omega), hz j (by omega)], fun q hq => by rw [q5 q hq, sI_self, up_n hq], hF.tr q6⟩
    · omega
  | succ k ih =>
    intro i σ hi hB h hz
    obtain ⟨hG, ⟨hL1, hL2, hL3⟩, hgs, hgm⟩ := id hB
    obtain ⟨hg0, hg1, hg2, hg3, hg4, hg5, hg6, hg7, hg8⟩ := id hG
    obtain ⟨hk, h8, hsz, hk1, hk2, hP⟩ := id h
    refine g_iload_n C dX0_findOrbits_2 rfl ?_
    refine g_aload_n C dX0_findOrbits_3 rfl ?_
    refine gf_X0_size C hg0 dX0_findOrbits_4 kf_RX0_19 ?_
    rw [hgs]
    first | refine g_icgeN C 28 dX0_findOrbits_7 (by decide) (by omega) (by omega) (fun h7 => ?_) (fun h7 => ?_) | refine g_icge C 28 dX0_findOrbits_7 (by decide) (fun h7 => ?_) (fun h7 => ?_)
    · omega
    · refine g_aload_n C dX0_findOrbits_10 rfl ?_
      refine gf_X0_stay C hg0 dX0_findOrbits_11 kf_RX0_23 ?_
      refine g_aload_n C dX0_findOrbits_14 rfl ?_
      refine gf_X0_byNumber C hg0 dX0_findOrbits_15 kf_RX0_15 ?_
      refine g_iload_n C dX0_findOrbits_18 rfl ?_
      refine g_ialdN C hg2 (by omega) (by first | decide | omega) dX0_findOrbits_19 ?_
      rw [hgm i (by omega)]
      refine g_ic (n := 0) C dX0_findOrbits_20 (by decide) ?_
      refine g_iastN C hg3 (hL2 i (by omega)) (by first | decide | omega) dX0_findOrbits_21 ?_
      refine g_iinc1 C dX0_findOrbits_22 rfl (by decide) ?_
      refine g_goto C 2 dX0_findOrbits_25 (by decide) ?_
      refine g_loc ([(0, .ref (ev_a E g)), (1, .ref (ev_a E b)), (2, .int (nI (i + 1)))]) (And.intro rfl (And.intro rfl (And.intro rfl trivial))) ?_
      have hF : Fr [g, g + 3, g + 4] σ (sI σ (g + 3) (upd (σ.1 (g + 3)) (lg L i) (nI 0))) := Fr.rf.sI (by simp)
      refine g_post (fun r σ2 q => ?_) (ih (i + 1) _ (by omega) (hB.go2 (by rw [sI_ne (by omega)]) (by rw [sI_ne (by omega)])) (h.go hF (by simp <;> omega) (by simp <;> omega) (by simp <;> omega)) (fun j hj => ?_))
      · obtain ⟨q1, q2, q3, q4, q5, q6⟩ := q
        exact ⟨q1, q2, q3, q4, fun q hq => by rw [q5 q hq, sI_ne (by omega)], hF.tr q6⟩
      · rw [sI_self]; by_cases e : j = i
        · subst e; rw [up_i]
        · rw [up_n (fun q => e (hL3 j i (by omega) (by omega) q))]; exact hz j (by omega)
set_option maxHeartbeats 4000000 in
set_option maxRecDepth 100000 in
theorem c_X0_findOrbits {E : Ev} {d : Nat} {σ : St} {g n : Nat} {L : List Nat} {P : Nat → Nat → Int32} {b : Nat} (hd : b + 2 < g ∨ g + 8 < b) (hB : GrB σ g L) (h : ShIs σ b n P) : Con E (d + 4) yX0_findOrbits cX0_findOrbits 3 ((Option.none : Option FieldType)) [.ref (ev_a E g), .ref (ev_a E b)] σ (fun r σ2 => r = none ∧ (∀ q, q < n → σ2.1 (g + 4) q = oV P n L q) ∧ σ2.1 g 5 = nI (ocL P n L n 0 0) ∧ (∀ j, j < L.length → σ2.1 (g + 3) (lg L j) = syL P n (lg L j) n 0 (nI 0)) ∧ (∀ q, q ≠ 5 → σ2.1 g q = σ.1 g q) ∧ Fr [g, g + 3, g + 4] σ σ2) := by
  refine con_of (by decide) (Nat.le_of_ble_eq_true rfl) (fun X hX C => ?_)
  have C : Cx E X cX0_findOrbits RX0 3 ((Option.none : Option FieldType)) := C
  show G E _ X _ _ _ 0 [(0, .ref (ev_a E g)), (1, .ref (ev_a E b))] []
  refine g_ic (n := 0) C dX0_findOrbits_0 (by decide) ?_
  refine g_istore_n C dX0_findOrbits_1 (by decide) ?_
  refine g_loc ([(0, .ref (ev_a E g)), (1, .ref (ev_a E b)), (2, .int (nI 0))]) (And.intro rfl (And.intro rfl (And.intro rfl trivial))) ?_
  exact l_X0_findOrbits C hd L.length 0 σ (by omega) hB h (fun j hj => absurd hj (by omega))
