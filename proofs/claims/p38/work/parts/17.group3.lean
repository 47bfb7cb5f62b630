/-! THE GROUP, third part: SIGNS: what squares make, the free ones, parts; motions by signs -/
abbrev P3 : Type := (Nat → Int32) × (Nat → Nat) × Nat
def rcF (t : P3) (m : Nat) (x : Int32) : P3 := if t.1 m = -1 ∧ t.2.2 < 48 then (upd t.1 m x, (fun j => if j = t.2.2 then m else t.2.1 j), t.2.2 + 1) else t
def afL (fr : Nat) : Nat → Nat → P3 → P3
  | 0, _, t => t
  | k + 1, i, t => afL fr k (i + 1) (rcF (upd t.1 (t.2.1 i) (t.1 (t.2.1 i) * nI 2), t.2.1, t.2.2) (mulN fr (t.2.1 i)) (t.1 (t.2.1 i) * nI 2 + nI 1))
def msI (L : List Nat) (i : Nat) : Nat → Nat → P3 → P3
  | 0, _, t => t
  | k + 1, j, t => msI L i k (j + 1) (rcF t (mulN (t.2.1 i) (mulN (lg L j) (lg L j))) (nI 0))
def msO (L : List Nat) : Nat → Nat → P3 → P3
  | 0, _, t => t
  | k + 1, i, t => if i < t.2.2 then msO L k (i + 1) (msI L i L.length 0 t) else t
def ms0 : P3 := (fun _ => -1, fun _ => 0, 0)
def fsL (L : List Nat) : Nat → Nat → P3 → Nat → P3 × Nat
  | 0, _, t, s => (t, s)
  | k + 1, j, t, s => if t.1 (lg L j) = -1 then fsL L k (j + 1) (afL (lg L j) t.2.2 0 t) (s * 2) else fsL L k (j + 1) t s
def fsF (L : List Nat) : P3 × Nat := fsL L L.length 0 (msO L 48 0 (rcF ms0 0 (nI 0))) 1
def PtI (σ : St) (g : Nat) (t : P3) : Prop := (∀ m, m < 48 → σ.1 (g + 7) m = t.1 m) ∧ (∀ i, i < t.2.2 → σ.1 (g + 8) i = nI (t.2.1 i) ∧ t.2.1 i < 48) ∧ σ.1 g 11 = nI t.2.2 ∧ t.2.2 ≤ 48
theorem PtI.go {σ σ' : St} {g : Nat} {t : P3} {l : List Nat} (h : PtI σ g t) (hF : Fr l σ σ') (h0 : g ∉ l) (h7 : g + 7 ∉ l) (h8 : g + 8 ∉ l) : PtI σ' g t := by
  obtain ⟨a1, a2, a3, a4⟩ := h
  exact ⟨fun m hm => by rw [(hF _ h7).1]; exact a1 m hm, fun i hi => by rw [(hF _ h8).1]; exact a2 i hi, by rw [(hF _ h0).1]; exact a3, a4⟩
def SgIs (σ : St) (g : Nat) (L : List Nat) : Prop := σ.1 g 12 = nI (fsF L).2 ∧ PtI σ g (fsF L).1
theorem rcF_c {t : P3} {m : Nat} {x : Int32} : t.2.2 ≤ (rcF t m x).2.2 ∧ ∀ i, i < t.2.2 → (rcF t m x).2.1 i = t.2.1 i := by
  unfold rcF
  split
  · exact ⟨Nat.le_succ _, fun i hi => by simp only; rw [if_neg (by omega)]⟩
  · exact ⟨Nat.le_refl _, fun _ _ => rfl⟩
set_option maxHeartbeats 4000000 in
set_option maxRecDepth 100000 in
theorem c_X0_reach {E : Ev} {d : Nat} {σ : St} {g m : Nat} {t : P3} {x : Int32} (hG : GK g) (hp : PtI σ g t) (hm : m < 48) : Con E (d) yX0_reach cX0_reach 3 ((Option.none : Option FieldType)) [.ref (ev_a E g), .int (nI m), .int x] σ (fun r σ2 => r = none ∧ PtI σ2 g (rcF t m x) ∧ (∀ q, q ≠ 11 → σ2.1 g q = σ.1 g q) ∧ Fr [g, g + 7, g + 8] σ σ2) := by
  refine con_of (by decide) (Nat.le_of_ble_eq_true rfl) (fun X hX C => ?_)
  have C : Cx E X cX0_reach RX0 3 ((Option.none : Option FieldType)) := C
  obtain ⟨p1, p2, p3, p4⟩ := id hp
  show G E _ X _ _ _ 0 [(0, .ref (ev_a E g)), (1, .int (nI m)), (2, .int x)] []
  refine g_aload_n C dX0_reach_0 rfl ?_
  refine gf_X0_parts C hG.1 dX0_reach_1 kf_RX0_43 ?_
  refine g_iload_n C dX0_reach_4 rfl ?_
  refine g_ialdN C hG.2.2.2.2.2.2.2.1 (by omega) (by first | decide | omega) dX0_reach_5 ?_
  rw [p1 m hm]
  refine g_icz (v := -1) C dX0_reach_6 (by decide) ?_
  refine g_icne C 46 dX0_reach_7 (by decide) (fun h7 => ?_) (fun h7 => ?_)
  · refine g_vret C dX0_reach_46 ?_
    rw [show rcF t m x = t from by unfold rcF; rw [if_neg (by first | (intro q; exact h7 q.1) | (intro q; omega))]]
    exact ⟨rfl, hp, fun q hq => rfl, Fr.rf⟩
  · refine g_aload_n C dX0_reach_10 rfl ?_
    refine gf_X0_reachedInAll C hG.1 dX0_reach_11 kf_RX0_49 ?_
    rw [p3]
    refine g_bp C (nI 48) dX0_reach_14 (by decide) ?_
    first | refine g_icgeN C 46 dX0_reach_16 (by decide) (by omega) (by omega) (fun h16 => ?_) (fun h16 => ?_) | refine g_icge C 46 dX0_reach_16 (by decide) (fun h16 => ?_) (fun h16 => ?_)
    · refine g_vret C dX0_reach_46 ?_
      rw [show rcF t m x = t from by unfold rcF; rw [if_neg (by first | (intro q; exact h7 q.1) | (intro q; omega))]]
      exact ⟨rfl, hp, fun q hq => rfl, Fr.rf⟩
    · refine g_aload_n C dX0_reach_19 rfl ?_
      refine gf_X0_parts C hG.1 dX0_reach_20 kf_RX0_43 ?_
      refine g_iload_n C dX0_reach_23 rfl ?_
      refine g_iload_n C dX0_reach_24 rfl ?_
      refine g_iastN C hG.2.2.2.2.2.2.2.1 (by omega) (by first | decide | omega) dX0_reach_25 ?_
      refine g_aload_n C dX0_reach_26 rfl ?_
      refine gf_X0_reached C hG.1 dX0_reach_27 kf_RX0_46 ?_
      refine g_aload_n C dX0_reach_30 rfl ?_
      refine gf_X0_reachedInAll C hG.1 dX0_reach_31 kf_RX0_49 ?_
      rw [sI_ne (show g ≠ g + 7 by omega), p3]
      refine g_iload_n C dX0_reach_34 rfl ?_
      refine g_iastN C hG.2.2.2.2.2.2.2.2 (by omega) (by first | decide | omega) dX0_reach_35 ?_
      refine g_aload_n C dX0_reach_36 rfl ?_
      refine g_dup C dX0_reach_37 rfl ?_
      refine gf_X0_reachedInAll C hG.1 dX0_reach_38 kf_RX0_49 ?_
      rw [sI_ne (show g ≠ g + 8 by omega), sI_ne (show g ≠ g + 7 by omega), p3]
      refine g_ic (n := 1) C dX0_reach_41 (by decide) ?_
      first | refine g_iaddN C dX0_reach_42 ?_ | refine g_iadd C dX0_reach_42 ?_
      refine gp_X0_reachedInAll C hG.1 dX0_reach_43 kf_RX0_49 ?_
      refine g_vret C dX0_reach_46 ?_
      rw [show rcF t m x = (upd t.1 m x, (fun j => if j = t.2.2 then m else t.2.1 j), t.2.2 + 1) from by unfold rcF; rw [if_pos ⟨h7, h16⟩]]
      refine ⟨rfl, ⟨fun q hq => ?_, fun i hi => ?_, by rw [sI_self, up_i], by show t.2.2 + 1 ≤ 48; omega⟩, fun q hq => by rw [sI_self, up_n hq, sI_ne (by omega), sI_ne (by omega)], ((Fr.rf.sI (by simp)).sI (by simp)).sI (by simp)⟩
      · rw [sI_ne (by omega), sI_ne (by omega), sI_self]
        by_cases e : q = m
        · subst e; rw [up_i]; exact (up_i (f := t.1)).symm
        · rw [up_n e, p1 q hq]; exact (up_n (f := t.1) e).symm
      · have hi2 : i < t.2.2 + 1 := hi
        rw [sI_ne (by omega), sI_self]
        by_cases e : i = t.2.2
        · subst e; rw [up_i]; simp; exact hm
        · rw [up_n e, sI_ne (by omega)]; simp only [e, if_false]; exact p2 i (by omega)
set_option maxHeartbeats 4000000 in
set_option maxRecDepth 100000 in
theorem l_X0_addFree {E : Ev} {d : Nat} {X : Mx} (C : Cx E X cX0_addFree RX0 5 ((Option.none : Option FieldType))) {g fr B : Nat} (hG : GK g) (hfr : fr < 48) : ∀ (k : Nat) (i : Nat) (t : P3) (σ : St), B = i + k → B ≤ t.2.2 → PtI σ g t → G E (d + 2) X 5 (fun r σ2 => r = none ∧ PtI σ2 g (afL fr k i t) ∧ (∀ q, q ≠ 11 → σ2.1 g q = σ.1 g q) ∧ Fr [g, g + 7, g + 8] σ σ2) σ 7 ([(0, .ref (ev_a E g)), (1, .int (nI fr)), (2, .int (nI B)), (3, .int (nI i))]) [] := by
  intro k
  induction k with
  | zero =>
    intro i t σ hi hB hp
    obtain ⟨p1, p2, p3, p4⟩ := id hp
    refine g_iload_n C dX0_addFree_7 rfl ?_
    refine g_iload_n C dX0_addFree_8 rfl ?_
    first | refine g_icgeN C 56 dX0_addFree_9 (by decide) (by omega) (by omega) (fun h9 => ?_) (fun h9 => ?_) | refine g_icge C 56 dX0_addFree_9 (by decide) (fun h9 => ?_) (fun h9 => ?_)
    · refine g_vret C dX0_addFree_56 ?_
      exact ⟨rfl, hp, fun q hq => rfl, Fr.rf⟩
    · omega
  | succ k ih =>
    intro i t σ hi hB hp
    obtain ⟨p1, p2, p3, p4⟩ := id hp
    refine g_iload_n C dX0_addFree_7 rfl ?_
    refine g_iload_n C dX0_addFree_8 rfl ?_
    first | refine g_icgeN C 56 dX0_addFree_9 (by decide) (by omega) (by omega) (fun h9 => ?_) (fun h9 => ?_) | refine g_icge C 56 dX0_addFree_9 (by decide) (fun h9 => ?_) (fun h9 => ?_)
    · omega
    · refine g_aload_n C dX0_addFree_12 rfl ?_
      refine gf_X0_reached C hG.1 dX0_addFree_13 kf_RX0_46 ?_
      refine g_iload_n C dX0_addFree_16 rfl ?_
      refine g_ialdN C hG.2.2.2.2.2.2.2.2 (by omega) (by first | decide | omega) dX0_addFree_17 ?_
      rw [(p2 i (by omega)).1]
      refine g_istore C dX0_addFree_18 (by decide) ?_
      refine g_aload_n C dX0_addFree_20 rfl ?_
      refine gf_X0_parts C hG.1 dX0_addFree_21 kf_RX0_43 ?_
      refine g_iload C dX0_addFree_24 rfl ?_
      refine g_dup2 C dX0_addFree_26 rfl rfl ?_
      refine g_ialdN C hG.2.2.2.2.2.2.2.1 ((p2 i (by omega)).2) (by first | decide | omega) dX0_addFree_27 ?_
      rw [p1 _ (p2 i (by omega)).2]
      refine g_ic (n := 2) C dX0_addFree_28 (by decide) ?_
      refine g_imul C dX0_addFree_29 ?_
      refine g_iastN C hG.2.2.2.2.2.2.2.1 ((p2 i (by omega)).2) (by first | decide | omega) dX0_addFree_30 ?_
      have hp1 : PtI (sI σ (g + 7) (upd (σ.1 (g + 7)) (t.2.1 i) (t.1 (t.2.1 i) * nI 2))) g (upd t.1 (t.2.1 i) (t.1 (t.2.1 i) * nI 2), t.2.1, t.2.2) := by
        refine ⟨fun m hm => ?_, fun j hj => by rw [sI_ne (by omega)]; exact p2 j hj, by rw [sI_ne (by omega)]; exact p3, p4⟩
        rw [sI_self]
        by_cases e : m = t.2.1 i
        · subst e; rw [up_i]; exact (up_i (f := t.1)).symm
        · rw [up_n e, p1 m hm]; exact (up_n (f := t.1) e).symm
      refine g_aload_n C dX0_addFree_31 rfl ?_
      refine g_iload_n C dX0_addFree_32 rfl ?_
      refine g_iload C dX0_addFree_33 rfl ?_
      refine g_callSp C (c_X1_multiply (d := d) hfr (p2 i (by omega)).2) dX0_addFree_35 km_RX0_84 kn_RX1 kc_yX1_multiply ks_yX1_multiply (by omega) (by decide) ⟨by decide, by decide, rfl⟩ rfl (Nat.le_of_ble_eq_true rfl) ?_
      refine g_aload_n C dX0_addFree_38 rfl ?_
      refine gf_X0_parts C hG.1 dX0_addFree_39 kf_RX0_43 ?_
      refine g_iload C dX0_addFree_42 rfl ?_
      refine g_ialdN C hG.2.2.2.2.2.2.2.1 ((p2 i (by omega)).2) (by first | decide | omega) dX0_addFree_44 ?_
      rw [sI_self, up_i]
      refine g_ic (n := 1) C dX0_addFree_45 (by decide) ?_
      refine g_iadd C dX0_addFree_46 ?_
      refine g_callV C (ob_X0 hG.1) (c_X0_reach (d := d) hG hp1 (mulN_lt _ hfr _ (p2 i (by omega)).2)) dX0_addFree_47 km_RX0_120 kn_RX0 kc_yX0_reach ki_yX0_reach kx_yX0_reach (by omega) (by decide) ⟨by decide, by decide, rfl⟩ rfl (Nat.le_of_ble_eq_true rfl) (fun r1 σ1 q1 => ?_)
      obtain ⟨rfl, u1, u2, u3⟩ := q1
      refine g_iinc1 C dX0_addFree_50 rfl (by decide) ?_
      refine g_goto C 7 dX0_addFree_53 (by decide) ?_
      refine g_loc ([(0, .ref (ev_a E g)), (1, .int (nI fr)), (2, .int (nI B)), (3, .int (nI (i + 1)))]) (And.intro rfl (And.intro rfl (And.intro rfl (And.intro rfl trivial)))) ?_
      have hF : Fr [g, g + 7, g + 8] σ σ1 := (Fr.rf.sI (by simp)).tr u3
      refine g_post (fun r σ2 q => ?_) (ih (i + 1) _ σ1 (by omega) (by have := (rcF_c (t := (upd t.1 (t.2.1 i) (t.1 (t.2.1 i) * nI 2), t.2.1, t.2.2)) (m := mulN fr (t.2.1 i)) (x := t.1 (t.2.1 i) * nI 2 + nI 1)).1; simp only at this; omega) u1)
      obtain ⟨q1, q2, q3, q4⟩ := q
      exact ⟨q1, q2, fun q hq => by rw [q3 q hq, u2 q hq, sI_ne (by omega)], hF.tr q4⟩
set_option maxHeartbeats 4000000 in
set_option maxRecDepth 100000 in
theorem c_X0_addFree {E : Ev} {d : Nat} {σ : St} {g fr : Nat} {t : P3} (hG : GK g) (hp : PtI σ g t) (hfr : fr < 48) : Con E (d + 2) yX0_addFree cX0_addFree 5 ((Option.none : Option FieldType)) [.ref (ev_a E g), .int (nI fr)] σ (fun r σ2 => r = none ∧ PtI σ2 g (afL fr t.2.2 0 t) ∧ (∀ q, q ≠ 11 → σ2.1 g q = σ.1 g q) ∧ Fr [g, g + 7, g + 8] σ σ2) := by
  refine con_of (by decide) (Nat.le_of_ble_eq_true rfl) (fun X hX C => ?_)
  have C : Cx E X cX0_addFree RX0 5 ((Option.none : Option FieldType)) := C
  obtain ⟨p1, p2, p3, p4⟩ := id hp
  show G E _ X _ _ _ 0 [(0, .ref (ev_a E g)), (1, .int (nI fr))] []
  refine g_aload_n C dX0_addFree_0 rfl ?_
  refine gf_X0_reachedInAll C hG.1 dX0_addFree_1 kf_RX0_49 ?_
  rw [p3]
  refine g_istore_n C dX0_addFree_4 (by decide) ?_
  refine g_ic (n := 0) C dX0_addFree_5 (by decide) ?_
  refine g_istore_n C dX0_addFree_6 (by decide) ?_
  refine g_loc ([(0, .ref (ev_a E g)), (1, .int (nI fr)), (2, .int (nI t.2.2)), (3, .int (nI 0))]) (And.intro rfl (And.intro rfl (And.intro rfl (And.intro rfl trivial)))) ?_
  exact l_X0_addFree C hG hfr t.2.2 0 t σ (by omega) (Nat.le_refl _) hp
set_option maxHeartbeats 4000000 in
set_option maxRecDepth 100000 in
theorem l3_X0_findMade {E : Ev} {d : Nat} {X : Mx} (C : Cx E X cX0_findMadeOfSquares RX0 4 ((Option.none : Option FieldType))) {g : Nat} {L : List Nat} {R : Option Value → St → Prop} {i : Nat} (hi48 : i < 48) : ∀ (k : Nat) (j : Nat) (t : P3) (σ : St), L.length = j + k → i < t.2.2 → GrB σ g L → PtI σ g t → (∀ σ2, PtI σ2 g (msI L i k j t) → (∀ q, q ≠ 11 → σ2.1 g q = σ.1 g q) → Fr [g, g + 7, g + 8] σ σ2 → G E (d + 2) X 4 R σ2 95 ([(0, .ref (ev_a E g)), (1, .int (nI i))]) []) → G E (d + 2) X 4 R σ 50 ([(0, .ref (ev_a E g)), (1, .int (nI i)), (2, .int (nI j))]) [] := by
  intro k
  induction k with
  | zero =>
    intro j t σ hj hit hB hp K
    obtain ⟨hG, ⟨hL1, hL2, hL3⟩, hgs, hgm⟩ := id hB
    obtain ⟨p1, p2, p3, p4⟩ := id hp
    refine g_iload_n C dX0_findMadeOfSquares_50 rfl ?_
    refine g_aload_n C dX0_findMadeOfSquares_51 rfl ?_
    refine gf_X0_size C hG.1 dX0_findMadeOfSquares_52 kf_RX0_19 ?_
    rw [hgs]
    first | refine g_icgeN C 95 dX0_findMadeOfSquares_55 (by decide) (by omega) (by omega) (fun h55 => ?_) (fun h55 => ?_) | refine g_icge C 95 dX0_findMadeOfSquares_55 (by decide) (fun h55 => ?_) (fun h55 => ?_)
    · refine g_loc ([(0, .ref (ev_a E g)), (1, .int (nI i))]) (And.intro rfl (And.intro rfl trivial)) ?_
      exact K σ hp (fun q hq => rfl) Fr.rf
    · omega
  | succ k ih =>
    intro j t σ hj hit hB hp K
    obtain ⟨hG, ⟨hL1, hL2, hL3⟩, hgs, hgm⟩ := id hB
    obtain ⟨p1, p2, p3, p4⟩ := id hp
    refine g_iload_n C dX0_findMadeOfSquares_50 rfl ?_
    refine g_aload_n C dX0_findMadeOfSquares_51 rfl ?_
    refine gf_X0_size C hG.1 dX0_findMadeOfSquares_52 kf_RX0_19 ?_
    rw [hgs]
    first | refine g_icgeN C 95 dX0_findMadeOfSquares_55 (by decide) (by omega) (by omega) (fun h55 => ?_) (fun h55 => ?_) | refine g_icge C 95 dX0_findMadeOfSquares_55 (by decide) (fun h55 => ?_) (fun h55 => ?_)
    · omega
    · refine g_aload_n C dX0_findMadeOfSquares_58 rfl ?_
      refine gf_X0_byNumber C hG.1 dX0_findMadeOfSquares_59 kf_RX0_15 ?_
      refine g_iload_n C dX0_findMadeOfSquares_62 rfl ?_
      refine g_ialdN C hG.2.2.1 (by omega) (by first | decide | omega) dX0_findMadeOfSquares_63 ?_
      rw [hgm j (by omega)]
      refine g_aload_n C dX0_findMadeOfSquares_64 rfl ?_
      refine gf_X0_byNumber C hG.1 dX0_findMadeOfSquares_65 kf_RX0_15 ?_
      refine g_iload_n C dX0_findMadeOfSquares_68 rfl ?_
      refine g_ialdN C hG.2.2.1 (by omega) (by first | decide | omega) dX0_findMadeOfSquares_69 ?_
      rw [hgm j (by omega)]
      refine g_callSp C (c_X1_multiply (d := d) (hL2 j (by omega)) (hL2 j (by omega))) dX0_findMadeOfSquares_70 km_RX0_84 kn_RX1 kc_yX1_multiply ks_yX1_multiply (by omega) (by decide) ⟨by decide, by decide, rfl⟩ rfl (Nat.le_of_ble_eq_true rfl) ?_
      refine g_istore_n C dX0_findMadeOfSquares_73 (by decide) ?_
      refine g_aload_n C dX0_findMadeOfSquares_74 rfl ?_
      refine g_aload_n C dX0_findMadeOfSquares_75 rfl ?_
      refine gf_X0_reached C hG.1 dX0_findMadeOfSquares_76 kf_RX0_46 ?_
      refine g_iload_n C dX0_findMadeOfSquares_79 rfl ?_
      refine g_ialdN C hG.2.2.2.2.2.2.2.2 (by omega) (by first | decide | omega) dX0_findMadeOfSquares_80 ?_
      rw [(p2 i hit).1]
      refine g_iload_n C dX0_findMadeOfSquares_81 rfl ?_
      refine g_callSp C (c_X1_multiply (d := d) (p2 i hit).2 (mulN_lt _ (hL2 j (by omega)) _ (hL2 j (by omega)))) dX0_findMadeOfSquares_82 km_RX0_84 kn_RX1 kc_yX1_multiply ks_yX1_multiply (by omega) (by decide) ⟨by decide, by decide, rfl⟩ rfl (Nat.le_of_ble_eq_true rfl) ?_
      refine g_ic (n := 0) C dX0_findMadeOfSquares_85 (by decide) ?_
      refine g_callV C (ob_X0 hG.1) (c_X0_reach (d := d) hG hp (mulN_lt _ (p2 i hit).2 _ (mulN_lt _ (hL2 j (by omega)) _ (hL2 j (by omega))))) dX0_findMadeOfSquares_86 km_RX0_120 kn_RX0 kc_yX0_reach ki_yX0_reach kx_yX0_reach (by omega) (by decide) ⟨by decide, by decide, rfl⟩ rfl (Nat.le_of_ble_eq_true rfl) (fun r1 σ1 q1 => ?_)
      obtain ⟨rfl, u1, u2, u3⟩ := q1
      refine g_iinc1 C dX0_findMadeOfSquares_89 rfl (by decide) ?_
      refine g_goto C 50 dX0_findMadeOfSquares_92 (by decide) ?_
      refine g_loc ([(0, .ref (ev_a E g)), (1, .int (nI i)), (2, .int (nI (j + 1)))]) (And.intro rfl (And.intro rfl (And.intro rfl trivial))) ?_
      refine ih (j + 1) _ σ1 (by omega) (Nat.lt_of_lt_of_le hit rcF_c.1) (hB.go2 (u2 2 (by decide)) (u3 (g + 2) (by simp)).1) u1 (fun σ2 v1 v2 v3 => ?_)
      exact K σ2 v1 (fun q hq => by rw [v2 q hq, u2 q hq]) (u3.tr v3)
set_option maxHeartbeats 4000000 in
set_option maxRecDepth 100000 in
theorem l2_X0_findMade {E : Ev} {d : Nat} {X : Mx} (C : Cx E X cX0_findMadeOfSquares RX0 4 ((Option.none : Option FieldType))) {g : Nat} {L : List Nat} : ∀ (k : Nat) (i : Nat) (t : P3) (σ : St), 48 = i + k → GrB σ g L → PtI σ g t → G E (d + 2) X 4 (fun r σ2 => r = none ∧ PtI σ2 g (msO L k i t) ∧ (∀ q, q ≠ 11 → σ2.1 g q = σ.1 g q) ∧ Fr [g, g + 7, g + 8] σ σ2) σ 34 ([(0, .ref (ev_a E g)), (1, .int (nI i))]) [] := by
  intro k
  induction k with
  | zero =>
    intro i t σ hi hB hp
    obtain ⟨hG, ⟨hL1, hL2, hL3⟩, hgs, hgm⟩ := id hB
    obtain ⟨p1, p2, p3, p4⟩ := id hp
    refine g_iload_n C dX0_findMadeOfSquares_34 rfl ?_
    refine g_bp C (nI 48) dX0_findMadeOfSquares_35 (by decide) ?_
    first | refine g_icgeN C 101 dX0_findMadeOfSquares_37 (by decide) (by omega) (by omega) (fun h37 => ?_) (fun h37 => ?_) | refine g_icge C 101 dX0_findMadeOfSquares_37 (by decide) (fun h37 => ?_) (fun h37 => ?_)
    · refine g_vret C dX0_findMadeOfSquares_101 ?_
      exact ⟨rfl, hp, fun q hq => rfl, Fr.rf⟩
    · omega
  | succ k ih =>
    intro i t σ hi hB hp
    obtain ⟨hG, ⟨hL1, hL2, hL3⟩, hgs, hgm⟩ := id hB
    obtain ⟨p1, p2, p3, p4⟩ := id hp
    refine g_iload_n C dX0_findMadeOfSquares_34 rfl ?_
    refine g_bp C (nI 48) dX0_findMadeOfSquares_35 (by decide) ?_
    first | refine g_icgeN C 101 dX0_findMadeOfSquares_37 (by decide) (by omega) (by omega) (fun h37 => ?_) (fun h37 => ?_) | refine g_icge C 101 dX0_findMadeOfSquares_37 (by decide) (fun h37 => ?_) (fun h37 => ?_)
    · omega
    · refine g_iload_n C dX0_findMadeOfSquares_40 rfl ?_
      refine g_aload_n C dX0_findMadeOfSquares_41 rfl ?_
      refine gf_X0_reachedInAll C hG.1 dX0_findMadeOfSquares_42 kf_RX0_49 ?_
      rw [p3]
      first | refine g_icgeN C 101 dX0_findMadeOfSquares_45 (by decide) (by omega) (by omega) (fun h45 => ?_) (fun h45 => ?_) | refine g_icge C 101 dX0_findMadeOfSquares_45 (by decide) (fun h45 => ?_) (fun h45 => ?_)
      · refine g_vret C dX0_findMadeOfSquares_101 ?_
        exact ⟨rfl, by rw [msO, if_neg (by omega)]; exact hp, fun q hq => rfl, Fr.rf⟩
      · refine g_ic (n := 0) C dX0_findMadeOfSquares_48 (by decide) ?_
        refine g_istore_n C dX0_findMadeOfSquares_49 (by decide) ?_
        refine g_loc ([(0, .ref (ev_a E g)), (1, .int (nI i)), (2, .int (nI 0))]) (And.intro rfl (And.intro rfl (And.intro rfl trivial))) ?_
        refine l3_X0_findMade C (by omega) L.length 0 t σ (by omega) (by omega) hB hp (fun σ1 u1 u2 u3 => ?_)
        refine g_iinc1 C dX0_findMadeOfSquares_95 rfl (by decide) ?_
        refine g_goto C 34 dX0_findMadeOfSquares_98 (by decide) ?_
        refine g_loc ([(0, .ref (ev_a E g)), (1, .int (nI (i + 1)))]) (And.intro rfl (And.intro rfl trivial)) ?_
        refine g_post (fun r σ2 q => ?_) (ih (i + 1) _ σ1 (by omega) (hB.go2 (u2 2 (by decide)) (u3 (g + 2) (by simp)).1) u1)
        obtain ⟨q1, q2, q3, q4⟩ := q
        rw [show msO L (k + 1) i t = msO L k (i + 1) (msI L i L.length 0 t) from by rw [msO, if_pos (by omega)]]
        exact ⟨q1, q2, fun q hq => by rw [q3 q hq, u2 q hq], u3.tr q4⟩
set_option maxHeartbeats 4000000 in
set_option maxRecDepth 100000 in
theorem l_X0_findMade {E : Ev} {d : Nat} {X : Mx} (C : Cx E X cX0_findMadeOfSquares RX0 4 ((Option.none : Option FieldType))) {g : Nat} {L : List Nat} : ∀ (k : Nat) (i : Nat) (σ : St), 48 = i + k → GrB σ g L → (∀ m, m < i → σ.1 (g + 7) m = -1) → G E (d + 2) X 4 (fun r σ2 => r = none ∧ PtI σ2 g (msO L 48 0 (rcF ms0 0 (nI 0))) ∧ (∀ q, q ≠ 11 → σ2.1 g q = σ.1 g q) ∧ Fr [g, g + 7, g + 8] σ σ2) σ 2 ([(0, .ref (ev_a E g)), (1, .int (nI i))]) [] := by
  intro k
  induction k with
  | zero =>
    intro i σ hi hB hz
    obtain ⟨hG, ⟨hL1, hL2, hL3⟩, hgs, hgm⟩ := id hB
    refine g_iload_n C dX0_findMadeOfSquares_2 rfl ?_
    refine g_bp C (nI 48) dX0_findMadeOfSquares_3 (by decide) ?_
    first | refine g_icgeN C 21 dX0_findMadeOfSquares_5 (by decide) (by omega) (by omega) (fun h5 => ?_) (fun h5 => ?_) | refine g_icge C 21 dX0_findMadeOfSquares_5 (by decide) (fun h5 => ?_) (fun h5 => ?_)
    · refine g_aload_n C dX0_findMadeOfSquares_21 rfl ?_
      refine g_ic (n := 0) C dX0_findMadeOfSquares_22 (by decide) ?_
      refine gp_X0_reachedInAll C hG.1 dX0_findMadeOfSquares_23 kf_RX0_49 ?_
      have hp0 : PtI (sI σ g (upd (σ.1 g) 11 (nI 0))) g ms0 := ⟨fun m hm => by rw [sI_ne (by omega)]; exact hz m (by omega), fun j hj => absurd hj (Nat.not_lt_zero _), by rw [sI_self, up_i]; rfl, Nat.zero_le _⟩
      refine g_aload_n C dX0_findMadeOfSquares_26 rfl ?_
      refine g_ic (n := 0) C dX0_findMadeOfSquares_27 (by decide) ?_
      refine g_ic (n := 0) C dX0_findMadeOfSquares_28 (by decide) ?_
      refine g_callV C (ob_X0 hG.1) (c_X0_reach (d := d) hG hp0 (by decide)) dX0_findMadeOfSquares_29 km_RX0_120 kn_RX0 kc_yX0_reach ki_yX0_reach kx_yX0_reach (by omega) (by decide) ⟨by decide, by decide, rfl⟩ rfl (Nat.le_of_ble_eq_true rfl) (fun r1 σ1 q1 => ?_)
      obtain ⟨rfl, u1, u2, u3⟩ := q1
      have hF : Fr [g, g + 7, g + 8] σ σ1 := (Fr.rf.sI (by simp)).tr u3
      refine g_ic (n := 0) C dX0_findMadeOfSquares_32 (by decide) ?_
      refine g_istore_n C dX0_findMadeOfSquares_33 (by decide) ?_
      refine g_loc ([(0, .ref (ev_a E g)), (1, .int (nI 0))]) (And.intro rfl (And.intro rfl trivial)) ?_
      refine g_post (fun r σ2 q => ?_) (l2_X0_findMade C 48 0 _ σ1 (by omega) (hB.go2 (by rw [u2 2 (by decide), sI_self, up_n (by decide)]) (hF (g + 2) (by simp)).1) u1)
      obtain ⟨q1, q2, q3, q4⟩ := q
      exact ⟨q1, q2, fun q hq => by rw [q3 q hq, u2 q hq, sI_self, up_n hq], hF.tr q4⟩
    · omega
  | succ k ih =>
    intro i σ hi hB hz
    obtain ⟨hG, ⟨hL1, hL2, hL3⟩, hgs, hgm⟩ := id hB
    refine g_iload_n C dX0_findMadeOfSquares_2 rfl ?_
    refine g_bp C (nI 48) dX0_findMadeOfSquares_3 (by decide) ?_
    first | refine g_icgeN C 21 dX0_findMadeOfSquares_5 (by decide) (by omega) (by omega) (fun h5 => ?_) (fun h5 => ?_) | refine g_icge C 21 dX0_findMadeOfSquares_5 (by decide) (fun h5 => ?_) (fun h5 => ?_)
    · omega
    · refine g_aload_n C dX0_findMadeOfSquares_8 rfl ?_
      refine gf_X0_parts C hG.1 dX0_findMadeOfSquares_9 kf_RX0_43 ?_
      refine g_iload_n C dX0_findMadeOfSquares_12 rfl ?_
      refine g_icz (v := -1) C dX0_findMadeOfSquares_13 (by decide) ?_
      refine g_iastN C hG.2.2.2.2.2.2.2.1 (by omega) (by first | decide | omega) dX0_findMadeOfSquares_14 ?_
      refine g_iinc1 C dX0_findMadeOfSquares_15 rfl (by decide) ?_
      refine g_goto C 2 dX0_findMadeOfSquares_18 (by decide) ?_
      refine g_loc ([(0, .ref (ev_a E g)), (1, .int (nI (i + 1)))]) (And.intro rfl (And.intro rfl trivial)) ?_
      refine g_post (fun r σ2 q => ?_) (ih (i + 1) _ (by omega) (hB.go2 (by rw [sI_ne (by omega)]) (by rw [sI_ne (by omega)])) (fun m hm => ?_))
      · obtain ⟨q1, q2, q3, q4⟩ := q
        exact ⟨q1, q2, fun q hq => by rw [q3 q hq, sI_ne (by omega)], (Fr.rf.sI (by simp)).tr q4⟩
      · rw [sI_self]; by_cases e : m = i
        · subst e; rw [up_i]
        · rw [up_n e]; exact hz m (by omega)
set_option maxHeartbeats 4000000 in
set_option maxRecDepth 100000 in
theorem c_X0_findMade {E : Ev} {d : Nat} {σ : St} {g : Nat} {L : List Nat} (hB : GrB σ g L) : Con E (d + 2) yX0_findMadeOfSquares cX0_findMadeOfSquares 4 ((Option.none : Option FieldType)) [.ref (ev_a E g)] σ (fun r σ2 => r = none ∧ PtI σ2 g (msO L 48 0 (rcF ms0 0 (nI 0))) ∧ (∀ q, q ≠ 11 → σ2.1 g q = σ.1 g q) ∧ Fr [g, g + 7, g + 8] σ σ2) := by
  refine con_of (by decide) (Nat.le_of_ble_eq_true rfl) (fun X hX C => ?_)
  have C : Cx E X cX0_findMadeOfSquares RX0 4 ((Option.none : Option FieldType)) := C
  show G E _ X _ _ _ 0 [(0, .ref (ev_a E g))] []
  refine g_ic (n := 0) C dX0_findMadeOfSquares_0 (by decide) ?_
  refine g_istore_n C dX0_findMadeOfSquares_1 (by decide) ?_
  refine g_loc ([(0, .ref (ev_a E g)), (1, .int (nI 0))]) (And.intro rfl (And.intro rfl trivial)) ?_
  exact l_X0_findMade C 48 0 σ (by omega) hB (fun m hm => absurd hm (by omega))
set_option maxHeartbeats 4000000 in
set_option maxRecDepth 100000 in
theorem l_X0_findSigns {E : Ev} {d : Nat} {X : Mx} (C : Cx E X cX0_findSigns RX0 2 ((Option.none : Option FieldType))) {g : Nat} {L : List Nat} : ∀ (k : Nat) (j : Nat) (t : P3) (s : Nat) (σ : St), L.length = j + k → GrB σ g L → PtI σ g t → σ.1 g 12 = nI s → G E (d + 3) X 2 (fun r σ2 => r = none ∧ σ2.1 g 12 = nI (fsL L k j t s).2 ∧ PtI σ2 g (fsL L k j t s).1 ∧ (∀ q, q ≠ 11 → q ≠ 12 → σ2.1 g q = σ.1 g q) ∧ Fr [g, g + 7, g + 8] σ σ2) σ 11 ([(0, .ref (ev_a E g)), (1, .int (nI j))]) [] := by
  intro k
  induction k with
  | zero =>
    intro j t s σ hj hB hp hs
    obtain ⟨hG, ⟨hL1, hL2, hL3⟩, hgs, hgm⟩ := id hB
    obtain ⟨p1, p2, p3, p4⟩ := id hp
    refine g_iload_n C dX0_findSigns_11 rfl ?_
    refine g_aload_n C dX0_findSigns_12 rfl ?_
    refine gf_X0_size C hG.1 dX0_findSigns_13 kf_RX0_19 ?_
    rw [hgs]
    first | refine g_icgeN C 60 dX0_findSigns_16 (by decide) (by omega) (by omega) (fun h16 => ?_) (fun h16 => ?_) | refine g_icge C 60 dX0_findSigns_16 (by decide) (fun h16 => ?_) (fun h16 => ?_)
    · refine g_vret C dX0_findSigns_60 ?_
      exact ⟨rfl, hs, hp, fun q _ _ => rfl, Fr.rf⟩
    · omega
  | succ k ih =>
    intro j t s σ hj hB hp hs
    obtain ⟨hG, ⟨hL1, hL2, hL3⟩, hgs, hgm⟩ := id hB
    obtain ⟨p1, p2, p3, p4⟩ := id hp
    refine g_iload_n C dX0_findSigns_11 rfl ?_
    refine g_aload_n C dX0_findSigns_12 rfl ?_
    refine gf_X0_size C hG.1 dX0_findSigns_13 kf_RX0_19 ?_
    rw [hgs]
    first | refine g_icgeN C 60 dX0_findSigns_16 (by decide) (by omega) (by omega) (fun h16 => ?_) (fun h16 => ?_) | refine g_icge C 60 dX0_findSigns_16 (by decide) (fun h16 => ?_) (fun h16 => ?_)
    · omega
    · refine g_aload_n C dX0_findSigns_19 rfl ?_
      refine gf_X0_parts C hG.1 dX0_findSigns_20 kf_RX0_43 ?_
      refine g_aload_n C dX0_findSigns_23 rfl ?_
      refine gf_X0_byNumber C hG.1 dX0_findSigns_24 kf_RX0_15 ?_
      refine g_iload_n C dX0_findSigns_27 rfl ?_
      refine g_ialdN C hG.2.2.1 (by omega) (by first | decide | omega) dX0_findSigns_28 ?_
      rw [hgm j (by omega)]
      refine g_ialdN C hG.2.2.2.2.2.2.2.1 (hL2 j (by omega)) (by first | decide | omega) dX0_findSigns_29 ?_
      rw [p1 _ (hL2 j (by omega))]
      refine g_icz (v := -1) C dX0_findSigns_30 (by decide) ?_
      refine g_icne C 54 dX0_findSigns_31 (by decide) (fun h31 => ?_) (fun h31 => ?_)
      · refine g_iinc1 C dX0_findSigns_54 rfl (by decide) ?_
        refine g_goto C 11 dX0_findSigns_57 (by decide) ?_
        refine g_loc ([(0, .ref (ev_a E g)), (1, .int (nI (j + 1)))]) (And.intro rfl (And.intro rfl trivial)) ?_
        rw [show fsL L (k + 1) j t s = fsL L k (j + 1) t s from by rw [fsL, if_neg h31]]
        exact ih (j + 1) t s σ (by omega) hB hp hs
      · refine g_aload_n C dX0_findSigns_34 rfl ?_
        refine g_aload_n C dX0_findSigns_35 rfl ?_
        refine gf_X0_byNumber C hG.1 dX0_findSigns_36 kf_RX0_15 ?_
        refine g_iload_n C dX0_findSigns_39 rfl ?_
        refine g_ialdN C hG.2.2.1 (by omega) (by first | decide | omega) dX0_findSigns_40 ?_
        rw [hgm j (by omega)]
        refine g_callV C (ob_X0 hG.1) (c_X0_addFree (d := d) hG hp (hL2 j (by omega))) dX0_findSigns_41 km_RX0_117 kn_RX0 kc_yX0_addFree ki_yX0_addFree kx_yX0_addFree (by omega) (by decide) ⟨by decide, by decide, rfl⟩ rfl (Nat.le_of_ble_eq_true rfl) (fun r1 σ1 q1 => ?_)
        obtain ⟨rfl, u1, u2, u3⟩ := q1
        refine g_aload_n C dX0_findSigns_44 rfl ?_
        refine g_dup C dX0_findSigns_45 rfl ?_
        refine gf_X0_signs C hG.1 dX0_findSigns_46 kf_RX0_52 ?_
        rw [u2 12 (by decide), hs]
        refine g_ic (n := 2) C dX0_findSigns_49 (by decide) ?_
        first | refine g_imulN C dX0_findSigns_50 ?_ | refine g_imul C dX0_findSigns_50 ?_
        refine gp_X0_signs C hG.1 dX0_findSigns_51 kf_RX0_52 ?_
        refine g_iinc1 C dX0_findSigns_54 rfl (by decide) ?_
        refine g_goto C 11 dX0_findSigns_57 (by decide) ?_
        refine g_loc ([(0, .ref (ev_a E g)), (1, .int (nI (j + 1)))]) (And.intro rfl (And.intro rfl trivial)) ?_
        rw [show fsL L (k + 1) j t s = fsL L k (j + 1) (afL (lg L j) t.2.2 0 t) (s * 2) from by rw [fsL, if_pos h31]]
        obtain ⟨w1, w2, w3, w4⟩ := id u1
        have hp2 : PtI (sI σ1 g (upd (σ1.1 g) 12 (nI (s * 2)))) g (afL (lg L j) t.2.2 0 t) := ⟨fun m hm => by rw [sI_ne (by omega)]; exact w1 m hm, fun i hi => by rw [sI_ne (by omega)]; exact w2 i hi, by rw [sI_self, up_n (by decide)]; exact w3, w4⟩
        refine g_post (fun r σ2 q => ?_) (ih (j + 1) _ (s * 2) (sI σ1 g (upd (σ1.1 g) 12 (nI (s * 2)))) (by omega) (hB.go2 (by rw [sI_self, up_n (by decide), u2 2 (by decide)]) (by rw [sI_ne (by omega), (u3 (g + 2) (by simp)).1])) hp2 (by rw [sI_self, up_i]))
        obtain ⟨q1, q2, q3, q4, q5⟩ := q
        exact ⟨q1, q2, q3, fun q h11 h12 => by rw [q4 q h11 h12, sI_self, up_n h12, u2 q h11], (u3.tr (Fr.rf.sI (by simp))).tr q5⟩
set_option maxHeartbeats 4000000 in
set_option maxRecDepth 100000 in
theorem c_X0_findSigns {E : Ev} {d : Nat} {σ : St} {g : Nat} {L : List Nat} (hB : GrB σ g L) : Con E (d + 3) yX0_findSigns cX0_findSigns 2 ((Option.none : Option FieldType)) [.ref (ev_a E g)] σ (fun r σ2 => r = none ∧ SgIs σ2 g L ∧ (∀ q, q ≠ 11 → q ≠ 12 → σ2.1 g q = σ.1 g q) ∧ Fr [g, g + 7, g + 8] σ σ2) := by
  refine con_of (by decide) (Nat.le_of_ble_eq_true rfl) (fun X hX C => ?_)
  have C : Cx E X cX0_findSigns RX0 2 ((Option.none : Option FieldType)) := C
  obtain ⟨hG, ⟨hL1, hL2, hL3⟩, hgs, hgm⟩ := id hB
  show G E _ X _ _ _ 0 [(0, .ref (ev_a E g))] []
  refine g_aload_n C dX0_findSigns_0 rfl ?_
  refine g_ic (n := 1) C dX0_findSigns_1 (by decide) ?_
  refine gp_X0_signs C hG.1 dX0_findSigns_2 kf_RX0_52 ?_
  have hB1 : GrB (sI σ g (upd (σ.1 g) 12 (nI 1))) g L := hB.go2 (by rw [sI_self, up_n (by decide)]) (by rw [sI_ne (by omega)])
  refine g_aload_n C dX0_findSigns_5 rfl ?_
  refine g_callV C (ob_X0 hG.1) (c_X0_findMade (d := d) hB1) dX0_findSigns_6 km_RX0_114 kn_RX0 kc_yX0_findMadeOfSquares ki_yX0_findMadeOfSquares kx_yX0_findMadeOfSquares (by omega) (by decide) ⟨by decide, by decide, rfl⟩ rfl (Nat.le_of_ble_eq_true rfl) (fun r1 σ1 q1 => ?_)
  obtain ⟨rfl, u1, u2, u3⟩ := q1
  refine g_ic (n := 0) C dX0_findSigns_9 (by decide) ?_
  refine g_istore_n C dX0_findSigns_10 (by decide) ?_
  refine g_loc ([(0, .ref (ev_a E g)), (1, .int (nI 0))]) (And.intro rfl (And.intro rfl trivial)) ?_
  refine g_post (fun r σ2 q => ?_) (l_X0_findSigns C L.length 0 _ 1 σ1 (by omega) (hB1.go2 (u2 2 (by decide)) (u3 (g + 2) (by simp)).1) u1 (by rw [u2 12 (by decide), sI_self, up_i]))
  obtain ⟨q1, q2, q3, q4, q5⟩ := q
  exact ⟨q1, ⟨q2, q3⟩, fun q h11 h12 => by rw [q4 q h11 h12, u2 q h11, sI_self, up_n h12], ((Fr.rf.sI (by simp)).tr u3).tr q5⟩
set_option maxHeartbeats 4000000 in
set_option maxRecDepth 100000 in
theorem c_X0_signsInAll {E : Ev} {d : Nat} {σ : St} {g : Nat} {L : List Nat} (hB : GrB σ g L) (hs : σ.1 g 12 = nI 0 ∨ SgIs σ g L) : Con E (d + 4) yX0_signsInAll cX0_signsInAll 1 ((Option.some FieldType.int)) [.ref (ev_a E g)] σ (fun r σ2 => r = some (.int (nI (fsF L).2)) ∧ SgIs σ2 g L ∧ (∀ q, q ≠ 11 → q ≠ 12 → σ2.1 g q = σ.1 g q) ∧ Fr [g, g + 7, g + 8] σ σ2) := by
  refine con_of (by decide) (Nat.le_of_ble_eq_true rfl) (fun X hX C => ?_)
  have C : Cx E X cX0_signsInAll RX0 1 ((Option.some FieldType.int)) := C
  obtain ⟨hG, ⟨hL1, hL2, hL3⟩, hgs, hgm⟩ := id hB
  show G E _ X _ _ _ 0 [(0, .ref (ev_a E g))] []
  refine g_aload_n C dX0_signsInAll_0 rfl ?_
  refine gf_X0_signs C hG.1 dX0_signsInAll_1 kf_RX0_52 ?_
  refine g_ifne C 11 dX0_signsInAll_4 (by decide) (fun h4 => ?_) (fun h4 => ?_)
  · refine g_aload_n C dX0_signsInAll_11 rfl ?_
    refine gf_X0_signs C hG.1 dX0_signsInAll_12 kf_RX0_52 ?_
    refine g_iret C dX0_signsInAll_15 ?_
    first | exact ⟨congrArg (fun v => some (Value.int v)) u1.1, u1, u2, u3⟩ | exact ⟨congrArg (fun v => some (Value.int v)) (hs.resolve_left (fun q => h4 (q.trans nI_0))).1, hs.resolve_left (fun q => h4 (q.trans nI_0)), fun q _ _ => rfl, Fr.rf⟩
  · refine g_aload_n C dX0_signsInAll_7 rfl ?_
    refine g_callV C (ob_X0 hG.1) (c_X0_findSigns (d := d) hB) dX0_signsInAll_8 km_RX0_106 kn_RX0 kc_yX0_findSigns ki_yX0_findSigns kx_yX0_findSigns (by omega) (by decide) ⟨by decide, by decide, rfl⟩ rfl (Nat.le_of_ble_eq_true rfl) (fun r1 σ1 q1 => ?_)
    obtain ⟨rfl, u1, u2, u3⟩ := q1
    refine g_aload_n C dX0_signsInAll_11 rfl ?_
    refine gf_X0_signs C hG.1 dX0_signsInAll_12 kf_RX0_52 ?_
    refine g_iret C dX0_signsInAll_15 ?_
    first | exact ⟨congrArg (fun v => some (Value.int v)) u1.1, u1, u2, u3⟩ | exact ⟨congrArg (fun v => some (Value.int v)) (hs.resolve_left (fun q => h4 (q.trans nI_0))).1, hs.resolve_left (fun q => h4 (q.trans nI_0)), fun q _ _ => rfl, Fr.rf⟩
