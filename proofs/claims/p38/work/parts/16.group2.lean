/-! THE GROUP, second part: classes, finding it, sizes, orders, motions -/
def cjN (h m : Nat) : Nat := mulN (mulN h m) (invN h)
def ciL (L : List Nat) : Nat → Nat → (Nat → Int32) → (Nat → Int32)
  | 0, _, f => f
  | k + 1, i, f => ciL L k (i + 1) (upd f (lg L i) (-1))
def fcL (L : List Nat) (m : Nat) : Nat → Nat → (Nat → Int32) → (Nat → Int32)
  | 0, _, f => f
  | k + 1, i, f => fcL L m k (i + 1) (upd f (cjN (lg L i) m) (nI m))
def clL (L : List Nat) : Nat → Nat → (Nat → Int32) → (Nat → Int32) → Nat → (Nat → Int32) × (Nat → Int32) × Nat
  | 0, _, f, h, c => (f, h, c)
  | k + 1, i, f, h, c => if f (lg L i) = -1 then clL L k (i + 1) (fcL L (lg L i) L.length 0 f) (upd h c (nI (lg L i))) (c + 1) else clL L k (i + 1) f h c
def clF (L : List Nat) (f h : Nat → Int32) : (Nat → Int32) × (Nat → Int32) × Nat := clL L L.length 0 (ciL L L.length 0 f) h 0
def gpL (P : Nat → Nat → Int32) (n : Nat) : Nat → Nat → List Nat → List Nat
  | 0, _, a => a
  | k + 1, m, a => gpL P n k (m + 1) (if kpt P n m = true then a ++ [m] else a)
/-- THE GROUP of n points by P -/
def gLst (P : Nat → Nat → Int32) (n : Nat) : List Nat := gpL P n 48 0 []
/-- all that a found group's cells say, but for SIGNS -/
def GrIs (σ : St) (g n : Nat) (P : Nat → Nat → Int32) (L : List Nat) : Prop := GrB σ g L ∧ (∀ q, q < 48 → σ.1 (g + 1) q = bI (kpt P n q)) ∧ (∀ p, p < n → σ.1 (g + 4) p = oV P n L p) ∧ σ.1 g 5 = nI (ocL P n L n 0 0) ∧ (∀ j, j < L.length → σ.1 (g + 3) (lg L j) = syL P n (lg L j) n 0 (nI 0)) ∧ ∃ f h : Nat → Int32, σ.1 (g + 5) = (clF L f h).1 ∧ σ.1 (g + 6) = (clF L f h).2.1 ∧ σ.1 g 8 = nI (clF L f h).2.2
theorem GrIs.go {σ σ' : St} {g n : Nat} {P : Nat → Nat → Int32} {L l : List Nat} (h : GrIs σ g n P L) (hF : Fr l σ σ') (h0 : g ∉ l) (h1 : g + 1 ∉ l) (h2 : g + 2 ∉ l) (h3 : g + 3 ∉ l) (h4 : g + 4 ∉ l) (h5 : g + 5 ∉ l) (h6 : g + 6 ∉ l) : GrIs σ' g n P L := by
  obtain ⟨a1, a2, a3, a4, a5, f, e, a6, a7, a8⟩ := h
  exact ⟨a1.go hF h0 h2, fun q hq => by rw [(hF _ h1).1]; exact a2 q hq, fun q hq => by rw [(hF _ h4).1]; exact a3 q hq, by rw [(hF _ h0).1]; exact a4, fun j hj => by rw [(hF _ h3).1]; exact a5 j hj, f, e, by rw [(hF _ h5).1]; exact a6, by rw [(hF _ h6).1]; exact a7, by rw [(hF _ h0).1]; exact a8⟩
theorem lg_app {a : List Nat} {m j : Nat} : lg (a ++ [m]) j = if j < a.length then lg a j else if j = a.length then m else 0 := by
  simp only [lg, List.getD_eq_getElem?_getD]
  by_cases h : j < a.length
  · rw [if_pos h, List.getElem?_append_left h]
  · rw [if_neg h, List.getElem?_append_right (by omega)]
    by_cases e : j = a.length
    · subst e; simp
    · rw [if_neg e, List.getElem?_eq_none (by simp <;> omega)]; rfl
set_option maxHeartbeats 4000000 in
set_option maxRecDepth 100000 in
theorem l_X0_findClass {E : Ev} {d : Nat} {X : Mx} (C : Cx E X cX0_findClass RX0 5 ((Option.none : Option FieldType))) {g : Nat} {L : List Nat} {σ : St} (hB : GrB σ g L) {m : Nat} (hm : m < 48) : ∀ (k : Nat) (i : Nat) (f : Nat → Int32), L.length = i + k → G E (d + 2) X 5 (Det none (sI σ (g + 5) (fcL L m k i f))) (sI σ (g + 5) f) 2 ([(0, .ref (ev_a E g)), (1, .int (nI m)), (2, .int (nI i))]) [] := by
  intro k
  induction k with
  | zero =>
    intro i f hi
    obtain ⟨hG, ⟨hL1, hL2, hL3⟩, hgs, hgm⟩ := id hB
    obtain ⟨hg0, hg1, hg2, hg3, hg4, hg5, hg6, hg7, hg8⟩ := id hG
    refine g_iload_n C dX0_findClass_2 rfl ?_
    refine g_aload_n C dX0_findClass_3 rfl ?_
    refine gf_X0_size C hg0 dX0_findClass_4 kf_RX0_19 ?_
    rw [sI_ne (show g ≠ g + 5 by omega), hgs]
    first | refine g_icgeN C 45 dX0_findClass_7 (by decide) (by omega) (by omega) (fun h7 => ?_) (fun h7 => ?_) | refine g_icge C 45 dX0_findClass_7 (by decide) (fun h7 => ?_) (fun h7 => ?_)
    · refine g_vret C dX0_findClass_45 ?_
      exact ⟨rfl, rfl⟩
    · omega
  | succ k ih =>
    intro i f hi
    obtain ⟨hG, ⟨hL1, hL2, hL3⟩, hgs, hgm⟩ := id hB
    obtain ⟨hg0, hg1, hg2, hg3, hg4, hg5, hg6, hg7, hg8⟩ := id hG
    refine g_iload_n C dX0_findClass_2 rfl ?_
    refine g_aload_n C dX0_findClass_3 rfl ?_
    refine gf_X0_size C hg0 dX0_findClass_4 kf_RX0_19 ?_
    rw [sI_ne (show g ≠ g + 5 by omega), hgs]
    first | refine g_icgeN C 45 dX0_findClass_7 (by decide) (by omega) (by omega) (fun h7 => ?_) (fun h7 => ?_) | refine g_icge C 45 dX0_findClass_7 (by decide) (fun h7 => ?_) (fun h7 => ?_)
    · omega
    · refine g_aload_n C dX0_findClass_10 rfl ?_
      refine gf_X0_byNumber C hg0 dX0_findClass_11 kf_RX0_15 ?_
      refine g_iload_n C dX0_findClass_14 rfl ?_
      refine g_ialdN C hg2 (by omega) (by first | decide | omega) dX0_findClass_15 ?_
      rw [sI_ne (show g + 2 ≠ g + 5 by omega), hgm i (by omega)]
      refine g_istore_n C dX0_findClass_16 (by decide) ?_
      refine g_iload_n C dX0_findClass_17 rfl ?_
      refine g_iload_n C dX0_findClass_18 rfl ?_
      refine g_callSp C (c_X1_multiply (d := d) (hL2 i (by omega)) hm) dX0_findClass_19 km_RX0_84 kn_RX1 kc_yX1_multiply ks_yX1_multiply (by omega) (by decide) ⟨by decide, by decide, rfl⟩ rfl (Nat.le_of_ble_eq_true rfl) ?_
      refine g_iload_n C dX0_findClass_22 rfl ?_
      refine g_callSp C (c_X1_invert (d := d) (hL2 i (by omega))) dX0_findClass_23 km_RX0_87 kn_RX1 kc_yX1_invert ks_yX1_invert (by omega) (by decide) ⟨by decide, by decide, rfl⟩ rfl (Nat.le_of_ble_eq_true rfl) ?_
      refine g_callSp C (c_X1_multiply (d := d) (mulN_lt _ (hL2 i (by omega)) m hm) (invN_lt _ (hL2 i (by omega)))) dX0_findClass_26 km_RX0_84 kn_RX1 kc_yX1_multiply ks_yX1_multiply (by omega) (by decide) ⟨by decide, by decide, rfl⟩ rfl (Nat.le_of_ble_eq_true rfl) ?_
      refine g_istore C dX0_findClass_29 (by decide) ?_
      refine g_aload_n C dX0_findClass_31 rfl ?_
      refine gf_X0_classLeast C hg0 dX0_findClass_32 kf_RX0_34 ?_
      refine g_iload C dX0_findClass_35 rfl ?_
      refine g_iload_n C dX0_findClass_37 rfl ?_
      refine g_iastN C hg5 (mulN_lt _ (mulN_lt _ (hL2 i (by omega)) m hm) _ (invN_lt _ (hL2 i (by omega)))) (by first | decide | omega) dX0_findClass_38 ?_
      rw [sI_self, sI_sI]
      refine g_iinc1 C dX0_findClass_39 rfl (by decide) ?_
      refine g_goto C 2 dX0_findClass_42 (by decide) ?_
      refine g_loc ([(0, .ref (ev_a E g)), (1, .int (nI m)), (2, .int (nI (i + 1)))]) (And.intro rfl (And.intro rfl (And.intro rfl trivial))) ?_
      exact ih (i + 1) _ (by omega)
set_option maxHeartbeats 4000000 in
set_option maxRecDepth 100000 in
theorem c_X0_findClass {E : Ev} {d : Nat} {σ : St} {g : Nat} {L : List Nat} (hB : GrB σ g L) {m : Nat} (hm : m < 48) : Con E (d + 2) yX0_findClass cX0_findClass 5 ((Option.none : Option FieldType)) [.ref (ev_a E g), .int (nI m)] σ (Det none (sI σ (g + 5) (fcL L m L.length 0 (σ.1 (g + 5))))) := by
  refine con_of (by decide) (Nat.le_of_ble_eq_true rfl) (fun X hX C => ?_)
  have C : Cx E X cX0_findClass RX0 5 ((Option.none : Option FieldType)) := C
  show G E _ X _ _ _ 0 [(0, .ref (ev_a E g)), (1, .int (nI m))] []
  refine g_ic (n := 0) C dX0_findClass_0 (by decide) ?_
  refine g_istore_n C dX0_findClass_1 (by decide) ?_
  refine g_loc ([(0, .ref (ev_a E g)), (1, .int (nI m)), (2, .int (nI 0))]) (And.intro rfl (And.intro rfl (And.intro rfl trivial))) ?_
  have h := l_X0_findClass (E := E) (d := d) C hB hm L.length 0 (σ.1 (g + 5)) (by omega)
  rw [sI_id] at h
  exact h
set_option maxHeartbeats 4000000 in
set_option maxRecDepth 100000 in
theorem l2_X0_findClasses {E : Ev} {d : Nat} {X : Mx} (C : Cx E X cX0_findClasses RX0 3 ((Option.none : Option FieldType))) {g : Nat} {L : List Nat} : ∀ (k : Nat) (i c : Nat) (σ : St), L.length = i + k → c ≤ i → GrB σ g L → σ.1 g 8 = nI c → G E (d + 3) X 3 (fun r σ2 => r = none ∧ σ2.1 (g + 5) = (clL L k i (σ.1 (g + 5)) (σ.1 (g + 6)) c).1 ∧ σ2.1 (g + 6) = (clL L k i (σ.1 (g + 5)) (σ.1 (g + 6)) c).2.1 ∧ σ2.1 g 8 = nI (clL L k i (σ.1 (g + 5)) (σ.1 (g + 6)) c).2.2 ∧ (∀ q, q ≠ 8 → σ2.1 g q = σ.1 g q) ∧ Fr [g, g + 5, g + 6] σ σ2) σ 35 ([(0, .ref (ev_a E g)), (1, .int (nI i))]) [] := by
  intro k
  induction k with
  | zero =>
    intro i c σ hi hci hB hc8
    obtain ⟨hG, ⟨hL1, hL2, hL3⟩, hgs, hgm⟩ := id hB
    obtain ⟨hg0, hg1, hg2, hg3, hg4, hg5, hg6, hg7, hg8⟩ := id hG
    refine g_iload_n C dX0_findClasses_35 rfl ?_
    refine g_aload_n C dX0_findClasses_36 rfl ?_
    refine gf_X0_size C hg0 dX0_findClasses_37 kf_RX0_19 ?_
    rw [hgs]
    first | refine g_icgeN C 91 dX0_findClasses_40 (by decide) (by omega) (by omega) (fun h40 => ?_) (fun h40 => ?_) | refine g_icge C 91 dX0_findClasses_40 (by decide) (fun h40 => ?_) (fun h40 => ?_)
    · refine g_vret C dX0_findClasses_91 ?_
      exact ⟨rfl, rfl, rfl, hc8, fun q hq => rfl, Fr.rf⟩
    · omega
  | succ k ih =>
    intro i c σ hi hci hB hc8
    obtain ⟨hG, ⟨hL1, hL2, hL3⟩, hgs, hgm⟩ := id hB
    obtain ⟨hg0, hg1, hg2, hg3, hg4, hg5, hg6, hg7, hg8⟩ := id hG
    refine g_iload_n C dX0_findClasses_35 rfl ?_
    refine g_aload_n C dX0_findClasses_36 rfl ?_
    refine gf_X0_size C hg0 dX0_findClasses_37 kf_RX0_19 ?_
    rw [hgs]
    first | refine g_icgeN C 91 dX0_findClasses_40 (by decide) (by omega) (by omega) (fun h40 => ?_) (fun h40 => ?_) | refine g_icge C 91 dX0_findClasses_40 (by decide) (fun h40 => ?_) (fun h40 => ?_)
    · omega
    · refine g_aload_n C dX0_findClasses_43 rfl ?_
      refine gf_X0_byNumber C hg0 dX0_findClasses_44 kf_RX0_15 ?_
      refine g_iload_n C dX0_findClasses_47 rfl ?_
      refine g_ialdN C hg2 (by omega) (by first | decide | omega) dX0_findClasses_48 ?_
      rw [hgm i (by omega)]
      refine g_istore_n C dX0_findClasses_49 (by decide) ?_
      refine g_aload_n C dX0_findClasses_50 rfl ?_
      refine gf_X0_classLeast C hg0 dX0_findClasses_51 kf_RX0_34 ?_
      refine g_iload_n C dX0_findClasses_54 rfl ?_
      refine g_ialdN C hg5 (hL2 i (by omega)) (by first | decide | omega) dX0_findClasses_55 ?_
      refine g_icz (v := -1) C dX0_findClasses_56 (by decide) ?_
      refine g_icne C 85 dX0_findClasses_57 (by decide) (fun h57 => ?_) (fun h57 => ?_)
      · skip
        refine g_iinc1 C dX0_findClasses_85 rfl (by decide) ?_
        refine g_goto C 35 dX0_findClasses_88 (by decide) ?_
        refine g_loc ([(0, .ref (ev_a E g)), (1, .int (nI (i + 1)))]) (And.intro rfl (And.intro rfl trivial)) ?_
        have hF : Fr [g, g + 5, g + 6] σ σ := Fr.rf
        have hB2 : GrB σ g L := hB
        refine g_post (fun r σ2 q => ?_) (ih (i + 1) c σ (by omega) (by omega) hB2 hc8)
        obtain ⟨q1, q2, q3, q4, q5, q6⟩ := q
        have e : clL L (k + 1) i (σ.1 (g + 5)) (σ.1 (g + 6)) c = clL L k (i + 1) (σ.1 (g + 5)) (σ.1 (g + 6)) c := by rw [clL, if_neg h57]
        rw [e]
        exact ⟨q1, q2, q3, q4, q5, hF.tr q6⟩
      · refine g_aload_n C dX0_findClasses_60 rfl ?_
        refine g_iload_n C dX0_findClasses_61 rfl ?_
        refine g_callVu C (ob_X0 hg0) (c_X0_findClass (d := d) hB (hL2 i (by omega))) dX0_findClasses_62 km_RX0_80 kn_RX0 kc_yX0_findClass ki_yX0_findClass kx_yX0_findClass (by omega) (by decide) ⟨by decide, by decide, rfl⟩ rfl (Nat.le_of_ble_eq_true rfl) ?_
        refine g_aload_n C dX0_findClasses_65 rfl ?_
        refine gf_X0_classList C hg0 dX0_findClasses_66 kf_RX0_37 ?_
        refine g_aload_n C dX0_findClasses_69 rfl ?_
        refine gf_X0_classes C hg0 dX0_findClasses_70 kf_RX0_40 ?_
        rw [sI_ne (show g ≠ g + 5 by omega), hc8]
        refine g_iload_n C dX0_findClasses_73 rfl ?_
        refine g_iastN C hg6 (by omega) (by first | decide | omega) dX0_findClasses_74 ?_
        rw [sI_ne (show g + 6 ≠ g + 5 by omega)]
        refine g_aload_n C dX0_findClasses_75 rfl ?_
        refine g_dup C dX0_findClasses_76 rfl ?_
        refine gf_X0_classes C hg0 dX0_findClasses_77 kf_RX0_40 ?_
        rw [sI_ne (show g ≠ g + 6 by omega), sI_ne (show g ≠ g + 5 by omega), hc8]
        refine g_ic (n := 1) C dX0_findClasses_80 (by decide) ?_
        first | refine g_iaddN C dX0_findClasses_81 ?_ | refine g_iadd C dX0_findClasses_81 ?_
        refine gp_X0_classes C hg0 dX0_findClasses_82 kf_RX0_40 ?_
        rw [sI_ne (show g ≠ g + 6 by omega), sI_ne (show g ≠ g + 5 by omega)]
        refine g_iinc1 C dX0_findClasses_85 rfl (by decide) ?_
        refine g_goto C 35 dX0_findClasses_88 (by decide) ?_
        refine g_loc ([(0, .ref (ev_a E g)), (1, .int (nI (i + 1)))]) (And.intro rfl (And.intro rfl trivial)) ?_
        have hF : Fr [g, g + 5, g + 6] σ (sI (sI (sI σ (g + 5) (fcL L (lg L i) L.length 0 (σ.1 (g + 5)))) (g + 6) (upd (σ.1 (g + 6)) c (nI (lg L i)))) g (upd (σ.1 g) 8 (nI (c + 1)))) := ((Fr.rf.sI (by simp)).sI (by simp)).sI (by simp)
        have hB2 : GrB (sI (sI (sI σ (g + 5) (fcL L (lg L i) L.length 0 (σ.1 (g + 5)))) (g + 6) (upd (σ.1 (g + 6)) c (nI (lg L i)))) g (upd (σ.1 g) 8 (nI (c + 1)))) g L := hB.go2 (by rw [sI_self, up_n (by decide)]) (by rw [sI_ne (by omega), sI_ne (by omega), sI_ne (by omega)])
        refine g_post (fun r σ2 q => ?_) (ih (i + 1) (c + 1) (sI (sI (sI σ (g + 5) (fcL L (lg L i) L.length 0 (σ.1 (g + 5)))) (g + 6) (upd (σ.1 (g + 6)) c (nI (lg L i)))) g (upd (σ.1 g) 8 (nI (c + 1)))) (by omega) (by omega) hB2 (by rw [sI_self, up_i]))
        obtain ⟨q1, q2, q3, q4, q5, q6⟩ := q
        have e5 : (sI (sI (sI σ (g + 5) (fcL L (lg L i) L.length 0 (σ.1 (g + 5)))) (g + 6) (upd (σ.1 (g + 6)) c (nI (lg L i)))) g (upd (σ.1 g) 8 (nI (c + 1)))).1 (g + 5) = fcL L (lg L i) L.length 0 (σ.1 (g + 5)) := by rw [sI_ne (by omega), sI_ne (by omega), sI_self]
        have e6 : (sI (sI (sI σ (g + 5) (fcL L (lg L i) L.length 0 (σ.1 (g + 5)))) (g + 6) (upd (σ.1 (g + 6)) c (nI (lg L i)))) g (upd (σ.1 g) 8 (nI (c + 1)))).1 (g + 6) = upd (σ.1 (g + 6)) c (nI (lg L i)) := by rw [sI_ne (by omega), sI_self]
        rw [e5, e6] at q2 q3 q4
        have e : clL L (k + 1) i (σ.1 (g + 5)) (σ.1 (g + 6)) c = clL L k (i + 1) (fcL L (lg L i) L.length 0 (σ.1 (g + 5))) (upd (σ.1 (g + 6)) c (nI (lg L i))) (c + 1) := by rw [clL, if_pos h57]
        rw [e]
        exact ⟨q1, q2, q3, q4, fun q hq => by rw [q5 q hq, sI_self, up_n hq], hF.tr q6⟩
set_option maxHeartbeats 4000000 in
set_option maxRecDepth 100000 in
theorem l_X0_findClasses {E : Ev} {d : Nat} {X : Mx} (C : Cx E X cX0_findClasses RX0 3 ((Option.none : Option FieldType))) {g : Nat} {L : List Nat} : ∀ (k : Nat) (i : Nat) (σ : St), L.length = i + k → GrB σ g L → G E (d + 3) X 3 (fun r σ2 => r = none ∧ σ2.1 (g + 5) = (clL L L.length 0 (ciL L k i (σ.1 (g + 5))) (σ.1 (g + 6)) 0).1 ∧ σ2.1 (g + 6) = (clL L L.length 0 (ciL L k i (σ.1 (g + 5))) (σ.1 (g + 6)) 0).2.1 ∧ σ2.1 g 8 = nI (clL L L.length 0 (ciL L k i (σ.1 (g + 5))) (σ.1 (g + 6)) 0).2.2 ∧ (∀ q, q ≠ 8 → σ2.1 g q = σ.1 g q) ∧ Fr [g, g + 5, g + 6] σ σ2) σ 2 ([(0, .ref (ev_a E g)), (1, .int (nI i))]) [] := by
  intro k
  induction k with
  | zero =>
    intro i σ hi hB
    obtain ⟨hG, ⟨hL1, hL2, hL3⟩, hgs, hgm⟩ := id hB
    obtain ⟨hg0, hg1, hg2, hg3, hg4, hg5, hg6, hg7, hg8⟩ := id hG
    refine g_iload_n C dX0_findClasses_2 rfl ?_
    refine g_aload_n C dX0_findClasses_3 rfl ?_
    refine gf_X0_size C hg0 dX0_findClasses_4 kf_RX0_19 ?_
    rw [hgs]
    first | refine g_icgeN C 28 dX0_findClasses_7 (by decide) (by omega) (by omega) (fun h7 => ?_) (fun h7 => ?_) | refine g_icge C 28 dX0_findClasses_7 (by decide) (fun h7 => ?_) (fun h7 => ?_)
    · refine g_aload_n C dX0_findClasses_28 rfl ?_
      refine g_ic (n := 0) C dX0_findClasses_29 (by decide) ?_
      refine gp_X0_classes C hg0 dX0_findClasses_30 kf_RX0_40 ?_
      refine g_ic (n := 0) C dX0_findClasses_33 (by decide) ?_
      refine g_istore_n C dX0_findClasses_34 (by decide) ?_
      refine g_loc ([(0, .ref (ev_a E g)), (1, .int (nI 0))]) (And.intro rfl (And.intro rfl trivial)) ?_
      have hF : Fr [g, g + 5, g + 6] σ (sI σ g (upd (σ.1 g) 8 (nI 0))) := Fr.rf.sI (by simp)
      refine g_post (fun r σ2 q => ?_) (l2_X0_findClasses C L.length 0 0 _ (by omega) (Nat.le_refl _) (hB.go2 (by rw [sI_self, up_n (by decide)]) (by rw [sI_ne (by omega)])) (by rw [sI_self, up_i]))
      obtain ⟨q1, q2, q3, q4, q5, q6⟩ := q
      rw [sI_ne (show g + 5 ≠ g by omega), sI_ne (show g + 6 ≠ g by omega)] at q2 q3 q4
      exact ⟨q1, q2, q3, q4, fun q hq => by rw [q5 q hq, sI_self, up_n hq], hF.tr q6⟩
    · omega
  | succ k ih =>
    intro i σ hi hB
    obtain ⟨hG, ⟨hL1, hL2, hL3⟩, hgs, hgm⟩ := id hB
    obtain ⟨hg0, hg1, hg2, hg3, hg4, hg5, hg6, hg7, hg8⟩ := id hG
    refine g_iload_n C dX0_findClasses_2 rfl ?_
    refine g_aload_n C dX0_findClasses_3 rfl ?_
    refine gf_X0_size C hg0 dX0_findClasses_4 kf_RX0_19 ?_
    rw [hgs]
    first | refine g_icgeN C 28 dX0_findClasses_7 (by decide) (by omega) (by omega) (fun h7 => ?_) (fun h7 => ?_) | refine g_icge C 28 dX0_findClasses_7 (by decide) (fun h7 => ?_) (fun h7 => ?_)
    · omega
    · refine g_aload_n C dX0_findClasses_10 rfl ?_
      refine gf_X0_classLeast C hg0 dX0_findClasses_11 kf_RX0_34 ?_
      refine g_aload_n C dX0_findClasses_14 rfl ?_
      refine gf_X0_byNumber C hg0 dX0_findClasses_15 kf_RX0_15 ?_
      refine g_iload_n C dX0_findClasses_18 rfl ?_
      refine g_ialdN C hg2 (by omega) (by first | decide | omega) dX0_findClasses_19 ?_
      rw [hgm i (by omega)]
      refine g_icz (v := -1) C dX0_findClasses_20 (by decide) ?_
      refine g_iastN C hg5 (hL2 i (by omega)) (by first | decide | omega) dX0_findClasses_21 ?_
      refine g_iinc1 C dX0_findClasses_22 rfl (by decide) ?_
      refine g_goto C 2 dX0_findClasses_25 (by decide) ?_
      refine g_loc ([(0, .ref (ev_a E g)), (1, .int (nI (i + 1)))]) (And.intro rfl (And.intro rfl trivial)) ?_
      have hF : Fr [g, g + 5, g + 6] σ (sI σ (g + 5) (upd (σ.1 (g + 5)) (lg L i) (-1))) := Fr.rf.sI (by simp)
      refine g_post (fun r σ2 q => ?_) (ih (i + 1) _ (by omega) (hB.go2 (by rw [sI_ne (by omega)]) (by rw [sI_ne (by omega)])))
      obtain ⟨q1, q2, q3, q4, q5, q6⟩ := q
      rw [sI_self, sI_ne (show g + 6 ≠ g + 5 by omega)] at q2 q3 q4
      exact ⟨q1, q2, q3, q4, fun q hq => by rw [q5 q hq, sI_ne (by omega)], hF.tr q6⟩
set_option maxHeartbeats 4000000 in
set_option maxRecDepth 100000 in
theorem c_X0_findClasses {E : Ev} {d : Nat} {σ : St} {g : Nat} {L : List Nat} (hB : GrB σ g L) : Con E (d + 3) yX0_findClasses cX0_findClasses 3 ((Option.none : Option FieldType)) [.ref (ev_a E g)] σ (fun r σ2 => r = none ∧ σ2.1 (g + 5) = (clF L (σ.1 (g + 5)) (σ.1 (g + 6))).1 ∧ σ2.1 (g + 6) = (clF L (σ.1 (g + 5)) (σ.1 (g + 6))).2.1 ∧ σ2.1 g 8 = nI (clF L (σ.1 (g + 5)) (σ.1 (g + 6))).2.2 ∧ (∀ q, q ≠ 8 → σ2.1 g q = σ.1 g q) ∧ Fr [g, g + 5, g + 6] σ σ2) := by
  refine con_of (by decide) (Nat.le_of_ble_eq_true rfl) (fun X hX C => ?_)
  have C : Cx E X cX0_findClasses RX0 3 ((Option.none : Option FieldType)) := C
  show G E _ X _ _ _ 0 [(0, .ref (ev_a E g))] []
  refine g_ic (n := 0) C dX0_findClasses_0 (by decide) ?_
  refine g_istore_n C dX0_findClasses_1 (by decide) ?_
  refine g_loc ([(0, .ref (ev_a E g)), (1, .int (nI 0))]) (And.intro rfl (And.intro rfl trivial)) ?_
  exact l_X0_findClasses C L.length 0 σ (by omega) hB
/-- while the group is found: a has been found below m -/
def FdI (σ : St) (g n : Nat) (P : Nat → Nat → Int32) (m : Nat) (a : List Nat) : Prop := GrB σ g a ∧ a.length ≤ m ∧ (∀ j, j < a.length → lg a j < m) ∧ ∀ q, q < m → σ.1 (g + 1) q = bI (kpt P n q)
set_option maxHeartbeats 4000000 in
set_option maxRecDepth 100000 in
theorem l_X0_find {E : Ev} {d : Nat} {X : Mx} (C : Cx E X cX0_find RX0 3 ((Option.none : Option FieldType))) {g n : Nat} {P : Nat → Nat → Int32} {b : Nat} (hd : b + 2 < g ∨ g + 8 < b) : ∀ (k : Nat) (m : Nat) (a : List Nat) (σ : St), 48 = m + k → FdI σ g n P m a → ShIs σ b n P → G E (d + 5) X 3 (fun r σ2 => r = none ∧ GrIs σ2 g n P (gpL P n k m a) ∧ σ2.1 g 12 = nI 0 ∧ (∀ q, q = 11 → σ2.1 g q = σ.1 g q) ∧ Fr [g, g + 1, g + 2, g + 3, g + 4, g + 5, g + 6] σ σ2) σ 7 ([(0, .ref (ev_a E g)), (1, .ref (ev_a E b)), (2, .int (nI m))]) [] := by
  intro k
  induction k with
  | zero =>
    intro m a σ hi hI h
    obtain ⟨hB, ha1, ha2, hM⟩ := id hI
    obtain ⟨hG, ⟨hL1, hL2, hL3⟩, hgs, hgm⟩ := id hB
    obtain ⟨hg0, hg1, hg2, hg3, hg4, hg5, hg6, hg7, hg8⟩ := id hG
    obtain ⟨hk, h8, hsz, hk1, hk2, hP⟩ := id h
    refine g_iload_n C dX0_find_7 rfl ?_
    refine g_bp C (nI 48) dX0_find_8 (by decide) ?_
    first | refine g_icgeN C 59 dX0_find_10 (by decide) (by omega) (by omega) (fun h10 => ?_) (fun h10 => ?_) | refine g_icge C 59 dX0_find_10 (by decide) (fun h10 => ?_) (fun h10 => ?_)
    · refine g_aload_n C dX0_find_59 rfl ?_
      refine g_aload_n C dX0_find_60 rfl ?_
      refine g_callV C (ob_X0 hg0) (c_X0_findOrbits (d := d) hd hB h) dX0_find_61 km_RX0_59 kn_RX0 kc_yX0_findOrbits ki_yX0_findOrbits kx_yX0_findOrbits (by omega) (by decide) ⟨by decide, by decide, rfl⟩ rfl (Nat.le_of_ble_eq_true rfl) (fun r1 σ1 q1 => ?_)
      obtain ⟨rfl, u1, u2, u3, u4, u5⟩ := q1
      have hB1 : GrB σ1 g a := hB.go2 (u4 2 (by decide)) (u5 (g + 2) (by simp)).1
      refine g_aload_n C dX0_find_64 rfl ?_
      refine g_callV C (ob_X0 hg0) (c_X0_findClasses (d := d) hB1) dX0_find_65 km_RX0_63 kn_RX0 kc_yX0_findClasses ki_yX0_findClasses kx_yX0_findClasses (by omega) (by decide) ⟨by decide, by decide, rfl⟩ rfl (Nat.le_of_ble_eq_true rfl) (fun r1 σ3 q1 => ?_)
      obtain ⟨rfl, v1, v2, v3, v4, v5⟩ := q1
      refine g_aload_n C dX0_find_68 rfl ?_
      refine g_ic (n := 0) C dX0_find_69 (by decide) ?_
      refine gp_X0_signs C hg0 dX0_find_70 kf_RX0_52 ?_
      refine g_vret C dX0_find_73 ?_
      have hFx : Fr [g, g + 1, g + 2, g + 3, g + 4, g + 5, g + 6] σ1 σ3 := v5.mono (by simp <;> omega)
      have hFy : Fr [g, g + 1, g + 2, g + 3, g + 4, g + 5, g + 6] σ σ1 := u5.mono (by simp <;> omega)
      have hB3 : GrB σ3 g a := hB1.go2 (v4 2 (by decide)) (v5 (g + 2) (by simp)).1
      refine ⟨rfl, ⟨hB3.go2 (by rw [sI_self, up_n (by decide)]) (by rw [sI_ne (by omega)]), fun q hq => ?_, fun p hp => ?_, ?_, fun j hj => ?_, σ1.1 (g + 5), σ1.1 (g + 6), ?_, ?_, ?_⟩, by rw [sI_self, up_i], fun q hq => ?_, (hFy.tr hFx).sI (by simp)⟩
      · rw [sI_ne (by omega), (v5 (g + 1) (by simp)).1, (u5 (g + 1) (by simp)).1]; exact hM q (by omega)
      · rw [sI_ne (by omega), (v5 (g + 4) (by simp)).1]; exact u1 p hp
      · rw [sI_self, up_n (by decide), v4 5 (by decide)]; exact u2
      · rw [sI_ne (by omega), (v5 (g + 3) (by simp)).1]; exact u3 j hj
      · rw [sI_ne (by omega)]; exact v1
      · rw [sI_ne (by omega)]; exact v2
      · rw [sI_self, up_n (by decide)]; exact v3
      · subst hq; rw [sI_self, up_n (by decide), v4 11 (by decide), u4 11 (by decide)]
    · omega
  | succ k ih =>
    intro m a σ hi hI h
    obtain ⟨hB, ha1, ha2, hM⟩ := id hI
    obtain ⟨hG, ⟨hL1, hL2, hL3⟩, hgs, hgm⟩ := id hB
    obtain ⟨hg0, hg1, hg2, hg3, hg4, hg5, hg6, hg7, hg8⟩ := id hG
    obtain ⟨hk, h8, hsz, hk1, hk2, hP⟩ := id h
    refine g_iload_n C dX0_find_7 rfl ?_
    refine g_bp C (nI 48) dX0_find_8 (by decide) ?_
    first | refine g_icgeN C 59 dX0_find_10 (by decide) (by omega) (by omega) (fun h10 => ?_) (fun h10 => ?_) | refine g_icge C 59 dX0_find_10 (by decide) (fun h10 => ?_) (fun h10 => ?_)
    · omega
    · refine g_aload_n C dX0_find_13 rfl ?_
      refine gf_X0_members C hg0 dX0_find_14 kf_RX0_9 ?_
      refine g_iload_n C dX0_find_17 rfl ?_
      refine g_aload_n C dX0_find_18 rfl ?_
      refine g_iload_n C dX0_find_19 rfl ?_
      refine g_callVp C (ob_X4 hk) (c_X4_isKeptBy (d := d) h (by omega)) dX0_find_20 km_RX0_55 kn_RX4 kc_yX4_isKeptBy ki_yX4_isKeptBy kx_yX4_isKeptBy (by omega) (by decide) ⟨by decide, by decide, rfl⟩ rfl (Nat.le_of_ble_eq_true rfl) ?_
      refine g_zastN C hg1 (by omega) (by first | decide | omega) dX0_find_23 ?_
      rw [nar_b]
      refine g_aload_n C dX0_find_24 rfl ?_
      refine gf_X0_members C hg0 dX0_find_25 kf_RX0_9 ?_
      refine g_iload_n C dX0_find_28 rfl ?_
      refine g_zaldN C hg1 (by omega) (by first | decide | omega) dX0_find_29 ?_
      rw [sI_self, up_i]
      refine g_ifeqB C 53 dX0_find_30 (by decide) (fun h30 => ?_) (fun h30 => ?_)
      · refine g_iinc1 C dX0_find_53 rfl (by decide) ?_
        refine g_goto C 7 dX0_find_56 (by decide) ?_
        refine g_loc ([(0, .ref (ev_a E g)), (1, .ref (ev_a E b)), (2, .int (nI (m + 1)))]) (And.intro rfl (And.intro rfl (And.intro rfl trivial))) ?_
        have hF : Fr [g, g + 1, g + 2, g + 3, g + 4, g + 5, g + 6] σ (sI σ (g + 1) (upd (σ.1 (g + 1)) m (bI (kpt P n m)))) := Fr.rf.sI (by simp)
        have hB2 : GrB (sI σ (g + 1) (upd (σ.1 (g + 1)) m (bI (kpt P n m)))) g a := hB.go2 (by rw [sI_ne (by omega)]) (by rw [sI_ne (by omega)])
        have hI2 : FdI (sI σ (g + 1) (upd (σ.1 (g + 1)) m (bI (kpt P n m)))) g n P (m + 1) a := by
          refine ⟨hB2, by omega, fun j hj => ?_, fun q hq => ?_⟩
          · have := ha2 j hj; omega
          · rw [sI_self]; by_cases e : q = m
            · subst e; rw [up_i]
            · rw [up_n e]; exact hM q (by omega)
        have e : gpL P n (k + 1) m a = gpL P n k (m + 1) a := by simp [gpL, h30]
        refine g_post (fun r σ2 q => ?_) (ih (m + 1) a (sI σ (g + 1) (upd (σ.1 (g + 1)) m (bI (kpt P n m)))) (by omega) hI2 (h.go hF (by simp <;> omega) (by simp <;> omega) (by simp <;> omega)))
        obtain ⟨q1, q2, q3, q4, q5⟩ := q
        rw [e]
        exact ⟨q1, q2, q3, fun q hq => by rw [q4 q hq]; rw [sI_ne (by omega)], hF.tr q5⟩
      · refine g_aload_n C dX0_find_33 rfl ?_
        refine gf_X0_byNumber C hg0 dX0_find_34 kf_RX0_15 ?_
        refine g_aload_n C dX0_find_37 rfl ?_
        refine gf_X0_size C hg0 dX0_find_38 kf_RX0_19 ?_
        rw [sI_ne (show g ≠ g + 1 by omega), hgs]
        refine g_iload_n C dX0_find_41 rfl ?_
        refine g_iastN C hg2 (by omega) (by first | decide | omega) dX0_find_42 ?_
        refine g_aload_n C dX0_find_43 rfl ?_
        refine g_dup C dX0_find_44 rfl ?_
        refine gf_X0_size C hg0 dX0_find_45 kf_RX0_19 ?_
        rw [sI_ne (show g ≠ g + 2 by omega), sI_ne (show g ≠ g + 1 by omega), hgs]
        refine g_ic (n := 1) C dX0_find_48 (by decide) ?_
        first | refine g_iaddN C dX0_find_49 ?_ | refine g_iadd C dX0_find_49 ?_
        refine gp_X0_size C hg0 dX0_find_50 kf_RX0_19 ?_
        refine g_iinc1 C dX0_find_53 rfl (by decide) ?_
        refine g_goto C 7 dX0_find_56 (by decide) ?_
        refine g_loc ([(0, .ref (ev_a E g)), (1, .ref (ev_a E b)), (2, .int (nI (m + 1)))]) (And.intro rfl (And.intro rfl (And.intro rfl trivial))) ?_
        have hF : Fr [g, g + 1, g + 2, g + 3, g + 4, g + 5, g + 6] σ (sI (sI (sI σ (g + 1) (upd (σ.1 (g + 1)) m (bI (kpt P n m)))) (g + 2) (upd ((sI σ (g + 1) (upd (σ.1 (g + 1)) m (bI (kpt P n m)))).1 (g + 2)) a.length (nI m))) g (upd ((sI (sI σ (g + 1) (upd (σ.1 (g + 1)) m (bI (kpt P n m)))) (g + 2) (upd ((sI σ (g + 1) (upd (σ.1 (g + 1)) m (bI (kpt P n m)))).1 (g + 2)) a.length (nI m))).1 g) 2 (nI (a.length + 1)))) := ((Fr.rf.sI (by simp)).sI (by simp)).sI (by simp)
        have hB2 : GrB (sI (sI (sI σ (g + 1) (upd (σ.1 (g + 1)) m (bI (kpt P n m)))) (g + 2) (upd ((sI σ (g + 1) (upd (σ.1 (g + 1)) m (bI (kpt P n m)))).1 (g + 2)) a.length (nI m))) g (upd ((sI (sI σ (g + 1) (upd (σ.1 (g + 1)) m (bI (kpt P n m)))) (g + 2) (upd ((sI σ (g + 1) (upd (σ.1 (g + 1)) m (bI (kpt P n m)))).1 (g + 2)) a.length (nI m))).1 g) 2 (nI (a.length + 1)))) g (a ++ [m]) := by
          refine ⟨hG, ⟨by simp <;> omega, fun j hj => ?_, fun i j hi hj e => ?_⟩, by rw [sI_self, up_i]; simp, fun j hj => ?_⟩
          · simp at hj; rw [lg_app]; split
            · have := ha2 j (by assumption); omega
            · rw [if_pos (by omega)]; omega
          · simp at hi hj; rw [lg_app, lg_app] at e
            by_cases ci : i < a.length <;> by_cases cj : j < a.length
            · rw [if_pos ci, if_pos cj] at e; exact hL3 i j ci cj e
            · rw [if_pos ci, if_neg cj, if_pos (by omega)] at e; have := ha2 i ci; omega
            · rw [if_neg ci, if_pos (by omega), if_pos cj] at e; have := ha2 j cj; omega
            · omega
          · simp at hj; rw [sI_ne (by omega), sI_self, lg_app]
            by_cases cj : j < a.length
            · rw [if_pos cj, up_n (by omega), sI_ne (by omega)]; exact hgm j cj
            · rw [if_neg cj, if_pos (by omega), show j = a.length from by omega, up_i]
        have hI2 : FdI (sI (sI (sI σ (g + 1) (upd (σ.1 (g + 1)) m (bI (kpt P n m)))) (g + 2) (upd ((sI σ (g + 1) (upd (σ.1 (g + 1)) m (bI (kpt P n m)))).1 (g + 2)) a.length (nI m))) g (upd ((sI (sI σ (g + 1) (upd (σ.1 (g + 1)) m (bI (kpt P n m)))) (g + 2) (upd ((sI σ (g + 1) (upd (σ.1 (g + 1)) m (bI (kpt P n m)))).1 (g + 2)) a.length (nI m))).1 g) 2 (nI (a.length + 1)))) g n P (m + 1) (a ++ [m]) := by
          refine ⟨hB2, by simp; omega, fun j hj => ?_, fun q hq => ?_⟩
          · simp at hj; rw [lg_app]; split
            · have := ha2 j (by assumption); omega
            · rw [if_pos (by omega)]; omega
          · rw [sI_ne (by omega), sI_ne (by omega)]; rw [sI_self]; by_cases e : q = m
            · subst e; rw [up_i]
            · rw [up_n e]; exact hM q (by omega)
        have e : gpL P n (k + 1) m a = gpL P n k (m + 1) (a ++ [m]) := by simp [gpL, h30]
        refine g_post (fun r σ2 q => ?_) (ih (m + 1) (a ++ [m]) (sI (sI (sI σ (g + 1) (upd (σ.1 (g + 1)) m (bI (kpt P n m)))) (g + 2) (upd ((sI σ (g + 1) (upd (σ.1 (g + 1)) m (bI (kpt P n m)))).1 (g + 2)) a.length (nI m))) g (upd ((sI (sI σ (g + 1) (upd (σ.1 (g + 1)) m (bI (kpt P n m)))) (g + 2) (upd ((sI σ (g + 1) (upd (σ.1 (g + 1)) m (bI (kpt P n m)))).1 (g + 2)) a.length (nI m))).1 g) 2 (nI (a.length + 1)))) (by omega) hI2 (h.go hF (by simp <;> omega) (by simp <;> omega) (by simp <;> omega)))
        obtain ⟨q1, q2, q3, q4, q5⟩ := q
        rw [e]
        exact ⟨q1, q2, q3, fun q hq => by rw [q4 q hq]; subst hq; rw [sI_self, up_n (by decide), sI_ne (by omega), sI_ne (by omega)], hF.tr q5⟩
set_option maxHeartbeats 4000000 in
set_option maxRecDepth 100000 in
theorem c_X0_find {E : Ev} {d : Nat} {σ : St} {g n : Nat} {P : Nat → Nat → Int32} {b : Nat} (hG : GK g) (hd : b + 2 < g ∨ g + 8 < b) (h : ShIs σ b n P) : Con E (d + 5) yX0_find cX0_find 3 ((Option.none : Option FieldType)) [.ref (ev_a E g), .ref (ev_a E b)] σ (fun r σ2 => r = none ∧ GrIs σ2 g n P (gLst P n) ∧ σ2.1 g 12 = nI 0 ∧ Fr [g, g + 1, g + 2, g + 3, g + 4, g + 5, g + 6] σ σ2) := by
  refine con_of (by decide) (Nat.le_of_ble_eq_true rfl) (fun X hX C => ?_)
  have C : Cx E X cX0_find RX0 3 ((Option.none : Option FieldType)) := C
  show G E _ X _ _ _ 0 [(0, .ref (ev_a E g)), (1, .ref (ev_a E b))] []
  refine g_aload_n C dX0_find_0 rfl ?_
  refine g_ic (n := 0) C dX0_find_1 (by decide) ?_
  refine gp_X0_size C hG.1 dX0_find_2 kf_RX0_19 ?_
  refine g_ic (n := 0) C dX0_find_5 (by decide) ?_
  refine g_istore_n C dX0_find_6 (by decide) ?_
  refine g_loc ([(0, .ref (ev_a E g)), (1, .ref (ev_a E b)), (2, .int (nI 0))]) (And.intro rfl (And.intro rfl (And.intro rfl trivial))) ?_
  have hF : Fr [g, g + 1, g + 2, g + 3, g + 4, g + 5, g + 6] σ (sI σ g (upd (σ.1 g) 2 (nI 0))) := Fr.rf.sI (by simp)
  refine g_post (fun r σ2 q => ?_) (l_X0_find C hd 48 0 [] _ (by omega) ⟨⟨hG, ⟨by simp, fun j hj => absurd hj (by simp), fun i j hi => absurd hi (by simp)⟩, by rw [sI_self, up_i]; rfl, fun j hj => absurd hj (by simp)⟩, by simp, fun j hj => absurd hj (by simp), fun q hq => absurd hq (by omega)⟩ (h.go hF (by simp <;> omega) (by simp <;> omega) (by simp <;> omega)))
  obtain ⟨q1, q2, q3, q4, q5⟩ := q
  exact ⟨q1, q2, q3, hF.tr q5⟩
def hdL (L : List Nat) : Nat → Nat → Bool
  | 0, _ => true
  | k + 1, i => if tuI (lg L i) = -1 then false else hdL L k (i + 1)
def otL (L : List Nat) : Nat → Nat → Nat → Nat
  | 0, _, s => s
  | k + 1, i, s => otL L k (i + 1) (s + ordN (lg L i))
set_option maxHeartbeats 4000000 in
set_option maxRecDepth 100000 in
theorem l_X0_isHanded {E : Ev} {d : Nat} {X : Mx} (C : Cx E X cX0_isHanded RX0 2 ((Option.some FieldType.boolean))) {g : Nat} {L : List Nat} {σ : St} (hB : GrB σ g L) : ∀ (k : Nat) (i : Nat), L.length = i + k → G E (d + 2) X 2 (Det (some (.int (bI (hdL L k i)))) σ) σ 2 ([(0, .ref (ev_a E g)), (1, .int (nI i))]) [] := by
  intro k
  induction k with
  | zero =>
    intro i hi
    obtain ⟨hG, ⟨hL1, hL2, hL3⟩, hgs, hgm⟩ := id hB
    obtain ⟨hg0, hg1, hg2, hg3, hg4, hg5, hg6, hg7, hg8⟩ := id hG
    refine g_iload_n C dX0_isHanded_2 rfl ?_
    refine g_aload_n C dX0_isHanded_3 rfl ?_
    refine gf_X0_size C hg0 dX0_isHanded_4 kf_RX0_19 ?_
    rw [hgs]
    first | refine g_icgeN C 31 dX0_isHanded_7 (by decide) (by omega) (by omega) (fun h7 => ?_) (fun h7 => ?_) | refine g_icge C 31 dX0_isHanded_7 (by decide) (fun h7 => ?_) (fun h7 => ?_)
    · refine g_ic (n := 1) C dX0_isHanded_31 (by decide) ?_
      refine g_zret C (by first | exact bI_01 _ | exact Or.inl rfl | exact Or.inr rfl) dX0_isHanded_32 ?_
      exact ⟨congrArg (fun v => some (Value.int v)) (rfl), rfl⟩
    · omega
  | succ k ih =>
    intro i hi
    obtain ⟨hG, ⟨hL1, hL2, hL3⟩, hgs, hgm⟩ := id hB
    obtain ⟨hg0, hg1, hg2, hg3, hg4, hg5, hg6, hg7, hg8⟩ := id hG
    refine g_iload_n C dX0_isHanded_2 rfl ?_
    refine g_aload_n C dX0_isHanded_3 rfl ?_
    refine gf_X0_size C hg0 dX0_isHanded_4 kf_RX0_19 ?_
    rw [hgs]
    first | refine g_icgeN C 31 dX0_isHanded_7 (by decide) (by omega) (by omega) (fun h7 => ?_) (fun h7 => ?_) | refine g_icge C 31 dX0_isHanded_7 (by decide) (fun h7 => ?_) (fun h7 => ?_)
    · omega
    · refine g_aload_n C dX0_isHanded_10 rfl ?_
      refine gf_X0_byNumber C hg0 dX0_isHanded_11 kf_RX0_15 ?_
      refine g_iload_n C dX0_isHanded_14 rfl ?_
      refine g_ialdN C hg2 (by omega) (by first | decide | omega) dX0_isHanded_15 ?_
      rw [hgm i (by omega)]
      refine g_callSp C (c_X1_turnOf (d := d) (hL2 i (by omega))) dX0_isHanded_16 km_RX0_91 kn_RX1 kc_yX1_turnOf ks_yX1_turnOf (by omega) (by decide) ⟨by decide, by decide, rfl⟩ rfl (Nat.le_of_ble_eq_true rfl) ?_
      refine g_icz (v := -1) C dX0_isHanded_19 (by decide) ?_
      refine g_icne C 25 dX0_isHanded_20 (by decide) (fun h20 => ?_) (fun h20 => ?_)
      · refine g_iinc1 C dX0_isHanded_25 rfl (by decide) ?_
        refine g_goto C 2 dX0_isHanded_28 (by decide) ?_
        refine g_loc ([(0, .ref (ev_a E g)), (1, .int (nI (i + 1)))]) (And.intro rfl (And.intro rfl trivial)) ?_
        rw [show hdL L (k + 1) i = hdL L k (i + 1) from by simp [hdL, h20]]
        exact ih (i + 1) (by omega)
      · refine g_ic (n := 0) C dX0_isHanded_23 (by decide) ?_
        refine g_zret C (by first | exact bI_01 _ | exact Or.inl rfl | exact Or.inr rfl) dX0_isHanded_24 ?_
        exact ⟨congrArg (fun v => some (Value.int v)) (by simp [hdL, h20]; rfl), rfl⟩
set_option maxHeartbeats 4000000 in
set_option maxRecDepth 100000 in
theorem c_X0_isHanded {E : Ev} {d : Nat} {σ : St} {g : Nat} {L : List Nat} (hB : GrB σ g L) : Con E (d + 2) yX0_isHanded cX0_isHanded 2 ((Option.some FieldType.boolean)) [.ref (ev_a E g)] σ (Det (some (.int (bI (hdL L L.length 0)))) σ) := by
  refine con_of (by decide) (Nat.le_of_ble_eq_true rfl) (fun X hX C => ?_)
  have C : Cx E X cX0_isHanded RX0 2 ((Option.some FieldType.boolean)) := C
  show G E _ X _ _ _ 0 [(0, .ref (ev_a E g))] []
  refine g_ic (n := 0) C dX0_isHanded_0 (by decide) ?_
  refine g_istore_n C dX0_isHanded_1 (by decide) ?_
  refine g_loc ([(0, .ref (ev_a E g)), (1, .int (nI 0))]) (And.intro rfl (And.intro rfl trivial)) ?_
  exact l_X0_isHanded C hB L.length 0 (by omega)
set_option maxHeartbeats 4000000 in
set_option maxRecDepth 100000 in
theorem l_X0_ordersTogether {E : Ev} {d : Nat} {X : Mx} (C : Cx E X cX0_ordersTogether RX0 3 ((Option.some FieldType.int))) {g : Nat} {L : List Nat} {σ : St} (hB : GrB σ g L) : ∀ (k : Nat) (i s : Nat), L.length = i + k → G E (d + 3) X 3 (Det (some (.int (nI (otL L k i s)))) σ) σ 4 ([(0, .ref (ev_a E g)), (1, .int (nI s)), (2, .int (nI i))]) [] := by
  intro k
  induction k with
  | zero =>
    intro i s hi
    obtain ⟨hG, ⟨hL1, hL2, hL3⟩, hgs, hgm⟩ := id hB
    obtain ⟨hg0, hg1, hg2, hg3, hg4, hg5, hg6, hg7, hg8⟩ := id hG
    refine g_iload_n C dX0_ordersTogether_4 rfl ?_
    refine g_aload_n C dX0_ordersTogether_5 rfl ?_
    refine gf_X0_size C hg0 dX0_ordersTogether_6 kf_RX0_19 ?_
    rw [hgs]
    first | refine g_icgeN C 30 dX0_ordersTogether_9 (by decide) (by omega) (by omega) (fun h9 => ?_) (fun h9 => ?_) | refine g_icge C 30 dX0_ordersTogether_9 (by decide) (fun h9 => ?_) (fun h9 => ?_)
    · refine g_iload_n C dX0_ordersTogether_30 rfl ?_
      refine g_iret C dX0_ordersTogether_31 ?_
      exact ⟨congrArg (fun v => some (Value.int v)) (rfl), rfl⟩
    · omega
  | succ k ih =>
    intro i s hi
    obtain ⟨hG, ⟨hL1, hL2, hL3⟩, hgs, hgm⟩ := id hB
    obtain ⟨hg0, hg1, hg2, hg3, hg4, hg5, hg6, hg7, hg8⟩ := id hG
    refine g_iload_n C dX0_ordersTogether_4 rfl ?_
    refine g_aload_n C dX0_ordersTogether_5 rfl ?_
    refine gf_X0_size C hg0 dX0_ordersTogether_6 kf_RX0_19 ?_
    rw [hgs]
    first | refine g_icgeN C 30 dX0_ordersTogether_9 (by decide) (by omega) (by omega) (fun h9 => ?_) (fun h9 => ?_) | refine g_icge C 30 dX0_ordersTogether_9 (by decide) (fun h9 => ?_) (fun h9 => ?_)
    · omega
    · refine g_iload_n C dX0_ordersTogether_12 rfl ?_
      refine g_aload_n C dX0_ordersTogether_13 rfl ?_
      refine gf_X0_byNumber C hg0 dX0_ordersTogether_14 kf_RX0_15 ?_
      refine g_iload_n C dX0_ordersTogether_17 rfl ?_
      refine g_ialdN C hg2 (by omega) (by first | decide | omega) dX0_ordersTogether_18 ?_
      rw [hgm i (by omega)]
      refine g_callSp C (c_X1_orderOf (d := d) (hL2 i (by omega))) dX0_ordersTogether_19 km_RX0_94 kn_RX1 kc_yX1_orderOf ks_yX1_orderOf (by omega) (by decide) ⟨by decide, by decide, rfl⟩ rfl (Nat.le_of_ble_eq_true rfl) ?_
      first | refine g_iaddN C dX0_ordersTogether_22 ?_ | refine g_iadd C dX0_ordersTogether_22 ?_
      refine g_istore_n C dX0_ordersTogether_23 (by decide) ?_
      refine g_iinc1 C dX0_ordersTogether_24 rfl (by decide) ?_
      refine g_goto C 4 dX0_ordersTogether_27 (by decide) ?_
      refine g_loc ([(0, .ref (ev_a E g)), (1, .int (nI (s + ordN (lg L i)))), (2, .int (nI (i + 1)))]) (And.intro rfl (And.intro rfl (And.intro rfl trivial))) ?_
      exact ih (i + 1) _ (by omega)
set_option maxHeartbeats 4000000 in
set_option maxRecDepth 100000 in
theorem c_X0_ordersTogether {E : Ev} {d : Nat} {σ : St} {g : Nat} {L : List Nat} (hB : GrB σ g L) : Con E (d + 3) yX0_ordersTogether cX0_ordersTogether 3 ((Option.some FieldType.int)) [.ref (ev_a E g)] σ (Det (some (.int (nI (otL L L.length 0 0)))) σ) := by
  refine con_of (by decide) (Nat.le_of_ble_eq_true rfl) (fun X hX C => ?_)
  have C : Cx E X cX0_ordersTogether RX0 3 ((Option.some FieldType.int)) := C
  show G E _ X _ _ _ 0 [(0, .ref (ev_a E g))] []
  refine g_ic (n := 0) C dX0_ordersTogether_0 (by decide) ?_
  refine g_istore_n C dX0_ordersTogether_1 (by decide) ?_
  refine g_ic (n := 0) C dX0_ordersTogether_2 (by decide) ?_
  refine g_istore_n C dX0_ordersTogether_3 (by decide) ?_
  refine g_loc ([(0, .ref (ev_a E g)), (1, .int (nI 0)), (2, .int (nI 0))]) (And.intro rfl (And.intro rfl (And.intro rfl trivial))) ?_
  exact l_X0_ordersTogether C hB L.length 0 0 (by omega)
