/-! THE REFERENCE: makers, signs, motions -/
/-- which products are made, as bits; and whether there came more -/
def mmI (K : List Nat) (m : Nat) : Nat → Nat → Nat × Bool → Nat × Bool
  | 0, _, t => t
  | k + 1, i, t => if t.1.testBit m = true then mmI K m k (i + 1) (t.1 ||| 2 ^ mulN (lg K i) m, t.2 || !t.1.testBit (mulN (lg K i) m)) else t
def mmO (K : List Nat) : Nat → Nat → Nat × Bool → Nat × Bool
  | 0, _, t => t
  | k + 1, m, t => mmO K k (m + 1) (mmI K m K.length 0 t)
def mmW (K : List Nat) : Nat → Nat → Option Nat
  | 0, _ => none
  | f + 1, M => if (mmO K 48 0 (M, false)).2 = true then mmW K f ((mmO K 48 0 (M, false)).1 ||| 2 ^ 0) else some (mmO K 48 0 (M, false)).1
def mkL (f : Nat) (L : List Nat) : Nat → Nat → List Nat → Nat → Option (List Nat × Nat)
  | 0, _, K, M => some (K, M)
  | k + 1, j, K, M => if M.testBit (lg L j) = true then mkL f L k (j + 1) K M else match mmW (K ++ [lg L j]) f M with
    | none => none
    | some M2 => mkL f L k (j + 1) (K ++ [lg L j]) M2
def MdB (σ : St) (M : Nat) : Prop := ∀ q, q < 48 → σ.1 71 q = bI (M.testBit q)
def KmB (σ : St) (K : List Nat) : Prop := σ.1 64 8 = nI K.length ∧ K.length ≤ 48 ∧ ∀ j, j < K.length → σ.1 70 j = nI (lg K j) ∧ lg K j < 48
theorem tb_or (M q j : Nat) : (M ||| 2 ^ q).testBit j = (M.testBit j || decide (q = j)) := by rw [Nat.testBit_or, Nat.testBit_two_pow]
theorem MdB.st {σ : St} {M q : Nat} (h : MdB σ M) (hq : q < 48) : MdB (sI σ 71 (upd (σ.1 71) q (bI true))) (M ||| 2 ^ q) := fun j hj => by
  rw [sI_self, tb_or]
  by_cases e : j = q
  · subst e; rw [up_i]; simp
  · rw [up_n e, h j hj, decide_eq_false (fun w => e w.symm), Bool.or_false]
theorem MdB.go {σ σ' : St} {M : Nat} {fs l : List Nat} (h : MdB σ M) (hF : Fk fs l σ σ') (h0 : 71 ∉ l) : MdB σ' M := fun q hq => by rw [(hF.1 71 (by simp [h0])).1]; exact h q hq
theorem KmB.go {σ σ' : St} {K : List Nat} {fs l : List Nat} (h : KmB σ K) (hF : Fk fs l σ σ') (h0 : 70 ∉ l) (h8 : 8 ∉ fs) : KmB σ' K := ⟨by rw [hF.2 8 h8]; exact h.1, h.2.1, fun j hj => by rw [(hF.1 70 (by simp [h0])).1]; exact h.2.2 j hj⟩
theorem bI_or (a b : Bool) : bI a ||| bI b = bI (a || b) := by cases a <;> cases b <;> rfl
theorem nar_1 : vp_nar .boolean (nI 1) = bI true := nar_b true
theorem nar_0 : vp_nar .boolean (nI 0) = bI false := nar_b false
theorem tb_1 : ∀ m, m < 48 → Nat.testBit 1 m = decide (m = 0) := by decide +kernel

set_option maxHeartbeats 4000000 in
set_option maxRecDepth 100000 in
theorem l2_X8_makesMore {E : Ev} {d : Nat} {X : Mx} (C : Cx E X cX8_makesMore RX8 5 ((Option.some FieldType.boolean))) {R : Option Value → St → Prop} {K : List Nat} {m : Nat} (hm : m < 48) : ∀ (k : Nat) (i : Nat) (t : Nat × Bool) (σ : St), K.length = i + k → KmB σ K → MdB σ t.1 → (∀ σ2, MdB σ2 (mmI K m k i t).1 → Fk [] [71] σ σ2 → G E (d + 6) X 5 R σ2 73 ([(0, .ref (ev_a E 64)), (1, .int (bI (mmI K m k i t).2)), (2, .int (nI m))]) []) → G E (d + 6) X 5 R σ 12 ([(0, .ref (ev_a E 64)), (1, .int (bI t.2)), (2, .int (nI m)), (3, .int (nI i))]) [] := by
  intro k
  induction k with
  | zero =>
    intro i t σ hi hK hM KK
    have hk48 := hK.2.1
    refine g_iload_n C dX8_makesMore_12 rfl ?_
    refine g_aload_n C dX8_makesMore_13 rfl ?_
    refine gf_X8_makerMany C (by rfl) dX8_makesMore_14 kf_RX8_124 ?_
    rw [hK.1]
    first | refine g_icgeN C 73 dX8_makesMore_17 (by decide) (by omega) (by omega) (fun h17 => ?_) (fun h17 => ?_) | refine g_icge C 73 dX8_makesMore_17 (by decide) (fun h17 => ?_) (fun h17 => ?_)
    · have e : mmI K m 0 i t = t := rfl
      refine g_loc ([(0, .ref (ev_a E 64)), (1, .int (bI t.2)), (2, .int (nI m))]) (And.intro rfl (And.intro rfl (And.intro rfl trivial))) ?_
      rw [e] at KK
      exact KK σ hM Fk.rf
    · omega
  | succ k ih =>
    intro i t σ hi hK hM KK
    have hk48 := hK.2.1
    refine g_iload_n C dX8_makesMore_12 rfl ?_
    refine g_aload_n C dX8_makesMore_13 rfl ?_
    refine gf_X8_makerMany C (by rfl) dX8_makesMore_14 kf_RX8_124 ?_
    rw [hK.1]
    first | refine g_icgeN C 73 dX8_makesMore_17 (by decide) (by omega) (by omega) (fun h17 => ?_) (fun h17 => ?_) | refine g_icge C 73 dX8_makesMore_17 (by decide) (fun h17 => ?_) (fun h17 => ?_)
    · omega
    · refine g_aload_n C dX8_makesMore_20 rfl ?_
      refine gf_X8_made C (by rfl) dX8_makesMore_21 kf_RX8_31 ?_
      refine g_iload_n C dX8_makesMore_24 rfl ?_
      refine g_zaldN C (by rfl) (by omega) (by first | decide | omega) dX8_makesMore_25 ?_
      rw [hM m hm]
      refine g_ifeqB C 73 dX8_makesMore_26 (by decide) (fun h26 => ?_) (fun h26 => ?_)
      · have e : mmI K m (k + 1) i t = t := by rw [mmI, if_neg (by rw [h26]; decide)]
        refine g_loc ([(0, .ref (ev_a E 64)), (1, .int (bI t.2)), (2, .int (nI m))]) (And.intro rfl (And.intro rfl (And.intro rfl trivial))) ?_
        rw [e] at KK
        exact KK σ hM Fk.rf
      · have e : mmI K m (k + 1) i t = mmI K m k (i + 1) (t.1 ||| 2 ^ mulN (lg K i) m, t.2 || !t.1.testBit (mulN (lg K i) m)) := by rw [mmI, if_pos h26]
        refine g_aload_n C dX8_makesMore_29 rfl ?_
        refine gf_X8_makers C (by rfl) dX8_makesMore_30 kf_RX8_28 ?_
        refine g_iload_n C dX8_makesMore_33 rfl ?_
        refine g_ialdN C (by rfl) (by omega) (by first | decide | omega) dX8_makesMore_34 ?_
        rw [(hK.2.2 i (by omega)).1]
        refine g_iload_n C dX8_makesMore_35 rfl ?_
        refine g_callSp C (c_X8_times (d := d) (hK.2.2 i (by omega)).2 hm) dX8_makesMore_36 km_RX8_81 kn_RX8 kc_yX8_times ks_yX8_times (by omega) (by decide) ⟨by decide, by decide, rfl⟩ rfl (Nat.le_of_ble_eq_true rfl) ?_
        have hto : mulN (lg K i) m < 48 := mulN_lt _ (hK.2.2 i (by omega)).2 _ hm
        refine g_istore C dX8_makesMore_39 (by decide) ?_
        refine g_iload_n C dX8_makesMore_41 rfl ?_
        refine g_aload_n C dX8_makesMore_42 rfl ?_
        refine gf_X8_made C (by rfl) dX8_makesMore_43 kf_RX8_31 ?_
        refine g_iload C dX8_makesMore_46 rfl ?_
        refine g_zaldN C (by rfl) (hto) (by first | decide | omega) dX8_makesMore_48 ?_
        rw [hM _ hto]
        refine g_ifneB C 56 dX8_makesMore_49 (by decide) (fun h49 => ?_) (fun h49 => ?_)
        · refine g_ic (n := 0) C dX8_makesMore_56 (by decide) ?_
          rw [show nI 0 = bI (!t.1.testBit (mulN (lg K i) m)) from by rw [h49]; rfl]
          refine g_ior C dX8_makesMore_57 ?_
          rw [bI_or]
          refine g_istore_n C dX8_makesMore_58 (by decide) ?_
          refine g_aload_n C dX8_makesMore_59 rfl ?_
          refine gf_X8_made C (by rfl) dX8_makesMore_60 kf_RX8_31 ?_
          refine g_iload C dX8_makesMore_63 rfl ?_
          refine g_ic (n := 1) C dX8_makesMore_65 (by decide) ?_
          refine g_zastN C (by rfl) (hto) (by first | decide | omega) dX8_makesMore_66 ?_
          rw [nar_1]
          refine g_iinc1 C dX8_makesMore_67 rfl (by decide) ?_
          refine g_goto C 12 dX8_makesMore_70 (by decide) ?_
          refine g_loc ([(0, .ref (ev_a E 64)), (1, .int (bI (t.2 || !t.1.testBit (mulN (lg K i) m)))), (2, .int (nI m)), (3, .int (nI (i + 1)))]) (And.intro rfl (And.intro rfl (And.intro rfl (And.intro rfl trivial)))) ?_
          rw [e] at KK
          have hF : Fk [] [71] σ (sI σ 71 (upd (σ.1 71) (mulN (lg K i) m) (bI true))) := Fk.rf.sI (by simp) (by decide)
          exact ih (i + 1) _ _ (by omega) (hK.go hF (by simp) (by simp)) (hM.st hto) (fun σ2 u1 u2 => KK σ2 u1 (hF.tr u2))
        · refine g_ic (n := 1) C dX8_makesMore_52 (by decide) ?_
          rw [show nI 1 = bI (!t.1.testBit (mulN (lg K i) m)) from by rw [h49]; rfl]
          refine g_goto C 57 dX8_makesMore_53 (by decide) ?_
          refine g_ior C dX8_makesMore_57 ?_
          rw [bI_or]
          refine g_istore_n C dX8_makesMore_58 (by decide) ?_
          refine g_aload_n C dX8_makesMore_59 rfl ?_
          refine gf_X8_made C (by rfl) dX8_makesMore_60 kf_RX8_31 ?_
          refine g_iload C dX8_makesMore_63 rfl ?_
          refine g_ic (n := 1) C dX8_makesMore_65 (by decide) ?_
          refine g_zastN C (by rfl) (hto) (by first | decide | omega) dX8_makesMore_66 ?_
          rw [nar_1]
          refine g_iinc1 C dX8_makesMore_67 rfl (by decide) ?_
          refine g_goto C 12 dX8_makesMore_70 (by decide) ?_
          refine g_loc ([(0, .ref (ev_a E 64)), (1, .int (bI (t.2 || !t.1.testBit (mulN (lg K i) m)))), (2, .int (nI m)), (3, .int (nI (i + 1)))]) (And.intro rfl (And.intro rfl (And.intro rfl (And.intro rfl trivial)))) ?_
          rw [e] at KK
          have hF : Fk [] [71] σ (sI σ 71 (upd (σ.1 71) (mulN (lg K i) m) (bI true))) := Fk.rf.sI (by simp) (by decide)
          exact ih (i + 1) _ _ (by omega) (hK.go hF (by simp) (by simp)) (hM.st hto) (fun σ2 u1 u2 => KK σ2 u1 (hF.tr u2))

set_option maxHeartbeats 4000000 in
set_option maxRecDepth 100000 in
theorem l_X8_makesMore {E : Ev} {d : Nat} {X : Mx} (C : Cx E X cX8_makesMore RX8 5 ((Option.some FieldType.boolean))) {K : List Nat} : ∀ (k : Nat) (m : Nat) (t : Nat × Bool) (σ : St), 48 = m + k → KmB σ K → MdB σ t.1 → G E (d + 6) X 5 (fun r σ2 => r = some (.int (bI (mmO K k m t).2)) ∧ MdB σ2 (mmO K k m t).1 ∧ Fk [] [71] σ σ2) σ 4 ([(0, .ref (ev_a E 64)), (1, .int (bI t.2)), (2, .int (nI m))]) [] := by
  intro k
  induction k with
  | zero =>
    intro m t σ hi hK hM
    refine g_iload_n C dX8_makesMore_4 rfl ?_
    refine g_bp C (nI 48) dX8_makesMore_5 (by decide) ?_
    first | refine g_icgeN C 79 dX8_makesMore_7 (by decide) (by omega) (by omega) (fun h7 => ?_) (fun h7 => ?_) | refine g_icge C 79 dX8_makesMore_7 (by decide) (fun h7 => ?_) (fun h7 => ?_)
    · refine g_iload_n C dX8_makesMore_79 rfl ?_
      refine g_zret C (by first | exact bI_01 _ | exact Or.inl rfl | exact Or.inr rfl) dX8_makesMore_80 ?_
      exact ⟨rfl, hM, Fk.rf⟩
    · omega
  | succ k ih =>
    intro m t σ hi hK hM
    refine g_iload_n C dX8_makesMore_4 rfl ?_
    refine g_bp C (nI 48) dX8_makesMore_5 (by decide) ?_
    first | refine g_icgeN C 79 dX8_makesMore_7 (by decide) (by omega) (by omega) (fun h7 => ?_) (fun h7 => ?_) | refine g_icge C 79 dX8_makesMore_7 (by decide) (fun h7 => ?_) (fun h7 => ?_)
    · omega
    · refine g_ic (n := 0) C dX8_makesMore_10 (by decide) ?_
      refine g_istore_n C dX8_makesMore_11 (by decide) ?_
      refine g_loc ([(0, .ref (ev_a E 64)), (1, .int (bI t.2)), (2, .int (nI m)), (3, .int (nI 0))]) (And.intro rfl (And.intro rfl (And.intro rfl (And.intro rfl trivial)))) ?_
      refine l2_X8_makesMore C (by omega) K.length 0 t σ (by omega) hK hM (fun σ1 u1 u2 => ?_)
      refine g_iinc1 C dX8_makesMore_73 rfl (by decide) ?_
      refine g_goto C 4 dX8_makesMore_76 (by decide) ?_
      refine g_loc ([(0, .ref (ev_a E 64)), (1, .int (bI (mmI K m K.length 0 t).2)), (2, .int (nI (m + 1)))]) (And.intro rfl (And.intro rfl (And.intro rfl trivial))) ?_
      refine g_post (fun r σ2 q => ?_) (ih (m + 1) (mmI K m K.length 0 t) σ1 (by omega) (hK.go u2 (by simp) (by simp)) u1)
      obtain ⟨q1, q2, q3⟩ := q
      exact ⟨q1, q2, u2.tr q3⟩

set_option maxHeartbeats 4000000 in
set_option maxRecDepth 100000 in
theorem c_X8_makesMore {E : Ev} {d : Nat} {σ : St} {K : List Nat} (hK : KmB σ K) {M : Nat} (hM : MdB σ M) : Con E (d + 6) yX8_makesMore cX8_makesMore 5 ((Option.some FieldType.boolean)) [.ref (ev_a E 64)] σ (fun r σ2 => r = some (.int (bI (mmO K 48 0 (M, false)).2)) ∧ MdB σ2 (mmO K 48 0 (M, false)).1 ∧ Fk [] [71] σ σ2) := by
  refine con_of (by decide) (Nat.le_of_ble_eq_true rfl) (fun X hX C => ?_)
  have C : Cx E X cX8_makesMore RX8 5 ((Option.some FieldType.boolean)) := C
  show G E _ X _ _ _ 0 [(0, .ref (ev_a E 64))] []
  refine g_ic (n := 0) C dX8_makesMore_0 (by decide) ?_
  refine g_istore_n C dX8_makesMore_1 (by decide) ?_
  refine g_ic (n := 0) C dX8_makesMore_2 (by decide) ?_
  refine g_istore_n C dX8_makesMore_3 (by decide) ?_
  refine g_loc ([(0, .ref (ev_a E 64)), (1, .int (bI false)), (2, .int (nI 0))]) (And.intro rfl (And.intro rfl (And.intro rfl trivial))) ?_
  exact l_X8_makesMore C 48 0 (M, false) σ (by omega) hK hM

set_option maxHeartbeats 4000000 in
set_option maxRecDepth 100000 in
theorem l3_X8_findsMakers {E : Ev} {d : Nat} {X : Mx} (C : Cx E X cX8_findsMakers RX8 2 ((Option.none : Option FieldType))) {R : Option Value → St → Prop} {K : List Nat} {M2 j : Nat} : ∀ (k : Nat) (M : Nat) (σ : St), mmW K k M = some M2 → KmB σ K → MdB σ M → (∀ σ2, MdB σ2 M2 → Fk [] [71] σ σ2 → G E (d + 7) X 2 R σ2 100 ([(0, .ref (ev_a E 64)), (1, .int (nI j))]) []) → G E (d + 7) X 2 R σ 83 ([(0, .ref (ev_a E 64)), (1, .int (nI j))]) [] := by
  intro k
  induction k with
  | zero =>
    intro M σ hw
    cases hw
  | succ k ih =>
    intro M σ hw hK hM KK
    refine g_aload_n C dX8_findsMakers_83 rfl ?_
    refine g_callV C (ob_X8 (by rfl)) (c_X8_makesMore (d := d) hK hM) dX8_findsMakers_84 km_RX8_127 kn_RX8 kc_yX8_makesMore ki_yX8_makesMore kx_yX8_makesMore (by omega) (by decide) ⟨by decide, by decide, rfl⟩ rfl (Nat.le_of_ble_eq_true rfl) (fun r1 σ1 q1 => ?_)
    obtain ⟨rfl, u1, u2⟩ := q1
    refine g_ifeqB C 100 dX8_findsMakers_87 (by decide) (fun h87 => ?_) (fun h87 => ?_)
    · rw [mmW, if_neg (by rw [h87]; decide)] at hw
      rw [← Option.some.inj hw] at KK
      exact KK σ1 u1 u2
    · refine g_aload_n C dX8_findsMakers_90 rfl ?_
      refine gf_X8_made C (by rfl) dX8_findsMakers_91 kf_RX8_31 ?_
      refine g_ic (n := 0) C dX8_findsMakers_94 (by decide) ?_
      refine g_ic (n := 1) C dX8_findsMakers_95 (by decide) ?_
      refine g_zastN C (by rfl) (by omega) (by first | decide | omega) dX8_findsMakers_96 ?_
      rw [nar_1]
      refine g_goto C 83 dX8_findsMakers_97 (by decide) ?_
      rw [mmW, if_pos h87] at hw
      have hF : Fk [] [71] σ (sI σ1 71 (upd (σ1.1 71) 0 (bI true))) := u2.sI (by simp) (by decide)
      exact ih _ _ hw (hK.go hF (by simp) (by simp)) (u1.st (by decide)) (fun σ2 v1 v2 => KK σ2 v1 (hF.tr v2))

set_option maxHeartbeats 4000000 in
set_option maxRecDepth 100000 in
theorem l2_X8_findsMakers {E : Ev} {d : Nat} {X : Mx} (C : Cx E X cX8_findsMakers RX8 2 ((Option.none : Option FieldType))) {L K0 : List Nat} {M0 : Nat} : ∀ (k : Nat) (j : Nat) (K : List Nat) (M : Nat) (σ : St), L.length = j + k → K.length ≤ j → mkL 60 L k j K M = some (K0, M0) → GmB σ L → KmB σ K → MdB σ M → G E (d + 7) X 2 (fun r σ2 => r = none ∧ KmB σ2 K0 ∧ Fk [8] [70, 71] σ σ2) σ 36 ([(0, .ref (ev_a E 64)), (1, .int (nI j))]) [] := by
  intro k
  induction k with
  | zero =>
    intro j K M σ hi hj hk hB hK hM
    have hk48 := hK.2.1
    obtain ⟨⟨hL1, hL2, hL3⟩, hgs, hgm⟩ := id hB
    refine g_iload_n C dX8_findsMakers_36 rfl ?_
    refine g_aload_n C dX8_findsMakers_37 rfl ?_
    refine gf_X8_size C (by rfl) dX8_findsMakers_38 kf_RX8_97 ?_
    rw [hgs]
    first | refine g_icgeN C 106 dX8_findsMakers_41 (by decide) (by omega) (by omega) (fun h41 => ?_) (fun h41 => ?_) | refine g_icge C 106 dX8_findsMakers_41 (by decide) (fun h41 => ?_) (fun h41 => ?_)
    · refine g_vret C dX8_findsMakers_106 ?_
      obtain ⟨rfl, rfl⟩ := Prod.mk.inj (Option.some.inj hk)
      exact ⟨rfl, hK, Fk.rf⟩
    · omega
  | succ k ih =>
    intro j K M σ hi hj hk hB hK hM
    have hk48 := hK.2.1
    obtain ⟨⟨hL1, hL2, hL3⟩, hgs, hgm⟩ := id hB
    refine g_iload_n C dX8_findsMakers_36 rfl ?_
    refine g_aload_n C dX8_findsMakers_37 rfl ?_
    refine gf_X8_size C (by rfl) dX8_findsMakers_38 kf_RX8_97 ?_
    rw [hgs]
    first | refine g_icgeN C 106 dX8_findsMakers_41 (by decide) (by omega) (by omega) (fun h41 => ?_) (fun h41 => ?_) | refine g_icge C 106 dX8_findsMakers_41 (by decide) (fun h41 => ?_) (fun h41 => ?_)
    · omega
    · refine g_aload_n C dX8_findsMakers_44 rfl ?_
      refine gf_X8_made C (by rfl) dX8_findsMakers_45 kf_RX8_31 ?_
      refine g_aload_n C dX8_findsMakers_48 rfl ?_
      refine gf_X8_group C (by rfl) dX8_findsMakers_49 kf_RX8_21 ?_
      refine g_iload_n C dX8_findsMakers_52 rfl ?_
      refine g_ialdN C (by rfl) (by omega) (by first | decide | omega) dX8_findsMakers_53 ?_
      rw [hgm j (by omega)]
      have hg := hL2 j (by omega)
      refine g_zaldN C (by rfl) (hg) (by first | decide | omega) dX8_findsMakers_54 ?_
      rw [hM _ hg]
      refine g_ifneB C 100 dX8_findsMakers_55 (by decide) (fun h55 => ?_) (fun h55 => ?_)
      · rw [mkL, if_pos h55] at hk
        refine g_iinc1 C dX8_findsMakers_100 rfl (by decide) ?_
        refine g_goto C 36 dX8_findsMakers_103 (by decide) ?_
        refine g_loc ([(0, .ref (ev_a E 64)), (1, .int (nI (j + 1)))]) (And.intro rfl (And.intro rfl trivial)) ?_
        exact ih (j + 1) K M σ (by omega) (by omega) hk hB hK hM
      · rw [mkL, if_neg (by rw [h55]; decide)] at hk
        refine g_aload_n C dX8_findsMakers_58 rfl ?_
        refine gf_X8_makers C (by rfl) dX8_findsMakers_59 kf_RX8_28 ?_
        refine g_aload_n C dX8_findsMakers_62 rfl ?_
        refine gf_X8_makerMany C (by rfl) dX8_findsMakers_63 kf_RX8_124 ?_
        rw [hK.1]
        refine g_aload_n C dX8_findsMakers_66 rfl ?_
        refine gf_X8_group C (by rfl) dX8_findsMakers_67 kf_RX8_21 ?_
        refine g_iload_n C dX8_findsMakers_70 rfl ?_
        refine g_ialdN C (by rfl) (by omega) (by first | decide | omega) dX8_findsMakers_71 ?_
        rw [hgm j (by omega)]
        refine g_iastN C (by rfl) (by omega) (by first | decide | omega) dX8_findsMakers_72 ?_
        refine g_aload_n C dX8_findsMakers_73 rfl ?_
        refine g_dup C dX8_findsMakers_74 rfl ?_
        refine gf_X8_makerMany C (by rfl) dX8_findsMakers_75 kf_RX8_124 ?_
        rw [sI_ne (show 64 ≠ 70 by decide), hK.1]
        refine g_ic (n := 1) C dX8_findsMakers_78 (by decide) ?_
        first | refine g_iaddN C dX8_findsMakers_79 ?_ | refine g_iadd C dX8_findsMakers_79 ?_
        refine gp_X8_makerMany C (by rfl) dX8_findsMakers_80 kf_RX8_124 ?_
        show G E _ X _ _ (setF (sI σ 70 (upd (σ.1 70) K.length (nI (lg L j)))) 64 8 (nI (K.length + 1))) _ _ _
        have hF : Fk [8] [70, 71] σ (setF (sI σ 70 (upd (σ.1 70) K.length (nI (lg L j)))) 64 8 (nI (K.length + 1))) := (Fk.rf.sI (by simp) (by decide)).sF (by simp)
        have hK2 : KmB (setF (sI σ 70 (upd (σ.1 70) K.length (nI (lg L j)))) 64 8 (nI (K.length + 1))) (K ++ [lg L j]) := by
          refine ⟨by unfold setF; rw [sI_self, up_i]; simp, by simp; omega, fun i hi => ?_⟩
          simp at hi
          unfold setF
          rw [sI_ne (by decide), sI_self, lg_app]
          by_cases c : i < K.length
          · rw [if_pos c, up_n (by omega)]; exact hK.2.2 i c
          · rw [if_neg c, if_pos (by omega), show i = K.length from by omega, up_i]; exact ⟨rfl, hg⟩
        rcases hw : mmW (K ++ [lg L j]) 60 M with _ | M2
        · rw [hw] at hk; cases hk
        · rw [hw] at hk
          refine l3_X8_findsMakers C 60 M _ hw hK2 (fun q hq => by unfold setF; rw [sI_ne (by decide), sI_ne (by decide)]; exact hM q hq) (fun σ1 u1 u2 => ?_)
          refine g_iinc1 C dX8_findsMakers_100 rfl (by decide) ?_
          refine g_goto C 36 dX8_findsMakers_103 (by decide) ?_
          refine g_loc ([(0, .ref (ev_a E 64)), (1, .int (nI (j + 1)))]) (And.intro rfl (And.intro rfl trivial)) ?_
          have hF2 : Fk [8] [70, 71] σ σ1 := hF.tr (u2.mono (by simp) (by simp))
          refine g_post (fun r σ2 q => ?_) (ih (j + 1) _ M2 σ1 (by omega) (by simp; omega) hk (hB.go hF2 (by simp) (by simp)) (hK2.go u2 (by simp) (by simp)) u1)
          obtain ⟨q1, q2, q3⟩ := q
          exact ⟨q1, q2, hF2.tr q3⟩

set_option maxHeartbeats 4000000 in
set_option maxRecDepth 100000 in
theorem l_X8_findsMakers {E : Ev} {d : Nat} {X : Mx} (C : Cx E X cX8_findsMakers RX8 2 ((Option.none : Option FieldType))) {L K0 : List Nat} {M0 : Nat} (hk : mkL 60 L L.length 0 [] 1 = some (K0, M0)) : ∀ (k : Nat) (m : Nat) (σ : St), 48 = m + k → GmB σ L → KmB σ [] → (∀ q, q < m → σ.1 71 q = bI (Nat.testBit 1 q)) → G E (d + 7) X 2 (fun r σ2 => r = none ∧ KmB σ2 K0 ∧ Fk [8] [70, 71] σ σ2) σ 7 ([(0, .ref (ev_a E 64)), (1, .int (nI m))]) [] := by
  intro k
  induction k with
  | zero =>
    intro m σ hi hB hK hM
    refine g_iload_n C dX8_findsMakers_7 rfl ?_
    refine g_bp C (nI 48) dX8_findsMakers_8 (by decide) ?_
    first | refine g_icgeN C 34 dX8_findsMakers_10 (by decide) (by omega) (by omega) (fun h10 => ?_) (fun h10 => ?_) | refine g_icge C 34 dX8_findsMakers_10 (by decide) (fun h10 => ?_) (fun h10 => ?_)
    · refine g_ic (n := 0) C dX8_findsMakers_34 (by decide) ?_
      refine g_istore_n C dX8_findsMakers_35 (by decide) ?_
      refine g_loc ([(0, .ref (ev_a E 64)), (1, .int (nI 0))]) (And.intro rfl (And.intro rfl trivial)) ?_
      exact l2_X8_findsMakers C L.length 0 [] 1 σ (by omega) (by decide) hk hB hK (fun q hq => hM q (by omega))
    · omega
  | succ k ih =>
    intro m σ hi hB hK hM
    refine g_iload_n C dX8_findsMakers_7 rfl ?_
    refine g_bp C (nI 48) dX8_findsMakers_8 (by decide) ?_
    first | refine g_icgeN C 34 dX8_findsMakers_10 (by decide) (by omega) (by omega) (fun h10 => ?_) (fun h10 => ?_) | refine g_icge C 34 dX8_findsMakers_10 (by decide) (fun h10 => ?_) (fun h10 => ?_)
    · omega
    · refine g_aload_n C dX8_findsMakers_13 rfl ?_
      refine gf_X8_made C (by rfl) dX8_findsMakers_14 kf_RX8_31 ?_
      refine g_iload_n C dX8_findsMakers_17 rfl ?_
      refine g_iload_n C dX8_findsMakers_18 rfl ?_
      refine g_ifneN C 26 dX8_findsMakers_19 (by decide) (by omega) (fun h19 => ?_) (fun h19 => ?_)
      · refine g_ic (n := 0) C dX8_findsMakers_26 (by decide) ?_
        rw [show nI 0 = bI (Nat.testBit 1 m) from by rw [tb_1 m (by omega), decide_eq_false h19]; rfl]
        refine g_zastN C (by rfl) (by omega) (by first | decide | omega) dX8_findsMakers_27 ?_
        rw [nar_b]
        refine g_iinc1 C dX8_findsMakers_28 rfl (by decide) ?_
        refine g_goto C 7 dX8_findsMakers_31 (by decide) ?_
        refine g_loc ([(0, .ref (ev_a E 64)), (1, .int (nI (m + 1)))]) (And.intro rfl (And.intro rfl trivial)) ?_
        have hF : Fk [8] [70, 71] σ (sI σ 71 (upd (σ.1 71) m (bI (Nat.testBit 1 m)))) := Fk.rf.sI (by simp) (by decide)
        refine g_post (fun r σ2 q => ?_) (ih (m + 1) (sI σ 71 (upd (σ.1 71) m (bI (Nat.testBit 1 m)))) (by omega) (hB.go hF (by simp) (by simp)) ⟨by rw [sI_ne (by decide)]; exact hK.1, hK.2.1, fun j hj => absurd hj (by simp)⟩ (fun q hq => ?_))
        · obtain ⟨q1, q2, q3⟩ := q
          exact ⟨q1, q2, hF.tr q3⟩
        · rw [sI_self]
          by_cases e : q = m
          · subst e; rw [up_i]
          · rw [up_n e]; exact hM q (by omega)
      · refine g_ic (n := 1) C dX8_findsMakers_22 (by decide) ?_
        rw [show nI 1 = bI (Nat.testBit 1 m) from by rw [tb_1 m (by omega), decide_eq_true h19]; rfl]
        refine g_goto C 27 dX8_findsMakers_23 (by decide) ?_
        refine g_zastN C (by rfl) (by omega) (by first | decide | omega) dX8_findsMakers_27 ?_
        rw [nar_b]
        refine g_iinc1 C dX8_findsMakers_28 rfl (by decide) ?_
        refine g_goto C 7 dX8_findsMakers_31 (by decide) ?_
        refine g_loc ([(0, .ref (ev_a E 64)), (1, .int (nI (m + 1)))]) (And.intro rfl (And.intro rfl trivial)) ?_
        have hF : Fk [8] [70, 71] σ (sI σ 71 (upd (σ.1 71) m (bI (Nat.testBit 1 m)))) := Fk.rf.sI (by simp) (by decide)
        refine g_post (fun r σ2 q => ?_) (ih (m + 1) (sI σ 71 (upd (σ.1 71) m (bI (Nat.testBit 1 m)))) (by omega) (hB.go hF (by simp) (by simp)) ⟨by rw [sI_ne (by decide)]; exact hK.1, hK.2.1, fun j hj => absurd hj (by simp)⟩ (fun q hq => ?_))
        · obtain ⟨q1, q2, q3⟩ := q
          exact ⟨q1, q2, hF.tr q3⟩
        · rw [sI_self]
          by_cases e : q = m
          · subst e; rw [up_i]
          · rw [up_n e]; exact hM q (by omega)

set_option maxHeartbeats 4000000 in
set_option maxRecDepth 100000 in
theorem c_X8_findsMakers {E : Ev} {d : Nat} {σ : St} {L K0 : List Nat} {M0 : Nat} (hB : GmB σ L) (hk : mkL 60 L L.length 0 [] 1 = some (K0, M0)) : Con E (d + 7) yX8_findsMakers cX8_findsMakers 2 ((Option.none : Option FieldType)) [.ref (ev_a E 64)] σ (fun r σ2 => r = none ∧ KmB σ2 K0 ∧ Fk [8] [70, 71] σ σ2) := by
  refine con_of (by decide) (Nat.le_of_ble_eq_true rfl) (fun X hX C => ?_)
  have C : Cx E X cX8_findsMakers RX8 2 ((Option.none : Option FieldType)) := C
  show G E _ X _ _ _ 0 [(0, .ref (ev_a E 64))] []
  refine g_aload_n C dX8_findsMakers_0 rfl ?_
  refine g_ic (n := 0) C dX8_findsMakers_1 (by decide) ?_
  refine gp_X8_makerMany C (by rfl) dX8_findsMakers_2 kf_RX8_124 ?_
  refine g_ic (n := 0) C dX8_findsMakers_5 (by decide) ?_
  refine g_istore_n C dX8_findsMakers_6 (by decide) ?_
  refine g_loc ([(0, .ref (ev_a E 64)), (1, .int (nI 0))]) (And.intro rfl (And.intro rfl trivial)) ?_
  show G E _ X _ _ (setF σ 64 8 (nI 0)) _ _ _
  have hF : Fk [8] [70, 71] σ (setF σ 64 8 (nI 0)) := Fk.rf.sF (by simp)
  refine g_post (fun r σ2 q => ?_) (l_X8_findsMakers C hk 48 0 _ (by omega) (hB.go hF (by simp) (by simp)) ⟨by unfold setF; rw [sI_self, up_i]; rfl, by decide, fun j hj => absurd hj (by simp)⟩ (fun q hq => absurd hq (by omega)))
  obtain ⟨q1, q2, q3⟩ := q
  exact ⟨q1, q2, hF.tr q3⟩

def tvB (K : List Nat) (u i : Nat) : Bool := u.testBit (K.length - 1 - i)
def sgZ (b : Bool) : Int32 := if b = true then -1 else 1
theorem x_tv : ∀ u, u < 64 → ∀ s, s < 6 → nI 1 - nI 2 * ((nI u >>> (nI s &&& 31)) &&& nI 1) = sgZ (u.testBit s) := by decide +kernel
/-- signs as two rows of bits: who has 1, who has -1 -/
abbrev T3 : Type := Nat × Nat × Bool
def sgI (t : T3) (q : Nat) : Int32 := if t.1.testBit q = true then 1 else if t.2.1.testBit q = true then -1 else 0
def nzB (t : T3) (q : Nat) : Bool := t.1.testBit q || t.2.1.testBit q
def ptT (t : T3) (b : Bool) (q : Nat) : T3 := if b = true then (t.1, t.2.1 ||| 2 ^ q, true) else (t.1 ||| 2 ^ q, t.2.1, true)
def spI (K : List Nat) (u m : Nat) : Nat → Nat → T3 → T3
  | 0, _, t => t
  | k + 1, i, t => if nzB t m = true then spI K u m k (i + 1) (if nzB t (mulN (lg K i) m) = true then t else ptT t ((!t.1.testBit m) ^^ tvB K u i) (mulN (lg K i) m)) else t
def spO (K : List Nat) (u : Nat) : Nat → Nat → T3 → T3
  | 0, _, t => t
  | k + 1, m, t => spO K u k (m + 1) (spI K u m K.length 0 t)
def spW (K : List Nat) (u : Nat) : Nat → Nat × Nat → Option T3
  | 0, _ => none
  | f + 1, t => if (spO K u 48 0 (t.1, t.2, false)).2.2 = true then spW K u f ((spO K u 48 0 (t.1, t.2, false)).1 ||| 2 ^ 0, (spO K u 48 0 (t.1, t.2, false)).2.1) else some (spO K u 48 0 (t.1, t.2, false))
def SgB (σ : St) (t : T3) : Prop := ∀ q, q < 48 → σ.1 72 q = sgI t q
theorem sg_0 {t : T3} {q : Nat} : sgI t q = 0 ↔ nzB t q = false := by
  unfold sgI nzB
  cases t.1.testBit q <;> cases t.2.1.testBit q <;> decide
theorem sg_m {t : T3} {q : Nat} (h : nzB t q = true) (b : Bool) : sgI t q * sgZ b = sgZ ((!t.1.testBit q) ^^ b) := by
  revert h
  unfold sgI nzB
  cases t.1.testBit q <;> cases t.2.1.testBit q <;> cases b <;> decide
theorem sg_p {t : T3} {q j : Nat} {b : Bool} (h : nzB t q = false) : sgI (ptT t b q) j = if j = q then sgZ b else sgI t j := by
  have h1 : t.1.testBit q = false ∧ t.2.1.testBit q = false := by revert h; unfold nzB; cases t.1.testBit q <;> cases t.2.1.testBit q <;> decide
  unfold ptT sgI
  by_cases e : j = q
  · subst e
    rw [if_pos rfl]
    cases b
    · rw [if_neg (show ¬ (false = true) from by decide)]
      simp only [tb_or]
      simp [sgZ]
    · rw [if_pos rfl]
      simp only [tb_or]
      simp [h1.1, sgZ]
  · rw [if_neg e]
    have e2 : decide (q = j) = false := decide_eq_false (fun w => e w.symm)
    cases b
    · rw [if_neg (show ¬ (false = true) from by decide)]
      simp only [tb_or, e2, Bool.or_false]
    · rw [if_pos rfl]
      simp only [tb_or, e2, Bool.or_false]
theorem SgB.go {σ σ' : St} {t : T3} {fs l : List Nat} (h : SgB σ t) (hF : Fk fs l σ σ') (h0 : 72 ∉ l) : SgB σ' t := fun q hq => by rw [(hF.1 72 (by simp [h0])).1]; exact h q hq
theorem SgB.s0 {σ : St} {t : T3} {q : Nat} (h : SgB σ t) : SgB (sI σ 72 (upd (σ.1 72) q (σ.1 72 q))) t := fun j hj => by
  rw [sI_self]
  by_cases e : j = q
  · subst e; rw [up_i]; exact h _ hj
  · rw [up_n e]; exact h j hj
theorem SgB.s1 {σ : St} {t : T3} {q : Nat} {b : Bool} (h : SgB σ t) (hz : nzB t q = false) : SgB (sI σ 72 (upd (σ.1 72) q (sgZ b))) (ptT t b q) := fun j hj => by
  rw [sI_self, sg_p hz]
  by_cases e : j = q
  · subst e; rw [up_i, if_pos rfl]
  · rw [up_n e, if_neg e]; exact h j hj
/-- x is y's sign times b -/
def sgE (t : T3) (x y : Nat) (b : Bool) : Bool := (nzB t x == nzB t y) && (!nzB t y || (t.1.testBit x == (t.1.testBit y ^^ b)))
theorem sg_e {t : T3} {x y : Nat} {b : Bool} : (sgI t x = sgZ b * sgI t y) ↔ sgE t x y b = true := by
  unfold sgE sgI nzB
  cases t.1.testBit x <;> cases t.2.1.testBit x <;> cases t.1.testBit y <;> cases t.2.1.testBit y <;> cases b <;> decide
def ckI (K L : List Nat) (u : Nat) (t : T3) (i : Nat) : Nat → Nat → Bool → Bool
  | 0, _, b => b
  | k + 1, j, b => ckI K L u t i k (j + 1) (b && sgE t (mulN (lg K j) (lg L i)) (lg L i) (tvB K u j))
def ckO (K L : List Nat) (u : Nat) (t : T3) : Nat → Nat → Bool → Bool
  | 0, _, b => b
  | k + 1, i, b => ckO K L u t k (i + 1) (ckI K L u t i K.length 0 b)
def fsR (K L : List Nat) : Nat → Nat → List T3 → Option (List T3)
  | 0, _, A => some A
  | k + 1, u, A => match spW K u 60 (1, 0) with
    | none => none
    | some t => fsR K L k (u + 1) (if ckO K L u t L.length 0 true = true then A ++ [t] else A)
def gA (A : List T3) (k : Nat) : T3 := A.getD k (0, 0, false)
def GsB (σ : St) (A : List T3) : Prop := σ.1 64 12 = nI A.length ∧ A.length ≤ 64 ∧ ∀ k, k < A.length → ∀ q, q < 48 → σ.1 73 (48 * k + q) = sgI (gA A k) q
theorem GsB.go {σ σ' : St} {A : List T3} {fs l : List Nat} (h : GsB σ A) (hF : Fk fs l σ σ') (h0 : 73 ∉ l) (h8 : 12 ∉ fs) : GsB σ' A := ⟨by rw [hF.2 12 h8]; exact h.1, h.2.1, fun k hk q hq => by rw [(hF.1 73 (by simp [h0])).1]; exact h.2.2 k hk q hq⟩
/-- the signs that the reference finds for the group L -/
def FsA (L : List Nat) (A : List T3) : Prop := ∃ K M, mkL 60 L L.length 0 [] 1 = some (K, M) ∧ K.length ≤ 6 ∧ fsR K L (2 ^ K.length) 0 [] = some A
theorem fsR_len {K L : List Nat} : ∀ (k u : Nat) (A B : List T3), fsR K L k u A = some B → A.length ≤ B.length ∧ B.length ≤ A.length + k ∧ ∀ j, j < A.length → gA B j = gA A j := by
  intro k
  induction k with
  | zero => intro u A B h; cases h; exact ⟨Nat.le_refl _, Nat.le_refl _, fun _ _ => rfl⟩
  | succ k ih =>
    intro u A B h
    unfold fsR at h
    split at h
    · cases h
    · have := ih _ _ _ h
      split at this
      · simp at this
        refine ⟨by omega, by omega, fun j hj => ?_⟩
        rw [this.2.2 j (by omega)]
        unfold gA
        rw [List.getD_eq_getElem?_getD, List.getD_eq_getElem?_getD, List.getElem?_append_left hj]
      · exact ⟨this.1, by omega, this.2.2⟩

set_option maxHeartbeats 4000000 in
set_option maxRecDepth 100000 in
theorem c_X8_toldSign {E : Ev} {d : Nat} {σ : St} {K : List Nat} (hK : KmB σ K) {u i : Nat} (hu : u < 64) (hi : i < K.length) (h6 : K.length ≤ 6) : Con E (d) yX8_toldSign cX8_toldSign 3 ((Option.some FieldType.int)) [.ref (ev_a E 64), .int (nI u), .int (nI i)] σ (Det (some (.int (sgZ (tvB K u i)))) σ) := by
  refine con_of (by decide) (Nat.le_of_ble_eq_true rfl) (fun X hX C => ?_)
  have C : Cx E X cX8_toldSign RX8 3 ((Option.some FieldType.int)) := C
  show G E _ X _ _ _ 0 [(0, .ref (ev_a E 64)), (1, .int (nI u)), (2, .int (nI i))] []
  refine g_ic (n := 1) C dX8_toldSign_0 (by decide) ?_
  refine g_ic (n := 2) C dX8_toldSign_1 (by decide) ?_
  refine g_iload_n C dX8_toldSign_2 rfl ?_
  refine g_aload_n C dX8_toldSign_3 rfl ?_
  refine gf_X8_makerMany C (by rfl) dX8_toldSign_4 kf_RX8_124 ?_
  rw [hK.1]
  refine g_ic (n := 1) C dX8_toldSign_7 (by decide) ?_
  first | refine g_isubN C dX8_toldSign_8 (by omega) ?_ | refine g_isub C dX8_toldSign_8 ?_
  refine g_iload_n C dX8_toldSign_9 rfl ?_
  first | refine g_isubN C dX8_toldSign_10 (by omega) ?_ | refine g_isub C dX8_toldSign_10 ?_
  refine g_ishr C dX8_toldSign_11 ?_
  refine g_ic (n := 1) C dX8_toldSign_12 (by decide) ?_
  refine g_iand C dX8_toldSign_13 ?_
  refine g_imul C dX8_toldSign_14 ?_
  refine g_isub C dX8_toldSign_15 ?_
  refine g_iret C dX8_toldSign_16 ?_
  exact ⟨congrArg (fun v => some (Value.int v)) (by rw [show K.length - 1 - i = K.length - 1 - i from rfl]; exact x_tv u hu _ (by omega)), rfl⟩

set_option maxHeartbeats 4000000 in
set_option maxRecDepth 100000 in
theorem l2_X8_spreads {E : Ev} {d : Nat} {X : Mx} (C : Cx E X cX8_spreads RX8 6 ((Option.some FieldType.boolean))) {R : Option Value → St → Prop} {K : List Nat} {u m : Nat} (hm : m < 48) (hu : u < 64) (h6 : K.length ≤ 6) : ∀ (k : Nat) (i : Nat) (t : T3) (σ : St), K.length = i + k → KmB σ K → SgB σ t → (∀ σ2, SgB σ2 (spI K u m k i t) → Fk [] [72] σ σ2 → G E (d + 6) X 6 R σ2 109 ([(0, .ref (ev_a E 64)), (1, .int (nI u)), (2, .int (bI (spI K u m k i t).2.2)), (3, .int (nI m))]) []) → G E (d + 6) X 6 R σ 13 ([(0, .ref (ev_a E 64)), (1, .int (nI u)), (2, .int (bI t.2.2)), (3, .int (nI m)), (4, .int (nI i))]) [] := by
  intro k
  induction k with
  | zero =>
    intro i t σ hi hK hM KK
    have hk48 := hK.2.1
    refine g_iload C dX8_spreads_13 rfl ?_
    refine g_aload_n C dX8_spreads_15 rfl ?_
    refine gf_X8_makerMany C (by rfl) dX8_spreads_16 kf_RX8_124 ?_
    rw [hK.1]
    first | refine g_icgeN C 109 dX8_spreads_19 (by decide) (by omega) (by omega) (fun h19 => ?_) (fun h19 => ?_) | refine g_icge C 109 dX8_spreads_19 (by decide) (fun h19 => ?_) (fun h19 => ?_)
    · have e : spI K u m 0 i t = t := rfl
      refine g_loc ([(0, .ref (ev_a E 64)), (1, .int (nI u)), (2, .int (bI t.2.2)), (3, .int (nI m))]) (And.intro rfl (And.intro rfl (And.intro rfl (And.intro rfl trivial)))) ?_
      rw [e] at KK
      exact KK σ hM Fk.rf
    · omega
  | succ k ih =>
    intro i t σ hi hK hM KK
    have hk48 := hK.2.1
    refine g_iload C dX8_spreads_13 rfl ?_
    refine g_aload_n C dX8_spreads_15 rfl ?_
    refine gf_X8_makerMany C (by rfl) dX8_spreads_16 kf_RX8_124 ?_
    rw [hK.1]
    first | refine g_icgeN C 109 dX8_spreads_19 (by decide) (by omega) (by omega) (fun h19 => ?_) (fun h19 => ?_) | refine g_icge C 109 dX8_spreads_19 (by decide) (fun h19 => ?_) (fun h19 => ?_)
    · omega
    · refine g_aload_n C dX8_spreads_22 rfl ?_
      refine gf_X8_sign C (by rfl) dX8_spreads_23 kf_RX8_34 ?_
      refine g_iload_n C dX8_spreads_26 rfl ?_
      refine g_ialdN C (by rfl) (by omega) (by first | decide | omega) dX8_spreads_27 ?_
      rw [hM m hm]
      refine g_ifeq C 109 dX8_spreads_28 (by decide) (fun h28 => ?_) (fun h28 => ?_)
      · have e : spI K u m (k + 1) i t = t := by rw [spI, if_neg (by rw [sg_0.mp h28]; decide)]
        refine g_loc ([(0, .ref (ev_a E 64)), (1, .int (nI u)), (2, .int (bI t.2.2)), (3, .int (nI m))]) (And.intro rfl (And.intro rfl (And.intro rfl (And.intro rfl trivial)))) ?_
        rw [e] at KK
        exact KK σ hM Fk.rf
      · have hn : nzB t m = true := by cases c : nzB t m with | true => rfl | false => exact absurd (sg_0.mpr c) h28
        refine g_aload_n C dX8_spreads_31 rfl ?_
        refine gf_X8_makers C (by rfl) dX8_spreads_32 kf_RX8_28 ?_
        refine g_iload C dX8_spreads_35 rfl ?_
        refine g_ialdN C (by rfl) (by omega) (by first | decide | omega) dX8_spreads_37 ?_
        rw [(hK.2.2 i (by omega)).1]
        refine g_iload_n C dX8_spreads_38 rfl ?_
        refine g_callSp C (c_X8_times (d := d) (hK.2.2 i (by omega)).2 hm) dX8_spreads_39 km_RX8_81 kn_RX8 kc_yX8_times ks_yX8_times (by omega) (by decide) ⟨by decide, by decide, rfl⟩ rfl (Nat.le_of_ble_eq_true rfl) ?_
        have hto : mulN (lg K i) m < 48 := mulN_lt _ (hK.2.2 i (by omega)).2 _ hm
        refine g_istore C dX8_spreads_42 (by decide) ?_
        refine g_iload_n C dX8_spreads_44 rfl ?_
        refine g_aload_n C dX8_spreads_45 rfl ?_
        refine gf_X8_sign C (by rfl) dX8_spreads_46 kf_RX8_34 ?_
        refine g_iload C dX8_spreads_49 rfl ?_
        refine g_ialdN C (by rfl) (hto) (by first | decide | omega) dX8_spreads_51 ?_
        rw [hM _ hto]
        refine g_ifne C 59 dX8_spreads_52 (by decide) (fun h52 => ?_) (fun h52 => ?_)
        · have hz : nzB t (mulN (lg K i) m) = true := by cases c : nzB t (mulN (lg K i) m) with | true => rfl | false => exact absurd (sg_0.mpr c) h52
          refine g_ic (n := 0) C dX8_spreads_59 (by decide) ?_
          rw [show nI 0 = bI false from rfl]
          refine g_ior C dX8_spreads_60 ?_
          rw [bI_or]
          refine g_istore_n C dX8_spreads_61 (by decide) ?_
          refine g_aload_n C dX8_spreads_62 rfl ?_
          refine gf_X8_sign C (by rfl) dX8_spreads_63 kf_RX8_34 ?_
          refine g_iload C dX8_spreads_66 rfl ?_
          refine g_aload_n C dX8_spreads_68 rfl ?_
          refine gf_X8_sign C (by rfl) dX8_spreads_69 kf_RX8_34 ?_
          refine g_iload C dX8_spreads_72 rfl ?_
          refine g_ialdN C (by rfl) (hto) (by first | decide | omega) dX8_spreads_74 ?_
          rw [hM _ hto]
          refine g_ifne C 95 dX8_spreads_75 (by decide) (fun h75 => ?_) (fun h75 => ?_)
          · refine g_aload_n C dX8_spreads_95 rfl ?_
            refine gf_X8_sign C (by rfl) dX8_spreads_96 kf_RX8_34 ?_
            refine g_iload C dX8_spreads_99 rfl ?_
            refine g_ialdN C (by rfl) (hto) (by first | decide | omega) dX8_spreads_101 ?_
            refine g_iastN C (by rfl) (hto) (by first | decide | omega) dX8_spreads_102 ?_
            refine g_iinc1 C dX8_spreads_103 rfl (by decide) ?_
            refine g_goto C 13 dX8_spreads_106 (by decide) ?_
            rw [show (t.2.2 || false) = t.2.2 from by rw [Bool.or_false]]
            refine g_loc ([(0, .ref (ev_a E 64)), (1, .int (nI u)), (2, .int (bI t.2.2)), (3, .int (nI m)), (4, .int (nI (i + 1)))]) (And.intro rfl (And.intro rfl (And.intro rfl (And.intro rfl (And.intro rfl trivial))))) ?_
            rw [show spI K u m (k + 1) i t = spI K u m k (i + 1) t from by rw [spI, if_pos hn, if_pos hz]] at KK
            have hF : Fk [] [72] σ (sI σ 72 (upd (σ.1 72) (mulN (lg K i) m) (σ.1 72 (mulN (lg K i) m)))) := Fk.rf.sI (by simp) (by decide)
            exact ih (i + 1) _ _ (by omega) (hK.go hF (by simp) (by simp)) hM.s0 (fun σ2 u1 u2 => KK σ2 u1 (hF.tr u2))
          · first | exact absurd h75 h52 | exact absurd h52 h75
        · have hz : nzB t (mulN (lg K i) m) = false := sg_0.mp h52
          refine g_ic (n := 1) C dX8_spreads_55 (by decide) ?_
          rw [show nI 1 = bI true from rfl]
          refine g_goto C 60 dX8_spreads_56 (by decide) ?_
          refine g_ior C dX8_spreads_60 ?_
          rw [bI_or]
          refine g_istore_n C dX8_spreads_61 (by decide) ?_
          refine g_aload_n C dX8_spreads_62 rfl ?_
          refine gf_X8_sign C (by rfl) dX8_spreads_63 kf_RX8_34 ?_
          refine g_iload C dX8_spreads_66 rfl ?_
          refine g_aload_n C dX8_spreads_68 rfl ?_
          refine gf_X8_sign C (by rfl) dX8_spreads_69 kf_RX8_34 ?_
          refine g_iload C dX8_spreads_72 rfl ?_
          refine g_ialdN C (by rfl) (hto) (by first | decide | omega) dX8_spreads_74 ?_
          rw [hM _ hto]
          refine g_ifne C 95 dX8_spreads_75 (by decide) (fun h75 => ?_) (fun h75 => ?_)
          · first | exact absurd h75 h52 | exact absurd h52 h75
          · refine g_aload_n C dX8_spreads_78 rfl ?_
            refine gf_X8_sign C (by rfl) dX8_spreads_79 kf_RX8_34 ?_
            refine g_iload_n C dX8_spreads_82 rfl ?_
            refine g_ialdN C (by rfl) (by omega) (by first | decide | omega) dX8_spreads_83 ?_
            rw [hM m hm]
            refine g_aload_n C dX8_spreads_84 rfl ?_
            refine g_iload_n C dX8_spreads_85 rfl ?_
            refine g_iload C dX8_spreads_86 rfl ?_
            refine g_callVp C (ob_X8 (by rfl)) (c_X8_toldSign (d := d) hK hu (by omega) h6) dX8_spreads_88 km_RX8_131 kn_RX8 kc_yX8_toldSign ki_yX8_toldSign kx_yX8_toldSign (by omega) (by decide) ⟨by decide, by decide, rfl⟩ rfl (Nat.le_of_ble_eq_true rfl) ?_
            refine g_imul C dX8_spreads_91 ?_
            rw [sg_m (by cases c : nzB t m with | true => rfl | false => exact absurd (sg_0.mpr c) h28)]
            refine g_goto C 102 dX8_spreads_92 (by decide) ?_
            refine g_iastN C (by rfl) (hto) (by first | decide | omega) dX8_spreads_102 ?_
            refine g_iinc1 C dX8_spreads_103 rfl (by decide) ?_
            refine g_goto C 13 dX8_spreads_106 (by decide) ?_
            rw [show (t.2.2 || true) = (ptT t ((!t.1.testBit m) ^^ tvB K u i) (mulN (lg K i) m)).2.2 from by unfold ptT; rw [Bool.or_true]; split <;> rfl]
            refine g_loc ([(0, .ref (ev_a E 64)), (1, .int (nI u)), (2, .int (bI (ptT t ((!t.1.testBit m) ^^ tvB K u i) (mulN (lg K i) m)).2.2)), (3, .int (nI m)), (4, .int (nI (i + 1)))]) (And.intro rfl (And.intro rfl (And.intro rfl (And.intro rfl (And.intro rfl trivial))))) ?_
            rw [show spI K u m (k + 1) i t = spI K u m k (i + 1) (ptT t ((!t.1.testBit m) ^^ tvB K u i) (mulN (lg K i) m)) from by rw [spI, if_pos hn, if_neg (by rw [hz]; decide)]] at KK
            have hF : Fk [] [72] σ (sI σ 72 (upd (σ.1 72) (mulN (lg K i) m) (sgZ ((!t.1.testBit m) ^^ tvB K u i)))) := Fk.rf.sI (by simp) (by decide)
            exact ih (i + 1) _ _ (by omega) (hK.go hF (by simp) (by simp)) (hM.s1 hz) (fun σ2 u1 u2 => KK σ2 u1 (hF.tr u2))

set_option maxHeartbeats 4000000 in
set_option maxRecDepth 100000 in
theorem l_X8_spreads {E : Ev} {d : Nat} {X : Mx} (C : Cx E X cX8_spreads RX8 6 ((Option.some FieldType.boolean))) {K : List Nat} {u : Nat} (hu : u < 64) (h6 : K.length ≤ 6) : ∀ (k : Nat) (m : Nat) (t : T3) (σ : St), 48 = m + k → KmB σ K → SgB σ t → G E (d + 6) X 6 (fun r σ2 => r = some (.int (bI (spO K u k m t).2.2)) ∧ SgB σ2 (spO K u k m t) ∧ Fk [] [72] σ σ2) σ 4 ([(0, .ref (ev_a E 64)), (1, .int (nI u)), (2, .int (bI t.2.2)), (3, .int (nI m))]) [] := by
  intro k
  induction k with
  | zero =>
    intro m t σ hi hK hM
    refine g_iload_n C dX8_spreads_4 rfl ?_
    refine g_bp C (nI 48) dX8_spreads_5 (by decide) ?_
    first | refine g_icgeN C 115 dX8_spreads_7 (by decide) (by omega) (by omega) (fun h7 => ?_) (fun h7 => ?_) | refine g_icge C 115 dX8_spreads_7 (by decide) (fun h7 => ?_) (fun h7 => ?_)
    · refine g_iload_n C dX8_spreads_115 rfl ?_
      refine g_zret C (by first | exact bI_01 _ | exact Or.inl rfl | exact Or.inr rfl) dX8_spreads_116 ?_
      exact ⟨rfl, hM, Fk.rf⟩
    · omega
  | succ k ih =>
    intro m t σ hi hK hM
    refine g_iload_n C dX8_spreads_4 rfl ?_
    refine g_bp C (nI 48) dX8_spreads_5 (by decide) ?_
    first | refine g_icgeN C 115 dX8_spreads_7 (by decide) (by omega) (by omega) (fun h7 => ?_) (fun h7 => ?_) | refine g_icge C 115 dX8_spreads_7 (by decide) (fun h7 => ?_) (fun h7 => ?_)
    · omega
    · refine g_ic (n := 0) C dX8_spreads_10 (by decide) ?_
      refine g_istore C dX8_spreads_11 (by decide) ?_
      refine g_loc ([(0, .ref (ev_a E 64)), (1, .int (nI u)), (2, .int (bI t.2.2)), (3, .int (nI m)), (4, .int (nI 0))]) (And.intro rfl (And.intro rfl (And.intro rfl (And.intro rfl (And.intro rfl trivial))))) ?_
      refine l2_X8_spreads C (by omega) hu h6 K.length 0 t σ (by omega) hK hM (fun σ1 u1 u2 => ?_)
      refine g_iinc1 C dX8_spreads_109 rfl (by decide) ?_
      refine g_goto C 4 dX8_spreads_112 (by decide) ?_
      refine g_loc ([(0, .ref (ev_a E 64)), (1, .int (nI u)), (2, .int (bI (spI K u m K.length 0 t).2.2)), (3, .int (nI (m + 1)))]) (And.intro rfl (And.intro rfl (And.intro rfl (And.intro rfl trivial)))) ?_
      refine g_post (fun r σ2 q => ?_) (ih (m + 1) (spI K u m K.length 0 t) σ1 (by omega) (hK.go u2 (by simp) (by simp)) u1)
      obtain ⟨q1, q2, q3⟩ := q
      exact ⟨q1, q2, u2.tr q3⟩

set_option maxHeartbeats 4000000 in
set_option maxRecDepth 100000 in
theorem c_X8_spreads {E : Ev} {d : Nat} {σ : St} {K : List Nat} (hK : KmB σ K) {u : Nat} {t : T3} (hu : u < 64) (h6 : K.length ≤ 6) (hS : SgB σ t) : Con E (d + 6) yX8_spreads cX8_spreads 6 ((Option.some FieldType.boolean)) [.ref (ev_a E 64), .int (nI u)] σ (fun r σ2 => r = some (.int (bI (spO K u 48 0 (t.1, t.2.1, false)).2.2)) ∧ SgB σ2 (spO K u 48 0 (t.1, t.2.1, false)) ∧ Fk [] [72] σ σ2) := by
  refine con_of (by decide) (Nat.le_of_ble_eq_true rfl) (fun X hX C => ?_)
  have C : Cx E X cX8_spreads RX8 6 ((Option.some FieldType.boolean)) := C
  show G E _ X _ _ _ 0 [(0, .ref (ev_a E 64)), (1, .int (nI u))] []
  refine g_ic (n := 0) C dX8_spreads_0 (by decide) ?_
  refine g_istore_n C dX8_spreads_1 (by decide) ?_
  refine g_ic (n := 0) C dX8_spreads_2 (by decide) ?_
  refine g_istore_n C dX8_spreads_3 (by decide) ?_
  refine g_loc ([(0, .ref (ev_a E 64)), (1, .int (nI u)), (2, .int (bI false)), (3, .int (nI 0))]) (And.intro rfl (And.intro rfl (And.intro rfl (And.intro rfl trivial)))) ?_
  exact l_X8_spreads C hu h6 48 0 (t.1, t.2.1, false) σ (by omega) hK hS

set_option maxHeartbeats 4000000 in
set_option maxRecDepth 100000 in
theorem l3_X8_isSign {E : Ev} {d : Nat} {X : Mx} (C : Cx E X cX8_isSign RX8 5 ((Option.some FieldType.boolean))) {R : Option Value → St → Prop} {σ : St} {K L : List Nat} {u i : Nat} {t : T3} (hu : u < 64) (h6 : K.length ≤ 6) (hB : GmB σ L) (hK : KmB σ K) (hS : SgB σ t) (hi : i < L.length) : ∀ (k : Nat) (j : Nat) (b : Bool), K.length = j + k → G E (d + 8) X 5 R σ 128 ([(0, .ref (ev_a E 64)), (1, .int (nI u)), (2, .int (bI (ckI K L u t i k j b))), (3, .int (nI i))]) [] → G E (d + 8) X 5 R σ 62 ([(0, .ref (ev_a E 64)), (1, .int (nI u)), (2, .int (bI b)), (3, .int (nI i)), (4, .int (nI j))]) [] := by
  intro k
  induction k with
  | zero =>
    intro j b hj KK
    have hk48 := hK.2.1
    obtain ⟨⟨hL1, hL2, hL3⟩, hgs, hgm⟩ := id hB
    refine g_iload C dX8_isSign_62 rfl ?_
    refine g_aload_n C dX8_isSign_64 rfl ?_
    refine gf_X8_makerMany C (by rfl) dX8_isSign_65 kf_RX8_124 ?_
    rw [hK.1]
    first | refine g_icgeN C 128 dX8_isSign_68 (by decide) (by omega) (by omega) (fun h68 => ?_) (fun h68 => ?_) | refine g_icge C 128 dX8_isSign_68 (by decide) (fun h68 => ?_) (fun h68 => ?_)
    · refine g_loc ([(0, .ref (ev_a E 64)), (1, .int (nI u)), (2, .int (bI b)), (3, .int (nI i))]) (And.intro rfl (And.intro rfl (And.intro rfl (And.intro rfl trivial)))) ?_
      exact KK
    · omega
  | succ k ih =>
    intro j b hj KK
    have hk48 := hK.2.1
    obtain ⟨⟨hL1, hL2, hL3⟩, hgs, hgm⟩ := id hB
    refine g_iload C dX8_isSign_62 rfl ?_
    refine g_aload_n C dX8_isSign_64 rfl ?_
    refine gf_X8_makerMany C (by rfl) dX8_isSign_65 kf_RX8_124 ?_
    rw [hK.1]
    first | refine g_icgeN C 128 dX8_isSign_68 (by decide) (by omega) (by omega) (fun h68 => ?_) (fun h68 => ?_) | refine g_icge C 128 dX8_isSign_68 (by decide) (fun h68 => ?_) (fun h68 => ?_)
    · omega
    · refine g_iload_n C dX8_isSign_71 rfl ?_
      refine g_aload_n C dX8_isSign_72 rfl ?_
      refine gf_X8_sign C (by rfl) dX8_isSign_73 kf_RX8_34 ?_
      refine g_aload_n C dX8_isSign_76 rfl ?_
      refine gf_X8_makers C (by rfl) dX8_isSign_77 kf_RX8_28 ?_
      refine g_iload C dX8_isSign_80 rfl ?_
      refine g_ialdN C (by rfl) (by omega) (by first | decide | omega) dX8_isSign_82 ?_
      rw [(hK.2.2 j (by omega)).1]
      have hg := hL2 i (by omega)
      have hto : mulN (lg K j) (lg L i) < 48 := mulN_lt _ (hK.2.2 j (by omega)).2 _ hg
      refine g_aload_n C dX8_isSign_83 rfl ?_
      refine gf_X8_group C (by rfl) dX8_isSign_84 kf_RX8_21 ?_
      refine g_iload_n C dX8_isSign_87 rfl ?_
      refine g_ialdN C (by rfl) (by omega) (by first | decide | omega) dX8_isSign_88 ?_
      rw [hgm i (by omega)]
      refine g_callSp C (c_X8_times (d := d) (hK.2.2 j (by omega)).2 hg) dX8_isSign_89 km_RX8_81 kn_RX8 kc_yX8_times ks_yX8_times (by omega) (by decide) ⟨by decide, by decide, rfl⟩ rfl (Nat.le_of_ble_eq_true rfl) ?_
      refine g_ialdN C (by rfl) (hto) (by first | decide | omega) dX8_isSign_92 ?_
      rw [hS _ hto]
      refine g_aload_n C dX8_isSign_93 rfl ?_
      refine g_iload_n C dX8_isSign_94 rfl ?_
      refine g_iload C dX8_isSign_95 rfl ?_
      refine g_callVp C (ob_X8 (by rfl)) (c_X8_toldSign (d := d) hK hu (by omega) h6) dX8_isSign_97 km_RX8_131 kn_RX8 kc_yX8_toldSign ki_yX8_toldSign kx_yX8_toldSign (by omega) (by decide) ⟨by decide, by decide, rfl⟩ rfl (Nat.le_of_ble_eq_true rfl) ?_
      refine g_aload_n C dX8_isSign_100 rfl ?_
      refine gf_X8_sign C (by rfl) dX8_isSign_101 kf_RX8_34 ?_
      refine g_aload_n C dX8_isSign_104 rfl ?_
      refine gf_X8_group C (by rfl) dX8_isSign_105 kf_RX8_21 ?_
      refine g_iload_n C dX8_isSign_108 rfl ?_
      refine g_ialdN C (by rfl) (by omega) (by first | decide | omega) dX8_isSign_109 ?_
      rw [hgm i (by omega)]
      refine g_ialdN C (by rfl) (hg) (by first | decide | omega) dX8_isSign_110 ?_
      rw [hS _ hg]
      refine g_imul C dX8_isSign_111 ?_
      refine g_icne C 119 dX8_isSign_112 (by decide) (fun h112 => ?_) (fun h112 => ?_)
      · refine g_ic (n := 0) C dX8_isSign_119 (by decide) ?_
        rw [show nI 0 = bI (sgE t (mulN (lg K j) (lg L i)) (lg L i) (tvB K u j)) from by cases c : sgE t (mulN (lg K j) (lg L i)) (lg L i) (tvB K u j) with | false => rfl | true => exact absurd (sg_e.mpr c) h112]
        refine g_iand C dX8_isSign_120 ?_
        rw [bI_and]
        refine g_istore_n C dX8_isSign_121 (by decide) ?_
        refine g_iinc1 C dX8_isSign_122 rfl (by decide) ?_
        refine g_goto C 62 dX8_isSign_125 (by decide) ?_
        refine g_loc ([(0, .ref (ev_a E 64)), (1, .int (nI u)), (2, .int (bI (b && sgE t (mulN (lg K j) (lg L i)) (lg L i) (tvB K u j)))), (3, .int (nI i)), (4, .int (nI (j + 1)))]) (And.intro rfl (And.intro rfl (And.intro rfl (And.intro rfl (And.intro rfl trivial))))) ?_
        exact ih (j + 1) _ (by omega) KK
      · refine g_ic (n := 1) C dX8_isSign_115 (by decide) ?_
        rw [show nI 1 = bI (sgE t (mulN (lg K j) (lg L i)) (lg L i) (tvB K u j)) from by rw [sg_e.mp h112]; rfl]
        refine g_goto C 120 dX8_isSign_116 (by decide) ?_
        refine g_iand C dX8_isSign_120 ?_
        rw [bI_and]
        refine g_istore_n C dX8_isSign_121 (by decide) ?_
        refine g_iinc1 C dX8_isSign_122 rfl (by decide) ?_
        refine g_goto C 62 dX8_isSign_125 (by decide) ?_
        refine g_loc ([(0, .ref (ev_a E 64)), (1, .int (nI u)), (2, .int (bI (b && sgE t (mulN (lg K j) (lg L i)) (lg L i) (tvB K u j)))), (3, .int (nI i)), (4, .int (nI (j + 1)))]) (And.intro rfl (And.intro rfl (And.intro rfl (And.intro rfl (And.intro rfl trivial))))) ?_
        exact ih (j + 1) _ (by omega) KK

set_option maxHeartbeats 4000000 in
set_option maxRecDepth 100000 in
theorem l2_X8_isSign {E : Ev} {d : Nat} {X : Mx} (C : Cx E X cX8_isSign RX8 5 ((Option.some FieldType.boolean))) {σ : St} {K L : List Nat} {u : Nat} {t : T3} (hu : u < 64) (h6 : K.length ≤ 6) (hB : GmB σ L) (hK : KmB σ K) (hS : SgB σ t) : ∀ (k : Nat) (i : Nat) (b : Bool), L.length = i + k → G E (d + 8) X 5 (Det (some (.int (bI (ckO K L u t k i b)))) σ) σ 51 ([(0, .ref (ev_a E 64)), (1, .int (nI u)), (2, .int (bI b)), (3, .int (nI i))]) [] := by
  intro k
  induction k with
  | zero =>
    intro i b hi
    obtain ⟨⟨hL1, hL2, hL3⟩, hgs, hgm⟩ := id hB
    refine g_iload_n C dX8_isSign_51 rfl ?_
    refine g_aload_n C dX8_isSign_52 rfl ?_
    refine gf_X8_size C (by rfl) dX8_isSign_53 kf_RX8_97 ?_
    rw [hgs]
    first | refine g_icgeN C 134 dX8_isSign_56 (by decide) (by omega) (by omega) (fun h56 => ?_) (fun h56 => ?_) | refine g_icge C 134 dX8_isSign_56 (by decide) (fun h56 => ?_) (fun h56 => ?_)
    · refine g_iload_n C dX8_isSign_134 rfl ?_
      refine g_zret C (by first | exact bI_01 _ | exact Or.inl rfl | exact Or.inr rfl) dX8_isSign_135 ?_
      exact ⟨rfl, rfl⟩
    · omega
  | succ k ih =>
    intro i b hi
    obtain ⟨⟨hL1, hL2, hL3⟩, hgs, hgm⟩ := id hB
    refine g_iload_n C dX8_isSign_51 rfl ?_
    refine g_aload_n C dX8_isSign_52 rfl ?_
    refine gf_X8_size C (by rfl) dX8_isSign_53 kf_RX8_97 ?_
    rw [hgs]
    first | refine g_icgeN C 134 dX8_isSign_56 (by decide) (by omega) (by omega) (fun h56 => ?_) (fun h56 => ?_) | refine g_icge C 134 dX8_isSign_56 (by decide) (fun h56 => ?_) (fun h56 => ?_)
    · omega
    · refine g_ic (n := 0) C dX8_isSign_59 (by decide) ?_
      refine g_istore C dX8_isSign_60 (by decide) ?_
      refine g_loc ([(0, .ref (ev_a E 64)), (1, .int (nI u)), (2, .int (bI b)), (3, .int (nI i)), (4, .int (nI 0))]) (And.intro rfl (And.intro rfl (And.intro rfl (And.intro rfl (And.intro rfl trivial))))) ?_
      refine l3_X8_isSign C hu h6 hB hK hS (by omega) K.length 0 b (by omega) ?_
      refine g_iinc1 C dX8_isSign_128 rfl (by decide) ?_
      refine g_goto C 51 dX8_isSign_131 (by decide) ?_
      refine g_loc ([(0, .ref (ev_a E 64)), (1, .int (nI u)), (2, .int (bI (ckI K L u t i K.length 0 b))), (3, .int (nI (i + 1)))]) (And.intro rfl (And.intro rfl (And.intro rfl (And.intro rfl trivial)))) ?_
      exact ih (i + 1) _ (by omega)

set_option maxHeartbeats 4000000 in
set_option maxRecDepth 100000 in
theorem l1_X8_isSign {E : Ev} {d : Nat} {X : Mx} (C : Cx E X cX8_isSign RX8 5 ((Option.some FieldType.boolean))) {K L : List Nat} {u : Nat} {t0 : T3} (hu : u < 64) (h6 : K.length ≤ 6) : ∀ (k : Nat) (t : T3) (σ : St), spW K u k (t.1, t.2.1) = some t0 → GmB σ L → KmB σ K → SgB σ t → G E (d + 8) X 5 (fun r σ2 => r = some (.int (bI (ckO K L u t0 L.length 0 true))) ∧ SgB σ2 t0 ∧ Fk [] [72] σ σ2) σ 29 ([(0, .ref (ev_a E 64)), (1, .int (nI u))]) [] := by
  intro k
  induction k with
  | zero =>
    intro t σ hw
    cases hw
  | succ k ih =>
    intro t σ hw hB hK hM
    refine g_aload_n C dX8_isSign_29 rfl ?_
    refine g_iload_n C dX8_isSign_30 rfl ?_
    refine g_callV C (ob_X8 (by rfl)) (c_X8_spreads (d := d) hK hu h6 hM) dX8_isSign_31 km_RX8_134 kn_RX8 kc_yX8_spreads ki_yX8_spreads kx_yX8_spreads (by omega) (by decide) ⟨by decide, by decide, rfl⟩ rfl (Nat.le_of_ble_eq_true rfl) (fun r1 σ1 q1 => ?_)
    obtain ⟨rfl, u1, u2⟩ := q1
    refine g_ifeqB C 47 dX8_isSign_34 (by decide) (fun h34 => ?_) (fun h34 => ?_)
    · refine g_ic (n := 1) C dX8_isSign_47 (by decide) ?_
      refine g_istore_n C dX8_isSign_48 (by decide) ?_
      refine g_ic (n := 0) C dX8_isSign_49 (by decide) ?_
      refine g_istore_n C dX8_isSign_50 (by decide) ?_
      refine g_loc ([(0, .ref (ev_a E 64)), (1, .int (nI u)), (2, .int (bI true)), (3, .int (nI 0))]) (And.intro rfl (And.intro rfl (And.intro rfl (And.intro rfl trivial)))) ?_
      rw [spW, if_neg (by rw [h34]; decide)] at hw
      have hw := Option.some.inj hw
      rw [hw] at u1
      refine g_post (fun r σ2 q => ?_) (l2_X8_isSign C hu h6 (hB.go u2 (by simp) (by simp)) (hK.go u2 (by simp) (by simp)) u1 L.length 0 true (by omega))
      obtain ⟨rfl, rfl⟩ := q
      exact ⟨rfl, u1, u2⟩
    · refine g_aload_n C dX8_isSign_37 rfl ?_
      refine gf_X8_sign C (by rfl) dX8_isSign_38 kf_RX8_34 ?_
      refine g_ic (n := 0) C dX8_isSign_41 (by decide) ?_
      refine g_ic (n := 1) C dX8_isSign_42 (by decide) ?_
      refine g_iastN C (by rfl) (by omega) (by first | decide | omega) dX8_isSign_43 ?_
      refine g_goto C 29 dX8_isSign_44 (by decide) ?_
      rw [spW, if_pos h34] at hw
      have hF : Fk [] [72] σ (sI σ1 72 (upd (σ1.1 72) 0 (nI 1))) := u2.sI (by simp) (by decide)
      refine g_post (fun r σ2 q => ?_) (ih ((spO K u 48 0 (t.1, t.2.1, false)).1 ||| 2 ^ 0, (spO K u 48 0 (t.1, t.2.1, false)).2.1, false) _ hw (hB.go hF (by simp) (by simp)) (hK.go hF (by simp) (by simp)) (fun q hq => ?_))
      · obtain ⟨q1, q2, q3⟩ := q
        exact ⟨q1, q2, hF.tr q3⟩
      · rw [sI_self]
        unfold sgI
        rw [tb_or]
        by_cases e : q = 0
        · subst e; rw [up_i]; simp; rfl
        · rw [up_n e, u1 q hq, decide_eq_false (fun w => e w.symm), Bool.or_false]; rfl

theorem sg_1 : ∀ m, m < 48 → sgI (1, 0, false) m = if m = 0 then nI 1 else nI 0 := by decide +kernel

set_option maxHeartbeats 4000000 in
set_option maxRecDepth 100000 in
theorem l_X8_isSign {E : Ev} {d : Nat} {X : Mx} (C : Cx E X cX8_isSign RX8 5 ((Option.some FieldType.boolean))) {K L : List Nat} {u : Nat} {t0 : T3} (hu : u < 64) (h6 : K.length ≤ 6) (hw : spW K u 60 (1, 0) = some t0) : ∀ (k : Nat) (m : Nat) (σ : St), 48 = m + k → GmB σ L → KmB σ K → (∀ q, q < m → σ.1 72 q = sgI (1, 0, false) q) → G E (d + 8) X 5 (fun r σ2 => r = some (.int (bI (ckO K L u t0 L.length 0 true))) ∧ SgB σ2 t0 ∧ Fk [] [72] σ σ2) σ 2 ([(0, .ref (ev_a E 64)), (1, .int (nI u)), (2, .int (nI m))]) [] := by
  intro k
  induction k with
  | zero =>
    intro m σ hi hB hK hM
    refine g_iload_n C dX8_isSign_2 rfl ?_
    refine g_bp C (nI 48) dX8_isSign_3 (by decide) ?_
    first | refine g_icgeN C 29 dX8_isSign_5 (by decide) (by omega) (by omega) (fun h5 => ?_) (fun h5 => ?_) | refine g_icge C 29 dX8_isSign_5 (by decide) (fun h5 => ?_) (fun h5 => ?_)
    · refine g_loc ([(0, .ref (ev_a E 64)), (1, .int (nI u))]) (And.intro rfl (And.intro rfl trivial)) ?_
      exact l1_X8_isSign C hu h6 60 (1, 0, false) σ hw hB hK (fun q hq => hM q (by omega))
    · omega
  | succ k ih =>
    intro m σ hi hB hK hM
    refine g_iload_n C dX8_isSign_2 rfl ?_
    refine g_bp C (nI 48) dX8_isSign_3 (by decide) ?_
    first | refine g_icgeN C 29 dX8_isSign_5 (by decide) (by omega) (by omega) (fun h5 => ?_) (fun h5 => ?_) | refine g_icge C 29 dX8_isSign_5 (by decide) (fun h5 => ?_) (fun h5 => ?_)
    · omega
    · refine g_aload_n C dX8_isSign_8 rfl ?_
      refine gf_X8_sign C (by rfl) dX8_isSign_9 kf_RX8_34 ?_
      refine g_iload_n C dX8_isSign_12 rfl ?_
      refine g_iload_n C dX8_isSign_13 rfl ?_
      refine g_ifneN C 21 dX8_isSign_14 (by decide) (by omega) (fun h14 => ?_) (fun h14 => ?_)
      · refine g_ic (n := 0) C dX8_isSign_21 (by decide) ?_
        rw [show nI 0 = (if m = 0 then nI 1 else nI 0) from (if_neg h14).symm]
        refine g_iastN C (by rfl) (by omega) (by first | decide | omega) dX8_isSign_22 ?_
        refine g_iinc1 C dX8_isSign_23 rfl (by decide) ?_
        refine g_goto C 2 dX8_isSign_26 (by decide) ?_
        refine g_loc ([(0, .ref (ev_a E 64)), (1, .int (nI u)), (2, .int (nI (m + 1)))]) (And.intro rfl (And.intro rfl (And.intro rfl trivial))) ?_
        have hF : Fk [] [72] σ (sI σ 72 (upd (σ.1 72) m (if m = 0 then nI 1 else nI 0))) := Fk.rf.sI (by simp) (by decide)
        refine g_post (fun r σ2 q => ?_) (ih (m + 1) (sI σ 72 (upd (σ.1 72) m (if m = 0 then nI 1 else nI 0))) (by omega) (hB.go hF (by simp) (by simp)) (hK.go hF (by simp) (by simp)) (fun q hq => ?_))
        · obtain ⟨q1, q2, q3⟩ := q
          exact ⟨q1, q2, hF.tr q3⟩
        · rw [sI_self]
          by_cases e : q = m
          · subst e; rw [up_i, sg_1 q (by omega)]
          · rw [up_n e]; exact hM q (by omega)
      · refine g_ic (n := 1) C dX8_isSign_17 (by decide) ?_
        rw [show nI 1 = (if m = 0 then nI 1 else nI 0) from (if_pos h14).symm]
        refine g_goto C 22 dX8_isSign_18 (by decide) ?_
        refine g_iastN C (by rfl) (by omega) (by first | decide | omega) dX8_isSign_22 ?_
        refine g_iinc1 C dX8_isSign_23 rfl (by decide) ?_
        refine g_goto C 2 dX8_isSign_26 (by decide) ?_
        refine g_loc ([(0, .ref (ev_a E 64)), (1, .int (nI u)), (2, .int (nI (m + 1)))]) (And.intro rfl (And.intro rfl (And.intro rfl trivial))) ?_
        have hF : Fk [] [72] σ (sI σ 72 (upd (σ.1 72) m (if m = 0 then nI 1 else nI 0))) := Fk.rf.sI (by simp) (by decide)
        refine g_post (fun r σ2 q => ?_) (ih (m + 1) (sI σ 72 (upd (σ.1 72) m (if m = 0 then nI 1 else nI 0))) (by omega) (hB.go hF (by simp) (by simp)) (hK.go hF (by simp) (by simp)) (fun q hq => ?_))
        · obtain ⟨q1, q2, q3⟩ := q
          exact ⟨q1, q2, hF.tr q3⟩
        · rw [sI_self]
          by_cases e : q = m
          · subst e; rw [up_i, sg_1 q (by omega)]
          · rw [up_n e]; exact hM q (by omega)

set_option maxHeartbeats 4000000 in
set_option maxRecDepth 100000 in
theorem c_X8_isSign {E : Ev} {d : Nat} {σ : St} {K L : List Nat} {u : Nat} {t0 : T3} (hu : u < 64) (h6 : K.length ≤ 6) (hw : spW K u 60 (1, 0) = some t0) (hB : GmB σ L) (hK : KmB σ K) : Con E (d + 8) yX8_isSign cX8_isSign 5 ((Option.some FieldType.boolean)) [.ref (ev_a E 64), .int (nI u)] σ (fun r σ2 => r = some (.int (bI (ckO K L u t0 L.length 0 true))) ∧ SgB σ2 t0 ∧ Fk [] [72] σ σ2) := by
  refine con_of (by decide) (Nat.le_of_ble_eq_true rfl) (fun X hX C => ?_)
  have C : Cx E X cX8_isSign RX8 5 ((Option.some FieldType.boolean)) := C
  show G E _ X _ _ _ 0 [(0, .ref (ev_a E 64)), (1, .int (nI u))] []
  refine g_ic (n := 0) C dX8_isSign_0 (by decide) ?_
  refine g_istore_n C dX8_isSign_1 (by decide) ?_
  refine g_loc ([(0, .ref (ev_a E 64)), (1, .int (nI u)), (2, .int (nI 0))]) (And.intro rfl (And.intro rfl (And.intro rfl trivial))) ?_
  exact l_X8_isSign C hu h6 hw 48 0 σ (by omega) hB hK (fun q hq => absurd hq (by omega))

