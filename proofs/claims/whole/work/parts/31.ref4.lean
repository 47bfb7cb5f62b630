/-! THE REFERENCE: all signs; how often a motion has a sign -/
theorem x_sh : ∀ n, n ≤ 6 → nI 1 <<< (nI n &&& 31) = nI (2 ^ n) := by
  intro n hn
  rcases (show n = 0 ∨ n = 1 ∨ n = 2 ∨ n = 3 ∨ n = 4 ∨ n = 5 ∨ n = 6 from by omega) with rfl | rfl | rfl | rfl | rfl | rfl | rfl <;> decide
theorem fsR_some {K L : List Nat} {k u : Nat} {A B : List T3} (h : fsR K L (k + 1) u A = some B) : ∃ t, spW K u 60 (1, 0) = some t ∧ fsR K L k (u + 1) (if ckO K L u t L.length 0 true = true then A ++ [t] else A) = some B := by
  unfold fsR at h
  split at h
  · cases h
  · exact ⟨_, by assumption, h⟩
theorem gA_app {A : List T3} {t : T3} {k : Nat} : gA (A ++ [t]) k = if k < A.length then gA A k else if k = A.length then t else (0, 0, false) := by
  unfold gA
  rw [List.getD_eq_getElem?_getD, List.getD_eq_getElem?_getD]
  by_cases c : k < A.length
  · rw [if_pos c, List.getElem?_append_left c]
  · rw [if_neg c, List.getElem?_append_right (by omega)]
    by_cases e : k = A.length
    · subst e; simp
    · rw [if_neg e, List.getElem?_eq_none (by simp; omega)]; rfl
theorem IiB.go {σ σ' : St} {n : Nat} {P : Nat → Nat → Int32} {fs l : List Nat} (h : IiB σ n P) (hF : Fk fs l σ σ') (h0 : 69 ∉ l) : IiB σ' n P := fun q hq => by rw [(hF.1 69 (by simp [h0])).1]; exact h q hq

set_option maxHeartbeats 4000000 in
set_option maxRecDepth 100000 in
theorem l2_X8_findsSigns {E : Ev} {d : Nat} {X : Mx} (C : Cx E X cX8_findsSigns RX8 3 ((Option.none : Option FieldType))) {R : Option Value → St → Prop} {A : List T3} {t : T3} {u : Nat} (h64 : A.length < 64) : ∀ (k : Nat) (m : Nat) (σ : St), 48 = m + k → σ.1 64 12 = nI A.length → SgB σ t → (∀ q, q < m → σ.1 73 (48 * A.length + q) = sgI t q) → (∀ σ2, (∀ q, q < 48 * A.length → σ2.1 73 q = σ.1 73 q) → (∀ q, q < 48 → σ2.1 73 (48 * A.length + q) = sgI t q) → Fk [] [73] σ σ2 → G E (d + 9) X 3 R σ2 67 ([(0, .ref (ev_a E 64)), (1, .int (nI u))]) []) → G E (d + 9) X 3 R σ 35 ([(0, .ref (ev_a E 64)), (1, .int (nI u)), (2, .int (nI m))]) [] := by
  intro k
  induction k with
  | zero =>
    intro m σ hi hA hS hm KK
    refine g_iload_n C dX8_findsSigns_35 rfl ?_
    refine g_bp C (nI 48) dX8_findsSigns_36 (by decide) ?_
    first | refine g_icgeN C 67 dX8_findsSigns_38 (by decide) (by omega) (by omega) (fun h38 => ?_) (fun h38 => ?_) | refine g_icge C 67 dX8_findsSigns_38 (by decide) (fun h38 => ?_) (fun h38 => ?_)
    · refine g_loc ([(0, .ref (ev_a E 64)), (1, .int (nI u))]) (And.intro rfl (And.intro rfl trivial)) ?_
      exact KK σ (fun q hq => rfl) (fun q hq => hm q (by omega)) Fk.rf
    · omega
  | succ k ih =>
    intro m σ hi hA hS hm KK
    refine g_iload_n C dX8_findsSigns_35 rfl ?_
    refine g_bp C (nI 48) dX8_findsSigns_36 (by decide) ?_
    first | refine g_icgeN C 67 dX8_findsSigns_38 (by decide) (by omega) (by omega) (fun h38 => ?_) (fun h38 => ?_) | refine g_icge C 67 dX8_findsSigns_38 (by decide) (fun h38 => ?_) (fun h38 => ?_)
    · omega
    · refine g_aload_n C dX8_findsSigns_41 rfl ?_
      refine gf_X8_signs C (by rfl) dX8_findsSigns_42 kf_RX8_37 ?_
      refine g_bp C (nI 48) dX8_findsSigns_45 (by decide) ?_
      refine g_aload_n C dX8_findsSigns_47 rfl ?_
      refine gf_X8_signMany C (by rfl) dX8_findsSigns_48 kf_RX8_144 ?_
      rw [hA]
      refine g_imulN C dX8_findsSigns_51 ?_
      refine g_iload_n C dX8_findsSigns_52 rfl ?_
      refine g_iaddN C dX8_findsSigns_53 ?_
      refine g_aload_n C dX8_findsSigns_54 rfl ?_
      refine gf_X8_sign C (by rfl) dX8_findsSigns_55 kf_RX8_34 ?_
      refine g_iload_n C dX8_findsSigns_58 rfl ?_
      refine g_ialdN C (by rfl) (by omega) (by first | decide | omega) dX8_findsSigns_59 ?_
      rw [hS m (by omega)]
      refine g_iastN C (by rfl) (by omega) (by first | decide | omega) dX8_findsSigns_60 ?_
      refine g_iinc1 C dX8_findsSigns_61 rfl (by decide) ?_
      refine g_goto C 35 dX8_findsSigns_64 (by decide) ?_
      refine g_loc ([(0, .ref (ev_a E 64)), (1, .int (nI u)), (2, .int (nI (m + 1)))]) (And.intro rfl (And.intro rfl (And.intro rfl trivial))) ?_
      have hF : Fk [] [73] σ (sI σ 73 (upd (σ.1 73) (48 * A.length + m) (sgI t m))) := Fk.rf.sI (by simp) (by decide)
      refine ih (m + 1) (sI σ 73 (upd (σ.1 73) (48 * A.length + m) (sgI t m))) (by omega) (by rw [sI_ne (by decide)]; exact hA) (hS.go hF (by simp)) (fun q hq => ?_) (fun σ2 u0 u1 u2 => KK σ2 (fun q hq => by rw [u0 q hq, sI_self, up_n (by omega)]) u1 (hF.tr u2))
      rw [sI_self]
      by_cases e : q = m
      · subst e; rw [up_i]
      · rw [up_n (by omega)]; exact hm q (by omega)

theorem GsB.ap {σ σ2 : St} {A : List T3} {t : T3} (h : GsB σ A) (h64 : A.length < 64) (hs : ∀ k, k < A.length → ∀ q, q < 48 → σ2.1 73 (48 * k + q) = σ.1 73 (48 * k + q)) (ht : ∀ q, q < 48 → σ2.1 73 (48 * A.length + q) = sgI t q) : GsB (setF σ2 64 12 (nI (A.length + 1))) (A ++ [t]) := by
  refine ⟨by unfold setF; rw [sI_self, up_i]; simp, by simp; omega, fun k hk q hq => ?_⟩
  simp at hk
  unfold setF
  rw [sI_ne (by decide), gA_app]
  by_cases c : k < A.length
  · rw [if_pos c, hs k c q hq]; exact h.2.2 k c q hq
  · rw [if_neg c, if_pos (by omega), show k = A.length from by omega]; exact ht q hq

set_option maxHeartbeats 4000000 in
set_option maxRecDepth 100000 in
theorem l_X8_findsSigns {E : Ev} {d : Nat} {X : Mx} (C : Cx E X cX8_findsSigns RX8 3 ((Option.none : Option FieldType))) {K L : List Nat} {A0 : List T3} {N : Nat} (hN : 2 ^ K.length = N) (hN6 : N ≤ 64) (h6 : K.length ≤ 6) : ∀ (k : Nat) (u : Nat) (A : List T3) (σ : St), N = u + k → fsR K L k u A = some A0 → A.length ≤ u → GmB σ L → KmB σ K → GsB σ A → G E (d + 9) X 3 (fun r σ2 => r = none ∧ GsB σ2 A0 ∧ Fk [12] [72, 73] σ σ2) σ 15 ([(0, .ref (ev_a E 64)), (1, .int (nI u))]) [] := by
  intro k
  induction k with
  | zero =>
    intro u A σ hi hk hu hB hK hA
    refine g_iload_n C dX8_findsSigns_15 rfl ?_
    refine g_ic (n := 1) C dX8_findsSigns_16 (by decide) ?_
    refine g_aload_n C dX8_findsSigns_17 rfl ?_
    refine gf_X8_makerMany C (by rfl) dX8_findsSigns_18 kf_RX8_124 ?_
    rw [hK.1]
    refine g_ishl C dX8_findsSigns_21 ?_
    rw [x_sh _ h6, hN]
    refine g_icgeN C 83 dX8_findsSigns_22 (by decide) (by omega) (by omega) (fun h22 => ?_) (fun h22 => ?_)
    · refine g_vret C dX8_findsSigns_83 ?_
      cases hk
      exact ⟨rfl, hA, Fk.rf⟩
    · omega
  | succ k ih =>
    intro u A σ hi hk hu hB hK hA
    refine g_iload_n C dX8_findsSigns_15 rfl ?_
    refine g_ic (n := 1) C dX8_findsSigns_16 (by decide) ?_
    refine g_aload_n C dX8_findsSigns_17 rfl ?_
    refine gf_X8_makerMany C (by rfl) dX8_findsSigns_18 kf_RX8_124 ?_
    rw [hK.1]
    refine g_ishl C dX8_findsSigns_21 ?_
    rw [x_sh _ h6, hN]
    refine g_icgeN C 83 dX8_findsSigns_22 (by decide) (by omega) (by omega) (fun h22 => ?_) (fun h22 => ?_)
    · omega
    · obtain ⟨t, hw, hk⟩ := fsR_some hk
      refine g_aload_n C dX8_findsSigns_25 rfl ?_
      refine g_iload_n C dX8_findsSigns_26 rfl ?_
      refine g_callV C (ob_X8 (by rfl)) (c_X8_isSign (d := d) (by omega) h6 hw hB hK) dX8_findsSigns_27 km_RX8_147 kn_RX8 kc_yX8_isSign ki_yX8_isSign kx_yX8_isSign (by omega) (by decide) ⟨by decide, by decide, rfl⟩ rfl (Nat.le_of_ble_eq_true rfl) (fun r1 σ1 q1 => ?_)
      obtain ⟨rfl, u0, u2⟩ := q1
      have hA1 : GsB σ1 A := hA.go u2 (by simp) (by simp)
      refine g_ifeqB C 77 dX8_findsSigns_30 (by decide) (fun h30 => ?_) (fun h30 => ?_)
      · rw [if_neg (by rw [h30]; decide)] at hk
        refine g_iinc1 C dX8_findsSigns_77 rfl (by decide) ?_
        refine g_goto C 15 dX8_findsSigns_80 (by decide) ?_
        refine g_loc ([(0, .ref (ev_a E 64)), (1, .int (nI (u + 1)))]) (And.intro rfl (And.intro rfl trivial)) ?_
        have hF2 : Fk [12] [72, 73] σ σ1 := u2.mono (by simp) (by simp)
        refine g_post (fun r σ3 q => ?_) (ih (u + 1) _ _ (by omega) hk (by omega) (hB.go hF2 (by simp) (by simp)) (hK.go hF2 (by simp) (by simp)) hA1)
        obtain ⟨q1, q2, q3⟩ := q
        exact ⟨q1, q2, hF2.tr q3⟩
      · rw [if_pos h30] at hk
        refine g_ic (n := 0) C dX8_findsSigns_33 (by decide) ?_
        refine g_istore_n C dX8_findsSigns_34 (by decide) ?_
        refine g_loc ([(0, .ref (ev_a E 64)), (1, .int (nI u)), (2, .int (nI 0))]) (And.intro rfl (And.intro rfl (And.intro rfl trivial))) ?_
        refine l2_X8_findsSigns C (A := A) (t := t) (by omega) 48 0 σ1 (by omega) hA1.1 u0 (fun q hq => absurd hq (by omega)) (fun σ2 v0 v1 v2 => ?_)
        refine g_aload_n C dX8_findsSigns_67 rfl ?_
        refine g_dup C dX8_findsSigns_68 rfl ?_
        refine gf_X8_signMany C (by rfl) dX8_findsSigns_69 kf_RX8_144 ?_
        rw [show σ2.1 64 12 = nI A.length from by rw [v2.2 12 (by simp)]; exact hA1.1]
        refine g_ic (n := 1) C dX8_findsSigns_72 (by decide) ?_
        refine g_iaddN C dX8_findsSigns_73 ?_
        refine gp_X8_signMany C (by rfl) dX8_findsSigns_74 kf_RX8_144 ?_
        refine g_iinc1 C dX8_findsSigns_77 rfl (by decide) ?_
        refine g_goto C 15 dX8_findsSigns_80 (by decide) ?_
        refine g_loc ([(0, .ref (ev_a E 64)), (1, .int (nI (u + 1)))]) (And.intro rfl (And.intro rfl trivial)) ?_
        show G E _ X _ _ (setF σ2 64 12 (nI (A.length + 1))) _ _ _
        have hF2 : Fk [12] [72, 73] σ (setF σ2 64 12 (nI (A.length + 1))) := ((u2.mono (by simp) (by simp)).tr (v2.mono (by simp) (by simp))).sF (by simp)
        have hA2 : GsB (setF σ2 64 12 (nI (A.length + 1))) (A ++ [t]) := hA1.ap (by omega) (fun k hk q hq => v0 _ (by omega)) v1
        refine g_post (fun r σ3 q => ?_) (ih (u + 1) _ _ (by omega) hk (by simp; omega) (hB.go hF2 (by simp) (by simp)) (hK.go hF2 (by simp) (by simp)) hA2)
        obtain ⟨q1, q2, q3⟩ := q
        exact ⟨q1, q2, hF2.tr q3⟩

set_option maxHeartbeats 4000000 in
set_option maxRecDepth 100000 in
theorem c_X8_findsSigns {E : Ev} {d : Nat} {σ : St} {n : Nat} {P : Nat → Nat → Int32} (h : PIs σ n P) {A : List T3} (hA : FsA (gLst P n) A) : Con E (d + 9) yX8_findsSigns cX8_findsSigns 3 ((Option.none : Option FieldType)) [.ref (ev_a E 64)] σ (fun r σ2 => r = none ∧ GmB σ2 (gLst P n) ∧ IiB σ2 n P ∧ GsB σ2 A ∧ Fk [6, 8, 12] [68, 69, 70, 71, 72, 73] σ σ2) := by
  refine con_of (by decide) (Nat.le_of_ble_eq_true rfl) (fun X hX C => ?_)
  have C : Cx E X cX8_findsSigns RX8 3 ((Option.none : Option FieldType)) := C
  show G E _ X _ _ _ 0 [(0, .ref (ev_a E 64))] []
  refine g_aload_n C dX8_findsSigns_0 rfl ?_
  refine g_callV C (ob_X8 (by rfl)) (c_X8_finds (d := d) h) dX8_findsSigns_1 km_RX8_138 kn_RX8 kc_yX8_finds ki_yX8_finds kx_yX8_finds (by omega) (by decide) ⟨by decide, by decide, rfl⟩ rfl (Nat.le_of_ble_eq_true rfl) (fun r1 σ1 q1 => ?_)
  obtain ⟨rfl, hB, hI, f1⟩ := q1
  obtain ⟨K, M, hk, h6, hs⟩ := hA
  refine g_aload_n C dX8_findsSigns_4 rfl ?_
  refine g_callV C (ob_X8 (by rfl)) (c_X8_findsMakers (d := d) hB hk) dX8_findsSigns_5 km_RX8_141 kn_RX8 kc_yX8_findsMakers ki_yX8_findsMakers kx_yX8_findsMakers (by omega) (by decide) ⟨by decide, by decide, rfl⟩ rfl (Nat.le_of_ble_eq_true rfl) (fun r2 σ2 q2 => ?_)
  obtain ⟨rfl, hK, f2⟩ := q2
  refine g_aload_n C dX8_findsSigns_8 rfl ?_
  refine g_ic (n := 0) C dX8_findsSigns_9 (by decide) ?_
  refine gp_X8_signMany C (by rfl) dX8_findsSigns_10 kf_RX8_144 ?_
  refine g_ic (n := 0) C dX8_findsSigns_13 (by decide) ?_
  refine g_istore_n C dX8_findsSigns_14 (by decide) ?_
  refine g_loc ([(0, .ref (ev_a E 64)), (1, .int (nI 0))]) (And.intro rfl (And.intro rfl trivial)) ?_
  show G E _ X _ _ (setF σ2 64 12 (nI 0)) _ _ _
  have f3 : Fk [12] [] σ2 (setF σ2 64 12 (nI 0)) := Fk.rf.sF (by simp)
  have f4 : Fk [6, 8, 12] [68, 69, 70, 71, 72, 73] σ1 (setF σ2 64 12 (nI 0)) := (f2.mono (by simp) (by simp)).tr (f3.mono (by simp) (by simp))
  have h64 : 2 ^ K.length ≤ 64 := Nat.le_trans (Nat.pow_le_pow_right (by decide) h6) (by decide)
  refine g_post (fun r σ4 q => ?_) (l_X8_findsSigns C rfl h64 h6 (2 ^ K.length) 0 [] _ (by omega) hs (by decide) ((hB.go f2 (by simp) (by simp)).go f3 (by simp) (by simp)) (hK.go f3 (by simp) (by simp)) ⟨by unfold setF; rw [sI_self, up_i]; rfl, by decide, fun k hk => absurd hk (by simp)⟩)
  obtain ⟨q1, q2, q3⟩ := q
  exact ⟨q1, ((hB.go f2 (by simp) (by simp)).go f3 (by simp) (by simp)).go q3 (by simp) (by simp), ((hI.go f2 (by simp)).go f3 (by simp)).go q3 (by simp), q2, ((f1.mono (by simp) (by simp)).tr f4).tr (q3.mono (by simp) (by simp))⟩

set_option maxHeartbeats 4000000 in
set_option maxRecDepth 100000 in
theorem l_X8_motionOf {E : Ev} {d : Nat} {X : Mx} (C : Cx E X cX8_motionOf RX8 6 ((Option.some FieldType.int))) {R : Option Value → St → Prop} {σ : St} {n : Nat} {P : Nat → Nat → Int32} (h : PIs σ n P) {w m : Nat} (hm : m < 48) : ∀ (k : Nat) (p : Nat) (c : Int32), n = p + k → G E (d + 7) X 6 R σ 42 ([(0, .ref (ev_a E 64)), (1, .int (nI w)), (2, .int (nI m)), (3, .int (syL P n m k p c))]) [] → G E (d + 7) X 6 R σ 5 ([(0, .ref (ev_a E 64)), (1, .int (nI w)), (2, .int (nI m)), (3, .int c), (4, .int (nI p))]) [] := by
  intro k
  induction k with
  | zero =>
    intro p c hp KK
    have h8 := h.1
    refine g_iload C dX8_motionOf_5 rfl ?_
    refine g_aload_n C dX8_motionOf_7 rfl ?_
    refine gf_X8_w C (by rfl) dX8_motionOf_8 kf_RX8_11 ?_
    refine g_ic (n := 0) C dX8_motionOf_11 (by decide) ?_
    refine g_ialdN C (by rfl) (by omega) (by first | decide | omega) dX8_motionOf_12 ?_
    rw [h.2.1]
    refine g_icgeN C 42 dX8_motionOf_13 (by decide) (by omega) (by omega) (fun h13 => ?_) (fun h13 => ?_)
    · refine g_loc ([(0, .ref (ev_a E 64)), (1, .int (nI w)), (2, .int (nI m)), (3, .int c)]) (And.intro rfl (And.intro rfl (And.intro rfl (And.intro rfl trivial)))) ?_
      exact KK
    · omega
  | succ k ih =>
    intro p c hp KK
    have h8 := h.1
    refine g_iload C dX8_motionOf_5 rfl ?_
    refine g_aload_n C dX8_motionOf_7 rfl ?_
    refine gf_X8_w C (by rfl) dX8_motionOf_8 kf_RX8_11 ?_
    refine g_ic (n := 0) C dX8_motionOf_11 (by decide) ?_
    refine g_ialdN C (by rfl) (by omega) (by first | decide | omega) dX8_motionOf_12 ?_
    rw [h.2.1]
    refine g_icgeN C 42 dX8_motionOf_13 (by decide) (by omega) (by omega) (fun h13 => ?_) (fun h13 => ?_)
    · omega
    · refine g_iload_n C dX8_motionOf_16 rfl ?_
      refine g_aload_n C dX8_motionOf_17 rfl ?_
      refine g_iload_n C dX8_motionOf_18 rfl ?_
      refine g_iload C dX8_motionOf_19 rfl ?_
      refine g_callVp C (ob_X8 (by rfl)) (c_X8_goesTo (d := d) h (by first | assumption | omega) (by first | assumption | omega)) dX8_motionOf_21 km_RX8_90 kn_RX8 kc_yX8_goesTo ki_yX8_goesTo kx_yX8_goesTo (by omega) (by decide) ⟨by decide, by decide, rfl⟩ rfl (Nat.le_of_ble_eq_true rfl) ?_
      have e26 : oI (goT P n m p) = nI p ↔ goT P n m p = some p := oI_eq (by omega) (fun q hq => by have := goT_lt hq; omega)
      refine g_iload C dX8_motionOf_24 rfl ?_
      refine g_icne C 33 dX8_motionOf_26 (by decide) (fun h26 => ?_) (fun h26 => ?_)
      · refine g_ic (n := 0) C dX8_motionOf_33 (by decide) ?_
        rw [show nI 0 = stI P n m p from by unfold stI; rw [if_neg (fun q => h26 (e26.mpr q))]]
        refine g_iadd C dX8_motionOf_34 ?_
        refine g_istore_n C dX8_motionOf_35 (by decide) ?_
        refine g_iinc1 C dX8_motionOf_36 rfl (by decide) ?_
        refine g_goto C 5 dX8_motionOf_39 (by decide) ?_
        refine g_loc ([(0, .ref (ev_a E 64)), (1, .int (nI w)), (2, .int (nI m)), (3, .int (c + stI P n m p)), (4, .int (nI (p + 1)))]) (And.intro rfl (And.intro rfl (And.intro rfl (And.intro rfl (And.intro rfl trivial))))) ?_
        exact ih (p + 1) _ (by omega) KK
      · refine g_ic (n := 1) C dX8_motionOf_29 (by decide) ?_
        rw [show nI 1 = stI P n m p from by unfold stI; rw [if_pos (e26.mp h26)]]
        refine g_goto C 34 dX8_motionOf_30 (by decide) ?_
        refine g_iadd C dX8_motionOf_34 ?_
        refine g_istore_n C dX8_motionOf_35 (by decide) ?_
        refine g_iinc1 C dX8_motionOf_36 rfl (by decide) ?_
        refine g_goto C 5 dX8_motionOf_39 (by decide) ?_
        refine g_loc ([(0, .ref (ev_a E 64)), (1, .int (nI w)), (2, .int (nI m)), (3, .int (c + stI P n m p)), (4, .int (nI (p + 1)))]) (And.intro rfl (And.intro rfl (And.intro rfl (And.intro rfl (And.intro rfl trivial))))) ?_
        exact ih (p + 1) _ (by omega) KK

set_option maxHeartbeats 4000000 in
set_option maxRecDepth 100000 in
theorem c_X8_motionOf {E : Ev} {d : Nat} {σ : St} {n : Nat} {P : Nat → Nat → Int32} (h : PIs σ n P) {w m : Nat} (hw : w < 6) (hm : m < 48) : Con E (d + 7) yX8_motionOf cX8_motionOf 6 ((Option.some FieldType.int)) [.ref (ev_a E 64), .int (nI w), .int (nI m)] σ (Det (some (.int (moV w (syL P n m n 0 (nI 0)) m))) σ) := by
  refine con_of (by decide) (Nat.le_of_ble_eq_true rfl) (fun X hX C => ?_)
  have C : Cx E X cX8_motionOf RX8 6 ((Option.some FieldType.int)) := C
  show G E _ X _ _ _ 0 [(0, .ref (ev_a E 64)), (1, .int (nI w)), (2, .int (nI m))] []
  refine g_ic (n := 0) C dX8_motionOf_0 (by decide) ?_
  refine g_istore_n C dX8_motionOf_1 (by decide) ?_
  refine g_ic (n := 0) C dX8_motionOf_2 (by decide) ?_
  refine g_istore C dX8_motionOf_3 (by decide) ?_
  refine g_loc ([(0, .ref (ev_a E 64)), (1, .int (nI w)), (2, .int (nI m)), (3, .int (nI 0)), (4, .int (nI 0))]) (And.intro rfl (And.intro rfl (And.intro rfl (And.intro rfl (And.intro rfl trivial))))) ?_
  refine l_X8_motionOf C h hm n 0 (nI 0) (by omega) ?_
  rcases (show w = 0 ∨ w = 1 ∨ w = 2 ∨ w = 3 ∨ w = 4 ∨ w = 5 from by omega) with rfl | rfl | rfl | rfl | rfl | rfl
  · refine g_iload_n C dX8_motionOf_42 rfl ?_
    refine g_callSp C (c_X8_traceOf (d := d) (by first | assumption | omega | exact mulN_lt _ (by assumption) _ (by assumption))) dX8_motionOf_43 km_RX8_150 kn_RX8 kc_yX8_traceOf ks_yX8_traceOf (by omega) (by decide) ⟨by decide, by decide, rfl⟩ rfl (Nat.le_of_ble_eq_true rfl) ?_
    refine g_istore C dX8_motionOf_46 (by decide) ?_
    refine g_iload_n C dX8_motionOf_48 rfl ?_
    refine g_callSp C (c_X8_turnOf (d := d) (by first | assumption | omega)) dX8_motionOf_49 km_RX8_121 kn_RX8 kc_yX8_turnOf ks_yX8_turnOf (by omega) (by decide) ⟨by decide, by decide, rfl⟩ rfl (Nat.le_of_ble_eq_true rfl) ?_
    refine g_iload C dX8_motionOf_52 rfl ?_
    refine g_imul C dX8_motionOf_54 ?_
    refine g_istore C dX8_motionOf_55 (by decide) ?_
    refine g_iload_n C dX8_motionOf_57 rfl ?_
    refine g_tsIn C 92 dX8_motionOf_58 (by decide) (by decide) rfl (by decide) ?_
    refine g_iload_n C dX8_motionOf_92 rfl ?_
    refine g_iret C dX8_motionOf_93 ?_
    exact ⟨rfl, rfl⟩
  · refine g_iload_n C dX8_motionOf_42 rfl ?_
    refine g_callSp C (c_X8_traceOf (d := d) (by first | assumption | omega | exact mulN_lt _ (by assumption) _ (by assumption))) dX8_motionOf_43 km_RX8_150 kn_RX8 kc_yX8_traceOf ks_yX8_traceOf (by omega) (by decide) ⟨by decide, by decide, rfl⟩ rfl (Nat.le_of_ble_eq_true rfl) ?_
    refine g_istore C dX8_motionOf_46 (by decide) ?_
    refine g_iload_n C dX8_motionOf_48 rfl ?_
    refine g_callSp C (c_X8_turnOf (d := d) (by first | assumption | omega)) dX8_motionOf_49 km_RX8_121 kn_RX8 kc_yX8_turnOf ks_yX8_turnOf (by omega) (by decide) ⟨by decide, by decide, rfl⟩ rfl (Nat.le_of_ble_eq_true rfl) ?_
    refine g_iload C dX8_motionOf_52 rfl ?_
    refine g_imul C dX8_motionOf_54 ?_
    refine g_istore C dX8_motionOf_55 (by decide) ?_
    refine g_iload_n C dX8_motionOf_57 rfl ?_
    refine g_tsIn C 94 dX8_motionOf_58 (by decide) (by decide) rfl (by decide) ?_
    refine g_iload_n C dX8_motionOf_94 rfl ?_
    refine g_iload C dX8_motionOf_95 rfl ?_
    refine g_imul C dX8_motionOf_97 ?_
    refine g_iret C dX8_motionOf_98 ?_
    exact ⟨rfl, rfl⟩
  · refine g_iload_n C dX8_motionOf_42 rfl ?_
    refine g_callSp C (c_X8_traceOf (d := d) (by first | assumption | omega | exact mulN_lt _ (by assumption) _ (by assumption))) dX8_motionOf_43 km_RX8_150 kn_RX8 kc_yX8_traceOf ks_yX8_traceOf (by omega) (by decide) ⟨by decide, by decide, rfl⟩ rfl (Nat.le_of_ble_eq_true rfl) ?_
    refine g_istore C dX8_motionOf_46 (by decide) ?_
    refine g_iload_n C dX8_motionOf_48 rfl ?_
    refine g_callSp C (c_X8_turnOf (d := d) (by first | assumption | omega)) dX8_motionOf_49 km_RX8_121 kn_RX8 kc_yX8_turnOf ks_yX8_turnOf (by omega) (by decide) ⟨by decide, by decide, rfl⟩ rfl (Nat.le_of_ble_eq_true rfl) ?_
    refine g_iload C dX8_motionOf_52 rfl ?_
    refine g_imul C dX8_motionOf_54 ?_
    refine g_istore C dX8_motionOf_55 (by decide) ?_
    refine g_iload_n C dX8_motionOf_57 rfl ?_
    refine g_tsIn C 99 dX8_motionOf_58 (by decide) (by decide) rfl (by decide) ?_
    refine g_iload C dX8_motionOf_99 rfl ?_
    refine g_iret C dX8_motionOf_101 ?_
    exact ⟨rfl, rfl⟩
  · refine g_iload_n C dX8_motionOf_42 rfl ?_
    refine g_callSp C (c_X8_traceOf (d := d) (by first | assumption | omega | exact mulN_lt _ (by assumption) _ (by assumption))) dX8_motionOf_43 km_RX8_150 kn_RX8 kc_yX8_traceOf ks_yX8_traceOf (by omega) (by decide) ⟨by decide, by decide, rfl⟩ rfl (Nat.le_of_ble_eq_true rfl) ?_
    refine g_istore C dX8_motionOf_46 (by decide) ?_
    refine g_iload_n C dX8_motionOf_48 rfl ?_
    refine g_callSp C (c_X8_turnOf (d := d) (by first | assumption | omega)) dX8_motionOf_49 km_RX8_121 kn_RX8 kc_yX8_turnOf ks_yX8_turnOf (by omega) (by decide) ⟨by decide, by decide, rfl⟩ rfl (Nat.le_of_ble_eq_true rfl) ?_
    refine g_iload C dX8_motionOf_52 rfl ?_
    refine g_imul C dX8_motionOf_54 ?_
    refine g_istore C dX8_motionOf_55 (by decide) ?_
    refine g_iload_n C dX8_motionOf_57 rfl ?_
    refine g_tsIn C 102 dX8_motionOf_58 (by decide) (by decide) rfl (by decide) ?_
    refine g_iload C dX8_motionOf_102 rfl ?_
    refine g_iret C dX8_motionOf_104 ?_
    exact ⟨rfl, rfl⟩
  · refine g_iload_n C dX8_motionOf_42 rfl ?_
    refine g_callSp C (c_X8_traceOf (d := d) (by first | assumption | omega | exact mulN_lt _ (by assumption) _ (by assumption))) dX8_motionOf_43 km_RX8_150 kn_RX8 kc_yX8_traceOf ks_yX8_traceOf (by omega) (by decide) ⟨by decide, by decide, rfl⟩ rfl (Nat.le_of_ble_eq_true rfl) ?_
    refine g_istore C dX8_motionOf_46 (by decide) ?_
    refine g_iload_n C dX8_motionOf_48 rfl ?_
    refine g_callSp C (c_X8_turnOf (d := d) (by first | assumption | omega)) dX8_motionOf_49 km_RX8_121 kn_RX8 kc_yX8_turnOf ks_yX8_turnOf (by omega) (by decide) ⟨by decide, by decide, rfl⟩ rfl (Nat.le_of_ble_eq_true rfl) ?_
    refine g_iload C dX8_motionOf_52 rfl ?_
    refine g_imul C dX8_motionOf_54 ?_
    refine g_istore C dX8_motionOf_55 (by decide) ?_
    refine g_iload_n C dX8_motionOf_57 rfl ?_
    refine g_tsIn C 105 dX8_motionOf_58 (by decide) (by decide) rfl (by decide) ?_
    refine g_iload_n C dX8_motionOf_105 rfl ?_
    refine g_iload C dX8_motionOf_106 rfl ?_
    refine g_imul C dX8_motionOf_108 ?_
    refine g_iload C dX8_motionOf_109 rfl ?_
    refine g_isub C dX8_motionOf_111 ?_
    refine g_iload C dX8_motionOf_112 rfl ?_
    refine g_isub C dX8_motionOf_114 ?_
    refine g_iret C dX8_motionOf_115 ?_
    exact ⟨rfl, rfl⟩
  · refine g_iload_n C dX8_motionOf_42 rfl ?_
    refine g_callSp C (c_X8_traceOf (d := d) (by first | assumption | omega | exact mulN_lt _ (by assumption) _ (by assumption))) dX8_motionOf_43 km_RX8_150 kn_RX8 kc_yX8_traceOf ks_yX8_traceOf (by omega) (by decide) ⟨by decide, by decide, rfl⟩ rfl (Nat.le_of_ble_eq_true rfl) ?_
    refine g_istore C dX8_motionOf_46 (by decide) ?_
    refine g_iload_n C dX8_motionOf_48 rfl ?_
    refine g_callSp C (c_X8_turnOf (d := d) (by first | assumption | omega)) dX8_motionOf_49 km_RX8_121 kn_RX8 kc_yX8_turnOf ks_yX8_turnOf (by omega) (by decide) ⟨by decide, by decide, rfl⟩ rfl (Nat.le_of_ble_eq_true rfl) ?_
    refine g_iload C dX8_motionOf_52 rfl ?_
    refine g_imul C dX8_motionOf_54 ?_
    refine g_istore C dX8_motionOf_55 (by decide) ?_
    refine g_iload_n C dX8_motionOf_57 rfl ?_
    refine g_tsOut C 116 dX8_motionOf_58 (by decide) (by decide) ?_
    refine g_iload C dX8_motionOf_116 rfl ?_
    refine g_iload C dX8_motionOf_118 rfl ?_
    refine g_imul C dX8_motionOf_120 ?_
    refine g_iload_n C dX8_motionOf_121 rfl ?_
    refine g_iload_n C dX8_motionOf_122 rfl ?_
    refine g_callSp C (c_X8_times (d := d) hm hm) dX8_motionOf_123 km_RX8_81 kn_RX8 kc_yX8_times ks_yX8_times (by omega) (by decide) ⟨by decide, by decide, rfl⟩ rfl (Nat.le_of_ble_eq_true rfl) ?_
    refine g_callSp C (c_X8_traceOf (d := d) (mulN_lt _ hm _ hm)) dX8_motionOf_126 km_RX8_150 kn_RX8 kc_yX8_traceOf ks_yX8_traceOf (by omega) (by decide) ⟨by decide, by decide, rfl⟩ rfl (Nat.le_of_ble_eq_true rfl) ?_
    refine g_iadd C dX8_motionOf_129 ?_
    refine g_ic (n := 2) C dX8_motionOf_130 (by decide) ?_
    refine g_idiv C dX8_motionOf_131 (by decide) ?_
    refine g_iret C dX8_motionOf_132 ?_
    exact ⟨rfl, rfl⟩

set_option maxHeartbeats 4000000 in
set_option maxRecDepth 100000 in
theorem l_X8_hasOf {E : Ev} {d : Nat} {X : Mx} (C : Cx E X cX8_hasOf RX8 5 ((Option.some FieldType.int))) {σ : St} {n : Nat} {P : Nat → Nat → Int32} (h : PIs σ n P) {L : List Nat} (hB : GmB σ L) {w u : Nat} {pt : Nat → Nat} (hw : w < 6) (hu : u < 64) (h0 : 0 < L.length) (hsg : ∀ j, j < L.length → σ.1 73 (48 * u + lg L j) = sgV u (pt j)) : ∀ (k : Nat) (j : Nat) (a : Int32), L.length = j + k → G E (d + 8) X 5 (Det (some (.int (tmL L w u (fun m => syL P n m n 0 (nI 0)) (fun m => syL P n m n 0 (nI 0)) pt k j a / nI L.length))) σ) σ 5 ([(0, .ref (ev_a E 64)), (1, .int (nI w)), (2, .int (nI u)), (3, .int a), (4, .int (nI j))]) [] := by
  intro k
  induction k with
  | zero =>
    intro j a hj
    obtain ⟨⟨hL1, hL2, hL3⟩, hgs, hgm⟩ := id hB
    refine g_iload C dX8_hasOf_5 rfl ?_
    refine g_aload_n C dX8_hasOf_7 rfl ?_
    refine gf_X8_size C (by rfl) dX8_hasOf_8 kf_RX8_97 ?_
    rw [hgs]
    refine g_icgeN C 53 dX8_hasOf_11 (by decide) (by omega) (by omega) (fun h11 => ?_) (fun h11 => ?_)
    · refine g_iload_n C dX8_hasOf_53 rfl ?_
      refine g_aload_n C dX8_hasOf_54 rfl ?_
      refine gf_X8_size C (by rfl) dX8_hasOf_55 kf_RX8_97 ?_
      rw [hgs]
      refine g_idiv C dX8_hasOf_58 (nI_ne0 (by omega) (by omega)) ?_
      refine g_iret C dX8_hasOf_59 ?_
      exact ⟨rfl, rfl⟩
    · omega
  | succ k ih =>
    intro j a hj
    obtain ⟨⟨hL1, hL2, hL3⟩, hgs, hgm⟩ := id hB
    refine g_iload C dX8_hasOf_5 rfl ?_
    refine g_aload_n C dX8_hasOf_7 rfl ?_
    refine gf_X8_size C (by rfl) dX8_hasOf_8 kf_RX8_97 ?_
    rw [hgs]
    refine g_icgeN C 53 dX8_hasOf_11 (by decide) (by omega) (by omega) (fun h11 => ?_) (fun h11 => ?_)
    · omega
    · refine g_iload_n C dX8_hasOf_14 rfl ?_
      refine g_aload_n C dX8_hasOf_15 rfl ?_
      refine g_iload_n C dX8_hasOf_16 rfl ?_
      refine g_aload_n C dX8_hasOf_17 rfl ?_
      refine gf_X8_group C (by rfl) dX8_hasOf_18 kf_RX8_21 ?_
      refine g_iload C dX8_hasOf_21 rfl ?_
      refine g_ialdN C (by rfl) (by omega) (by first | decide | omega) dX8_hasOf_23 ?_
      rw [hgm j (by omega)]
      have hg := hL2 j (by omega)
      refine g_callVp C (ob_X8 (by rfl)) (c_X8_motionOf (d := d) h hw hg) dX8_hasOf_24 km_RX8_153 kn_RX8 kc_yX8_motionOf ki_yX8_motionOf kx_yX8_motionOf (by omega) (by decide) ⟨by decide, by decide, rfl⟩ rfl (Nat.le_of_ble_eq_true rfl) ?_
      refine g_aload_n C dX8_hasOf_27 rfl ?_
      refine gf_X8_signs C (by rfl) dX8_hasOf_28 kf_RX8_37 ?_
      refine g_bp C (nI 48) dX8_hasOf_31 (by decide) ?_
      refine g_iload_n C dX8_hasOf_33 rfl ?_
      first | refine g_imulN C dX8_hasOf_34 ?_ | refine g_imul C dX8_hasOf_34 ?_
      refine g_aload_n C dX8_hasOf_35 rfl ?_
      refine gf_X8_group C (by rfl) dX8_hasOf_36 kf_RX8_21 ?_
      refine g_iload C dX8_hasOf_39 rfl ?_
      refine g_ialdN C (by rfl) (by omega) (by first | decide | omega) dX8_hasOf_41 ?_
      rw [hgm j (by omega)]
      refine g_iaddN C dX8_hasOf_42 ?_
      refine g_ialdN C (by rfl) (by omega) (by first | decide | omega) dX8_hasOf_43 ?_
      rw [hsg j (by omega)]
      refine g_imul C dX8_hasOf_44 ?_
      refine g_iadd C dX8_hasOf_45 ?_
      refine g_istore_n C dX8_hasOf_46 (by decide) ?_
      refine g_iinc1 C dX8_hasOf_47 rfl (by decide) ?_
      refine g_goto C 5 dX8_hasOf_50 (by decide) ?_
      refine g_loc ([(0, .ref (ev_a E 64)), (1, .int (nI w)), (2, .int (nI u)), (3, .int (a + moV w (syL P n (lg L j) n 0 (nI 0)) (lg L j) * sgV u (pt j))), (4, .int (nI (j + 1)))]) (And.intro rfl (And.intro rfl (And.intro rfl (And.intro rfl (And.intro rfl trivial))))) ?_
      exact ih (j + 1) _ (by omega)

set_option maxHeartbeats 4000000 in
set_option maxRecDepth 100000 in
theorem c_X8_hasOf {E : Ev} {d : Nat} {σ : St} {n : Nat} {P : Nat → Nat → Int32} (h : PIs σ n P) {L : List Nat} (hB : GmB σ L) {w u : Nat} {pt : Nat → Nat} (hw : w < 6) (hu : u < 64) (h0 : 0 < L.length) (hsg : ∀ j, j < L.length → σ.1 73 (48 * u + lg L j) = sgV u (pt j)) : Con E (d + 8) yX8_hasOf cX8_hasOf 5 ((Option.some FieldType.int)) [.ref (ev_a E 64), .int (nI w), .int (nI u)] σ (Det (some (.int (tmL L w u (fun m => syL P n m n 0 (nI 0)) (fun m => syL P n m n 0 (nI 0)) pt L.length 0 (nI 0) / nI L.length))) σ) := by
  refine con_of (by decide) (Nat.le_of_ble_eq_true rfl) (fun X hX C => ?_)
  have C : Cx E X cX8_hasOf RX8 5 ((Option.some FieldType.int)) := C
  show G E _ X _ _ _ 0 [(0, .ref (ev_a E 64)), (1, .int (nI w)), (2, .int (nI u))] []
  refine g_ic (n := 0) C dX8_hasOf_0 (by decide) ?_
  refine g_istore_n C dX8_hasOf_1 (by decide) ?_
  refine g_ic (n := 0) C dX8_hasOf_2 (by decide) ?_
  refine g_istore C dX8_hasOf_3 (by decide) ?_
  refine g_loc ([(0, .ref (ev_a E 64)), (1, .int (nI w)), (2, .int (nI u)), (3, .int (nI 0)), (4, .int (nI 0))]) (And.intro rfl (And.intro rfl (And.intro rfl (And.intro rfl (And.intro rfl trivial))))) ?_
  exact l_X8_hasOf C h hB hw hu h0 hsg L.length 0 _ (by omega)

