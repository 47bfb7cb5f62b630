/-! THE REFERENCE over the same state: the group, classes, motions, signs. What both sides' ways to find classes and signs have in common (proved further on for each group) stands in BrC, BrS -/
def BrC (L : List Nat) : Prop := (∀ m, m ∈ L → (clC L).1 m = nI (lsN L m)) ∧ (∀ m, m ∈ L → cmL L (lsN L m) L.length 0 0 = scL L (clC L).1 m L.length 0 0) ∧ (∀ x : Int32, cnL L x L.length 0 0 = if inB x 0 ((clC L).2.2 - 1 : Int) = true then (clC L).2.1 (ix x) else -1 - nI (clC L).2.2) ∧ (∀ k, k < (clC L).2.2 → ∃ c, c < 48 ∧ (clC L).2.1 k = nI c) ∧ (clC L).2.2 ≤ 48
def BrS (L : List Nat) : Prop := FinOk L ∧ 0 < L.length ∧ ∃ A, FsA L A ∧ A.length = (fsF L).2 ∧ ∀ k, k < A.length → ∀ m, m ∈ L → sgI (gA A k) m = sgV k (ptV L m)
theorem in_nZ {x : Int32} {n : Nat} (hn : n < 2 ^ 31) (h : inB x 0 ((n : Int) - 1) = true) : ∃ j, j < n ∧ x = nI j := by
  simp only [inB, decide_eq_true_eq] at h
  have := x.toInt_lt
  refine ⟨x.toInt.toNat, by omega, ?_⟩
  rw [← Int32.toInt_inj, nI_toInt (by omega)]
  omega
theorem n1_64g {n : Nat} (hn : n ≤ 100) : (nI n - nI 1).toInt64.toInt = (n : Int) - 1 := by
  rw [x64]
  rcases Nat.eq_zero_or_pos n with e | e
  · subst e; decide
  · rw [pk_sub (show 1 ≤ n from e), nI_toInt (by omega)]; omega
theorem ge0_n {c : Nat} (h : c < 2 ^ 31) : (0 : Int32) ≤ nI c := by rw [leI, Int32.toInt_zero, nI_toInt h]; omega
theorem nge0 {k : Int32} (h : ¬ 0 ≤ k) : k < 0 := by rw [leI, Int32.toInt_zero] at h; rw [ltI, Int32.toInt_zero]; omega
theorem ge0 {k : Int32} (h : 0 ≤ k) : ¬ k < 0 := fun q => by rw [leI, Int32.toInt_zero] at h; rw [ltI, Int32.toInt_zero] at q; omega
theorem m5_lt : ∀ c, c < 48 → (-5 : Int32) < nI c := by decide +kernel
theorem m1_neg : ∀ c, c ≤ 48 → ¬ (0 : Int32) ≤ -1 - nI c := by decide +kernel
theorem m1_self : ∀ c, c ≤ 48 → (-1 : Int32) - (-1 - nI c) = nI c := by decide +kernel
theorem cn_val {L : List Nat} (h : BrC L) (x : Int32) : (inB x 0 ((clC L).2.2 - 1 : Int) = true ∧ ∃ c, c < 48 ∧ cnL L x L.length 0 0 = nI c ∧ (clC L).2.1 (ix x) = nI c) ∨ (inB x 0 ((clC L).2.2 - 1 : Int) = false ∧ ¬ (0 : Int32) ≤ cnL L x L.length 0 0) := by
  obtain ⟨h1, h2, h3, h4, h5⟩ := h
  by_cases e : inB x 0 ((clC L).2.2 - 1 : Int) = true
  · left
    obtain ⟨j, hj, rfl⟩ := in_nZ (by omega) e
    rw [h3, if_pos e, ix_nI (by omega)]
    obtain ⟨c, hc, ec⟩ := h4 j hj
    exact ⟨e, c, hc, ec, ec⟩
  · right
    rw [h3, if_neg e]
    exact ⟨by simpa using e, m1_neg _ h5⟩
theorem cn_48 {L : List Nat} (h : BrC L) : -1 - cnL L (nI 48) L.length 0 0 = nI (clC L).2.2 := by
  obtain ⟨h1, h2, h3, h4, h5⟩ := h
  rw [h3, if_neg (by simp only [inB, decide_eq_true_eq, nI_toInt (show 48 < 2 ^ 31 by decide)]; omega)]
  exact m1_self _ h5

set_option maxHeartbeats 4000000 in
set_option maxRecDepth 100000 in
theorem c_X8_group {E : Ev} {d : Nat} {σ : St} {s : Ms} (hs : RfIs σ s) {k : Int32} : Con E (d + 9) yX8_group cX8_group 2 ((Option.some FieldType.int)) [.ref (ev_a E 64), .int k] σ (RfTo (.int (aGroup s k)) σ (s)) := by
  refine con_of (by decide) (Nat.le_of_ble_eq_true rfl) (fun X hX C => ?_)
  have C : Cx E X cX8_group RX8 2 ((Option.some FieldType.int)) := C
  have h := hs.P
  have h8 := h.1
  show G E _ X _ _ _ 0 [(0, .ref (ev_a E 64)), (1, .int k)] []
  refine g_aload_n C dX8_group_0 rfl ?_
  refine g_callV C (ob_X8 (by rfl)) (c_X8_finds (d := d) h) dX8_group_1 km_RX8_138 kn_RX8 kc_yX8_finds ki_yX8_finds kx_yX8_finds (by omega) (by decide) ⟨by decide, by decide, rfl⟩ rfl (Nat.le_of_ble_eq_true rfl) (fun r1 σ1 q1 => ?_)
  obtain ⟨rfl, hB, hI, f1⟩ := q1
  have hs1 : RfIs σ1 s := hs.go f1 (by decide) (by decide)
  obtain ⟨⟨hL1, hL2, hL3⟩, hgs, hgm⟩ := id hB
  have vLe : (gL s).length ≤ 48 := hL1
  refine g_iload_n C dX8_group_4 rfl ?_
  refine g_ifge C 12 dX8_group_5 (by decide) (fun h5 => ?_) (fun h5 => ?_)
  · have h5 : ¬ k < 0 := ge0 h5
    refine g_iload_n C dX8_group_12 rfl ?_
    refine g_aload_n C dX8_group_13 rfl ?_
    refine gf_X8_size C (by rfl) dX8_group_14 kf_RX8_97 ?_
    rw [hgs]
    refine g_icge C 29 dX8_group_17 (by decide) (fun h17 => ?_) (fun h17 => ?_)
    · have e17 := in_k0 (n := (gL s).length) (by omega) h17
      refine g_bp C (-5) dX8_group_29 (by decide) ?_
      refine g_iret C dX8_group_31 ?_
      exact ⟨congrArg (fun v => some (Value.int v)) (by unfold aGroup; first | rw [if_pos h5] | rw [if_neg h5, if_pos e17, ix_nI (show j < 2 ^ 31 by omega)] | rw [if_neg h5, if_neg (by rw [e17]; decide)]), hs1, f1.s (by decide)⟩
    · obtain ⟨e17, j, hj, rfl⟩ := in_k1 (n := (gL s).length) (by omega) h5 h17
      refine g_aload_n C dX8_group_20 rfl ?_
      refine gf_X8_group C (by rfl) dX8_group_21 kf_RX8_21 ?_
      refine g_iload_n C dX8_group_24 rfl ?_
      refine g_ialdN C (by rfl) (by omega) (by first | decide | omega) dX8_group_25 ?_
      rw [hgm j hj]
      refine g_goto C 31 dX8_group_26 (by decide) ?_
      refine g_iret C dX8_group_31 ?_
      exact ⟨congrArg (fun v => some (Value.int v)) (by unfold aGroup; first | rw [if_pos h5] | rw [if_neg h5, if_pos e17, ix_nI (show j < 2 ^ 31 by omega)] | rw [if_neg h5, if_neg (by rw [e17]; decide)]), hs1, f1.s (by decide)⟩
  · have h5 : k < 0 := nge0 h5
    refine g_icz (v := -1) C dX8_group_8 (by decide) ?_
    refine g_goto C 31 dX8_group_9 (by decide) ?_
    refine g_iret C dX8_group_31 ?_
    exact ⟨congrArg (fun v => some (Value.int v)) (by unfold aGroup; first | rw [if_pos h5] | rw [if_neg h5, if_pos e17, ix_nI (show j < 2 ^ 31 by omega)] | rw [if_neg h5, if_neg (by rw [e17]; decide)]), hs1, f1.s (by decide)⟩

set_option maxHeartbeats 4000000 in
set_option maxRecDepth 100000 in
theorem c_X8_classOf {E : Ev} {d : Nat} {σ : St} {s : Ms} (hs : RfIs σ s) (hC : BrC (gL s)) {x w : Int32} : Con E (d + 9) yX8_classOf cX8_classOf 3 ((Option.some FieldType.int)) [.ref (ev_a E 64), .int x, .int w] σ (RfTo (.int (aClassOf s x w)) σ (s)) := by
  refine con_of (by decide) (Nat.le_of_ble_eq_true rfl) (fun X hX C => ?_)
  have C : Cx E X cX8_classOf RX8 3 ((Option.some FieldType.int)) := C
  have h := hs.P
  have h8 := h.1
  show G E _ X _ _ _ 0 [(0, .ref (ev_a E 64)), (1, .int x), (2, .int w)] []
  refine g_iload_n C dX8_classOf_0 rfl ?_
  refine g_callSp C (c_X8_isMove (d := d) ) dX8_classOf_1 km_RX8_213 kn_RX8 kc_yX8_isMove ks_yX8_isMove (by omega) (by decide) ⟨by decide, by decide, rfl⟩ rfl (Nat.le_of_ble_eq_true rfl) ?_
  refine g_ifeqB C 17 dX8_classOf_4 (by decide) (fun h4 => ?_) (fun h4 => ?_)
  · refine g_icz (v := -1) C dX8_classOf_17 (by decide) ?_
    refine g_iret C dX8_classOf_18 ?_
    exact ⟨congrArg (fun v => some (Value.int v)) (by unfold aClassOf; first | rw [if_pos (by rw [h4]; rfl)] | rw [if_pos (by rw [h4, h14]; rfl)]), hs, Rs.rf⟩
  · obtain ⟨m, hm, rfl⟩ := isMv_t h4
    refine g_iload_n C dX8_classOf_7 rfl ?_
    refine g_i2l C _ dX8_classOf_8 rfl ?_
    refine g_lc (v := 0) C dX8_classOf_9 (by decide) ?_
    refine g_lc (v := 1) C dX8_classOf_10 (by decide) ?_
    refine g_callSp C (c_X8_in (d := d) (0) (1) (by decide) (by decide)) dX8_classOf_11 km_RX8_56 kn_RX8 kc_yX8_in ks_yX8_in (by omega) (by decide) ⟨by decide, by decide, rfl⟩ rfl (Nat.le_of_ble_eq_true rfl) ?_
    refine g_ifneB C 19 dX8_classOf_14 (by decide) (fun h14 => ?_) (fun h14 => ?_)
    · refine g_aload_n C dX8_classOf_19 rfl ?_
      refine g_callV C (ob_X8 (by rfl)) (c_X8_finds (d := d) h) dX8_classOf_20 km_RX8_138 kn_RX8 kc_yX8_finds ki_yX8_finds kx_yX8_finds (by omega) (by decide) ⟨by decide, by decide, rfl⟩ rfl (Nat.le_of_ble_eq_true rfl) (fun r1 σ1 q1 => ?_)
      obtain ⟨rfl, hB, hI, f1⟩ := q1
      have hs1 : RfIs σ1 s := hs.go f1 (by decide) (by decide)
      obtain ⟨⟨hL1, hL2, hL3⟩, hgs, hgm⟩ := id hB
      have vLe : (gL s).length ≤ 48 := hL1
      refine g_aload_n C dX8_classOf_23 rfl ?_
      refine gf_X8_isIn C (by rfl) dX8_classOf_24 kf_RX8_24 ?_
      refine g_iload_n C dX8_classOf_27 rfl ?_
      refine g_zaldN C (by rfl) (hm) (by first | decide | omega) dX8_classOf_28 ?_
      rw [hI m hm]
      refine g_ifneB C 35 dX8_classOf_29 (by decide) (fun h29 => ?_) (fun h29 => ?_)
      · refine g_iload_n C dX8_classOf_35 rfl ?_
        refine g_ifne C 47 dX8_classOf_36 (by decide) (fun h36 => ?_) (fun h36 => ?_)
        · refine g_aload_n C dX8_classOf_47 rfl ?_
          refine g_iload_n C dX8_classOf_48 rfl ?_
          refine g_callVp C (ob_X8 (by rfl)) (c_X8_classMany (d := d) hB hm) dX8_classOf_49 km_RX8_234 kn_RX8 kc_yX8_classMany ki_yX8_classMany kx_yX8_classMany (by omega) (by decide) ⟨by decide, by decide, rfl⟩ rfl (Nat.le_of_ble_eq_true rfl) ?_
          refine g_iret C dX8_classOf_52 ?_
          exact ⟨congrArg (fun v => some (Value.int v)) (by unfold aClassOf; rw [if_neg (by rw [h4, h14]; decide), ix_nI (show m < 2 ^ 31 by omega), if_neg (by rw [h29]; decide)]; first | (rw [if_pos h36, hC.1 m (gLst_in.mpr ⟨hm, h29⟩)]; done) | (rw [if_neg h36, hC.2.1 m (gLst_in.mpr ⟨hm, h29⟩)]; done)), hs1, f1.s (by decide)⟩
        · refine g_aload_n C dX8_classOf_39 rfl ?_
          refine g_iload_n C dX8_classOf_40 rfl ?_
          refine g_callVp C (ob_X8 (by rfl)) (c_X8_leastOf (d := d) hB hm) dX8_classOf_41 km_RX8_112 kn_RX8 kc_yX8_leastOf ki_yX8_leastOf kx_yX8_leastOf (by omega) (by decide) ⟨by decide, by decide, rfl⟩ rfl (Nat.le_of_ble_eq_true rfl) ?_
          refine g_goto C 52 dX8_classOf_44 (by decide) ?_
          refine g_iret C dX8_classOf_52 ?_
          exact ⟨congrArg (fun v => some (Value.int v)) (by unfold aClassOf; rw [if_neg (by rw [h4, h14]; decide), ix_nI (show m < 2 ^ 31 by omega), if_neg (by rw [h29]; decide)]; first | (rw [if_pos h36, hC.1 m (gLst_in.mpr ⟨hm, h29⟩)]; done) | (rw [if_neg h36, hC.2.1 m (gLst_in.mpr ⟨hm, h29⟩)]; done)), hs1, f1.s (by decide)⟩
      · refine g_bp C (-3) dX8_classOf_32 (by decide) ?_
        refine g_iret C dX8_classOf_34 ?_
        exact ⟨congrArg (fun v => some (Value.int v)) (by unfold aClassOf; rw [if_neg (by rw [h4, h14]; decide), ix_nI (show m < 2 ^ 31 by omega), if_pos h29]), hs1, f1.s (by decide)⟩
    · refine g_icz (v := -1) C dX8_classOf_17 (by decide) ?_
      refine g_iret C dX8_classOf_18 ?_
      exact ⟨congrArg (fun v => some (Value.int v)) (by unfold aClassOf; first | rw [if_pos (by rw [h4]; rfl)] | rw [if_pos (by rw [h4, h14]; rfl)]), hs, Rs.rf⟩

set_option maxHeartbeats 4000000 in
set_option maxRecDepth 100000 in
theorem c_X8_classAt {E : Ev} {d : Nat} {σ : St} {s : Ms} (hs : RfIs σ s) (hC : BrC (gL s)) {k : Int32} : Con E (d + 10) yX8_classAt cX8_classAt 2 ((Option.some FieldType.int)) [.ref (ev_a E 64), .int k] σ (RfTo (.int (aClassAt s k)) σ (s)) := by
  refine con_of (by decide) (Nat.le_of_ble_eq_true rfl) (fun X hX C => ?_)
  have C : Cx E X cX8_classAt RX8 2 ((Option.some FieldType.int)) := C
  have h := hs.P
  have h8 := h.1
  show G E _ X _ _ _ 0 [(0, .ref (ev_a E 64)), (1, .int k)] []
  refine g_iload_n C dX8_classAt_0 rfl ?_
  refine g_ifge C 6 dX8_classAt_1 (by decide) (fun h1 => ?_) (fun h1 => ?_)
  · have h1 : ¬ k < 0 := ge0 h1
    refine g_aload_n C dX8_classAt_6 rfl ?_
    refine g_callV C (ob_X8 (by rfl)) (c_X8_finds (d := d) h) dX8_classAt_7 km_RX8_138 kn_RX8 kc_yX8_finds ki_yX8_finds kx_yX8_finds (by omega) (by decide) ⟨by decide, by decide, rfl⟩ rfl (Nat.le_of_ble_eq_true rfl) (fun r1 σ1 q1 => ?_)
    obtain ⟨rfl, hB, hI, f1⟩ := q1
    have hs1 : RfIs σ1 s := hs.go f1 (by decide) (by decide)
    obtain ⟨⟨hL1, hL2, hL3⟩, hgs, hgm⟩ := id hB
    have vLe : (gL s).length ≤ 48 := hL1
    refine g_bp C (-5) dX8_classAt_10 (by decide) ?_
    refine g_aload_n C dX8_classAt_12 rfl ?_
    refine g_iload_n C dX8_classAt_13 rfl ?_
    refine g_callVp C (ob_X8 (by rfl)) (c_X8_classNumber (d := d) hB) dX8_classAt_14 km_RX8_115 kn_RX8 kc_yX8_classNumber ki_yX8_classNumber kx_yX8_classNumber (by omega) (by decide) ⟨by decide, by decide, rfl⟩ rfl (Nat.le_of_ble_eq_true rfl) ?_
    rcases cn_val hC k with ⟨e17, c, hc, e18, e19⟩ | ⟨e17, e18⟩
    · rw [e18]
      refine g_ifge C 25 dX8_classAt_17 (by decide) (fun h17 => ?_) (fun h17 => ?_)
      · refine g_aload_n C dX8_classAt_25 rfl ?_
        refine g_iload_n C dX8_classAt_26 rfl ?_
        refine g_callVp C (ob_X8 (by rfl)) (c_X8_classNumber (d := d) hB) dX8_classAt_27 km_RX8_115 kn_RX8 kc_yX8_classNumber ki_yX8_classNumber kx_yX8_classNumber (by omega) (by decide) ⟨by decide, by decide, rfl⟩ rfl (Nat.le_of_ble_eq_true rfl) ?_
        rw [e18]
        refine g_max C km_RX8_237 ks_yJ9_max_7cf53 kn_RJ9 kc_yJ9_max_7cf53 (by omega) (Nat.le_of_ble_eq_true rfl) dX8_classAt_30 ?_
        refine g_iret C dX8_classAt_33 ?_
        exact ⟨congrArg (fun v => some (Value.int v)) (by unfold aClassAt; rw [if_neg h1, if_pos e17, e19, if_pos (m5_lt c hc)]), hs1, f1.s (by decide)⟩
      · exact absurd (ge0_n (by omega)) h17
    · refine g_ifge C 25 dX8_classAt_17 (by decide) (fun h17 => ?_) (fun h17 => ?_)
      · exact absurd h17 e18
      · refine g_bp C (-5) dX8_classAt_20 (by decide) ?_
        refine g_goto C 30 dX8_classAt_22 (by decide) ?_
        refine g_max C km_RX8_237 ks_yJ9_max_7cf53 kn_RJ9 kc_yJ9_max_7cf53 (by omega) (Nat.le_of_ble_eq_true rfl) dX8_classAt_30 ?_
        refine g_iret C dX8_classAt_33 ?_
        exact ⟨congrArg (fun v => some (Value.int v)) (by unfold aClassAt; rw [if_neg h1, ite_self, if_neg (by rw [e17]; decide)]), hs1, f1.s (by decide)⟩
  · have h1 : k < 0 := nge0 h1
    refine g_icz (v := -1) C dX8_classAt_4 (by decide) ?_
    refine g_iret C dX8_classAt_5 ?_
    exact ⟨congrArg (fun v => some (Value.int v)) (by unfold aClassAt; rw [if_pos h1]), hs, Rs.rf⟩

set_option maxHeartbeats 4000000 in
set_option maxRecDepth 100000 in
theorem c_X8_motion {E : Ev} {d : Nat} {σ : St} {s : Ms} (hs : RfIs σ s) {w x : Int32} : Con E (d + 8) yX8_motion cX8_motion 3 ((Option.some FieldType.int)) [.ref (ev_a E 64), .int w, .int x] σ (RfTo (.int (aMotion s w x)) σ (s)) := by
  refine con_of (by decide) (Nat.le_of_ble_eq_true rfl) (fun X hX C => ?_)
  have C : Cx E X cX8_motion RX8 3 ((Option.some FieldType.int)) := C
  have h := hs.P
  have h8 := h.1
  show G E _ X _ _ _ 0 [(0, .ref (ev_a E 64)), (1, .int w), (2, .int x)] []
  refine g_iload_n C dX8_motion_0 rfl ?_
  refine g_i2l C _ dX8_motion_1 rfl ?_
  refine g_lc (v := 0) C dX8_motion_2 (by decide) ?_
  refine g_ldc2 C (5) dX8_motion_3 (List.mem_of_getElem? (i := 1048) (by decide +kernel)) ?_
  refine g_callSp C (c_X8_in (d := d) (0) (5) (by decide) (by decide)) dX8_motion_6 km_RX8_56 kn_RX8 kc_yX8_in ks_yX8_in (by omega) (by decide) ⟨by decide, by decide, rfl⟩ rfl (Nat.le_of_ble_eq_true rfl) ?_
  refine g_ifeqB C 27 dX8_motion_9 (by decide) (fun h9 => ?_) (fun h9 => ?_)
  · refine g_sp C (-1000) dX8_motion_27 (by decide) ?_
    refine g_iret C dX8_motion_30 ?_
    exact ⟨congrArg (fun v => some (Value.int v)) (by unfold aMotion; first | rw [if_pos (by rw [h9]; rfl)] | rw [if_pos (by rw [h9, h16]; rfl)] | rw [if_neg (by rw [h9, h16]; decide), if_pos (by rw [ix_nI (show m < 2 ^ 31 by omega)]; exact k24)]), hs, Rs.rf⟩
  · obtain ⟨w2, hw2, rfl⟩ := in_n (k := 5) h9
    refine g_iload_n C dX8_motion_12 rfl ?_
    refine g_callSp C (c_X8_isMove (d := d) ) dX8_motion_13 km_RX8_213 kn_RX8 kc_yX8_isMove ks_yX8_isMove (by omega) (by decide) ⟨by decide, by decide, rfl⟩ rfl (Nat.le_of_ble_eq_true rfl) ?_
    refine g_ifeqB C 27 dX8_motion_16 (by decide) (fun h16 => ?_) (fun h16 => ?_)
    · refine g_sp C (-1000) dX8_motion_27 (by decide) ?_
      refine g_iret C dX8_motion_30 ?_
      exact ⟨congrArg (fun v => some (Value.int v)) (by unfold aMotion; first | rw [if_pos (by rw [h9]; rfl)] | rw [if_pos (by rw [h9, h16]; rfl)] | rw [if_neg (by rw [h9, h16]; decide), if_pos (by rw [ix_nI (show m < 2 ^ 31 by omega)]; exact k24)]), hs, Rs.rf⟩
    · obtain ⟨m, hm, rfl⟩ := isMv_t h16
      have b1 := mvN_le (P := s.1.1.2) (n := s.1.1.1) (m := m)
      refine g_aload_n C dX8_motion_19 rfl ?_
      refine g_iload_n C dX8_motion_20 rfl ?_
      refine g_callVp C (ob_X8 (by rfl)) (c_X8_movedMany (d := d) h hm) dX8_motion_21 km_RX8_101 kn_RX8 kc_yX8_movedMany ki_yX8_movedMany kx_yX8_movedMany (by omega) (by decide) ⟨by decide, by decide, rfl⟩ rfl (Nat.le_of_ble_eq_true rfl) ?_
      refine g_ifle C 31 dX8_motion_24 (by decide) (fun h24 => ?_) (fun h24 => ?_)
      · have k24 : kpt s.1.1.2 s.1.1.1 m = true := mv_kp.mp (by have q := h24; rw [leI, Int32.toInt_zero, nI_toInt (by omega)] at q; omega)
        refine g_aload_n C dX8_motion_31 rfl ?_
        refine g_iload_n C dX8_motion_32 rfl ?_
        refine g_iload_n C dX8_motion_33 rfl ?_
        refine g_callVp C (ob_X8 (by rfl)) (c_X8_motionOf (d := d) h (by omega) hm) dX8_motion_34 km_RX8_153 kn_RX8 kc_yX8_motionOf ki_yX8_motionOf kx_yX8_motionOf (by omega) (by decide) ⟨by decide, by decide, rfl⟩ rfl (Nat.le_of_ble_eq_true rfl) ?_
        refine g_iret C dX8_motion_37 ?_
        exact ⟨congrArg (fun v => some (Value.int v)) (by unfold aMotion; rw [if_neg (by rw [h9, h16]; decide), if_neg (by rw [ix_nI (show m < 2 ^ 31 by omega), k24]; decide), ix_nI (show m < 2 ^ 31 by omega), ix_nI (show w2 < 2 ^ 31 by omega)]; rfl), hs, Rs.rf⟩
      · have k24 : kpt s.1.1.2 s.1.1.1 m = false := by cases c : kpt s.1.1.2 s.1.1.1 m with | false => rfl | true => exact absurd (by rw [mv_kp.mpr c]; decide) h24
        refine g_sp C (-1000) dX8_motion_27 (by decide) ?_
        refine g_iret C dX8_motion_30 ?_
        exact ⟨congrArg (fun v => some (Value.int v)) (by unfold aMotion; first | rw [if_pos (by rw [h9]; rfl)] | rw [if_pos (by rw [h9, h16]; rfl)] | rw [if_neg (by rw [h9, h16]; decide), if_pos (by rw [ix_nI (show m < 2 ^ 31 by omega)]; exact k24)]), hs, Rs.rf⟩

set_option maxHeartbeats 4000000 in
set_option maxRecDepth 100000 in
theorem c_X8_sign {E : Ev} {d : Nat} {σ : St} {s : Ms} (hs : RfIs σ s) (hS : BrS (gL s)) {k x : Int32} : Con E (d + 10) yX8_sign cX8_sign 3 ((Option.some FieldType.int)) [.ref (ev_a E 64), .int k, .int x] σ (RfTo (.int (aSign s k x)) σ (s)) := by
  refine con_of (by decide) (Nat.le_of_ble_eq_true rfl) (fun X hX C => ?_)
  have C : Cx E X cX8_sign RX8 3 ((Option.some FieldType.int)) := C
  have h := hs.P
  have h8 := h.1
  obtain ⟨hfin, hL0, A, hA, hAl, hAv⟩ := id hS
  show G E _ X _ _ _ 0 [(0, .ref (ev_a E 64)), (1, .int k), (2, .int x)] []
  refine g_iload_n C dX8_sign_0 rfl ?_
  refine g_iflt C 11 dX8_sign_1 (by decide) (fun h1 => ?_) (fun h1 => ?_)
  · refine g_ic (n := 0) C dX8_sign_11 (by decide) ?_
    refine g_iret C dX8_sign_12 ?_
    exact ⟨congrArg (fun v => some (Value.int v)) (by unfold aSign; first | (rw [if_pos h1]; done) | (rw [if_pos h1]; rfl) | (rw [if_neg h1, if_pos h8]; done) | (rw [if_neg h1, if_pos h8]; rfl)), hs, Rs.rf⟩
  · refine g_iload_n C dX8_sign_4 rfl ?_
    refine g_callSp C (c_X8_isMove (d := d) ) dX8_sign_5 km_RX8_213 kn_RX8 kc_yX8_isMove ks_yX8_isMove (by omega) (by decide) ⟨by decide, by decide, rfl⟩ rfl (Nat.le_of_ble_eq_true rfl) ?_
    refine g_ifneB C 13 dX8_sign_8 (by decide) (fun h8 => ?_) (fun h8 => ?_)
    · obtain ⟨m, hm, rfl⟩ := isMv_t h8
      refine g_aload_n C dX8_sign_13 rfl ?_
      refine g_callV C (ob_X8 (by rfl)) (c_X8_findsSigns (d := d) h hA) dX8_sign_14 km_RX8_219 kn_RX8 kc_yX8_findsSigns ki_yX8_findsSigns kx_yX8_findsSigns (by omega) (by decide) ⟨by decide, by decide, rfl⟩ rfl (Nat.le_of_ble_eq_true rfl) (fun r1 σ1 q1 => ?_)
      obtain ⟨rfl, hB, hI, hG, f1⟩ := q1
      have hs1 : RfIs σ1 s := hs.go f1 (by decide) (by decide)
      have vLe : (gL s).length ≤ 48 := hB.1.1
      have hA64 := hG.2.1
      refine g_iload_n C dX8_sign_17 rfl ?_
      refine g_aload_n C dX8_sign_18 rfl ?_
      refine gf_X8_signMany C (by rfl) dX8_sign_19 kf_RX8_144 ?_
      rw [hG.1]
      refine g_icge C 48 dX8_sign_22 (by decide) (fun h22 => ?_) (fun h22 => ?_)
      · have e22 := in_k0 (n := A.length) (by omega) h22
        refine g_ic (n := 0) C dX8_sign_48 (by decide) ?_
        refine g_iret C dX8_sign_49 ?_
        exact ⟨congrArg (fun v => some (Value.int v)) (by unfold aSign; rw [← hAl, if_neg h1, if_neg (by rw [h8]; decide)]; first | (rw [if_neg (by rw [ix_nI (show m < 2 ^ 31 by omega), h31]; decide), if_pos e22, ix_nI (show m < 2 ^ 31 by omega), ix_nI (show j < 2 ^ 31 by omega)]; done) | (rw [if_pos (by rw [ix_nI (show m < 2 ^ 31 by omega)]; exact h31)]; rfl) | (split; rfl; rw [if_neg (by rw [e22]; decide)]; rfl)), hs1, f1.s (by decide)⟩
      · obtain ⟨e22, j, hj, rfl⟩ := in_k1 (n := A.length) (by omega) h1 h22
        refine g_aload_n C dX8_sign_25 rfl ?_
        refine gf_X8_isIn C (by rfl) dX8_sign_26 kf_RX8_24 ?_
        refine g_iload_n C dX8_sign_29 rfl ?_
        refine g_zaldN C (by rfl) (hm) (by first | decide | omega) dX8_sign_30 ?_
        rw [hI m hm]
        refine g_ifeqB C 48 dX8_sign_31 (by decide) (fun h31 => ?_) (fun h31 => ?_)
        · refine g_ic (n := 0) C dX8_sign_48 (by decide) ?_
          refine g_iret C dX8_sign_49 ?_
          exact ⟨congrArg (fun v => some (Value.int v)) (by unfold aSign; rw [← hAl, if_neg h1, if_neg (by rw [h8]; decide)]; first | (rw [if_neg (by rw [ix_nI (show m < 2 ^ 31 by omega), h31]; decide), if_pos e22, ix_nI (show m < 2 ^ 31 by omega), ix_nI (show j < 2 ^ 31 by omega)]; done) | (rw [if_pos (by rw [ix_nI (show m < 2 ^ 31 by omega)]; exact h31)]; rfl) | (split; rfl; rw [if_neg (by rw [e22]; decide)]; rfl)), hs1, f1.s (by decide)⟩
        · refine g_aload_n C dX8_sign_34 rfl ?_
          refine gf_X8_signs C (by rfl) dX8_sign_35 kf_RX8_37 ?_
          refine g_bp C (nI 48) dX8_sign_38 (by decide) ?_
          refine g_iload_n C dX8_sign_40 rfl ?_
          refine g_imulN C dX8_sign_41 ?_
          refine g_iload_n C dX8_sign_42 rfl ?_
          refine g_iaddN C dX8_sign_43 ?_
          refine g_ialdN C (by rfl) (by omega) (by first | decide | omega) dX8_sign_44 ?_
          rw [hG.2.2 j hj m hm, hAv j hj m (gLst_in.mpr ⟨hm, h31⟩)]
          refine g_goto C 49 dX8_sign_45 (by decide) ?_
          refine g_iret C dX8_sign_49 ?_
          exact ⟨congrArg (fun v => some (Value.int v)) (by unfold aSign; rw [← hAl, if_neg h1, if_neg (by rw [h8]; decide)]; first | (rw [if_neg (by rw [ix_nI (show m < 2 ^ 31 by omega), h31]; decide), if_pos e22, ix_nI (show m < 2 ^ 31 by omega), ix_nI (show j < 2 ^ 31 by omega)]; done) | (rw [if_pos (by rw [ix_nI (show m < 2 ^ 31 by omega)]; exact h31)]; rfl) | (split; rfl; rw [if_neg (by rw [e22]; decide)]; rfl)), hs1, f1.s (by decide)⟩
    · refine g_ic (n := 0) C dX8_sign_11 (by decide) ?_
      refine g_iret C dX8_sign_12 ?_
      exact ⟨congrArg (fun v => some (Value.int v)) (by unfold aSign; first | (rw [if_pos h1]; done) | (rw [if_pos h1]; rfl) | (rw [if_neg h1, if_pos h8]; done) | (rw [if_neg h1, if_pos h8]; rfl)), hs, Rs.rf⟩

theorem hs_eq {s : Ms} {w k : Nat} (h0 : 0 < (gL s).length) : tmL (gL s) w k (fun m => syL s.1.1.2 s.1.1.1 m s.1.1.1 0 (nI 0)) (fun m => syL s.1.1.2 s.1.1.1 m s.1.1.1 0 (nI 0)) (fun j => ptV (gL s) (lg (gL s) j)) (gL s).length 0 (nI 0) / nI (gL s).length = hsV s w k := by
  unfold hsV
  rw [if_neg (by omega)]
  rfl

set_option maxHeartbeats 4000000 in
set_option maxRecDepth 100000 in
theorem c_X8_has {E : Ev} {d : Nat} {σ : St} {s : Ms} (hs : RfIs σ s) (hS : BrS (gL s)) {w k : Int32} : Con E (d + 10) yX8_has cX8_has 3 ((Option.some FieldType.int)) [.ref (ev_a E 64), .int w, .int k] σ (RfTo (.int (aHas s w k)) σ (s)) := by
  refine con_of (by decide) (Nat.le_of_ble_eq_true rfl) (fun X hX C => ?_)
  have C : Cx E X cX8_has RX8 3 ((Option.some FieldType.int)) := C
  have h := hs.P
  have h8 := h.1
  obtain ⟨hfin, hL0, A, hA, hAl, hAv⟩ := id hS
  show G E _ X _ _ _ 0 [(0, .ref (ev_a E 64)), (1, .int w), (2, .int k)] []
  refine g_aload_n C dX8_has_0 rfl ?_
  refine g_callV C (ob_X8 (by rfl)) (c_X8_findsSigns (d := d) h hA) dX8_has_1 km_RX8_219 kn_RX8 kc_yX8_findsSigns ki_yX8_findsSigns kx_yX8_findsSigns (by omega) (by decide) ⟨by decide, by decide, rfl⟩ rfl (Nat.le_of_ble_eq_true rfl) (fun r1 σ1 q1 => ?_)
  obtain ⟨rfl, hB, hI, hG, f1⟩ := q1
  have hs1 : RfIs σ1 s := hs.go f1 (by decide) (by decide)
  have vLe : (gL s).length ≤ 48 := hB.1.1
  have hA64 := hG.2.1
  have hsg : ∀ u, u < A.length → ∀ j, j < (gL s).length → σ1.1 73 (48 * u + lg (gL s) j) = sgV u (ptV (gL s) (lg (gL s) j)) := fun u hu j hj => by rw [hG.2.2 u hu _ (hB.1.2.1 j hj)]; exact hAv u hu _ (lg_in hj)
  refine g_iload_n C dX8_has_4 rfl ?_
  refine g_i2l C _ dX8_has_5 rfl ?_
  refine g_lc (v := 0) C dX8_has_6 (by decide) ?_
  refine g_ldc2 C (5) dX8_has_7 (List.mem_of_getElem? (i := 1048) (by decide +kernel)) ?_
  refine g_callSp C (c_X8_in (d := d) (0) (5) (by decide) (by decide)) dX8_has_10 km_RX8_56 kn_RX8 kc_yX8_in ks_yX8_in (by omega) (by decide) ⟨by decide, by decide, rfl⟩ rfl (Nat.le_of_ble_eq_true rfl) ?_
  refine g_ifeqB C 41 dX8_has_13 (by decide) (fun h13 => ?_) (fun h13 => ?_)
  · refine g_sp C (-1000) dX8_has_41 (by decide) ?_
    refine g_iret C dX8_has_44 ?_
    exact ⟨congrArg (fun v => some (Value.int v)) (by unfold aHas; rw [← hAl]; first | (rw [if_pos h13]; done) | (rw [if_neg (by rw [h13]; decide), if_neg (nI_pos (by omega)), if_pos h29, ix_nI (show w2 < 2 ^ 31 by omega), ix_nI (show j < 2 ^ 31 by omega)]; done) | (rw [if_neg (by rw [h13]; decide)]; split; rfl; rw [if_neg (by rw [h29]; decide)])), hs1, f1.s (by decide)⟩
  · obtain ⟨w2, hw2, rfl⟩ := in_n (k := 5) h13
    refine g_iload_n C dX8_has_16 rfl ?_
    refine g_i2l C _ dX8_has_17 rfl ?_
    refine g_lc (v := 0) C dX8_has_18 (by decide) ?_
    refine g_aload_n C dX8_has_19 rfl ?_
    refine gf_X8_signMany C (by rfl) dX8_has_20 kf_RX8_144 ?_
    rw [hG.1]
    refine g_ic (n := 1) C dX8_has_23 (by decide) ?_
    refine g_isub C dX8_has_24 ?_
    refine g_i2l C _ dX8_has_25 rfl ?_
    refine g_callSp C (c_X8_in (d := d) (0) ((A.length : Int) - 1) (by decide) (n1_64g (by omega))) dX8_has_26 km_RX8_56 kn_RX8 kc_yX8_in ks_yX8_in (by omega) (by decide) ⟨by decide, by decide, rfl⟩ rfl (Nat.le_of_ble_eq_true rfl) ?_
    refine g_ifeqB C 41 dX8_has_29 (by decide) (fun h29 => ?_) (fun h29 => ?_)
    · refine g_sp C (-1000) dX8_has_41 (by decide) ?_
      refine g_iret C dX8_has_44 ?_
      exact ⟨congrArg (fun v => some (Value.int v)) (by unfold aHas; rw [← hAl]; first | (rw [if_pos h13]; done) | (rw [if_neg (by rw [h13]; decide), if_neg (nI_pos (by omega)), if_pos h29, ix_nI (show w2 < 2 ^ 31 by omega), ix_nI (show j < 2 ^ 31 by omega)]; done) | (rw [if_neg (by rw [h13]; decide)]; split; rfl; rw [if_neg (by rw [h29]; decide)])), hs1, f1.s (by decide)⟩
    · obtain ⟨j, hj, rfl⟩ := in_nZ (n := A.length) (by omega) h29
      refine g_aload_n C dX8_has_32 rfl ?_
      refine g_iload_n C dX8_has_33 rfl ?_
      refine g_iload_n C dX8_has_34 rfl ?_
      refine g_callVp C (ob_X8 (by rfl)) (c_X8_hasOf (d := d) (w := w2) (u := j) (pt := fun j => ptV (gL s) (lg (gL s) j)) hs1.P hB (by omega) (by omega) hL0 (hsg j (by omega))) dX8_has_35 km_RX8_242 kn_RX8 kc_yX8_hasOf ki_yX8_hasOf kx_yX8_hasOf (by omega) (by decide) ⟨by decide, by decide, rfl⟩ rfl (Nat.le_of_ble_eq_true rfl) ?_
      rw [hs_eq hL0]
      refine g_goto C 44 dX8_has_38 (by decide) ?_
      refine g_iret C dX8_has_44 ?_
      exact ⟨congrArg (fun v => some (Value.int v)) (by unfold aHas; rw [← hAl]; first | (rw [if_pos h13]; done) | (rw [if_neg (by rw [h13]; decide), if_neg (nI_pos (by omega)), if_pos h29, ix_nI (show w2 < 2 ^ 31 by omega), ix_nI (show j < 2 ^ 31 by omega)]; done) | (rw [if_neg (by rw [h13]; decide)]; split; rfl; rw [if_neg (by rw [h29]; decide)])), hs1, f1.s (by decide)⟩

theorem gt0 {x : Int32} (h : ¬ x ≤ 0) : 0 < x := by rw [leI, Int32.toInt_zero] at h; rw [ltI, Int32.toInt_zero]; omega
theorem le0n {x : Int32} (h : x ≤ 0) : ¬ 0 < x := fun q => by rw [leI, Int32.toInt_zero] at h; rw [ltI, Int32.toInt_zero] at q; omega
theorem or0 (a : Int32) : a ||| nI 0 = a := by rw [show nI 0 = 0 from rfl]; exact Int32.or_zero

set_option maxHeartbeats 4000000 in
set_option maxRecDepth 100000 in
theorem l_X8_active {E : Ev} {d : Nat} {X : Mx} (C : Cx E X cX8_active RX8 6 ((Option.some FieldType.int))) {σ : St} {s : Ms} {A : List T3} {w : Nat} (h : PIs σ s.1.1.1 s.1.1.2) (hB : GmB σ (gL s)) (hG : GsB σ A) (hw : w < 3) (hL0 : 0 < (gL s).length) (hsg : ∀ u, u < A.length → ∀ j, j < (gL s).length → σ.1 73 (48 * u + lg (gL s) j) = sgV u (ptV (gL s) (lg (gL s) j))) : ∀ (k : Nat) (j : Nat) (a : Int32), A.length = j + k → G E (d + 9) X 6 (Det (some (.int (acL s w k j a))) σ) σ 22 ([(0, .ref (ev_a E 64)), (1, .int (nI w)), (2, .int a), (3, .int (nI j))]) [] := by
  intro k
  induction k with
  | zero =>
    intro j a hj
    have hA64 := hG.2.1
    refine g_iload_n C dX8_active_22 rfl ?_
    refine g_aload_n C dX8_active_23 rfl ?_
    refine gf_X8_signMany C (by rfl) dX8_active_24 kf_RX8_144 ?_
    rw [hG.1]
    refine g_icgeN C 113 dX8_active_27 (by decide) (by omega) (by omega) (fun h27 => ?_) (fun h27 => ?_)
    · refine g_iload_n C dX8_active_113 rfl ?_
      refine g_iret C dX8_active_114 ?_
      exact ⟨rfl, rfl⟩
    · omega
  | succ k ih =>
    intro j a hj
    have hA64 := hG.2.1
    refine g_iload_n C dX8_active_22 rfl ?_
    refine g_aload_n C dX8_active_23 rfl ?_
    refine gf_X8_signMany C (by rfl) dX8_active_24 kf_RX8_144 ?_
    rw [hG.1]
    refine g_icgeN C 113 dX8_active_27 (by decide) (by omega) (by omega) (fun h27 => ?_) (fun h27 => ?_)
    · omega
    · refine g_aload_n C dX8_active_30 rfl ?_
      refine g_ic (n := 2) C dX8_active_31 (by decide) ?_
      refine g_iload_n C dX8_active_32 rfl ?_
      refine g_callVp C (ob_X8 (by rfl)) (c_X8_hasOf (d := d) (w := 2) (u := j) (pt := fun j => ptV (gL s) (lg (gL s) j)) h hB (by omega) (by omega) hL0 (hsg j (by omega))) dX8_active_33 km_RX8_242 kn_RX8 kc_yX8_hasOf ki_yX8_hasOf kx_yX8_hasOf (by omega) (by decide) ⟨by decide, by decide, rfl⟩ rfl (Nat.le_of_ble_eq_true rfl) ?_
      rw [hs_eq hL0]
      refine g_ifle C 43 dX8_active_36 (by decide) (fun h36 => ?_) (fun h36 => ?_)
      · refine g_ic (n := 0) C dX8_active_43 (by decide) ?_
        rw [show nI 0 = bI (decide (0 < hsV s 2 j)) from by rw [decide_eq_false (le0n h36)]; rfl]
        refine g_istore C dX8_active_44 (by decide) ?_
        refine g_aload_n C dX8_active_46 rfl ?_
        refine g_ic (n := 5) C dX8_active_47 (by decide) ?_
        refine g_iload_n C dX8_active_48 rfl ?_
        refine g_callVp C (ob_X8 (by rfl)) (c_X8_hasOf (d := d) (w := 5) (u := j) (pt := fun j => ptV (gL s) (lg (gL s) j)) h hB (by omega) (by omega) hL0 (hsg j (by omega))) dX8_active_49 km_RX8_242 kn_RX8 kc_yX8_hasOf ki_yX8_hasOf kx_yX8_hasOf (by omega) (by decide) ⟨by decide, by decide, rfl⟩ rfl (Nat.le_of_ble_eq_true rfl) ?_
        rw [hs_eq hL0]
        refine g_ifle C 59 dX8_active_52 (by decide) (fun h52 => ?_) (fun h52 => ?_)
        · refine g_ic (n := 0) C dX8_active_59 (by decide) ?_
          rw [show nI 0 = bI (decide (0 < hsV s 5 j)) from by rw [decide_eq_false (le0n h52)]; rfl]
          refine g_istore C dX8_active_60 (by decide) ?_
          rcases (show w = 0 ∨ w = 1 ∨ w = 2 from by omega) with rfl | rfl | rfl
          · refine g_iload_n C dX8_active_62 rfl ?_
            refine g_iload_n C dX8_active_63 rfl ?_
            refine g_ifneN C 75 dX8_active_64 (by decide) (by omega) (fun h64 => ?_) (fun h64 => ?_)
            · exact absurd rfl h64
            · refine g_iload C dX8_active_67 rfl ?_
              refine g_ifeqB C 104 dX8_active_69 (by decide) (fun h69 => ?_) (fun h69 => ?_)
              · have e : acL s 0 (k + 1) j a = acL s 0 k (j + 1) (a ||| nI 0) := by rw [acL, if_neg (by rw [show acB s 0 j = false from by show acB s 0 j = false; exact h69]; decide), or0]
                refine g_ic (n := 0) C dX8_active_104 (by decide) ?_
                refine g_ior C dX8_active_105 ?_
                refine g_istore_n C dX8_active_106 (by decide) ?_
                refine g_iinc1 C dX8_active_107 rfl (by decide) ?_
                refine g_goto C 22 dX8_active_110 (by decide) ?_
                rw [e]
                first | (refine g_loc ([(0, .ref (ev_a E 64)), (1, .int (nI 0)), (2, .int (a ||| nI 1 <<< (nI j &&& 31))), (3, .int (nI (j + 1)))]) (And.intro rfl (And.intro rfl (And.intro rfl (And.intro rfl trivial)))) ?_; exact ih (j + 1) _ (by omega)) | (refine g_loc ([(0, .ref (ev_a E 64)), (1, .int (nI 0)), (2, .int (a ||| nI 0)), (3, .int (nI (j + 1)))]) (And.intro rfl (And.intro rfl (And.intro rfl (And.intro rfl trivial)))) ?_; exact ih (j + 1) _ (by omega))
              · refine g_goto C 98 dX8_active_72 (by decide) ?_
                have e : acL s 0 (k + 1) j a = acL s 0 k (j + 1) (a ||| nI 1 <<< (nI j &&& 31)) := by rw [acL, if_pos (show acB s 0 j = true from by show acB s 0 j = true; exact h69)]
                refine g_ic (n := 1) C dX8_active_98 (by decide) ?_
                refine g_iload_n C dX8_active_99 rfl ?_
                refine g_ishl C dX8_active_100 ?_
                refine g_goto C 105 dX8_active_101 (by decide) ?_
                refine g_ior C dX8_active_105 ?_
                refine g_istore_n C dX8_active_106 (by decide) ?_
                refine g_iinc1 C dX8_active_107 rfl (by decide) ?_
                refine g_goto C 22 dX8_active_110 (by decide) ?_
                rw [e]
                first | (refine g_loc ([(0, .ref (ev_a E 64)), (1, .int (nI 0)), (2, .int (a ||| nI 1 <<< (nI j &&& 31))), (3, .int (nI (j + 1)))]) (And.intro rfl (And.intro rfl (And.intro rfl (And.intro rfl trivial)))) ?_; exact ih (j + 1) _ (by omega)) | (refine g_loc ([(0, .ref (ev_a E 64)), (1, .int (nI 0)), (2, .int (a ||| nI 0)), (3, .int (nI (j + 1)))]) (And.intro rfl (And.intro rfl (And.intro rfl (And.intro rfl trivial)))) ?_; exact ih (j + 1) _ (by omega))
          · refine g_iload_n C dX8_active_62 rfl ?_
            refine g_iload_n C dX8_active_63 rfl ?_
            refine g_ifneN C 75 dX8_active_64 (by decide) (by omega) (fun h64 => ?_) (fun h64 => ?_)
            · refine g_iload_n C dX8_active_75 rfl ?_
              refine g_ic (n := 1) C dX8_active_76 (by decide) ?_
              refine g_icneN C 88 dX8_active_77 (by decide) (by omega) (by omega) (fun h77 => ?_) (fun h77 => ?_)
              · exact absurd rfl h77
              · refine g_iload C dX8_active_80 rfl ?_
                refine g_ifeqB C 104 dX8_active_82 (by decide) (fun h82 => ?_) (fun h82 => ?_)
                · have e : acL s 1 (k + 1) j a = acL s 1 k (j + 1) (a ||| nI 0) := by rw [acL, if_neg (by rw [show acB s 1 j = false from by show acB s 1 j = false; exact h82]; decide), or0]
                  refine g_ic (n := 0) C dX8_active_104 (by decide) ?_
                  refine g_ior C dX8_active_105 ?_
                  refine g_istore_n C dX8_active_106 (by decide) ?_
                  refine g_iinc1 C dX8_active_107 rfl (by decide) ?_
                  refine g_goto C 22 dX8_active_110 (by decide) ?_
                  rw [e]
                  first | (refine g_loc ([(0, .ref (ev_a E 64)), (1, .int (nI 1)), (2, .int (a ||| nI 1 <<< (nI j &&& 31))), (3, .int (nI (j + 1)))]) (And.intro rfl (And.intro rfl (And.intro rfl (And.intro rfl trivial)))) ?_; exact ih (j + 1) _ (by omega)) | (refine g_loc ([(0, .ref (ev_a E 64)), (1, .int (nI 1)), (2, .int (a ||| nI 0)), (3, .int (nI (j + 1)))]) (And.intro rfl (And.intro rfl (And.intro rfl (And.intro rfl trivial)))) ?_; exact ih (j + 1) _ (by omega))
                · refine g_goto C 98 dX8_active_85 (by decide) ?_
                  have e : acL s 1 (k + 1) j a = acL s 1 k (j + 1) (a ||| nI 1 <<< (nI j &&& 31)) := by rw [acL, if_pos (show acB s 1 j = true from by show acB s 1 j = true; exact h82)]
                  refine g_ic (n := 1) C dX8_active_98 (by decide) ?_
                  refine g_iload_n C dX8_active_99 rfl ?_
                  refine g_ishl C dX8_active_100 ?_
                  refine g_goto C 105 dX8_active_101 (by decide) ?_
                  refine g_ior C dX8_active_105 ?_
                  refine g_istore_n C dX8_active_106 (by decide) ?_
                  refine g_iinc1 C dX8_active_107 rfl (by decide) ?_
                  refine g_goto C 22 dX8_active_110 (by decide) ?_
                  rw [e]
                  first | (refine g_loc ([(0, .ref (ev_a E 64)), (1, .int (nI 1)), (2, .int (a ||| nI 1 <<< (nI j &&& 31))), (3, .int (nI (j + 1)))]) (And.intro rfl (And.intro rfl (And.intro rfl (And.intro rfl trivial)))) ?_; exact ih (j + 1) _ (by omega)) | (refine g_loc ([(0, .ref (ev_a E 64)), (1, .int (nI 1)), (2, .int (a ||| nI 0)), (3, .int (nI (j + 1)))]) (And.intro rfl (And.intro rfl (And.intro rfl (And.intro rfl trivial)))) ?_; exact ih (j + 1) _ (by omega))
            · exact absurd h64 (by decide)
          · refine g_iload_n C dX8_active_62 rfl ?_
            refine g_iload_n C dX8_active_63 rfl ?_
            refine g_ifneN C 75 dX8_active_64 (by decide) (by omega) (fun h64 => ?_) (fun h64 => ?_)
            · refine g_iload_n C dX8_active_75 rfl ?_
              refine g_ic (n := 1) C dX8_active_76 (by decide) ?_
              refine g_icneN C 88 dX8_active_77 (by decide) (by omega) (by omega) (fun h77 => ?_) (fun h77 => ?_)
              · refine g_iload C dX8_active_88 rfl ?_
                refine g_ifneB C 104 dX8_active_90 (by decide) (fun h90 => ?_) (fun h90 => ?_)
                · have e : acL s 2 (k + 1) j a = acL s 2 k (j + 1) (a ||| nI 0) := by rw [acL, if_neg (by rw [show acB s 2 j = false from by show (!decide (0 < hsV s 2 j) && !decide (0 < hsV s 5 j)) = false; cases c2 : decide (0 < hsV s 2 j) <;> cases c5 : decide (0 < hsV s 5 j) <;> first | rfl | simp_all]; decide), or0]
                  refine g_ic (n := 0) C dX8_active_104 (by decide) ?_
                  refine g_ior C dX8_active_105 ?_
                  refine g_istore_n C dX8_active_106 (by decide) ?_
                  refine g_iinc1 C dX8_active_107 rfl (by decide) ?_
                  refine g_goto C 22 dX8_active_110 (by decide) ?_
                  rw [e]
                  first | (refine g_loc ([(0, .ref (ev_a E 64)), (1, .int (nI 2)), (2, .int (a ||| nI 1 <<< (nI j &&& 31))), (3, .int (nI (j + 1)))]) (And.intro rfl (And.intro rfl (And.intro rfl (And.intro rfl trivial)))) ?_; exact ih (j + 1) _ (by omega)) | (refine g_loc ([(0, .ref (ev_a E 64)), (1, .int (nI 2)), (2, .int (a ||| nI 0)), (3, .int (nI (j + 1)))]) (And.intro rfl (And.intro rfl (And.intro rfl (And.intro rfl trivial)))) ?_; exact ih (j + 1) _ (by omega))
                · refine g_iload C dX8_active_93 rfl ?_
                  refine g_ifneB C 104 dX8_active_95 (by decide) (fun h95 => ?_) (fun h95 => ?_)
                  · have e : acL s 2 (k + 1) j a = acL s 2 k (j + 1) (a ||| nI 0) := by rw [acL, if_neg (by rw [show acB s 2 j = false from by show (!decide (0 < hsV s 2 j) && !decide (0 < hsV s 5 j)) = false; cases c2 : decide (0 < hsV s 2 j) <;> cases c5 : decide (0 < hsV s 5 j) <;> first | rfl | simp_all]; decide), or0]
                    refine g_ic (n := 0) C dX8_active_104 (by decide) ?_
                    refine g_ior C dX8_active_105 ?_
                    refine g_istore_n C dX8_active_106 (by decide) ?_
                    refine g_iinc1 C dX8_active_107 rfl (by decide) ?_
                    refine g_goto C 22 dX8_active_110 (by decide) ?_
                    rw [e]
                    first | (refine g_loc ([(0, .ref (ev_a E 64)), (1, .int (nI 2)), (2, .int (a ||| nI 1 <<< (nI j &&& 31))), (3, .int (nI (j + 1)))]) (And.intro rfl (And.intro rfl (And.intro rfl (And.intro rfl trivial)))) ?_; exact ih (j + 1) _ (by omega)) | (refine g_loc ([(0, .ref (ev_a E 64)), (1, .int (nI 2)), (2, .int (a ||| nI 0)), (3, .int (nI (j + 1)))]) (And.intro rfl (And.intro rfl (And.intro rfl (And.intro rfl trivial)))) ?_; exact ih (j + 1) _ (by omega))
                  · have e : acL s 2 (k + 1) j a = acL s 2 k (j + 1) (a ||| nI 1 <<< (nI j &&& 31)) := by rw [acL, if_pos (show acB s 2 j = true from by show (!decide (0 < hsV s 2 j) && !decide (0 < hsV s 5 j)) = true; rw [h90, h95]; rfl)]
                    refine g_ic (n := 1) C dX8_active_98 (by decide) ?_
                    refine g_iload_n C dX8_active_99 rfl ?_
                    refine g_ishl C dX8_active_100 ?_
                    refine g_goto C 105 dX8_active_101 (by decide) ?_
                    refine g_ior C dX8_active_105 ?_
                    refine g_istore_n C dX8_active_106 (by decide) ?_
                    refine g_iinc1 C dX8_active_107 rfl (by decide) ?_
                    refine g_goto C 22 dX8_active_110 (by decide) ?_
                    rw [e]
                    first | (refine g_loc ([(0, .ref (ev_a E 64)), (1, .int (nI 2)), (2, .int (a ||| nI 1 <<< (nI j &&& 31))), (3, .int (nI (j + 1)))]) (And.intro rfl (And.intro rfl (And.intro rfl (And.intro rfl trivial)))) ?_; exact ih (j + 1) _ (by omega)) | (refine g_loc ([(0, .ref (ev_a E 64)), (1, .int (nI 2)), (2, .int (a ||| nI 0)), (3, .int (nI (j + 1)))]) (And.intro rfl (And.intro rfl (And.intro rfl (And.intro rfl trivial)))) ?_; exact ih (j + 1) _ (by omega))
              · exact absurd h77 (by decide)
            · exact absurd h64 (by decide)
        · refine g_ic (n := 1) C dX8_active_55 (by decide) ?_
          rw [show nI 1 = bI (decide (0 < hsV s 5 j)) from by rw [decide_eq_true (gt0 h52)]; rfl]
          refine g_goto C 60 dX8_active_56 (by decide) ?_
          refine g_istore C dX8_active_60 (by decide) ?_
          rcases (show w = 0 ∨ w = 1 ∨ w = 2 from by omega) with rfl | rfl | rfl
          · refine g_iload_n C dX8_active_62 rfl ?_
            refine g_iload_n C dX8_active_63 rfl ?_
            refine g_ifneN C 75 dX8_active_64 (by decide) (by omega) (fun h64 => ?_) (fun h64 => ?_)
            · exact absurd rfl h64
            · refine g_iload C dX8_active_67 rfl ?_
              refine g_ifeqB C 104 dX8_active_69 (by decide) (fun h69 => ?_) (fun h69 => ?_)
              · have e : acL s 0 (k + 1) j a = acL s 0 k (j + 1) (a ||| nI 0) := by rw [acL, if_neg (by rw [show acB s 0 j = false from by show acB s 0 j = false; exact h69]; decide), or0]
                refine g_ic (n := 0) C dX8_active_104 (by decide) ?_
                refine g_ior C dX8_active_105 ?_
                refine g_istore_n C dX8_active_106 (by decide) ?_
                refine g_iinc1 C dX8_active_107 rfl (by decide) ?_
                refine g_goto C 22 dX8_active_110 (by decide) ?_
                rw [e]
                first | (refine g_loc ([(0, .ref (ev_a E 64)), (1, .int (nI 0)), (2, .int (a ||| nI 1 <<< (nI j &&& 31))), (3, .int (nI (j + 1)))]) (And.intro rfl (And.intro rfl (And.intro rfl (And.intro rfl trivial)))) ?_; exact ih (j + 1) _ (by omega)) | (refine g_loc ([(0, .ref (ev_a E 64)), (1, .int (nI 0)), (2, .int (a ||| nI 0)), (3, .int (nI (j + 1)))]) (And.intro rfl (And.intro rfl (And.intro rfl (And.intro rfl trivial)))) ?_; exact ih (j + 1) _ (by omega))
              · refine g_goto C 98 dX8_active_72 (by decide) ?_
                have e : acL s 0 (k + 1) j a = acL s 0 k (j + 1) (a ||| nI 1 <<< (nI j &&& 31)) := by rw [acL, if_pos (show acB s 0 j = true from by show acB s 0 j = true; exact h69)]
                refine g_ic (n := 1) C dX8_active_98 (by decide) ?_
                refine g_iload_n C dX8_active_99 rfl ?_
                refine g_ishl C dX8_active_100 ?_
                refine g_goto C 105 dX8_active_101 (by decide) ?_
                refine g_ior C dX8_active_105 ?_
                refine g_istore_n C dX8_active_106 (by decide) ?_
                refine g_iinc1 C dX8_active_107 rfl (by decide) ?_
                refine g_goto C 22 dX8_active_110 (by decide) ?_
                rw [e]
                first | (refine g_loc ([(0, .ref (ev_a E 64)), (1, .int (nI 0)), (2, .int (a ||| nI 1 <<< (nI j &&& 31))), (3, .int (nI (j + 1)))]) (And.intro rfl (And.intro rfl (And.intro rfl (And.intro rfl trivial)))) ?_; exact ih (j + 1) _ (by omega)) | (refine g_loc ([(0, .ref (ev_a E 64)), (1, .int (nI 0)), (2, .int (a ||| nI 0)), (3, .int (nI (j + 1)))]) (And.intro rfl (And.intro rfl (And.intro rfl (And.intro rfl trivial)))) ?_; exact ih (j + 1) _ (by omega))
          · refine g_iload_n C dX8_active_62 rfl ?_
            refine g_iload_n C dX8_active_63 rfl ?_
            refine g_ifneN C 75 dX8_active_64 (by decide) (by omega) (fun h64 => ?_) (fun h64 => ?_)
            · refine g_iload_n C dX8_active_75 rfl ?_
              refine g_ic (n := 1) C dX8_active_76 (by decide) ?_
              refine g_icneN C 88 dX8_active_77 (by decide) (by omega) (by omega) (fun h77 => ?_) (fun h77 => ?_)
              · exact absurd rfl h77
              · refine g_iload C dX8_active_80 rfl ?_
                refine g_ifeqB C 104 dX8_active_82 (by decide) (fun h82 => ?_) (fun h82 => ?_)
                · have e : acL s 1 (k + 1) j a = acL s 1 k (j + 1) (a ||| nI 0) := by rw [acL, if_neg (by rw [show acB s 1 j = false from by show acB s 1 j = false; exact h82]; decide), or0]
                  refine g_ic (n := 0) C dX8_active_104 (by decide) ?_
                  refine g_ior C dX8_active_105 ?_
                  refine g_istore_n C dX8_active_106 (by decide) ?_
                  refine g_iinc1 C dX8_active_107 rfl (by decide) ?_
                  refine g_goto C 22 dX8_active_110 (by decide) ?_
                  rw [e]
                  first | (refine g_loc ([(0, .ref (ev_a E 64)), (1, .int (nI 1)), (2, .int (a ||| nI 1 <<< (nI j &&& 31))), (3, .int (nI (j + 1)))]) (And.intro rfl (And.intro rfl (And.intro rfl (And.intro rfl trivial)))) ?_; exact ih (j + 1) _ (by omega)) | (refine g_loc ([(0, .ref (ev_a E 64)), (1, .int (nI 1)), (2, .int (a ||| nI 0)), (3, .int (nI (j + 1)))]) (And.intro rfl (And.intro rfl (And.intro rfl (And.intro rfl trivial)))) ?_; exact ih (j + 1) _ (by omega))
                · refine g_goto C 98 dX8_active_85 (by decide) ?_
                  have e : acL s 1 (k + 1) j a = acL s 1 k (j + 1) (a ||| nI 1 <<< (nI j &&& 31)) := by rw [acL, if_pos (show acB s 1 j = true from by show acB s 1 j = true; exact h82)]
                  refine g_ic (n := 1) C dX8_active_98 (by decide) ?_
                  refine g_iload_n C dX8_active_99 rfl ?_
                  refine g_ishl C dX8_active_100 ?_
                  refine g_goto C 105 dX8_active_101 (by decide) ?_
                  refine g_ior C dX8_active_105 ?_
                  refine g_istore_n C dX8_active_106 (by decide) ?_
                  refine g_iinc1 C dX8_active_107 rfl (by decide) ?_
                  refine g_goto C 22 dX8_active_110 (by decide) ?_
                  rw [e]
                  first | (refine g_loc ([(0, .ref (ev_a E 64)), (1, .int (nI 1)), (2, .int (a ||| nI 1 <<< (nI j &&& 31))), (3, .int (nI (j + 1)))]) (And.intro rfl (And.intro rfl (And.intro rfl (And.intro rfl trivial)))) ?_; exact ih (j + 1) _ (by omega)) | (refine g_loc ([(0, .ref (ev_a E 64)), (1, .int (nI 1)), (2, .int (a ||| nI 0)), (3, .int (nI (j + 1)))]) (And.intro rfl (And.intro rfl (And.intro rfl (And.intro rfl trivial)))) ?_; exact ih (j + 1) _ (by omega))
            · exact absurd h64 (by decide)
          · refine g_iload_n C dX8_active_62 rfl ?_
            refine g_iload_n C dX8_active_63 rfl ?_
            refine g_ifneN C 75 dX8_active_64 (by decide) (by omega) (fun h64 => ?_) (fun h64 => ?_)
            · refine g_iload_n C dX8_active_75 rfl ?_
              refine g_ic (n := 1) C dX8_active_76 (by decide) ?_
              refine g_icneN C 88 dX8_active_77 (by decide) (by omega) (by omega) (fun h77 => ?_) (fun h77 => ?_)
              · refine g_iload C dX8_active_88 rfl ?_
                refine g_ifneB C 104 dX8_active_90 (by decide) (fun h90 => ?_) (fun h90 => ?_)
                · have e : acL s 2 (k + 1) j a = acL s 2 k (j + 1) (a ||| nI 0) := by rw [acL, if_neg (by rw [show acB s 2 j = false from by show (!decide (0 < hsV s 2 j) && !decide (0 < hsV s 5 j)) = false; cases c2 : decide (0 < hsV s 2 j) <;> cases c5 : decide (0 < hsV s 5 j) <;> first | rfl | simp_all]; decide), or0]
                  refine g_ic (n := 0) C dX8_active_104 (by decide) ?_
                  refine g_ior C dX8_active_105 ?_
                  refine g_istore_n C dX8_active_106 (by decide) ?_
                  refine g_iinc1 C dX8_active_107 rfl (by decide) ?_
                  refine g_goto C 22 dX8_active_110 (by decide) ?_
                  rw [e]
                  first | (refine g_loc ([(0, .ref (ev_a E 64)), (1, .int (nI 2)), (2, .int (a ||| nI 1 <<< (nI j &&& 31))), (3, .int (nI (j + 1)))]) (And.intro rfl (And.intro rfl (And.intro rfl (And.intro rfl trivial)))) ?_; exact ih (j + 1) _ (by omega)) | (refine g_loc ([(0, .ref (ev_a E 64)), (1, .int (nI 2)), (2, .int (a ||| nI 0)), (3, .int (nI (j + 1)))]) (And.intro rfl (And.intro rfl (And.intro rfl (And.intro rfl trivial)))) ?_; exact ih (j + 1) _ (by omega))
                · refine g_iload C dX8_active_93 rfl ?_
                  refine g_ifneB C 104 dX8_active_95 (by decide) (fun h95 => ?_) (fun h95 => ?_)
                  · have e : acL s 2 (k + 1) j a = acL s 2 k (j + 1) (a ||| nI 0) := by rw [acL, if_neg (by rw [show acB s 2 j = false from by show (!decide (0 < hsV s 2 j) && !decide (0 < hsV s 5 j)) = false; cases c2 : decide (0 < hsV s 2 j) <;> cases c5 : decide (0 < hsV s 5 j) <;> first | rfl | simp_all]; decide), or0]
                    refine g_ic (n := 0) C dX8_active_104 (by decide) ?_
                    refine g_ior C dX8_active_105 ?_
                    refine g_istore_n C dX8_active_106 (by decide) ?_
                    refine g_iinc1 C dX8_active_107 rfl (by decide) ?_
                    refine g_goto C 22 dX8_active_110 (by decide) ?_
                    rw [e]
                    first | (refine g_loc ([(0, .ref (ev_a E 64)), (1, .int (nI 2)), (2, .int (a ||| nI 1 <<< (nI j &&& 31))), (3, .int (nI (j + 1)))]) (And.intro rfl (And.intro rfl (And.intro rfl (And.intro rfl trivial)))) ?_; exact ih (j + 1) _ (by omega)) | (refine g_loc ([(0, .ref (ev_a E 64)), (1, .int (nI 2)), (2, .int (a ||| nI 0)), (3, .int (nI (j + 1)))]) (And.intro rfl (And.intro rfl (And.intro rfl (And.intro rfl trivial)))) ?_; exact ih (j + 1) _ (by omega))
                  · have e : acL s 2 (k + 1) j a = acL s 2 k (j + 1) (a ||| nI 1 <<< (nI j &&& 31)) := by rw [acL, if_pos (show acB s 2 j = true from by show (!decide (0 < hsV s 2 j) && !decide (0 < hsV s 5 j)) = true; rw [h90, h95]; rfl)]
                    refine g_ic (n := 1) C dX8_active_98 (by decide) ?_
                    refine g_iload_n C dX8_active_99 rfl ?_
                    refine g_ishl C dX8_active_100 ?_
                    refine g_goto C 105 dX8_active_101 (by decide) ?_
                    refine g_ior C dX8_active_105 ?_
                    refine g_istore_n C dX8_active_106 (by decide) ?_
                    refine g_iinc1 C dX8_active_107 rfl (by decide) ?_
                    refine g_goto C 22 dX8_active_110 (by decide) ?_
                    rw [e]
                    first | (refine g_loc ([(0, .ref (ev_a E 64)), (1, .int (nI 2)), (2, .int (a ||| nI 1 <<< (nI j &&& 31))), (3, .int (nI (j + 1)))]) (And.intro rfl (And.intro rfl (And.intro rfl (And.intro rfl trivial)))) ?_; exact ih (j + 1) _ (by omega)) | (refine g_loc ([(0, .ref (ev_a E 64)), (1, .int (nI 2)), (2, .int (a ||| nI 0)), (3, .int (nI (j + 1)))]) (And.intro rfl (And.intro rfl (And.intro rfl (And.intro rfl trivial)))) ?_; exact ih (j + 1) _ (by omega))
              · exact absurd h77 (by decide)
            · exact absurd h64 (by decide)
      · refine g_ic (n := 1) C dX8_active_39 (by decide) ?_
        rw [show nI 1 = bI (decide (0 < hsV s 2 j)) from by rw [decide_eq_true (gt0 h36)]; rfl]
        refine g_goto C 44 dX8_active_40 (by decide) ?_
        refine g_istore C dX8_active_44 (by decide) ?_
        refine g_aload_n C dX8_active_46 rfl ?_
        refine g_ic (n := 5) C dX8_active_47 (by decide) ?_
        refine g_iload_n C dX8_active_48 rfl ?_
        refine g_callVp C (ob_X8 (by rfl)) (c_X8_hasOf (d := d) (w := 5) (u := j) (pt := fun j => ptV (gL s) (lg (gL s) j)) h hB (by omega) (by omega) hL0 (hsg j (by omega))) dX8_active_49 km_RX8_242 kn_RX8 kc_yX8_hasOf ki_yX8_hasOf kx_yX8_hasOf (by omega) (by decide) ⟨by decide, by decide, rfl⟩ rfl (Nat.le_of_ble_eq_true rfl) ?_
        rw [hs_eq hL0]
        refine g_ifle C 59 dX8_active_52 (by decide) (fun h52 => ?_) (fun h52 => ?_)
        · refine g_ic (n := 0) C dX8_active_59 (by decide) ?_
          rw [show nI 0 = bI (decide (0 < hsV s 5 j)) from by rw [decide_eq_false (le0n h52)]; rfl]
          refine g_istore C dX8_active_60 (by decide) ?_
          rcases (show w = 0 ∨ w = 1 ∨ w = 2 from by omega) with rfl | rfl | rfl
          · refine g_iload_n C dX8_active_62 rfl ?_
            refine g_iload_n C dX8_active_63 rfl ?_
            refine g_ifneN C 75 dX8_active_64 (by decide) (by omega) (fun h64 => ?_) (fun h64 => ?_)
            · exact absurd rfl h64
            · refine g_iload C dX8_active_67 rfl ?_
              refine g_ifeqB C 104 dX8_active_69 (by decide) (fun h69 => ?_) (fun h69 => ?_)
              · have e : acL s 0 (k + 1) j a = acL s 0 k (j + 1) (a ||| nI 0) := by rw [acL, if_neg (by rw [show acB s 0 j = false from by show acB s 0 j = false; exact h69]; decide), or0]
                refine g_ic (n := 0) C dX8_active_104 (by decide) ?_
                refine g_ior C dX8_active_105 ?_
                refine g_istore_n C dX8_active_106 (by decide) ?_
                refine g_iinc1 C dX8_active_107 rfl (by decide) ?_
                refine g_goto C 22 dX8_active_110 (by decide) ?_
                rw [e]
                first | (refine g_loc ([(0, .ref (ev_a E 64)), (1, .int (nI 0)), (2, .int (a ||| nI 1 <<< (nI j &&& 31))), (3, .int (nI (j + 1)))]) (And.intro rfl (And.intro rfl (And.intro rfl (And.intro rfl trivial)))) ?_; exact ih (j + 1) _ (by omega)) | (refine g_loc ([(0, .ref (ev_a E 64)), (1, .int (nI 0)), (2, .int (a ||| nI 0)), (3, .int (nI (j + 1)))]) (And.intro rfl (And.intro rfl (And.intro rfl (And.intro rfl trivial)))) ?_; exact ih (j + 1) _ (by omega))
              · refine g_goto C 98 dX8_active_72 (by decide) ?_
                have e : acL s 0 (k + 1) j a = acL s 0 k (j + 1) (a ||| nI 1 <<< (nI j &&& 31)) := by rw [acL, if_pos (show acB s 0 j = true from by show acB s 0 j = true; exact h69)]
                refine g_ic (n := 1) C dX8_active_98 (by decide) ?_
                refine g_iload_n C dX8_active_99 rfl ?_
                refine g_ishl C dX8_active_100 ?_
                refine g_goto C 105 dX8_active_101 (by decide) ?_
                refine g_ior C dX8_active_105 ?_
                refine g_istore_n C dX8_active_106 (by decide) ?_
                refine g_iinc1 C dX8_active_107 rfl (by decide) ?_
                refine g_goto C 22 dX8_active_110 (by decide) ?_
                rw [e]
                first | (refine g_loc ([(0, .ref (ev_a E 64)), (1, .int (nI 0)), (2, .int (a ||| nI 1 <<< (nI j &&& 31))), (3, .int (nI (j + 1)))]) (And.intro rfl (And.intro rfl (And.intro rfl (And.intro rfl trivial)))) ?_; exact ih (j + 1) _ (by omega)) | (refine g_loc ([(0, .ref (ev_a E 64)), (1, .int (nI 0)), (2, .int (a ||| nI 0)), (3, .int (nI (j + 1)))]) (And.intro rfl (And.intro rfl (And.intro rfl (And.intro rfl trivial)))) ?_; exact ih (j + 1) _ (by omega))
          · refine g_iload_n C dX8_active_62 rfl ?_
            refine g_iload_n C dX8_active_63 rfl ?_
            refine g_ifneN C 75 dX8_active_64 (by decide) (by omega) (fun h64 => ?_) (fun h64 => ?_)
            · refine g_iload_n C dX8_active_75 rfl ?_
              refine g_ic (n := 1) C dX8_active_76 (by decide) ?_
              refine g_icneN C 88 dX8_active_77 (by decide) (by omega) (by omega) (fun h77 => ?_) (fun h77 => ?_)
              · exact absurd rfl h77
              · refine g_iload C dX8_active_80 rfl ?_
                refine g_ifeqB C 104 dX8_active_82 (by decide) (fun h82 => ?_) (fun h82 => ?_)
                · have e : acL s 1 (k + 1) j a = acL s 1 k (j + 1) (a ||| nI 0) := by rw [acL, if_neg (by rw [show acB s 1 j = false from by show acB s 1 j = false; exact h82]; decide), or0]
                  refine g_ic (n := 0) C dX8_active_104 (by decide) ?_
                  refine g_ior C dX8_active_105 ?_
                  refine g_istore_n C dX8_active_106 (by decide) ?_
                  refine g_iinc1 C dX8_active_107 rfl (by decide) ?_
                  refine g_goto C 22 dX8_active_110 (by decide) ?_
                  rw [e]
                  first | (refine g_loc ([(0, .ref (ev_a E 64)), (1, .int (nI 1)), (2, .int (a ||| nI 1 <<< (nI j &&& 31))), (3, .int (nI (j + 1)))]) (And.intro rfl (And.intro rfl (And.intro rfl (And.intro rfl trivial)))) ?_; exact ih (j + 1) _ (by omega)) | (refine g_loc ([(0, .ref (ev_a E 64)), (1, .int (nI 1)), (2, .int (a ||| nI 0)), (3, .int (nI (j + 1)))]) (And.intro rfl (And.intro rfl (And.intro rfl (And.intro rfl trivial)))) ?_; exact ih (j + 1) _ (by omega))
                · refine g_goto C 98 dX8_active_85 (by decide) ?_
                  have e : acL s 1 (k + 1) j a = acL s 1 k (j + 1) (a ||| nI 1 <<< (nI j &&& 31)) := by rw [acL, if_pos (show acB s 1 j = true from by show acB s 1 j = true; exact h82)]
                  refine g_ic (n := 1) C dX8_active_98 (by decide) ?_
                  refine g_iload_n C dX8_active_99 rfl ?_
                  refine g_ishl C dX8_active_100 ?_
                  refine g_goto C 105 dX8_active_101 (by decide) ?_
                  refine g_ior C dX8_active_105 ?_
                  refine g_istore_n C dX8_active_106 (by decide) ?_
                  refine g_iinc1 C dX8_active_107 rfl (by decide) ?_
                  refine g_goto C 22 dX8_active_110 (by decide) ?_
                  rw [e]
                  first | (refine g_loc ([(0, .ref (ev_a E 64)), (1, .int (nI 1)), (2, .int (a ||| nI 1 <<< (nI j &&& 31))), (3, .int (nI (j + 1)))]) (And.intro rfl (And.intro rfl (And.intro rfl (And.intro rfl trivial)))) ?_; exact ih (j + 1) _ (by omega)) | (refine g_loc ([(0, .ref (ev_a E 64)), (1, .int (nI 1)), (2, .int (a ||| nI 0)), (3, .int (nI (j + 1)))]) (And.intro rfl (And.intro rfl (And.intro rfl (And.intro rfl trivial)))) ?_; exact ih (j + 1) _ (by omega))
            · exact absurd h64 (by decide)
          · refine g_iload_n C dX8_active_62 rfl ?_
            refine g_iload_n C dX8_active_63 rfl ?_
            refine g_ifneN C 75 dX8_active_64 (by decide) (by omega) (fun h64 => ?_) (fun h64 => ?_)
            · refine g_iload_n C dX8_active_75 rfl ?_
              refine g_ic (n := 1) C dX8_active_76 (by decide) ?_
              refine g_icneN C 88 dX8_active_77 (by decide) (by omega) (by omega) (fun h77 => ?_) (fun h77 => ?_)
              · refine g_iload C dX8_active_88 rfl ?_
                refine g_ifneB C 104 dX8_active_90 (by decide) (fun h90 => ?_) (fun h90 => ?_)
                · have e : acL s 2 (k + 1) j a = acL s 2 k (j + 1) (a ||| nI 0) := by rw [acL, if_neg (by rw [show acB s 2 j = false from by show (!decide (0 < hsV s 2 j) && !decide (0 < hsV s 5 j)) = false; cases c2 : decide (0 < hsV s 2 j) <;> cases c5 : decide (0 < hsV s 5 j) <;> first | rfl | simp_all]; decide), or0]
                  refine g_ic (n := 0) C dX8_active_104 (by decide) ?_
                  refine g_ior C dX8_active_105 ?_
                  refine g_istore_n C dX8_active_106 (by decide) ?_
                  refine g_iinc1 C dX8_active_107 rfl (by decide) ?_
                  refine g_goto C 22 dX8_active_110 (by decide) ?_
                  rw [e]
                  first | (refine g_loc ([(0, .ref (ev_a E 64)), (1, .int (nI 2)), (2, .int (a ||| nI 1 <<< (nI j &&& 31))), (3, .int (nI (j + 1)))]) (And.intro rfl (And.intro rfl (And.intro rfl (And.intro rfl trivial)))) ?_; exact ih (j + 1) _ (by omega)) | (refine g_loc ([(0, .ref (ev_a E 64)), (1, .int (nI 2)), (2, .int (a ||| nI 0)), (3, .int (nI (j + 1)))]) (And.intro rfl (And.intro rfl (And.intro rfl (And.intro rfl trivial)))) ?_; exact ih (j + 1) _ (by omega))
                · refine g_iload C dX8_active_93 rfl ?_
                  refine g_ifneB C 104 dX8_active_95 (by decide) (fun h95 => ?_) (fun h95 => ?_)
                  · have e : acL s 2 (k + 1) j a = acL s 2 k (j + 1) (a ||| nI 0) := by rw [acL, if_neg (by rw [show acB s 2 j = false from by show (!decide (0 < hsV s 2 j) && !decide (0 < hsV s 5 j)) = false; cases c2 : decide (0 < hsV s 2 j) <;> cases c5 : decide (0 < hsV s 5 j) <;> first | rfl | simp_all]; decide), or0]
                    refine g_ic (n := 0) C dX8_active_104 (by decide) ?_
                    refine g_ior C dX8_active_105 ?_
                    refine g_istore_n C dX8_active_106 (by decide) ?_
                    refine g_iinc1 C dX8_active_107 rfl (by decide) ?_
                    refine g_goto C 22 dX8_active_110 (by decide) ?_
                    rw [e]
                    first | (refine g_loc ([(0, .ref (ev_a E 64)), (1, .int (nI 2)), (2, .int (a ||| nI 1 <<< (nI j &&& 31))), (3, .int (nI (j + 1)))]) (And.intro rfl (And.intro rfl (And.intro rfl (And.intro rfl trivial)))) ?_; exact ih (j + 1) _ (by omega)) | (refine g_loc ([(0, .ref (ev_a E 64)), (1, .int (nI 2)), (2, .int (a ||| nI 0)), (3, .int (nI (j + 1)))]) (And.intro rfl (And.intro rfl (And.intro rfl (And.intro rfl trivial)))) ?_; exact ih (j + 1) _ (by omega))
                  · have e : acL s 2 (k + 1) j a = acL s 2 k (j + 1) (a ||| nI 1 <<< (nI j &&& 31)) := by rw [acL, if_pos (show acB s 2 j = true from by show (!decide (0 < hsV s 2 j) && !decide (0 < hsV s 5 j)) = true; rw [h90, h95]; rfl)]
                    refine g_ic (n := 1) C dX8_active_98 (by decide) ?_
                    refine g_iload_n C dX8_active_99 rfl ?_
                    refine g_ishl C dX8_active_100 ?_
                    refine g_goto C 105 dX8_active_101 (by decide) ?_
                    refine g_ior C dX8_active_105 ?_
                    refine g_istore_n C dX8_active_106 (by decide) ?_
                    refine g_iinc1 C dX8_active_107 rfl (by decide) ?_
                    refine g_goto C 22 dX8_active_110 (by decide) ?_
                    rw [e]
                    first | (refine g_loc ([(0, .ref (ev_a E 64)), (1, .int (nI 2)), (2, .int (a ||| nI 1 <<< (nI j &&& 31))), (3, .int (nI (j + 1)))]) (And.intro rfl (And.intro rfl (And.intro rfl (And.intro rfl trivial)))) ?_; exact ih (j + 1) _ (by omega)) | (refine g_loc ([(0, .ref (ev_a E 64)), (1, .int (nI 2)), (2, .int (a ||| nI 0)), (3, .int (nI (j + 1)))]) (And.intro rfl (And.intro rfl (And.intro rfl (And.intro rfl trivial)))) ?_; exact ih (j + 1) _ (by omega))
              · exact absurd h77 (by decide)
            · exact absurd h64 (by decide)
        · refine g_ic (n := 1) C dX8_active_55 (by decide) ?_
          rw [show nI 1 = bI (decide (0 < hsV s 5 j)) from by rw [decide_eq_true (gt0 h52)]; rfl]
          refine g_goto C 60 dX8_active_56 (by decide) ?_
          refine g_istore C dX8_active_60 (by decide) ?_
          rcases (show w = 0 ∨ w = 1 ∨ w = 2 from by omega) with rfl | rfl | rfl
          · refine g_iload_n C dX8_active_62 rfl ?_
            refine g_iload_n C dX8_active_63 rfl ?_
            refine g_ifneN C 75 dX8_active_64 (by decide) (by omega) (fun h64 => ?_) (fun h64 => ?_)
            · exact absurd rfl h64
            · refine g_iload C dX8_active_67 rfl ?_
              refine g_ifeqB C 104 dX8_active_69 (by decide) (fun h69 => ?_) (fun h69 => ?_)
              · have e : acL s 0 (k + 1) j a = acL s 0 k (j + 1) (a ||| nI 0) := by rw [acL, if_neg (by rw [show acB s 0 j = false from by show acB s 0 j = false; exact h69]; decide), or0]
                refine g_ic (n := 0) C dX8_active_104 (by decide) ?_
                refine g_ior C dX8_active_105 ?_
                refine g_istore_n C dX8_active_106 (by decide) ?_
                refine g_iinc1 C dX8_active_107 rfl (by decide) ?_
                refine g_goto C 22 dX8_active_110 (by decide) ?_
                rw [e]
                first | (refine g_loc ([(0, .ref (ev_a E 64)), (1, .int (nI 0)), (2, .int (a ||| nI 1 <<< (nI j &&& 31))), (3, .int (nI (j + 1)))]) (And.intro rfl (And.intro rfl (And.intro rfl (And.intro rfl trivial)))) ?_; exact ih (j + 1) _ (by omega)) | (refine g_loc ([(0, .ref (ev_a E 64)), (1, .int (nI 0)), (2, .int (a ||| nI 0)), (3, .int (nI (j + 1)))]) (And.intro rfl (And.intro rfl (And.intro rfl (And.intro rfl trivial)))) ?_; exact ih (j + 1) _ (by omega))
              · refine g_goto C 98 dX8_active_72 (by decide) ?_
                have e : acL s 0 (k + 1) j a = acL s 0 k (j + 1) (a ||| nI 1 <<< (nI j &&& 31)) := by rw [acL, if_pos (show acB s 0 j = true from by show acB s 0 j = true; exact h69)]
                refine g_ic (n := 1) C dX8_active_98 (by decide) ?_
                refine g_iload_n C dX8_active_99 rfl ?_
                refine g_ishl C dX8_active_100 ?_
                refine g_goto C 105 dX8_active_101 (by decide) ?_
                refine g_ior C dX8_active_105 ?_
                refine g_istore_n C dX8_active_106 (by decide) ?_
                refine g_iinc1 C dX8_active_107 rfl (by decide) ?_
                refine g_goto C 22 dX8_active_110 (by decide) ?_
                rw [e]
                first | (refine g_loc ([(0, .ref (ev_a E 64)), (1, .int (nI 0)), (2, .int (a ||| nI 1 <<< (nI j &&& 31))), (3, .int (nI (j + 1)))]) (And.intro rfl (And.intro rfl (And.intro rfl (And.intro rfl trivial)))) ?_; exact ih (j + 1) _ (by omega)) | (refine g_loc ([(0, .ref (ev_a E 64)), (1, .int (nI 0)), (2, .int (a ||| nI 0)), (3, .int (nI (j + 1)))]) (And.intro rfl (And.intro rfl (And.intro rfl (And.intro rfl trivial)))) ?_; exact ih (j + 1) _ (by omega))
          · refine g_iload_n C dX8_active_62 rfl ?_
            refine g_iload_n C dX8_active_63 rfl ?_
            refine g_ifneN C 75 dX8_active_64 (by decide) (by omega) (fun h64 => ?_) (fun h64 => ?_)
            · refine g_iload_n C dX8_active_75 rfl ?_
              refine g_ic (n := 1) C dX8_active_76 (by decide) ?_
              refine g_icneN C 88 dX8_active_77 (by decide) (by omega) (by omega) (fun h77 => ?_) (fun h77 => ?_)
              · exact absurd rfl h77
              · refine g_iload C dX8_active_80 rfl ?_
                refine g_ifeqB C 104 dX8_active_82 (by decide) (fun h82 => ?_) (fun h82 => ?_)
                · have e : acL s 1 (k + 1) j a = acL s 1 k (j + 1) (a ||| nI 0) := by rw [acL, if_neg (by rw [show acB s 1 j = false from by show acB s 1 j = false; exact h82]; decide), or0]
                  refine g_ic (n := 0) C dX8_active_104 (by decide) ?_
                  refine g_ior C dX8_active_105 ?_
                  refine g_istore_n C dX8_active_106 (by decide) ?_
                  refine g_iinc1 C dX8_active_107 rfl (by decide) ?_
                  refine g_goto C 22 dX8_active_110 (by decide) ?_
                  rw [e]
                  first | (refine g_loc ([(0, .ref (ev_a E 64)), (1, .int (nI 1)), (2, .int (a ||| nI 1 <<< (nI j &&& 31))), (3, .int (nI (j + 1)))]) (And.intro rfl (And.intro rfl (And.intro rfl (And.intro rfl trivial)))) ?_; exact ih (j + 1) _ (by omega)) | (refine g_loc ([(0, .ref (ev_a E 64)), (1, .int (nI 1)), (2, .int (a ||| nI 0)), (3, .int (nI (j + 1)))]) (And.intro rfl (And.intro rfl (And.intro rfl (And.intro rfl trivial)))) ?_; exact ih (j + 1) _ (by omega))
                · refine g_goto C 98 dX8_active_85 (by decide) ?_
                  have e : acL s 1 (k + 1) j a = acL s 1 k (j + 1) (a ||| nI 1 <<< (nI j &&& 31)) := by rw [acL, if_pos (show acB s 1 j = true from by show acB s 1 j = true; exact h82)]
                  refine g_ic (n := 1) C dX8_active_98 (by decide) ?_
                  refine g_iload_n C dX8_active_99 rfl ?_
                  refine g_ishl C dX8_active_100 ?_
                  refine g_goto C 105 dX8_active_101 (by decide) ?_
                  refine g_ior C dX8_active_105 ?_
                  refine g_istore_n C dX8_active_106 (by decide) ?_
                  refine g_iinc1 C dX8_active_107 rfl (by decide) ?_
                  refine g_goto C 22 dX8_active_110 (by decide) ?_
                  rw [e]
                  first | (refine g_loc ([(0, .ref (ev_a E 64)), (1, .int (nI 1)), (2, .int (a ||| nI 1 <<< (nI j &&& 31))), (3, .int (nI (j + 1)))]) (And.intro rfl (And.intro rfl (And.intro rfl (And.intro rfl trivial)))) ?_; exact ih (j + 1) _ (by omega)) | (refine g_loc ([(0, .ref (ev_a E 64)), (1, .int (nI 1)), (2, .int (a ||| nI 0)), (3, .int (nI (j + 1)))]) (And.intro rfl (And.intro rfl (And.intro rfl (And.intro rfl trivial)))) ?_; exact ih (j + 1) _ (by omega))
            · exact absurd h64 (by decide)
          · refine g_iload_n C dX8_active_62 rfl ?_
            refine g_iload_n C dX8_active_63 rfl ?_
            refine g_ifneN C 75 dX8_active_64 (by decide) (by omega) (fun h64 => ?_) (fun h64 => ?_)
            · refine g_iload_n C dX8_active_75 rfl ?_
              refine g_ic (n := 1) C dX8_active_76 (by decide) ?_
              refine g_icneN C 88 dX8_active_77 (by decide) (by omega) (by omega) (fun h77 => ?_) (fun h77 => ?_)
              · refine g_iload C dX8_active_88 rfl ?_
                refine g_ifneB C 104 dX8_active_90 (by decide) (fun h90 => ?_) (fun h90 => ?_)
                · have e : acL s 2 (k + 1) j a = acL s 2 k (j + 1) (a ||| nI 0) := by rw [acL, if_neg (by rw [show acB s 2 j = false from by show (!decide (0 < hsV s 2 j) && !decide (0 < hsV s 5 j)) = false; cases c2 : decide (0 < hsV s 2 j) <;> cases c5 : decide (0 < hsV s 5 j) <;> first | rfl | simp_all]; decide), or0]
                  refine g_ic (n := 0) C dX8_active_104 (by decide) ?_
                  refine g_ior C dX8_active_105 ?_
                  refine g_istore_n C dX8_active_106 (by decide) ?_
                  refine g_iinc1 C dX8_active_107 rfl (by decide) ?_
                  refine g_goto C 22 dX8_active_110 (by decide) ?_
                  rw [e]
                  first | (refine g_loc ([(0, .ref (ev_a E 64)), (1, .int (nI 2)), (2, .int (a ||| nI 1 <<< (nI j &&& 31))), (3, .int (nI (j + 1)))]) (And.intro rfl (And.intro rfl (And.intro rfl (And.intro rfl trivial)))) ?_; exact ih (j + 1) _ (by omega)) | (refine g_loc ([(0, .ref (ev_a E 64)), (1, .int (nI 2)), (2, .int (a ||| nI 0)), (3, .int (nI (j + 1)))]) (And.intro rfl (And.intro rfl (And.intro rfl (And.intro rfl trivial)))) ?_; exact ih (j + 1) _ (by omega))
                · refine g_iload C dX8_active_93 rfl ?_
                  refine g_ifneB C 104 dX8_active_95 (by decide) (fun h95 => ?_) (fun h95 => ?_)
                  · have e : acL s 2 (k + 1) j a = acL s 2 k (j + 1) (a ||| nI 0) := by rw [acL, if_neg (by rw [show acB s 2 j = false from by show (!decide (0 < hsV s 2 j) && !decide (0 < hsV s 5 j)) = false; cases c2 : decide (0 < hsV s 2 j) <;> cases c5 : decide (0 < hsV s 5 j) <;> first | rfl | simp_all]; decide), or0]
                    refine g_ic (n := 0) C dX8_active_104 (by decide) ?_
                    refine g_ior C dX8_active_105 ?_
                    refine g_istore_n C dX8_active_106 (by decide) ?_
                    refine g_iinc1 C dX8_active_107 rfl (by decide) ?_
                    refine g_goto C 22 dX8_active_110 (by decide) ?_
                    rw [e]
                    first | (refine g_loc ([(0, .ref (ev_a E 64)), (1, .int (nI 2)), (2, .int (a ||| nI 1 <<< (nI j &&& 31))), (3, .int (nI (j + 1)))]) (And.intro rfl (And.intro rfl (And.intro rfl (And.intro rfl trivial)))) ?_; exact ih (j + 1) _ (by omega)) | (refine g_loc ([(0, .ref (ev_a E 64)), (1, .int (nI 2)), (2, .int (a ||| nI 0)), (3, .int (nI (j + 1)))]) (And.intro rfl (And.intro rfl (And.intro rfl (And.intro rfl trivial)))) ?_; exact ih (j + 1) _ (by omega))
                  · have e : acL s 2 (k + 1) j a = acL s 2 k (j + 1) (a ||| nI 1 <<< (nI j &&& 31)) := by rw [acL, if_pos (show acB s 2 j = true from by show (!decide (0 < hsV s 2 j) && !decide (0 < hsV s 5 j)) = true; rw [h90, h95]; rfl)]
                    refine g_ic (n := 1) C dX8_active_98 (by decide) ?_
                    refine g_iload_n C dX8_active_99 rfl ?_
                    refine g_ishl C dX8_active_100 ?_
                    refine g_goto C 105 dX8_active_101 (by decide) ?_
                    refine g_ior C dX8_active_105 ?_
                    refine g_istore_n C dX8_active_106 (by decide) ?_
                    refine g_iinc1 C dX8_active_107 rfl (by decide) ?_
                    refine g_goto C 22 dX8_active_110 (by decide) ?_
                    rw [e]
                    first | (refine g_loc ([(0, .ref (ev_a E 64)), (1, .int (nI 2)), (2, .int (a ||| nI 1 <<< (nI j &&& 31))), (3, .int (nI (j + 1)))]) (And.intro rfl (And.intro rfl (And.intro rfl (And.intro rfl trivial)))) ?_; exact ih (j + 1) _ (by omega)) | (refine g_loc ([(0, .ref (ev_a E 64)), (1, .int (nI 2)), (2, .int (a ||| nI 0)), (3, .int (nI (j + 1)))]) (And.intro rfl (And.intro rfl (And.intro rfl (And.intro rfl trivial)))) ?_; exact ih (j + 1) _ (by omega))
              · exact absurd h77 (by decide)
            · exact absurd h64 (by decide)

set_option maxHeartbeats 4000000 in
set_option maxRecDepth 100000 in
theorem c_X8_active {E : Ev} {d : Nat} {σ : St} {s : Ms} (hs : RfIs σ s) (hS : BrS (gL s)) {w : Int32} : Con E (d + 10) yX8_active cX8_active 6 ((Option.some FieldType.int)) [.ref (ev_a E 64), .int w] σ (RfTo (.int (aActive s w)) σ (s)) := by
  refine con_of (by decide) (Nat.le_of_ble_eq_true rfl) (fun X hX C => ?_)
  have C : Cx E X cX8_active RX8 6 ((Option.some FieldType.int)) := C
  have h := hs.P
  have h8 := h.1
  obtain ⟨hfin, hL0, A, hA, hAl, hAv⟩ := id hS
  show G E _ X _ _ _ 0 [(0, .ref (ev_a E 64)), (1, .int w)] []
  refine g_iload_n C dX8_active_0 rfl ?_
  refine g_i2l C _ dX8_active_1 rfl ?_
  refine g_lc (v := 0) C dX8_active_2 (by decide) ?_
  refine g_ldc2 C (2) dX8_active_3 (List.mem_of_getElem? (i := 1069) (by decide +kernel)) ?_
  refine g_callSp C (c_X8_in (d := d) (0) (2) (by decide) (by decide)) dX8_active_6 km_RX8_56 kn_RX8 kc_yX8_in ks_yX8_in (by omega) (by decide) ⟨by decide, by decide, rfl⟩ rfl (Nat.le_of_ble_eq_true rfl) ?_
  refine g_ifneB C 14 dX8_active_9 (by decide) (fun h9 => ?_) (fun h9 => ?_)
  · obtain ⟨w2, hw2, rfl⟩ := in_n (k := 2) h9
    refine g_aload_n C dX8_active_14 rfl ?_
    refine g_callV C (ob_X8 (by rfl)) (c_X8_findsSigns (d := d) h hA) dX8_active_15 km_RX8_219 kn_RX8 kc_yX8_findsSigns ki_yX8_findsSigns kx_yX8_findsSigns (by omega) (by decide) ⟨by decide, by decide, rfl⟩ rfl (Nat.le_of_ble_eq_true rfl) (fun r1 σ1 q1 => ?_)
    obtain ⟨rfl, hB, hI, hG, f1⟩ := q1
    have hs1 : RfIs σ1 s := hs.go f1 (by decide) (by decide)
    have vLe : (gL s).length ≤ 48 := hB.1.1
    have hA64 := hG.2.1
    have hsg : ∀ u, u < A.length → ∀ j, j < (gL s).length → σ1.1 73 (48 * u + lg (gL s) j) = sgV u (ptV (gL s) (lg (gL s) j)) := fun u hu j hj => by rw [hG.2.2 u hu _ (hB.1.2.1 j hj)]; exact hAv u hu _ (lg_in hj)
    refine g_ic (n := 0) C dX8_active_18 (by decide) ?_
    refine g_istore_n C dX8_active_19 (by decide) ?_
    refine g_ic (n := 0) C dX8_active_20 (by decide) ?_
    refine g_istore_n C dX8_active_21 (by decide) ?_
    refine g_loc ([(0, .ref (ev_a E 64)), (1, .int (nI w2)), (2, .int (nI 0)), (3, .int (nI 0))]) (And.intro rfl (And.intro rfl (And.intro rfl (And.intro rfl trivial)))) ?_
    refine g_post (fun r σ2 q => ?_) (l_X8_active C hs1.P hB hG (by omega) hL0 hsg A.length 0 (nI 0) (by omega))
    obtain ⟨rfl, rfl⟩ := q
    exact ⟨congrArg (fun v => some (Value.int v)) (by unfold aActive; rw [if_neg (by rw [h9]; decide), ix_nI (show w2 < 2 ^ 31 by omega), ← hAl]), hs1, f1.s (by decide)⟩
  · refine g_icz (v := -1) C dX8_active_12 (by decide) ?_
    refine g_iret C dX8_active_13 ?_
    exact ⟨congrArg (fun v => some (Value.int v)) (by unfold aActive; rw [if_pos h9]), hs, Rs.rf⟩

theorem in7_out {w : Int32} (h : inB w 0 7 = false) : w.toInt < 0 ∨ 7 < w.toInt := by simp only [inB, decide_eq_false_iff_not] at h; omega

set_option maxHeartbeats 4000000 in
set_option maxRecDepth 100000 in
theorem c_X8_told {E : Ev} {d : Nat} {σ : St} {s : Ms} (hs : RfIs σ s) (hC : BrC (gL s)) (hS : BrS (gL s)) {w : Int32} : Con E (d + 10) yX8_told cX8_told 2 ((Option.some FieldType.int)) [.ref (ev_a E 64), .int w] σ (RfTo (.int (aTold s w)) σ (s)) := by
  refine con_of (by decide) (Nat.le_of_ble_eq_true rfl) (fun X hX C => ?_)
  have C : Cx E X cX8_told RX8 2 ((Option.some FieldType.int)) := C
  have h := hs.P
  have h8 := h.1
  obtain ⟨hfin, hL0, A, hA, hAl, hAv⟩ := id hS
  show G E _ X _ _ _ 0 [(0, .ref (ev_a E 64)), (1, .int w)] []
  refine g_aload_n C dX8_told_0 rfl ?_
  refine g_callV C (ob_X8 (by rfl)) (c_X8_findsSigns (d := d) h hA) dX8_told_1 km_RX8_219 kn_RX8 kc_yX8_findsSigns ki_yX8_findsSigns kx_yX8_findsSigns (by omega) (by decide) ⟨by decide, by decide, rfl⟩ rfl (Nat.le_of_ble_eq_true rfl) (fun r1 σ1 q1 => ?_)
  obtain ⟨rfl, hB, hI, hG, f1⟩ := q1
  have hs1 : RfIs σ1 s := hs.go f1 (by decide) (by decide)
  have vLe : (gL s).length ≤ 48 := hB.1.1
  have hA64 := hG.2.1
  refine g_iload_n C dX8_told_4 rfl ?_
  cases hw : inB w 0 7
  · refine g_tsOut C 113 dX8_told_5 (in7_out hw) (by decide) ?_
    refine g_icz (v := -1) C dX8_told_113 (by decide) ?_
    refine g_iret C dX8_told_114 ?_
    exact ⟨congrArg (fun v => some (Value.int v)) (by unfold aTold; rw [if_pos hw]), hs1, f1.s (by decide)⟩
  · obtain ⟨w2, hw2, rfl⟩ := in_n (k := 7) hw
    rcases (show w2 = 0 ∨ w2 = 1 ∨ w2 = 2 ∨ w2 = 3 ∨ w2 = 4 ∨ w2 = 5 ∨ w2 = 6 ∨ w2 = 7 from by omega) with rfl | rfl | rfl | rfl | rfl | rfl | rfl | rfl
    · refine g_tsIn C 52 dX8_told_5 (by decide) (by decide) rfl (by decide) ?_
      refine g_aload_n C dX8_told_52 rfl ?_
      refine gf_X8_w C (by rfl) dX8_told_53 kf_RX8_11 ?_
      refine g_ic (n := 0) C dX8_told_56 (by decide) ?_
      refine g_ialdN C (by rfl) (by omega) (by first | decide | omega) dX8_told_57 ?_
      refine g_eq (st' := [.int (nI s.1.1.1)]) (by rw [hs1.P.2.1]; rfl) ?_
      refine g_iret C dX8_told_58 ?_
      exact ⟨congrArg (fun v => some (Value.int v)) (by unfold aTold; rw [if_neg (by rw [hw]; decide), if_pos rfl]), hs1, f1.s (by decide)⟩
    · refine g_tsIn C 59 dX8_told_5 (by decide) (by decide) rfl (by decide) ?_
      refine g_aload_n C dX8_told_59 rfl ?_
      refine gf_X8_size C (by rfl) dX8_told_60 kf_RX8_97 ?_
      rw [hB.2.1]
      refine g_iret C dX8_told_63 ?_
      exact ⟨congrArg (fun v => some (Value.int v)) (by unfold aTold; rw [if_neg (by rw [hw]; decide), if_neg (by decide), if_pos rfl]), hs1, f1.s (by decide)⟩
    · refine g_tsIn C 64 dX8_told_5 (by decide) (by decide) rfl (by decide) ?_
      refine g_aload_n C dX8_told_64 rfl ?_
      refine g_callVp C (ob_X8 (by rfl)) (c_X8_classes (d := d) hB) dX8_told_65 km_RX8_222 kn_RX8 kc_yX8_classes ki_yX8_classes kx_yX8_classes (by omega) (by decide) ⟨by decide, by decide, rfl⟩ rfl (Nat.le_of_ble_eq_true rfl) ?_
      rw [cn_48 hC]
      refine g_iret C dX8_told_68 ?_
      exact ⟨congrArg (fun v => some (Value.int v)) (by unfold aTold; rw [if_neg (by rw [hw]; decide), if_neg (by decide), if_neg (by decide), if_pos rfl]), hs1, f1.s (by decide)⟩
    · refine g_tsIn C 69 dX8_told_5 (by decide) (by decide) rfl (by decide) ?_
      refine g_aload_n C dX8_told_69 rfl ?_
      refine g_callVp C (ob_X8 (by rfl)) (c_X8_orbits (d := d) hB hs1.P) dX8_told_70 km_RX8_225 kn_RX8 kc_yX8_orbits ki_yX8_orbits kx_yX8_orbits (by omega) (by decide) ⟨by decide, by decide, rfl⟩ rfl (Nat.le_of_ble_eq_true rfl) ?_
      refine g_iret C dX8_told_73 ?_
      exact ⟨congrArg (fun v => some (Value.int v)) (by unfold aTold; rw [if_neg (by rw [hw]; decide), if_neg (by decide), if_neg (by decide), if_neg (by decide), if_pos rfl]), hs1, f1.s (by decide)⟩
    · refine g_tsIn C 74 dX8_told_5 (by decide) (by decide) rfl (by decide) ?_
      refine g_aload_n C dX8_told_74 rfl ?_
      refine g_callVp C (ob_X8 (by rfl)) (c_X8_isHanded (d := d) hB) dX8_told_75 km_RX8_228 kn_RX8 kc_yX8_isHanded ki_yX8_isHanded kx_yX8_isHanded (by omega) (by decide) ⟨by decide, by decide, rfl⟩ rfl (Nat.le_of_ble_eq_true rfl) ?_
      refine g_ifeqB C 85 dX8_told_78 (by decide) (fun h78 => ?_) (fun h78 => ?_)
      · refine g_ic (n := 0) C dX8_told_85 (by decide) ?_
        refine g_iret C dX8_told_86 ?_
        exact ⟨congrArg (fun v => some (Value.int v)) (by unfold aTold; rw [if_neg (by rw [hw]; decide), if_neg (by decide), if_neg (by decide), if_neg (by decide), if_neg (by decide), if_pos rfl]; rw [h78]; rfl), hs1, f1.s (by decide)⟩
      · refine g_ic (n := 1) C dX8_told_81 (by decide) ?_
        refine g_goto C 86 dX8_told_82 (by decide) ?_
        refine g_iret C dX8_told_86 ?_
        exact ⟨congrArg (fun v => some (Value.int v)) (by unfold aTold; rw [if_neg (by rw [hw]; decide), if_neg (by decide), if_neg (by decide), if_neg (by decide), if_neg (by decide), if_pos rfl]; rw [h78]; rfl), hs1, f1.s (by decide)⟩
    · refine g_tsIn C 87 dX8_told_5 (by decide) (by decide) rfl (by decide) ?_
      refine g_aload_n C dX8_told_87 rfl ?_
      refine gf_X8_isIn C (by rfl) dX8_told_88 kf_RX8_24 ?_
      refine g_bp C (nI 7) dX8_told_91 (by decide) ?_
      refine g_zaldN C (by rfl) (by decide) (by first | decide | omega) dX8_told_93 ?_
      rw [hI 7 (by decide)]
      refine g_ifeqB C 101 dX8_told_94 (by decide) (fun h94 => ?_) (fun h94 => ?_)
      · refine g_ic (n := 0) C dX8_told_101 (by decide) ?_
        refine g_iret C dX8_told_102 ?_
        exact ⟨congrArg (fun v => some (Value.int v)) (by unfold aTold; rw [if_neg (by rw [hw]; decide), if_neg (by decide), if_neg (by decide), if_neg (by decide), if_neg (by decide), if_neg (by decide), if_pos rfl]; rw [h94]; rfl), hs1, f1.s (by decide)⟩
      · refine g_ic (n := 1) C dX8_told_97 (by decide) ?_
        refine g_goto C 102 dX8_told_98 (by decide) ?_
        refine g_iret C dX8_told_102 ?_
        exact ⟨congrArg (fun v => some (Value.int v)) (by unfold aTold; rw [if_neg (by rw [hw]; decide), if_neg (by decide), if_neg (by decide), if_neg (by decide), if_neg (by decide), if_neg (by decide), if_pos rfl]; rw [h94]; rfl), hs1, f1.s (by decide)⟩
    · refine g_tsIn C 103 dX8_told_5 (by decide) (by decide) rfl (by decide) ?_
      refine g_aload_n C dX8_told_103 rfl ?_
      refine gf_X8_signMany C (by rfl) dX8_told_104 kf_RX8_144 ?_
      rw [hG.1]
      refine g_iret C dX8_told_107 ?_
      exact ⟨congrArg (fun v => some (Value.int v)) (by unfold aTold; rw [if_neg (by rw [hw]; decide), if_neg (by decide), if_neg (by decide), if_neg (by decide), if_neg (by decide), if_neg (by decide), if_neg (by decide), if_pos rfl, hAl]), hs1, f1.s (by decide)⟩
    · refine g_tsIn C 108 dX8_told_5 (by decide) (by decide) rfl (by decide) ?_
      refine g_aload_n C dX8_told_108 rfl ?_
      refine g_callVp C (ob_X8 (by rfl)) (c_X8_nearest (d := d) hs1.P hI) dX8_told_109 km_RX8_231 kn_RX8 kc_yX8_nearest ki_yX8_nearest kx_yX8_nearest (by omega) (by decide) ⟨by decide, by decide, rfl⟩ rfl (Nat.le_of_ble_eq_true rfl) ?_
      refine g_iret C dX8_told_112 ?_
      exact ⟨congrArg (fun v => some (Value.int v)) (by unfold aTold; rw [if_neg (by rw [hw]; decide), if_neg (by decide), if_neg (by decide), if_neg (by decide), if_neg (by decide), if_neg (by decide), if_neg (by decide), if_neg (by decide)]), hs1, f1.s (by decide)⟩

