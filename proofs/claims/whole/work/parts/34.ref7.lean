/-! THE REFERENCE over the same state: seen, events, the book (rows come), what is seen, fits -/
theorem RB.add {f : Nat → Int32} {b cap : Nat} {w : Rw} (h : RB f b cap w) (hn : w.1 < cap) {x y : Nat} : RB (upd (upd (upd f (b + 1 + 2 * w.1) (nI x)) (b + 1 + 2 * w.1 + 1) (nI y)) b (nI (w.1 + 1))) b cap (w.1 + 1, (fun j => if j = w.1 then x else w.2.1 j), (fun j => if j = w.1 then y else w.2.2 j)) := by
  obtain ⟨h1, h2, h3⟩ := h
  refine ⟨hn, up_i, fun j hj => ?_⟩
  have hj2 : j < w.1 + 1 := hj
  refine ⟨?_, ?_⟩
  · rw [up_n (by omega), up_n (by omega)]
    by_cases e : j = w.1
    · subst e; rw [up_i]; simp
    · rw [up_n (by omega)]; simp only [e, if_false]; exact (h3 j (by omega)).1
  · rw [up_n (by omega)]
    by_cases e : j = w.1
    · subst e; rw [show b + 2 + 2 * w.1 = b + 1 + 2 * w.1 + 1 from by omega, up_i]; simp
    · rw [up_n (by omega), up_n (by omega)]; simp only [e, if_false]; exact (h3 j (by omega)).2
theorem RB.zero {f : Nat → Int32} {b cap : Nat} {w : Rw} : RB (upd f b (nI 0)) b cap (0, w.2) := ⟨Nat.zero_le _, up_i, fun j hj => absurd hj (Nat.not_lt_zero _)⟩
theorem PF.go {f f' : Nat → Int32} {n : Nat} {P : Nat → Nat → Int32} (h : PF f n P) (e : ∀ q, q < 33 → f' q = f q) : PF f' n P := by
  obtain ⟨h1, h2, h3⟩ := h
  exact ⟨h1, by rw [e _ (by omega)]; exact h2, fun p hp i hi => by rw [e _ (by omega)]; exact h3 p hp i hi⟩
theorem WI.sn {f f' : Nat → Int32} {u : Su} {w : Rw} (h : WI f u) (e : ∀ q, q < 33 ∨ 44 ≤ q → f' q = f q) (hr : RB f' 33 5 w) : WI f' (u.1, w, u.2.2) :=
  ⟨h.1.go (fun q a => e q (by omega)), hr, h.2.2.1.go (fun q a _ => e q (by omega)), h.2.2.2.go (fun q a _ => e q (by omega))⟩
theorem WI.ev {f f' : Nat → Int32} {u : Su} {w : Rw} (h : WI f u) (e : ∀ q, q < 44 ∨ 61 ≤ q → f' q = f q) (hr : RB f' 44 8 w) : WI f' (u.1, u.2.1, w, u.2.2.2) :=
  ⟨h.1.go (fun q a => e q (by omega)), h.2.1.go (fun q a _ => e q (by omega)), hr, h.2.2.2.go (fun q a _ => e q (by omega))⟩
theorem WI.bk {f f' : Nat → Int32} {u : Su} {w : Rw} (h : WI f u) (e : ∀ q, q < 61 → f' q = f q) (hr : RB f' 61 8 w) : WI f' (u.1, u.2.1, u.2.2.1, w) :=
  ⟨h.1.go (fun q a => e q (by omega)), h.2.1.go (fun q a _ => e q (by omega)), h.2.2.1.go (fun q a _ => e q (by omega)), hr⟩
def mstN (w : Nat) : Nat := if w = 0 then 7 else if w = 2 then 47 else 4
theorem fe_eq {w : Nat} {t : Int32} (hw : w < 4) : inB t 0 ((mstN w : Nat) : Int) = feB w t := by
  rcases (show w = 0 ∨ w = 1 ∨ w = 2 ∨ w = 3 from by omega) with rfl | rfl | rfl | rfl
  · rfl
  · rfl
  · show inB t 0 47 = isMv t
    rw [in_iMv]
  · rfl
theorem mstN_le (w : Nat) : mstN w ≤ 47 := by unfold mstN; split <;> (try split) <;> omega
theorem bI_inj {a b : Bool} : bI a = bI b ↔ a = b := by cases a <;> cases b <;> decide
theorem in16 {x : Int32} (h : inB x 1 6 = true) : ∃ j : Nat, j ≤ 6 ∧ x = nI j := in1_n h

set_option maxHeartbeats 4000000 in
set_option maxRecDepth 100000 in
theorem c_X8_see {E : Ev} {d : Nat} {σ : St} {s : Ms} (hs : RfIs σ s) {x z : Int32} : Con E (d + 2) yX8_see cX8_see 4 ((Option.some FieldType.int)) [.ref (ev_a E 64), .int x, .int z] σ (RfTo (.int (aSee s x)) σ (tSee s x z)) := by
  refine con_of (by decide) (Nat.le_of_ble_eq_true rfl) (fun X hX C => ?_)
  have C : Cx E X cX8_see RX8 4 ((Option.some FieldType.int)) := C
  have hr := hs.1.2.1
  have hc := hr.1
  show G E _ X _ _ _ 0 [(0, .ref (ev_a E 64)), (1, .int x), (2, .int z)] []
  refine g_iload_n C dX8_see_0 rfl ?_
  refine g_icz (v := -1) C dX8_see_1 (by decide) ?_
  refine g_icne C 15 dX8_see_2 (by decide) (fun h2 => ?_) (fun h2 => ?_)
  · refine g_iload_n C dX8_see_15 rfl ?_
    refine g_callSp C (c_X8_isMove (d := d) ) dX8_see_16 km_RX8_213 kn_RX8 kc_yX8_isMove ks_yX8_isMove (by omega) (by decide) ⟨by decide, by decide, rfl⟩ rfl (Nat.le_of_ble_eq_true rfl) ?_
    refine g_ifneB C 24 dX8_see_19 (by decide) (fun h19 => ?_) (fun h19 => ?_)
    · obtain ⟨j, hj, rfl⟩ := isMv_t h19
      refine g_aload_n C dX8_see_24 rfl ?_
      refine gf_X8_w C (by rfl) dX8_see_25 kf_RX8_11 ?_
      refine g_bp C (nI 33) dX8_see_28 (by decide) ?_
      refine g_ialdN C (by rfl) (by omega) (by first | decide | omega) dX8_see_30 ?_
      rw [hr.2.1]
      refine g_ic (n := 5) C dX8_see_31 (by decide) ?_
      refine g_icneN C 38 dX8_see_32 (by decide) (by omega) (by omega) (fun h32 => ?_) (fun h32 => ?_)
      · refine g_bp C (nI 34) dX8_see_38 (by decide) ?_
        refine g_ic (n := 2) C dX8_see_40 (by decide) ?_
        refine g_aload_n C dX8_see_41 rfl ?_
        refine gf_X8_w C (by rfl) dX8_see_42 kf_RX8_11 ?_
        refine g_bp C (nI 33) dX8_see_45 (by decide) ?_
        refine g_ialdN C (by rfl) (by omega) (by first | decide | omega) dX8_see_47 ?_
        rw [hr.2.1]
        refine g_imulN C dX8_see_48 ?_
        refine g_iaddN C dX8_see_49 ?_
        refine g_istore_n C dX8_see_50 (by decide) ?_
        refine g_aload_n C dX8_see_51 rfl ?_
        refine gf_X8_w C (by rfl) dX8_see_52 kf_RX8_11 ?_
        refine g_iload_n C dX8_see_55 rfl ?_
        refine g_iload_n C dX8_see_56 rfl ?_
        refine g_iastN C (by rfl) (by omega) (by first | decide | omega) dX8_see_57 ?_
        refine g_aload_n C dX8_see_58 rfl ?_
        refine gf_X8_w C (by rfl) dX8_see_59 kf_RX8_11 ?_
        refine g_iload_n C dX8_see_62 rfl ?_
        refine g_ic (n := 1) C dX8_see_63 (by decide) ?_
        refine g_iaddN C dX8_see_64 ?_
        refine g_iload_n C dX8_see_65 rfl ?_
        refine g_ifeq C 73 dX8_see_66 (by decide) (fun h66 => ?_) (fun h66 => ?_)
        · refine g_ic (n := 0) C dX8_see_73 (by decide) ?_
          rw [show nI 0 = nI (if z = 0 then 0 else 1) from by rw [if_pos h66]]
          refine g_iastN C (by rfl) (by omega) (by first | decide | omega) dX8_see_74 ?_
          refine g_aload_n C dX8_see_75 rfl ?_
          refine gf_X8_w C (by rfl) dX8_see_76 kf_RX8_11 ?_
          refine g_bp C (nI 33) dX8_see_79 (by decide) ?_
          refine g_dup2 C dX8_see_81 rfl rfl ?_
          refine g_ialdN C (by rfl) (by omega) (by first | decide | omega) dX8_see_82 ?_
          refine g_eq (st' := [.int (nI s.1.2.1.1), .int (nI 33), .ref (ev_a E 65)]) (by simp only [sI_self]; rw [up_n (by omega), up_n (by omega), hr.2.1]) ?_
          refine g_ic (n := 1) C dX8_see_83 (by decide) ?_
          refine g_iaddN C dX8_see_84 ?_
          refine g_iastN C (by rfl) (by omega) (by first | decide | omega) dX8_see_85 ?_
          refine g_aload_n C dX8_see_86 rfl ?_
          refine gf_X8_w C (by rfl) dX8_see_87 kf_RX8_11 ?_
          refine g_bp C (nI 33) dX8_see_90 (by decide) ?_
          refine g_ialdN C (by rfl) (by omega) (by first | decide | omega) dX8_see_92 ?_
          refine g_eq (st' := [.int (nI (s.1.2.1.1 + 1))]) (by simp only [sI_self]; rw [up_i]) ?_
          refine g_iret C dX8_see_93 ?_
          have hF : Fk [] [65] σ (sI σ 65 (upd (upd (upd (σ.1 65) (34 + 2 * s.1.2.1.1) (nI j)) (34 + 2 * s.1.2.1.1 + 1) (nI (if z = 0 then 0 else 1))) 33 (nI (s.1.2.1.1 + 1)))) := Fk.rf.sI (by simp) (by decide)
          simp only [sI_sI, sI_self]
          exact ⟨congrArg (fun v => some (Value.int v)) (by unfold aSee; rw [if_neg h2, if_neg (by rw [h19]; decide), if_neg h32]), by rw [show tSee s (nI j) z = sSeen s (s.1.2.1.1 + 1, (fun q => if q = s.1.2.1.1 then j else s.1.2.1.2.1 q), (fun q => if q = s.1.2.1.1 then (if z = 0 then 0 else 1) else s.1.2.1.2.2 q)) from by unfold tSee; rw [if_neg h2, if_neg (by rw [h19]; decide), if_neg h32, ix_nI (show j < 2 ^ 31 by omega)]]; exact hs.w hF (by rw [sI_self]; exact hs.1.sn (fun q hq => by rw [up_n (by omega), up_n (by omega), up_n (by omega)]) (RB.add hr (by omega))), hF.s (by decide)⟩
        · refine g_ic (n := 1) C dX8_see_69 (by decide) ?_
          rw [show nI 1 = nI (if z = 0 then 0 else 1) from by rw [if_neg h66]]
          refine g_goto C 74 dX8_see_70 (by decide) ?_
          refine g_iastN C (by rfl) (by omega) (by first | decide | omega) dX8_see_74 ?_
          refine g_aload_n C dX8_see_75 rfl ?_
          refine gf_X8_w C (by rfl) dX8_see_76 kf_RX8_11 ?_
          refine g_bp C (nI 33) dX8_see_79 (by decide) ?_
          refine g_dup2 C dX8_see_81 rfl rfl ?_
          refine g_ialdN C (by rfl) (by omega) (by first | decide | omega) dX8_see_82 ?_
          refine g_eq (st' := [.int (nI s.1.2.1.1), .int (nI 33), .ref (ev_a E 65)]) (by simp only [sI_self]; rw [up_n (by omega), up_n (by omega), hr.2.1]) ?_
          refine g_ic (n := 1) C dX8_see_83 (by decide) ?_
          refine g_iaddN C dX8_see_84 ?_
          refine g_iastN C (by rfl) (by omega) (by first | decide | omega) dX8_see_85 ?_
          refine g_aload_n C dX8_see_86 rfl ?_
          refine gf_X8_w C (by rfl) dX8_see_87 kf_RX8_11 ?_
          refine g_bp C (nI 33) dX8_see_90 (by decide) ?_
          refine g_ialdN C (by rfl) (by omega) (by first | decide | omega) dX8_see_92 ?_
          refine g_eq (st' := [.int (nI (s.1.2.1.1 + 1))]) (by simp only [sI_self]; rw [up_i]) ?_
          refine g_iret C dX8_see_93 ?_
          have hF : Fk [] [65] σ (sI σ 65 (upd (upd (upd (σ.1 65) (34 + 2 * s.1.2.1.1) (nI j)) (34 + 2 * s.1.2.1.1 + 1) (nI (if z = 0 then 0 else 1))) 33 (nI (s.1.2.1.1 + 1)))) := Fk.rf.sI (by simp) (by decide)
          simp only [sI_sI, sI_self]
          exact ⟨congrArg (fun v => some (Value.int v)) (by unfold aSee; rw [if_neg h2, if_neg (by rw [h19]; decide), if_neg h32]), by rw [show tSee s (nI j) z = sSeen s (s.1.2.1.1 + 1, (fun q => if q = s.1.2.1.1 then j else s.1.2.1.2.1 q), (fun q => if q = s.1.2.1.1 then (if z = 0 then 0 else 1) else s.1.2.1.2.2 q)) from by unfold tSee; rw [if_neg h2, if_neg (by rw [h19]; decide), if_neg h32, ix_nI (show j < 2 ^ 31 by omega)]]; exact hs.w hF (by rw [sI_self]; exact hs.1.sn (fun q hq => by rw [up_n (by omega), up_n (by omega), up_n (by omega)]) (RB.add hr (by omega))), hF.s (by decide)⟩
      · refine g_bp C (-4) dX8_see_35 (by decide) ?_
        refine g_iret C dX8_see_37 ?_
        exact ⟨congrArg (fun v => some (Value.int v)) (by unfold aSee; rw [if_neg h2, if_neg (by rw [h19]; decide), if_pos h32]), by rw [show tSee s (nI j) z = s from by unfold tSee; rw [if_neg h2, if_neg (by rw [h19]; decide), if_pos h32]]; exact hs, Rs.rf⟩
    · refine g_icz (v := -1) C dX8_see_22 (by decide) ?_
      refine g_iret C dX8_see_23 ?_
      exact ⟨congrArg (fun v => some (Value.int v)) (by unfold aSee; rw [if_neg h2, if_pos h19]), by rw [show tSee s x z = s from by unfold tSee; rw [if_neg h2, if_pos h19]]; exact hs, Rs.rf⟩
  · refine g_aload_n C dX8_see_5 rfl ?_
    refine gf_X8_w C (by rfl) dX8_see_6 kf_RX8_11 ?_
    refine g_bp C (nI 33) dX8_see_9 (by decide) ?_
    refine g_ic (n := 0) C dX8_see_11 (by decide) ?_
    refine g_iastN C (by rfl) (by omega) (by first | decide | omega) dX8_see_12 ?_
    refine g_ic (n := 0) C dX8_see_13 (by decide) ?_
    refine g_iret C dX8_see_14 ?_
    have hF : Fk [] [65] σ (sI σ 65 (upd (σ.1 65) 33 (nI 0))) := Fk.rf.sI (by simp) (by decide)
    exact ⟨congrArg (fun v => some (Value.int v)) (by unfold aSee; rw [if_pos h2]), by rw [show tSee s x z = sSeen s (0, s.1.2.1.2) from by unfold tSee; rw [if_pos h2]]; exact hs.w hF (by rw [sI_self]; exact hs.1.sn (fun q hq => by rw [up_n (by omega)]) RB.zero), hF.s (by decide)⟩

set_option maxHeartbeats 4000000 in
set_option maxRecDepth 100000 in
theorem c_X8_mostOf {E : Ev} {d : Nat} {σ : St} {w : Nat} (hw : w < 4) : Con E (d) yX8_mostOf cX8_mostOf 1 ((Option.some FieldType.int)) [.int (nI w)] σ (Det (some (.int (nI (mstN w)))) σ) := by
  refine con_of (by decide) (Nat.le_of_ble_eq_true rfl) (fun X hX C => ?_)
  have C : Cx E X cX8_mostOf RX8 1 ((Option.some FieldType.int)) := C
  show G E _ X _ _ _ 0 [(0, .int (nI w))] []
  refine g_iload_n C dX8_mostOf_0 rfl ?_
  refine g_ifneN C 9 dX8_mostOf_1 (by decide) (by omega) (fun h1 => ?_) (fun h1 => ?_)
  · refine g_iload_n C dX8_mostOf_9 rfl ?_
    refine g_ic (n := 2) C dX8_mostOf_10 (by decide) ?_
    refine g_icneN C 19 dX8_mostOf_11 (by decide) (by omega) (by omega) (fun h11 => ?_) (fun h11 => ?_)
    · refine g_ic (n := 4) C dX8_mostOf_19 (by decide) ?_
      refine g_iret C dX8_mostOf_20 ?_
      exact ⟨congrArg (fun v => some (Value.int v)) (by unfold mstN; first | (rw [if_pos h1]; done) | (rw [if_neg h1, if_pos h11]; done) | (rw [if_neg h1, if_neg h11]; done)), rfl⟩
    · refine g_bp C (nI 47) dX8_mostOf_14 (by decide) ?_
      refine g_goto C 20 dX8_mostOf_16 (by decide) ?_
      refine g_iret C dX8_mostOf_20 ?_
      exact ⟨congrArg (fun v => some (Value.int v)) (by unfold mstN; first | (rw [if_pos h1]; done) | (rw [if_neg h1, if_pos h11]; done) | (rw [if_neg h1, if_neg h11]; done)), rfl⟩
  · refine g_bp C (nI 7) dX8_mostOf_4 (by decide) ?_
    refine g_goto C 20 dX8_mostOf_6 (by decide) ?_
    refine g_iret C dX8_mostOf_20 ?_
    exact ⟨congrArg (fun v => some (Value.int v)) (by unfold mstN; first | (rw [if_pos h1]; done) | (rw [if_neg h1, if_pos h11]; done) | (rw [if_neg h1, if_neg h11]; done)), rfl⟩

set_option maxHeartbeats 4000000 in
set_option maxRecDepth 100000 in
theorem c_X8_event {E : Ev} {d : Nat} {σ : St} {s : Ms} (hs : RfIs σ s) {w t : Int32} : Con E (d + 1) yX8_event cX8_event 4 ((Option.some FieldType.int)) [.ref (ev_a E 64), .int w, .int t] σ (RfTo (.int (aEvent s w t)) σ (tEvent s w t)) := by
  refine con_of (by decide) (Nat.le_of_ble_eq_true rfl) (fun X hX C => ?_)
  have C : Cx E X cX8_event RX8 4 ((Option.some FieldType.int)) := C
  have hr := hs.1.2.2.1
  have hc := hr.1
  show G E _ X _ _ _ 0 [(0, .ref (ev_a E 64)), (1, .int w), (2, .int t)] []
  refine g_iload_n C dX8_event_0 rfl ?_
  refine g_icz (v := -1) C dX8_event_1 (by decide) ?_
  refine g_icne C 15 dX8_event_2 (by decide) (fun h2 => ?_) (fun h2 => ?_)
  · refine g_iload_n C dX8_event_15 rfl ?_
    refine g_i2l C _ dX8_event_16 rfl ?_
    refine g_lc (v := 0) C dX8_event_17 (by decide) ?_
    refine g_ldc2 C (3) dX8_event_18 (List.mem_of_getElem? (i := 797) (by decide +kernel)) ?_
    refine g_callSp C (c_X8_in (d := d) (0) (3) (by decide) (by decide)) dX8_event_21 km_RX8_56 kn_RX8 kc_yX8_in ks_yX8_in (by omega) (by decide) ⟨by decide, by decide, rfl⟩ rfl (Nat.le_of_ble_eq_true rfl) ?_
    refine g_ifneB C 29 dX8_event_24 (by decide) (fun h24 => ?_) (fun h24 => ?_)
    · obtain ⟨w2, hw2, rfl⟩ := in_n (k := 3) h24
      have hm := mstN_le w2
      refine g_iload_n C dX8_event_29 rfl ?_
      refine g_i2l C _ dX8_event_30 rfl ?_
      refine g_lc (v := 0) C dX8_event_31 (by decide) ?_
      refine g_iload_n C dX8_event_32 rfl ?_
      refine g_callSp C (c_X8_mostOf (d := d) (by omega)) dX8_event_33 km_RX8_256 kn_RX8 kc_yX8_mostOf ks_yX8_mostOf (by omega) (by decide) ⟨by decide, by decide, rfl⟩ rfl (Nat.le_of_ble_eq_true rfl) ?_
      refine g_i2l C _ dX8_event_36 rfl ?_
      refine g_callSp C (c_X8_in (d := d) (0) ((mstN w2 : Nat) : Int) (by decide) (by rw [x64, nI_toInt (by omega)])) dX8_event_37 km_RX8_56 kn_RX8 kc_yX8_in ks_yX8_in (by omega) (by decide) ⟨by decide, by decide, rfl⟩ rfl (Nat.le_of_ble_eq_true rfl) ?_
      rw [fe_eq (by omega)]
      refine g_ifneB C 46 dX8_event_40 (by decide) (fun h40 => ?_) (fun h40 => ?_)
      · obtain ⟨hy1, hy2⟩ := feB_ok (show w2 < 4 by omega) h40
        obtain ⟨y, hy⟩ : ∃ y, y = ix t := ⟨_, rfl⟩
        rw [← hy] at hy1 hy2
        subst hy2
        refine g_aload_n C dX8_event_46 rfl ?_
        refine gf_X8_w C (by rfl) dX8_event_47 kf_RX8_11 ?_
        refine g_bp C (nI 44) dX8_event_50 (by decide) ?_
        refine g_ialdN C (by rfl) (by omega) (by first | decide | omega) dX8_event_52 ?_
        rw [hr.2.1]
        refine g_bp C (nI 8) dX8_event_53 (by decide) ?_
        refine g_icneN C 61 dX8_event_55 (by decide) (by omega) (by omega) (fun h55 => ?_) (fun h55 => ?_)
        · refine g_bp C (nI 45) dX8_event_61 (by decide) ?_
          refine g_ic (n := 2) C dX8_event_63 (by decide) ?_
          refine g_aload_n C dX8_event_64 rfl ?_
          refine gf_X8_w C (by rfl) dX8_event_65 kf_RX8_11 ?_
          refine g_bp C (nI 44) dX8_event_68 (by decide) ?_
          refine g_ialdN C (by rfl) (by omega) (by first | decide | omega) dX8_event_70 ?_
          rw [hr.2.1]
          refine g_imulN C dX8_event_71 ?_
          refine g_iaddN C dX8_event_72 ?_
          refine g_istore_n C dX8_event_73 (by decide) ?_
          refine g_aload_n C dX8_event_74 rfl ?_
          refine gf_X8_w C (by rfl) dX8_event_75 kf_RX8_11 ?_
          refine g_iload_n C dX8_event_78 rfl ?_
          refine g_iload_n C dX8_event_79 rfl ?_
          refine g_iastN C (by rfl) (by omega) (by first | decide | omega) dX8_event_80 ?_
          refine g_aload_n C dX8_event_81 rfl ?_
          refine gf_X8_w C (by rfl) dX8_event_82 kf_RX8_11 ?_
          refine g_iload_n C dX8_event_85 rfl ?_
          refine g_ic (n := 1) C dX8_event_86 (by decide) ?_
          refine g_iaddN C dX8_event_87 ?_
          refine g_iload_n C dX8_event_88 rfl ?_
          refine g_iastN C (by rfl) (by omega) (by first | decide | omega) dX8_event_89 ?_
          refine g_aload_n C dX8_event_90 rfl ?_
          refine gf_X8_w C (by rfl) dX8_event_91 kf_RX8_11 ?_
          refine g_bp C (nI 44) dX8_event_94 (by decide) ?_
          refine g_dup2 C dX8_event_96 rfl rfl ?_
          refine g_ialdN C (by rfl) (by omega) (by first | decide | omega) dX8_event_97 ?_
          refine g_eq (st' := [.int (nI s.1.2.2.1.1), .int (nI 44), .ref (ev_a E 65)]) (by simp only [sI_self]; rw [up_n (by omega), up_n (by omega), hr.2.1]) ?_
          refine g_ic (n := 1) C dX8_event_98 (by decide) ?_
          refine g_iaddN C dX8_event_99 ?_
          refine g_iastN C (by rfl) (by omega) (by first | decide | omega) dX8_event_100 ?_
          refine g_aload_n C dX8_event_101 rfl ?_
          refine gf_X8_w C (by rfl) dX8_event_102 kf_RX8_11 ?_
          refine g_bp C (nI 44) dX8_event_105 (by decide) ?_
          refine g_ialdN C (by rfl) (by omega) (by first | decide | omega) dX8_event_107 ?_
          refine g_eq (st' := [.int (nI (s.1.2.2.1.1 + 1))]) (by simp only [sI_self]; rw [up_i]) ?_
          refine g_iret C dX8_event_108 ?_
          have hF : Fk [] [65] σ (sI σ 65 (upd (upd (upd (σ.1 65) (45 + 2 * s.1.2.2.1.1) (nI w2)) (45 + 2 * s.1.2.2.1.1 + 1) (nI y)) 44 (nI (s.1.2.2.1.1 + 1)))) := Fk.rf.sI (by simp) (by decide)
          simp only [sI_sI, sI_self]
          exact ⟨congrArg (fun v => some (Value.int v)) (by unfold aEvent; rw [if_neg h2, if_neg (by rw [h24]; decide), ix_nI (show w2 < 2 ^ 31 by omega), if_neg (by rw [h40]; decide), if_neg h55]), by rw [show tEvent s (nI w2) (nI y) = sEv s (rwAdd s.1.2.2.1 w2 y) from by unfold tEvent; rw [if_neg h2, if_neg (by rw [h24]; decide), ix_nI (show w2 < 2 ^ 31 by omega), if_neg (by rw [h40]; decide), if_neg h55, ← hy]]; exact hs.w hF (by rw [sI_self]; exact hs.1.ev (fun q hq => by rw [up_n (by omega), up_n (by omega), up_n (by omega)]) (RB.add hr (by omega))), hF.s (by decide)⟩
        · refine g_bp C (-4) dX8_event_58 (by decide) ?_
          refine g_iret C dX8_event_60 ?_
          exact ⟨congrArg (fun v => some (Value.int v)) (by unfold aEvent; rw [if_neg h2, if_neg (by rw [h24]; decide), ix_nI (show w2 < 2 ^ 31 by omega), if_neg (by rw [h40]; decide), if_pos h55]), by rw [show tEvent s (nI w2) (nI y) = s from by unfold tEvent; rw [if_neg h2, if_neg (by rw [h24]; decide), ix_nI (show w2 < 2 ^ 31 by omega), if_neg (by rw [h40]; decide), if_pos h55]]; exact hs, Rs.rf⟩
      · refine g_bp C (-2) dX8_event_43 (by decide) ?_
        refine g_iret C dX8_event_45 ?_
        exact ⟨congrArg (fun v => some (Value.int v)) (by unfold aEvent; rw [if_neg h2, if_neg (by rw [h24]; decide), ix_nI (show w2 < 2 ^ 31 by omega), if_pos h40]), by rw [show tEvent s (nI w2) t = s from by unfold tEvent; rw [if_neg h2, if_neg (by rw [h24]; decide), ix_nI (show w2 < 2 ^ 31 by omega), if_pos h40]]; exact hs, Rs.rf⟩
    · refine g_icz (v := -1) C dX8_event_27 (by decide) ?_
      refine g_iret C dX8_event_28 ?_
      exact ⟨congrArg (fun v => some (Value.int v)) (by unfold aEvent; rw [if_neg h2, if_pos h24]), by rw [show tEvent s w t = s from by unfold tEvent; rw [if_neg h2, if_pos h24]]; exact hs, Rs.rf⟩
  · refine g_aload_n C dX8_event_5 rfl ?_
    refine gf_X8_w C (by rfl) dX8_event_6 kf_RX8_11 ?_
    refine g_bp C (nI 44) dX8_event_9 (by decide) ?_
    refine g_ic (n := 0) C dX8_event_11 (by decide) ?_
    refine g_iastN C (by rfl) (by omega) (by first | decide | omega) dX8_event_12 ?_
    refine g_ic (n := 0) C dX8_event_13 (by decide) ?_
    refine g_iret C dX8_event_14 ?_
    have hF : Fk [] [65] σ (sI σ 65 (upd (σ.1 65) 44 (nI 0))) := Fk.rf.sI (by simp) (by decide)
    exact ⟨congrArg (fun v => some (Value.int v)) (by unfold aEvent; rw [if_pos h2]), by rw [show tEvent s w t = sEv s (0, s.1.2.2.1.2) from by unfold tEvent; rw [if_pos h2]]; exact hs.w hF (by rw [sI_self]; exact hs.1.ev (fun q hq => by rw [up_n (by omega)]) RB.zero), hF.s (by decide)⟩

set_option maxHeartbeats 4000000 in
set_option maxRecDepth 100000 in
theorem c_X8_book {E : Ev} {d : Nat} {σ : St} {s : Ms} (hs : RfIs σ s) {m r : Int32} : Con E (d + 2) yX8_book cX8_book 4 ((Option.some FieldType.int)) [.ref (ev_a E 64), .int m, .int r] σ (RfTo (.int (aBook s m r)) σ (tBook s m r)) := by
  refine con_of (by decide) (Nat.le_of_ble_eq_true rfl) (fun X hX C => ?_)
  have C : Cx E X cX8_book RX8 4 ((Option.some FieldType.int)) := C
  have hr := hs.1.2.2.2
  have hc := hr.1
  show G E _ X _ _ _ 0 [(0, .ref (ev_a E 64)), (1, .int m), (2, .int r)] []
  refine g_iload_n C dX8_book_0 rfl ?_
  refine g_icz (v := -1) C dX8_book_1 (by decide) ?_
  refine g_icne C 15 dX8_book_2 (by decide) (fun h2 => ?_) (fun h2 => ?_)
  · refine g_iload_n C dX8_book_15 rfl ?_
    refine g_callSp C (c_X8_isMove (d := d) ) dX8_book_16 km_RX8_213 kn_RX8 kc_yX8_isMove ks_yX8_isMove (by omega) (by decide) ⟨by decide, by decide, rfl⟩ rfl (Nat.le_of_ble_eq_true rfl) ?_
    refine g_ifneB C 24 dX8_book_19 (by decide) (fun h19 => ?_) (fun h19 => ?_)
    · obtain ⟨j, hj, rfl⟩ := isMv_t h19
      refine g_iload_n C dX8_book_24 rfl ?_
      refine g_i2l C _ dX8_book_25 rfl ?_
      refine g_lc (v := 1) C dX8_book_26 (by decide) ?_
      refine g_ldc2 C (6) dX8_book_27 (List.mem_of_getElem? (i := 1120) (by decide +kernel)) ?_
      refine g_callSp C (c_X8_in (d := d) (1) (6) (by decide) (by decide)) dX8_book_30 km_RX8_56 kn_RX8 kc_yX8_in ks_yX8_in (by omega) (by decide) ⟨by decide, by decide, rfl⟩ rfl (Nat.le_of_ble_eq_true rfl) ?_
      refine g_ifneB C 39 dX8_book_33 (by decide) (fun h33 => ?_) (fun h33 => ?_)
      · obtain ⟨r2, hr2, rfl⟩ := in16 h33
        refine g_aload_n C dX8_book_39 rfl ?_
        refine gf_X8_w C (by rfl) dX8_book_40 kf_RX8_11 ?_
        refine g_bp C (nI 61) dX8_book_43 (by decide) ?_
        refine g_ialdN C (by rfl) (by omega) (by first | decide | omega) dX8_book_45 ?_
        rw [hr.2.1]
        refine g_bp C (nI 8) dX8_book_46 (by decide) ?_
        refine g_icneN C 54 dX8_book_48 (by decide) (by omega) (by omega) (fun h48 => ?_) (fun h48 => ?_)
        · refine g_bp C (nI 62) dX8_book_54 (by decide) ?_
          refine g_ic (n := 2) C dX8_book_56 (by decide) ?_
          refine g_aload_n C dX8_book_57 rfl ?_
          refine gf_X8_w C (by rfl) dX8_book_58 kf_RX8_11 ?_
          refine g_bp C (nI 61) dX8_book_61 (by decide) ?_
          refine g_ialdN C (by rfl) (by omega) (by first | decide | omega) dX8_book_63 ?_
          rw [hr.2.1]
          refine g_imulN C dX8_book_64 ?_
          refine g_iaddN C dX8_book_65 ?_
          refine g_istore_n C dX8_book_66 (by decide) ?_
          refine g_aload_n C dX8_book_67 rfl ?_
          refine gf_X8_w C (by rfl) dX8_book_68 kf_RX8_11 ?_
          refine g_iload_n C dX8_book_71 rfl ?_
          refine g_iload_n C dX8_book_72 rfl ?_
          refine g_iastN C (by rfl) (by omega) (by first | decide | omega) dX8_book_73 ?_
          refine g_aload_n C dX8_book_74 rfl ?_
          refine gf_X8_w C (by rfl) dX8_book_75 kf_RX8_11 ?_
          refine g_iload_n C dX8_book_78 rfl ?_
          refine g_ic (n := 1) C dX8_book_79 (by decide) ?_
          refine g_iaddN C dX8_book_80 ?_
          refine g_iload_n C dX8_book_81 rfl ?_
          refine g_iastN C (by rfl) (by omega) (by first | decide | omega) dX8_book_82 ?_
          refine g_aload_n C dX8_book_83 rfl ?_
          refine gf_X8_w C (by rfl) dX8_book_84 kf_RX8_11 ?_
          refine g_bp C (nI 61) dX8_book_87 (by decide) ?_
          refine g_dup2 C dX8_book_89 rfl rfl ?_
          refine g_ialdN C (by rfl) (by omega) (by first | decide | omega) dX8_book_90 ?_
          refine g_eq (st' := [.int (nI s.1.2.2.2.1), .int (nI 61), .ref (ev_a E 65)]) (by simp only [sI_self]; rw [up_n (by omega), up_n (by omega), hr.2.1]) ?_
          refine g_ic (n := 1) C dX8_book_91 (by decide) ?_
          refine g_iaddN C dX8_book_92 ?_
          refine g_iastN C (by rfl) (by omega) (by first | decide | omega) dX8_book_93 ?_
          refine g_aload_n C dX8_book_94 rfl ?_
          refine gf_X8_w C (by rfl) dX8_book_95 kf_RX8_11 ?_
          refine g_bp C (nI 61) dX8_book_98 (by decide) ?_
          refine g_ialdN C (by rfl) (by omega) (by first | decide | omega) dX8_book_100 ?_
          refine g_eq (st' := [.int (nI (s.1.2.2.2.1 + 1))]) (by simp only [sI_self]; rw [up_i]) ?_
          refine g_iret C dX8_book_101 ?_
          have hF : Fk [] [65] σ (sI σ 65 (upd (upd (upd (σ.1 65) (62 + 2 * s.1.2.2.2.1) (nI j)) (62 + 2 * s.1.2.2.2.1 + 1) (nI r2)) 61 (nI (s.1.2.2.2.1 + 1)))) := Fk.rf.sI (by simp) (by decide)
          simp only [sI_sI, sI_self]
          exact ⟨congrArg (fun v => some (Value.int v)) (by unfold aBook; rw [if_neg h2, if_neg (by rw [h19]; decide), if_neg (by rw [h33]; decide), if_neg h48]), by rw [show tBook s (nI j) (nI r2) = sBk s (rwAdd s.1.2.2.2 j r2) from by unfold tBook; rw [if_neg h2, if_neg (by rw [h19]; decide), if_neg (by rw [h33]; decide), if_neg h48, ix_nI (show j < 2 ^ 31 by omega), ix_nI (show r2 < 2 ^ 31 by omega)]]; exact hs.w hF (by rw [sI_self]; exact hs.1.bk (fun q hq => by rw [up_n (by omega), up_n (by omega), up_n (by omega)]) (RB.add hr (by omega))), hF.s (by decide)⟩
        · refine g_bp C (-4) dX8_book_51 (by decide) ?_
          refine g_iret C dX8_book_53 ?_
          exact ⟨congrArg (fun v => some (Value.int v)) (by unfold aBook; rw [if_neg h2, if_neg (by rw [h19]; decide), if_neg (by rw [h33]; decide), if_pos h48]), by rw [show tBook s (nI j) (nI r2) = s from by unfold tBook; rw [if_neg h2, if_neg (by rw [h19]; decide), if_neg (by rw [h33]; decide), if_pos h48]]; exact hs, Rs.rf⟩
      · refine g_bp C (-2) dX8_book_36 (by decide) ?_
        refine g_iret C dX8_book_38 ?_
        exact ⟨congrArg (fun v => some (Value.int v)) (by unfold aBook; rw [if_neg h2, if_neg (by rw [h19]; decide), if_pos h33]), by rw [show tBook s (nI j) r = s from by unfold tBook; rw [if_neg h2, if_neg (by rw [h19]; decide), if_pos h33]]; exact hs, Rs.rf⟩
    · refine g_icz (v := -1) C dX8_book_22 (by decide) ?_
      refine g_iret C dX8_book_23 ?_
      exact ⟨congrArg (fun v => some (Value.int v)) (by unfold aBook; rw [if_neg h2, if_pos h19]), by rw [show tBook s m r = s from by unfold tBook; rw [if_neg h2, if_pos h19]]; exact hs, Rs.rf⟩
  · refine g_aload_n C dX8_book_5 rfl ?_
    refine gf_X8_w C (by rfl) dX8_book_6 kf_RX8_11 ?_
    refine g_bp C (nI 61) dX8_book_9 (by decide) ?_
    refine g_ic (n := 0) C dX8_book_11 (by decide) ?_
    refine g_iastN C (by rfl) (by omega) (by first | decide | omega) dX8_book_12 ?_
    refine g_ic (n := 0) C dX8_book_13 (by decide) ?_
    refine g_iret C dX8_book_14 ?_
    have hF : Fk [] [65] σ (sI σ 65 (upd (σ.1 65) 61 (nI 0))) := Fk.rf.sI (by simp) (by decide)
    exact ⟨congrArg (fun v => some (Value.int v)) (by unfold aBook; rw [if_pos h2]), by rw [show tBook s m r = sBk s (0, s.1.2.2.2.2) from by unfold tBook; rw [if_pos h2]]; exact hs.w hF (by rw [sI_self]; exact hs.1.bk (fun q hq => by rw [up_n (by omega)]) RB.zero), hF.s (by decide)⟩

set_option maxHeartbeats 4000000 in
set_option maxRecDepth 100000 in
theorem l_X8_isSeen {E : Ev} {d : Nat} {X : Mx} (C : Cx E X cX8_isSeen RX8 3 ((Option.some FieldType.boolean))) {σ : St} {n : Nat} {P : Nat → Nat → Int32} (h : PIs σ n P) {w : Rw} (hr : RB (σ.1 65) 33 5 w) (hok : ∀ j, j < w.1 → w.2.1 j < 48 ∧ w.2.2 j < 2) : ∀ (k : Nat) (r : Nat) (b : Bool), w.1 = r + k → G E (d + 8) X 3 (Det (some (.int (bI (b && asL P n w.2.1 w.2.2 k r)))) σ) σ 4 ([(0, .ref (ev_a E 64)), (1, .int (bI b)), (2, .int (nI r))]) [] := by
  intro k
  induction k with
  | zero =>
    intro r b hi
    have hc := hr.1
    have h8 := h.1
    refine g_iload_n C dX8_isSeen_4 rfl ?_
    refine g_aload_n C dX8_isSeen_5 rfl ?_
    refine gf_X8_w C (by rfl) dX8_isSeen_6 kf_RX8_11 ?_
    refine g_bp C (nI 33) dX8_isSeen_9 (by decide) ?_
    refine g_ialdN C (by rfl) (by omega) (by first | decide | omega) dX8_isSeen_11 ?_
    rw [hr.2.1]
    refine g_icgeN C 77 dX8_isSeen_12 (by decide) (by omega) (by omega) (fun h12 => ?_) (fun h12 => ?_)
    · refine g_iload_n C dX8_isSeen_77 rfl ?_
      refine g_zret C (bI_01 _) dX8_isSeen_78 ?_
      exact ⟨congrArg (fun v => some (Value.int v)) (by unfold asL; rw [Bool.and_true]), rfl⟩
    · omega
  | succ k ih =>
    intro r b hi
    have hc := hr.1
    have h8 := h.1
    refine g_iload_n C dX8_isSeen_4 rfl ?_
    refine g_aload_n C dX8_isSeen_5 rfl ?_
    refine gf_X8_w C (by rfl) dX8_isSeen_6 kf_RX8_11 ?_
    refine g_bp C (nI 33) dX8_isSeen_9 (by decide) ?_
    refine g_ialdN C (by rfl) (by omega) (by first | decide | omega) dX8_isSeen_11 ?_
    rw [hr.2.1]
    refine g_icgeN C 77 dX8_isSeen_12 (by decide) (by omega) (by omega) (fun h12 => ?_) (fun h12 => ?_)
    · omega
    · refine g_iload_n C dX8_isSeen_15 rfl ?_
      refine g_aload_n C dX8_isSeen_16 rfl ?_
      refine g_aload_n C dX8_isSeen_17 rfl ?_
      refine gf_X8_w C (by rfl) dX8_isSeen_18 kf_RX8_11 ?_
      refine g_bp C (nI 34) dX8_isSeen_21 (by decide) ?_
      refine g_ic (n := 2) C dX8_isSeen_23 (by decide) ?_
      refine g_iload_n C dX8_isSeen_24 rfl ?_
      refine g_imulN C dX8_isSeen_25 ?_
      refine g_iaddN C dX8_isSeen_26 ?_
      refine g_ialdN C (by rfl) (by omega) (by first | decide | omega) dX8_isSeen_27 ?_
      rw [show σ.1 65 (34 + 2 * r) = nI (w.2.1 r) from (hr.2.2 r (by omega)).1]
      refine g_callVp C (ob_X8 (by rfl)) (c_X8_movedMany (d := d) h (hok r (by omega)).1) dX8_isSeen_28 km_RX8_101 kn_RX8 kc_yX8_movedMany ki_yX8_movedMany kx_yX8_movedMany (by omega) (by decide) ⟨by decide, by decide, rfl⟩ rfl (Nat.le_of_ble_eq_true rfl) ?_
      have b1 := mvN_le (P := P) (n := n) (m := w.2.1 r)
      refine g_ifneN C 38 dX8_isSeen_31 (by decide) (by omega) (fun h31 => ?_) (fun h31 => ?_)
      · refine g_ic (n := 0) C dX8_isSeen_38 (by decide) ?_
        rw [show nI 0 = bI (kpt P n (w.2.1 r)) from by cases c : (kpt P n (w.2.1 r)) with | false => rfl | true => exact absurd (mv_kp.mpr c) h31]
        refine g_aload_n C dX8_isSeen_39 rfl ?_
        refine gf_X8_w C (by rfl) dX8_isSeen_40 kf_RX8_11 ?_
        refine g_bp C (nI 34) dX8_isSeen_43 (by decide) ?_
        refine g_ic (n := 2) C dX8_isSeen_45 (by decide) ?_
        refine g_iload_n C dX8_isSeen_46 rfl ?_
        refine g_imulN C dX8_isSeen_47 ?_
        refine g_iaddN C dX8_isSeen_48 ?_
        refine g_ic (n := 1) C dX8_isSeen_49 (by decide) ?_
        refine g_iaddN C dX8_isSeen_50 ?_
        refine g_ialdN C (by rfl) (by omega) (by first | decide | omega) dX8_isSeen_51 ?_
        rw [show σ.1 65 (34 + 2 * r + 1) = nI (w.2.2 r) from by have q := (hr.2.2 r (by omega)).2; rw [show 34 + 2 * r + 1 = 33 + 2 + 2 * r from by omega]; exact q]
        have hb2 := (hok r (by omega)).2
        refine g_ic (n := 1) C dX8_isSeen_52 (by decide) ?_
        refine g_icneN C 60 dX8_isSeen_53 (by decide) (by omega) (by omega) (fun h53 => ?_) (fun h53 => ?_)
        · refine g_ic (n := 0) C dX8_isSeen_60 (by decide) ?_
          rw [show nI 0 = bI (decide (w.2.2 r = 1)) from by rw [decide_eq_false h53]; rfl]
          refine g_icne C 68 dX8_isSeen_61 (by decide) (fun h61 => ?_) (fun h61 => ?_)
          · refine g_ic (n := 0) C dX8_isSeen_68 (by decide) ?_
            rw [show nI 0 = bI (decide ((kpt P n (w.2.1 r)) = (decide (w.2.2 r = 1)))) from by rw [decide_eq_false (fun q => h61 (bI_inj.mpr q))]; rfl]
            refine g_iand C dX8_isSeen_69 ?_
            rw [bI_and]
            refine g_istore_n C dX8_isSeen_70 (by decide) ?_
            refine g_iinc1 C dX8_isSeen_71 rfl (by decide) ?_
            refine g_goto C 4 dX8_isSeen_74 (by decide) ?_
            refine g_loc ([(0, .ref (ev_a E 64)), (1, .int (bI (b && (decide ((kpt P n (w.2.1 r)) = (decide (w.2.2 r = 1))))))), (2, .int (nI (r + 1)))]) (And.intro rfl (And.intro rfl (And.intro rfl trivial))) ?_
            rw [show (b && asL P n w.2.1 w.2.2 (k + 1) r) = ((b && (decide ((kpt P n (w.2.1 r)) = (decide (w.2.2 r = 1))))) && asL P n w.2.1 w.2.2 k (r + 1)) from by rw [asL]; by_cases c : (kpt P n (w.2.1 r)) = (decide (w.2.2 r = 1)); rw [if_pos c, decide_eq_true c, Bool.and_true]; rw [if_neg c, decide_eq_false c, Bool.and_false, Bool.false_and]]
            exact ih (r + 1) _ (by omega)
          · refine g_ic (n := 1) C dX8_isSeen_64 (by decide) ?_
            rw [show nI 1 = bI (decide ((kpt P n (w.2.1 r)) = (decide (w.2.2 r = 1)))) from by rw [decide_eq_true (bI_inj.mp h61)]; rfl]
            refine g_goto C 69 dX8_isSeen_65 (by decide) ?_
            refine g_iand C dX8_isSeen_69 ?_
            rw [bI_and]
            refine g_istore_n C dX8_isSeen_70 (by decide) ?_
            refine g_iinc1 C dX8_isSeen_71 rfl (by decide) ?_
            refine g_goto C 4 dX8_isSeen_74 (by decide) ?_
            refine g_loc ([(0, .ref (ev_a E 64)), (1, .int (bI (b && (decide ((kpt P n (w.2.1 r)) = (decide (w.2.2 r = 1))))))), (2, .int (nI (r + 1)))]) (And.intro rfl (And.intro rfl (And.intro rfl trivial))) ?_
            rw [show (b && asL P n w.2.1 w.2.2 (k + 1) r) = ((b && (decide ((kpt P n (w.2.1 r)) = (decide (w.2.2 r = 1))))) && asL P n w.2.1 w.2.2 k (r + 1)) from by rw [asL]; by_cases c : (kpt P n (w.2.1 r)) = (decide (w.2.2 r = 1)); rw [if_pos c, decide_eq_true c, Bool.and_true]; rw [if_neg c, decide_eq_false c, Bool.and_false, Bool.false_and]]
            exact ih (r + 1) _ (by omega)
        · refine g_ic (n := 1) C dX8_isSeen_56 (by decide) ?_
          rw [show nI 1 = bI (decide (w.2.2 r = 1)) from by rw [decide_eq_true h53]; rfl]
          refine g_goto C 61 dX8_isSeen_57 (by decide) ?_
          refine g_icne C 68 dX8_isSeen_61 (by decide) (fun h61 => ?_) (fun h61 => ?_)
          · refine g_ic (n := 0) C dX8_isSeen_68 (by decide) ?_
            rw [show nI 0 = bI (decide ((kpt P n (w.2.1 r)) = (decide (w.2.2 r = 1)))) from by rw [decide_eq_false (fun q => h61 (bI_inj.mpr q))]; rfl]
            refine g_iand C dX8_isSeen_69 ?_
            rw [bI_and]
            refine g_istore_n C dX8_isSeen_70 (by decide) ?_
            refine g_iinc1 C dX8_isSeen_71 rfl (by decide) ?_
            refine g_goto C 4 dX8_isSeen_74 (by decide) ?_
            refine g_loc ([(0, .ref (ev_a E 64)), (1, .int (bI (b && (decide ((kpt P n (w.2.1 r)) = (decide (w.2.2 r = 1))))))), (2, .int (nI (r + 1)))]) (And.intro rfl (And.intro rfl (And.intro rfl trivial))) ?_
            rw [show (b && asL P n w.2.1 w.2.2 (k + 1) r) = ((b && (decide ((kpt P n (w.2.1 r)) = (decide (w.2.2 r = 1))))) && asL P n w.2.1 w.2.2 k (r + 1)) from by rw [asL]; by_cases c : (kpt P n (w.2.1 r)) = (decide (w.2.2 r = 1)); rw [if_pos c, decide_eq_true c, Bool.and_true]; rw [if_neg c, decide_eq_false c, Bool.and_false, Bool.false_and]]
            exact ih (r + 1) _ (by omega)
          · refine g_ic (n := 1) C dX8_isSeen_64 (by decide) ?_
            rw [show nI 1 = bI (decide ((kpt P n (w.2.1 r)) = (decide (w.2.2 r = 1)))) from by rw [decide_eq_true (bI_inj.mp h61)]; rfl]
            refine g_goto C 69 dX8_isSeen_65 (by decide) ?_
            refine g_iand C dX8_isSeen_69 ?_
            rw [bI_and]
            refine g_istore_n C dX8_isSeen_70 (by decide) ?_
            refine g_iinc1 C dX8_isSeen_71 rfl (by decide) ?_
            refine g_goto C 4 dX8_isSeen_74 (by decide) ?_
            refine g_loc ([(0, .ref (ev_a E 64)), (1, .int (bI (b && (decide ((kpt P n (w.2.1 r)) = (decide (w.2.2 r = 1))))))), (2, .int (nI (r + 1)))]) (And.intro rfl (And.intro rfl (And.intro rfl trivial))) ?_
            rw [show (b && asL P n w.2.1 w.2.2 (k + 1) r) = ((b && (decide ((kpt P n (w.2.1 r)) = (decide (w.2.2 r = 1))))) && asL P n w.2.1 w.2.2 k (r + 1)) from by rw [asL]; by_cases c : (kpt P n (w.2.1 r)) = (decide (w.2.2 r = 1)); rw [if_pos c, decide_eq_true c, Bool.and_true]; rw [if_neg c, decide_eq_false c, Bool.and_false, Bool.false_and]]
            exact ih (r + 1) _ (by omega)
      · refine g_ic (n := 1) C dX8_isSeen_34 (by decide) ?_
        rw [show nI 1 = bI (kpt P n (w.2.1 r)) from by rw [mv_kp.mp h31]; rfl]
        refine g_goto C 39 dX8_isSeen_35 (by decide) ?_
        refine g_aload_n C dX8_isSeen_39 rfl ?_
        refine gf_X8_w C (by rfl) dX8_isSeen_40 kf_RX8_11 ?_
        refine g_bp C (nI 34) dX8_isSeen_43 (by decide) ?_
        refine g_ic (n := 2) C dX8_isSeen_45 (by decide) ?_
        refine g_iload_n C dX8_isSeen_46 rfl ?_
        refine g_imulN C dX8_isSeen_47 ?_
        refine g_iaddN C dX8_isSeen_48 ?_
        refine g_ic (n := 1) C dX8_isSeen_49 (by decide) ?_
        refine g_iaddN C dX8_isSeen_50 ?_
        refine g_ialdN C (by rfl) (by omega) (by first | decide | omega) dX8_isSeen_51 ?_
        rw [show σ.1 65 (34 + 2 * r + 1) = nI (w.2.2 r) from by have q := (hr.2.2 r (by omega)).2; rw [show 34 + 2 * r + 1 = 33 + 2 + 2 * r from by omega]; exact q]
        have hb2 := (hok r (by omega)).2
        refine g_ic (n := 1) C dX8_isSeen_52 (by decide) ?_
        refine g_icneN C 60 dX8_isSeen_53 (by decide) (by omega) (by omega) (fun h53 => ?_) (fun h53 => ?_)
        · refine g_ic (n := 0) C dX8_isSeen_60 (by decide) ?_
          rw [show nI 0 = bI (decide (w.2.2 r = 1)) from by rw [decide_eq_false h53]; rfl]
          refine g_icne C 68 dX8_isSeen_61 (by decide) (fun h61 => ?_) (fun h61 => ?_)
          · refine g_ic (n := 0) C dX8_isSeen_68 (by decide) ?_
            rw [show nI 0 = bI (decide ((kpt P n (w.2.1 r)) = (decide (w.2.2 r = 1)))) from by rw [decide_eq_false (fun q => h61 (bI_inj.mpr q))]; rfl]
            refine g_iand C dX8_isSeen_69 ?_
            rw [bI_and]
            refine g_istore_n C dX8_isSeen_70 (by decide) ?_
            refine g_iinc1 C dX8_isSeen_71 rfl (by decide) ?_
            refine g_goto C 4 dX8_isSeen_74 (by decide) ?_
            refine g_loc ([(0, .ref (ev_a E 64)), (1, .int (bI (b && (decide ((kpt P n (w.2.1 r)) = (decide (w.2.2 r = 1))))))), (2, .int (nI (r + 1)))]) (And.intro rfl (And.intro rfl (And.intro rfl trivial))) ?_
            rw [show (b && asL P n w.2.1 w.2.2 (k + 1) r) = ((b && (decide ((kpt P n (w.2.1 r)) = (decide (w.2.2 r = 1))))) && asL P n w.2.1 w.2.2 k (r + 1)) from by rw [asL]; by_cases c : (kpt P n (w.2.1 r)) = (decide (w.2.2 r = 1)); rw [if_pos c, decide_eq_true c, Bool.and_true]; rw [if_neg c, decide_eq_false c, Bool.and_false, Bool.false_and]]
            exact ih (r + 1) _ (by omega)
          · refine g_ic (n := 1) C dX8_isSeen_64 (by decide) ?_
            rw [show nI 1 = bI (decide ((kpt P n (w.2.1 r)) = (decide (w.2.2 r = 1)))) from by rw [decide_eq_true (bI_inj.mp h61)]; rfl]
            refine g_goto C 69 dX8_isSeen_65 (by decide) ?_
            refine g_iand C dX8_isSeen_69 ?_
            rw [bI_and]
            refine g_istore_n C dX8_isSeen_70 (by decide) ?_
            refine g_iinc1 C dX8_isSeen_71 rfl (by decide) ?_
            refine g_goto C 4 dX8_isSeen_74 (by decide) ?_
            refine g_loc ([(0, .ref (ev_a E 64)), (1, .int (bI (b && (decide ((kpt P n (w.2.1 r)) = (decide (w.2.2 r = 1))))))), (2, .int (nI (r + 1)))]) (And.intro rfl (And.intro rfl (And.intro rfl trivial))) ?_
            rw [show (b && asL P n w.2.1 w.2.2 (k + 1) r) = ((b && (decide ((kpt P n (w.2.1 r)) = (decide (w.2.2 r = 1))))) && asL P n w.2.1 w.2.2 k (r + 1)) from by rw [asL]; by_cases c : (kpt P n (w.2.1 r)) = (decide (w.2.2 r = 1)); rw [if_pos c, decide_eq_true c, Bool.and_true]; rw [if_neg c, decide_eq_false c, Bool.and_false, Bool.false_and]]
            exact ih (r + 1) _ (by omega)
        · refine g_ic (n := 1) C dX8_isSeen_56 (by decide) ?_
          rw [show nI 1 = bI (decide (w.2.2 r = 1)) from by rw [decide_eq_true h53]; rfl]
          refine g_goto C 61 dX8_isSeen_57 (by decide) ?_
          refine g_icne C 68 dX8_isSeen_61 (by decide) (fun h61 => ?_) (fun h61 => ?_)
          · refine g_ic (n := 0) C dX8_isSeen_68 (by decide) ?_
            rw [show nI 0 = bI (decide ((kpt P n (w.2.1 r)) = (decide (w.2.2 r = 1)))) from by rw [decide_eq_false (fun q => h61 (bI_inj.mpr q))]; rfl]
            refine g_iand C dX8_isSeen_69 ?_
            rw [bI_and]
            refine g_istore_n C dX8_isSeen_70 (by decide) ?_
            refine g_iinc1 C dX8_isSeen_71 rfl (by decide) ?_
            refine g_goto C 4 dX8_isSeen_74 (by decide) ?_
            refine g_loc ([(0, .ref (ev_a E 64)), (1, .int (bI (b && (decide ((kpt P n (w.2.1 r)) = (decide (w.2.2 r = 1))))))), (2, .int (nI (r + 1)))]) (And.intro rfl (And.intro rfl (And.intro rfl trivial))) ?_
            rw [show (b && asL P n w.2.1 w.2.2 (k + 1) r) = ((b && (decide ((kpt P n (w.2.1 r)) = (decide (w.2.2 r = 1))))) && asL P n w.2.1 w.2.2 k (r + 1)) from by rw [asL]; by_cases c : (kpt P n (w.2.1 r)) = (decide (w.2.2 r = 1)); rw [if_pos c, decide_eq_true c, Bool.and_true]; rw [if_neg c, decide_eq_false c, Bool.and_false, Bool.false_and]]
            exact ih (r + 1) _ (by omega)
          · refine g_ic (n := 1) C dX8_isSeen_64 (by decide) ?_
            rw [show nI 1 = bI (decide ((kpt P n (w.2.1 r)) = (decide (w.2.2 r = 1)))) from by rw [decide_eq_true (bI_inj.mp h61)]; rfl]
            refine g_goto C 69 dX8_isSeen_65 (by decide) ?_
            refine g_iand C dX8_isSeen_69 ?_
            rw [bI_and]
            refine g_istore_n C dX8_isSeen_70 (by decide) ?_
            refine g_iinc1 C dX8_isSeen_71 rfl (by decide) ?_
            refine g_goto C 4 dX8_isSeen_74 (by decide) ?_
            refine g_loc ([(0, .ref (ev_a E 64)), (1, .int (bI (b && (decide ((kpt P n (w.2.1 r)) = (decide (w.2.2 r = 1))))))), (2, .int (nI (r + 1)))]) (And.intro rfl (And.intro rfl (And.intro rfl trivial))) ?_
            rw [show (b && asL P n w.2.1 w.2.2 (k + 1) r) = ((b && (decide ((kpt P n (w.2.1 r)) = (decide (w.2.2 r = 1))))) && asL P n w.2.1 w.2.2 k (r + 1)) from by rw [asL]; by_cases c : (kpt P n (w.2.1 r)) = (decide (w.2.2 r = 1)); rw [if_pos c, decide_eq_true c, Bool.and_true]; rw [if_neg c, decide_eq_false c, Bool.and_false, Bool.false_and]]
            exact ih (r + 1) _ (by omega)

set_option maxHeartbeats 4000000 in
set_option maxRecDepth 100000 in
theorem c_X8_isSeen {E : Ev} {d : Nat} {σ : St} {n : Nat} {P : Nat → Nat → Int32} (h : PIs σ n P) {w : Rw} (hr : RB (σ.1 65) 33 5 w) (hok : ∀ j, j < w.1 → w.2.1 j < 48 ∧ w.2.2 j < 2) : Con E (d + 8) yX8_isSeen cX8_isSeen 3 ((Option.some FieldType.boolean)) [.ref (ev_a E 64)] σ (Det (some (.int (bI (asW P n w)))) σ) := by
  refine con_of (by decide) (Nat.le_of_ble_eq_true rfl) (fun X hX C => ?_)
  have C : Cx E X cX8_isSeen RX8 3 ((Option.some FieldType.boolean)) := C
  show G E _ X _ _ _ 0 [(0, .ref (ev_a E 64))] []
  refine g_ic (n := 1) C dX8_isSeen_0 (by decide) ?_
  refine g_istore_n C dX8_isSeen_1 (by decide) ?_
  refine g_ic (n := 0) C dX8_isSeen_2 (by decide) ?_
  refine g_istore_n C dX8_isSeen_3 (by decide) ?_
  refine g_loc ([(0, .ref (ev_a E 64)), (1, .int (bI true)), (2, .int (nI 0))]) (And.intro rfl (And.intro rfl (And.intro rfl trivial))) ?_
  exact l_X8_isSeen C h hr hok w.1 0 true (by omega)

theorem upd_sI {σ : St} {c : Nat} {f : Nat → Int32} : (sI σ c f).1 c = f := sI_self

set_option maxHeartbeats 4000000 in
set_option maxRecDepth 100000 in
theorem l_X8_fits {E : Ev} {d : Nat} {X : Mx} (C : Cx E X cX8_fits RX8 9 ((Option.some FieldType.int))) {σ : St} {s : Ms} (hs : RfIs σ s) {j t : Nat} (hj : j < s.1.1.1) (ht : t < 2) (hok : ∀ j, j < s.1.2.1.1 → s.1.2.1.2.1 j < 48 ∧ s.1.2.1.2.2 j < 2) : ∀ (k : Nat) (c : Nat) (b : Option Nat) (v0 : Int32), k ≤ 5 → G E (d + 9) X 9 (Det (some (.int (if t = 0 then nI (ftL s.1.1.2 s.1.1.1 j s.1.2.1 k c b).1 else oI (ftL s.1.1.2 s.1.1.1 j s.1.2.1 k c b).2))) σ) (sI σ 65 (upd (σ.1 65) (1 + 4 * j + 3) v0)) 46 ([(0, .ref (ev_a E 64)), (1, .int (nI j)), (2, .int (nI t)), (3, .int (nI (1 + 4 * j + 3))), (4, .int (s.1.1.2 j 3)), (5, .int (nI c)), (6, .int (oI b)), (7, .int (vI k))]) [] := by
  intro k
  induction k with
  | zero =>
    intro c b v0 hk5
    have h := hs.P
    have h8 := h.1
    have e0 : s.1.1.2 j 3 = σ.1 65 (1 + 4 * j + 3) := (h.2.2 j hj 3 (by decide)).symm
    refine g_iload C dX8_fits_46 rfl ?_
    refine g_iflt C 100 dX8_fits_48 (by decide) (fun h48 => ?_) (fun h48 => ?_)
    · refine g_aload_n C dX8_fits_100 rfl ?_
      refine gf_X8_w C (by rfl) dX8_fits_101 kf_RX8_11 ?_
      refine g_iload_n C dX8_fits_104 rfl ?_
      refine g_iload C dX8_fits_105 rfl ?_
      refine g_iastN C (by rfl) (by omega) (by first | decide | omega) dX8_fits_107 ?_
      refine g_eqS (show _ = σ from by rw [sI_self, up_up, sI_sI, e0, up_self, sI_id]) ?_
      refine g_iload_n C dX8_fits_108 rfl ?_
      refine g_ifneN C 117 dX8_fits_109 (by decide) (by omega) (fun h109 => ?_) (fun h109 => ?_)
      · refine g_iload C dX8_fits_117 rfl ?_
        refine g_iret C dX8_fits_119 ?_
        first | exact ⟨congrArg (fun v => some (Value.int v)) (by rw [if_pos h109]; rfl), rfl⟩ | exact ⟨congrArg (fun v => some (Value.int v)) (by rw [if_neg h109]; rfl), rfl⟩
      · refine g_iload C dX8_fits_112 rfl ?_
        refine g_goto C 119 dX8_fits_114 (by decide) ?_
        refine g_iret C dX8_fits_119 ?_
        first | exact ⟨congrArg (fun v => some (Value.int v)) (by rw [if_pos h109]; rfl), rfl⟩ | exact ⟨congrArg (fun v => some (Value.int v)) (by rw [if_neg h109]; rfl), rfl⟩
    · exact absurd (show vI 0 < 0 by decide) h48
  | succ k ih =>
    intro c b v0 hk5
    have h := hs.P
    have h8 := h.1
    have e0 : s.1.1.2 j 3 = σ.1 65 (1 + 4 * j + 3) := (h.2.2 j hj 3 (by decide)).symm
    refine g_iload C dX8_fits_46 rfl ?_
    refine g_iflt C 100 dX8_fits_48 (by decide) (fun h48 => ?_) (fun h48 => ?_)
    · exact absurd h48 (show ¬ nI k < 0 from nI_pos (by omega))
    · have hkk : k < 2 ^ 31 := by omega
      refine g_aload_n C dX8_fits_51 rfl ?_
      refine gf_X8_w C (by rfl) dX8_fits_52 kf_RX8_11 ?_
      refine g_iload_n C dX8_fits_55 rfl ?_
      refine g_iload C dX8_fits_56 rfl ?_
      show G E _ X _ _ _ _ _ (.int (nI k) :: _)
      refine g_iastN C (by rfl) (by omega) (by first | decide | omega) dX8_fits_58 ?_
      refine g_eqS (show _ = (sI σ 65 (upd (σ.1 65) (1 + 4 * j + 3) (nI k))) from by rw [sI_self, up_up, sI_sI]) ?_
      have hP : PIs (sI σ 65 (upd (σ.1 65) (1 + 4 * j + 3) (nI k))) s.1.1.1 (pMark s.1.1.2 j (nI k)) := by have q := PF.mark (v := nI k) hs.1.1 hj; unfold PIs; rw [sI_self]; exact q
      have hR : RB ((sI σ 65 (upd (σ.1 65) (1 + 4 * j + 3) (nI k))).1 65) 33 5 s.1.2.1 := by rw [sI_self]; exact hs.1.2.1.go (fun q a _ => by rw [up_n (by omega)])
      refine g_aload_n C dX8_fits_59 rfl ?_
      refine g_callVp C (ob_X8 (by rfl)) (c_X8_isSeen (d := d) hP hR hok) dX8_fits_60 km_RX8_247 kn_RX8 kc_yX8_isSeen ki_yX8_isSeen kx_yX8_isSeen (by omega) (by decide) ⟨by decide, by decide, rfl⟩ rfl (Nat.le_of_ble_eq_true rfl) ?_
      refine g_istore C dX8_fits_63 (by decide) ?_
      refine g_iload C dX8_fits_65 rfl ?_
      refine g_iload C dX8_fits_67 rfl ?_
      refine g_ifeqB C 76 dX8_fits_69 (by decide) (fun h69 => ?_) (fun h69 => ?_)
      · refine g_ic (n := 0) C dX8_fits_76 (by decide) ?_
        first | refine g_iaddN C dX8_fits_77 ?_ | refine g_iadd C dX8_fits_77 ?_
        refine g_istore C dX8_fits_78 (by decide) ?_
        refine g_iload C dX8_fits_80 rfl ?_
        refine g_ifeqB C 90 dX8_fits_82 (by decide) (fun h82 => ?_) (fun h82 => ?_)
        · refine g_iload C dX8_fits_90 rfl ?_
          refine g_istore C dX8_fits_92 (by decide) ?_
          refine g_iinc C (vI k) dX8_fits_94 rfl (vI_m k) (by decide) ?_
          refine g_goto C 46 dX8_fits_97 (by decide) ?_
          first | (refine g_loc ([(0, .ref (ev_a E 64)), (1, .int (nI j)), (2, .int (nI t)), (3, .int (nI (1 + 4 * j + 3))), (4, .int (s.1.1.2 j 3)), (5, .int (nI (c + 1))), (6, .int (oI (some k))), (7, .int (vI k))]) (And.intro rfl (And.intro rfl (And.intro rfl (And.intro rfl (And.intro rfl (And.intro rfl (And.intro rfl (And.intro rfl trivial)))))))) ?_; rw [show ftL s.1.1.2 s.1.1.1 j s.1.2.1 (k + 1) c b = ftL s.1.1.2 s.1.1.1 j s.1.2.1 k (c + 1) (some k) from by rw [ftL, if_pos (by assumption)]]; exact ih (c + 1) (some k) (nI k) (by omega)) | (refine g_loc ([(0, .ref (ev_a E 64)), (1, .int (nI j)), (2, .int (nI t)), (3, .int (nI (1 + 4 * j + 3))), (4, .int (s.1.1.2 j 3)), (5, .int (nI (c + 0))), (6, .int (oI b)), (7, .int (vI k))]) (And.intro rfl (And.intro rfl (And.intro rfl (And.intro rfl (And.intro rfl (And.intro rfl (And.intro rfl (And.intro rfl trivial)))))))) ?_; rw [show ftL s.1.1.2 s.1.1.1 j s.1.2.1 (k + 1) c b = ftL s.1.1.2 s.1.1.1 j s.1.2.1 k c b from by rw [ftL, if_neg (by simp_all)]]; exact ih c b (nI k) (by omega))
        · exact absurd (h69.symm.trans h82) (by decide)
      · refine g_ic (n := 1) C dX8_fits_72 (by decide) ?_
        refine g_goto C 77 dX8_fits_73 (by decide) ?_
        first | refine g_iaddN C dX8_fits_77 ?_ | refine g_iadd C dX8_fits_77 ?_
        refine g_istore C dX8_fits_78 (by decide) ?_
        refine g_iload C dX8_fits_80 rfl ?_
        refine g_ifeqB C 90 dX8_fits_82 (by decide) (fun h82 => ?_) (fun h82 => ?_)
        · exact absurd (h69.symm.trans h82) (by decide)
        · refine g_iload C dX8_fits_85 rfl ?_
          refine g_goto C 92 dX8_fits_87 (by decide) ?_
          refine g_istore C dX8_fits_92 (by decide) ?_
          refine g_iinc C (vI k) dX8_fits_94 rfl (vI_m k) (by decide) ?_
          refine g_goto C 46 dX8_fits_97 (by decide) ?_
          first | (refine g_loc ([(0, .ref (ev_a E 64)), (1, .int (nI j)), (2, .int (nI t)), (3, .int (nI (1 + 4 * j + 3))), (4, .int (s.1.1.2 j 3)), (5, .int (nI (c + 1))), (6, .int (oI (some k))), (7, .int (vI k))]) (And.intro rfl (And.intro rfl (And.intro rfl (And.intro rfl (And.intro rfl (And.intro rfl (And.intro rfl (And.intro rfl trivial)))))))) ?_; rw [show ftL s.1.1.2 s.1.1.1 j s.1.2.1 (k + 1) c b = ftL s.1.1.2 s.1.1.1 j s.1.2.1 k (c + 1) (some k) from by rw [ftL, if_pos (by assumption)]]; exact ih (c + 1) (some k) (nI k) (by omega)) | (refine g_loc ([(0, .ref (ev_a E 64)), (1, .int (nI j)), (2, .int (nI t)), (3, .int (nI (1 + 4 * j + 3))), (4, .int (s.1.1.2 j 3)), (5, .int (nI (c + 0))), (6, .int (oI b)), (7, .int (vI k))]) (And.intro rfl (And.intro rfl (And.intro rfl (And.intro rfl (And.intro rfl (And.intro rfl (And.intro rfl (And.intro rfl trivial)))))))) ?_; rw [show ftL s.1.1.2 s.1.1.1 j s.1.2.1 (k + 1) c b = ftL s.1.1.2 s.1.1.1 j s.1.2.1 k c b from by rw [ftL, if_neg (by simp_all)]]; exact ih c b (nI k) (by omega))

set_option maxHeartbeats 4000000 in
set_option maxRecDepth 100000 in
theorem c_X8_fits {E : Ev} {d : Nat} {σ : St} {s : Ms} (hs : RfIs σ s) (hok : SuOk s.1) {p w : Int32} : Con E (d + 9) yX8_fits cX8_fits 9 ((Option.some FieldType.int)) [.ref (ev_a E 64), .int p, .int w] σ (RfTo (.int (aFits s p w)) σ (s)) := by
  refine con_of (by decide) (Nat.le_of_ble_eq_true rfl) (fun X hX C => ?_)
  have C : Cx E X cX8_fits RX8 9 ((Option.some FieldType.int)) := C
  have h := hs.P
  have h8 := h.1
  show G E _ X _ _ _ 0 [(0, .ref (ev_a E 64)), (1, .int p), (2, .int w)] []
  refine g_aload_n C dX8_fits_0 rfl ?_
  refine g_iload_n C dX8_fits_1 rfl ?_
  refine g_callVp C (ob_X8 (by rfl)) (c_X8_isPoint (d := d) h) dX8_fits_2 km_RX8_166 kn_RX8 kc_yX8_isPoint ki_yX8_isPoint kx_yX8_isPoint (by omega) (by decide) ⟨by decide, by decide, rfl⟩ rfl (Nat.le_of_ble_eq_true rfl) ?_
  refine g_ifeqB C 18 dX8_fits_5 (by decide) (fun h5 => ?_) (fun h5 => ?_)
  · refine g_icz (v := -1) C dX8_fits_18 (by decide) ?_
    refine g_iret C dX8_fits_19 ?_
    exact ⟨congrArg (fun v => some (Value.int v)) (by unfold aFits; first | rw [if_pos (by rw [h5]; rfl)] | rw [if_pos (by rw [h5, h15]; rfl)]), hs, Rs.rf⟩
  · obtain ⟨j, hj, rfl⟩ := hpB_t (by omega) h5
    have hj8 : j < 2 ^ 31 := by omega
    refine g_iload_n C dX8_fits_8 rfl ?_
    refine g_i2l C _ dX8_fits_9 rfl ?_
    refine g_lc (v := 0) C dX8_fits_10 (by decide) ?_
    refine g_lc (v := 1) C dX8_fits_11 (by decide) ?_
    refine g_callSp C (c_X8_in (d := d) (0) (1) (by decide) (by decide)) dX8_fits_12 km_RX8_56 kn_RX8 kc_yX8_in ks_yX8_in (by omega) (by decide) ⟨by decide, by decide, rfl⟩ rfl (Nat.le_of_ble_eq_true rfl) ?_
    refine g_ifneB C 20 dX8_fits_15 (by decide) (fun h15 => ?_) (fun h15 => ?_)
    · obtain ⟨t, ht, rfl⟩ := in_n (k := 1) h15
      refine g_ic (n := 1) C dX8_fits_20 (by decide) ?_
      refine g_ic (n := 4) C dX8_fits_21 (by decide) ?_
      refine g_iload_n C dX8_fits_22 rfl ?_
      refine g_imulN C dX8_fits_23 ?_
      refine g_iaddN C dX8_fits_24 ?_
      refine g_ic (n := 3) C dX8_fits_25 (by decide) ?_
      refine g_iaddN C dX8_fits_26 ?_
      refine g_istore_n C dX8_fits_27 (by decide) ?_
      refine g_aload_n C dX8_fits_28 rfl ?_
      refine gf_X8_w C (by rfl) dX8_fits_29 kf_RX8_11 ?_
      refine g_iload_n C dX8_fits_32 rfl ?_
      refine g_ialdN C (by rfl) (by omega) (by first | decide | omega) dX8_fits_33 ?_
      rw [h.2.2 j hj 3 (by decide)]
      refine g_istore C dX8_fits_34 (by decide) ?_
      refine g_ic (n := 0) C dX8_fits_36 (by decide) ?_
      refine g_istore C dX8_fits_37 (by decide) ?_
      refine g_bp C (-5) dX8_fits_39 (by decide) ?_
      refine g_istore C dX8_fits_41 (by decide) ?_
      refine g_ic (n := 4) C dX8_fits_43 (by decide) ?_
      refine g_istore C dX8_fits_44 (by decide) ?_
      refine g_loc ([(0, .ref (ev_a E 64)), (1, .int (nI j)), (2, .int (nI t)), (3, .int (nI (1 + 4 * j + 3))), (4, .int (s.1.1.2 j 3)), (5, .int (nI 0)), (6, .int (oI none)), (7, .int (vI 5))]) (And.intro rfl (And.intro rfl (And.intro rfl (And.intro rfl (And.intro rfl (And.intro rfl (And.intro rfl (And.intro rfl trivial)))))))) ?_
      refine g_eqS (show σ = (sI σ 65 (upd (σ.1 65) (1 + 4 * j + 3) (s.1.1.2 j 3))) from by rw [(h.2.2 j hj 3 (by decide)).symm, up_self, sI_id]) ?_
      refine g_post (fun r σ2 q => ?_) (l_X8_fits C hs hj (by omega) (fun q hq => hok.2.1 q hq) 5 0 none (s.1.1.2 j 3) (by omega))
      obtain ⟨rfl, rfl⟩ := q
      refine ⟨congrArg (fun v => some (Value.int v)) ?_, hs, Rs.rf⟩
      rcases (show t = 0 ∨ t = 1 from by omega) with rfl | rfl
      · show nI _ = _
        unfold aFits
        rw [if_neg (by rw [h5, h15]; decide), ix_nI (show j < 2 ^ 31 by omega), if_pos (by decide)]
      · show oI _ = _
        unfold aFits
        rw [if_neg (by rw [h5, h15]; decide), ix_nI (show j < 2 ^ 31 by omega), if_neg (by decide)]
    · refine g_icz (v := -1) C dX8_fits_18 (by decide) ?_
      refine g_iret C dX8_fits_19 ?_
      exact ⟨congrArg (fun v => some (Value.int v)) (by unfold aFits; first | rw [if_pos (by rw [h5]; rfl)] | rw [if_pos (by rw [h5, h15]; rfl)]), hs, Rs.rf⟩

