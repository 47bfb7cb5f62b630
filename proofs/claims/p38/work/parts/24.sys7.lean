/-! ShapeMoves: events, after, the book, looked; the text read -/
theorem feB_ok {w : Nat} {t : Int32} (hw : w < 4) (h : feB w t = true) : ix t < 48 ∧ t = nI (ix t) := by
  unfold feB at h
  split at h
  · obtain ⟨j, hj, rfl⟩ := in_n (k := 7) h
    rw [ix_nI (by omega)]; exact ⟨by omega, rfl⟩
  · split at h
    · exact ix_mv h
    · obtain ⟨j, hj, rfl⟩ := in_n (k := 4) h
      rw [ix_nI (by omega)]; exact ⟨by omega, rfl⟩
set_option maxHeartbeats 4000000 in
set_option maxRecDepth 100000 in
theorem c_X7_isForEvent {E : Ev} {d : Nat} {σ : St} {w : Nat} {t : Int32} (hw : w < 4) : Con E (d + 1) yX7_isForEvent cX7_isForEvent 2 ((Option.some FieldType.boolean)) [.int (nI w), .int t] σ (Det (some (.int (bI (feB w t)))) σ) := by
  refine con_of (by decide) (Nat.le_of_ble_eq_true rfl) (fun X hX C => ?_)
  have C : Cx E X cX7_isForEvent RX7 2 ((Option.some FieldType.boolean)) := C
  show G E _ X _ _ _ 0 [(0, .int (nI w)), (1, .int t)] []
  have hw3 : w = 0 ∨ w = 2 ∨ w = 1 ∨ w = 3 := by omega
  rcases hw3 with rfl | rfl | rfl | rfl
  · refine g_iload_n C dX7_isForEvent_0 rfl ?_
    refine g_lsw C (off := 27) 28 dX7_isForEvent_1 (by decide) (by decide) (by decide) ?_
    refine g_iload_n C dX7_isForEvent_28 rfl ?_
    refine g_iflt C 42 dX7_isForEvent_29 (by decide) (fun h29 => ?_) (fun h29 => ?_)
    · have e29 : inB t 0 7 = false := in_lo h29
      refine g_ic (n := 0) C dX7_isForEvent_42 (by decide) ?_
      refine g_zret C (by first | exact bI_01 _ | exact Or.inl rfl | exact Or.inr rfl) dX7_isForEvent_43 ?_
      exact ⟨congrArg (fun v => some (Value.int v)) (by first | rfl | exact bI_tb (by rw [feB, if_pos rfl]; assumption) | exact bI_fb (by rw [feB, if_pos rfl]; assumption)), rfl⟩
    · refine g_iload_n C dX7_isForEvent_32 rfl ?_
      refine g_bp C (nI 8) dX7_isForEvent_33 (by decide) ?_
      refine g_icge C 42 dX7_isForEvent_35 (by decide) (fun h35 => ?_) (fun h35 => ?_)
      · have e35 : inB t 0 7 = false := in_ge_t (k := 7) (by decide) h35
        refine g_ic (n := 0) C dX7_isForEvent_42 (by decide) ?_
        refine g_zret C (by first | exact bI_01 _ | exact Or.inl rfl | exact Or.inr rfl) dX7_isForEvent_43 ?_
        exact ⟨congrArg (fun v => some (Value.int v)) (by first | rfl | exact bI_tb (by rw [feB, if_pos rfl]; assumption) | exact bI_fb (by rw [feB, if_pos rfl]; assumption)), rfl⟩
      · have e35 : inB t 0 7 = true := in_ge_f (k := 7) (by decide) h29 h35
        refine g_ic (n := 1) C dX7_isForEvent_38 (by decide) ?_
        refine g_goto C 43 dX7_isForEvent_39 (by decide) ?_
        refine g_zret C (by first | exact bI_01 _ | exact Or.inl rfl | exact Or.inr rfl) dX7_isForEvent_43 ?_
        exact ⟨congrArg (fun v => some (Value.int v)) (by first | rfl | exact bI_tb (by rw [feB, if_pos rfl]; assumption) | exact bI_fb (by rw [feB, if_pos rfl]; assumption)), rfl⟩
  · refine g_iload_n C dX7_isForEvent_0 rfl ?_
    refine g_lsw C (off := 43) 44 dX7_isForEvent_1 (by decide) (by decide) (by decide) ?_
    refine g_iload_n C dX7_isForEvent_44 rfl ?_
    refine g_callSp C (c_X1_isMove (d := d) ) dX7_isForEvent_45 km_RX7_130 kn_RX1 kc_yX1_isMove ks_yX1_isMove (by omega) (by decide) ⟨by decide, by decide, rfl⟩ rfl (Nat.le_of_ble_eq_true rfl) ?_
    refine g_zret C (by first | exact bI_01 _ | exact Or.inl rfl | exact Or.inr rfl) dX7_isForEvent_48 ?_
    exact ⟨congrArg (fun v => some (Value.int v)) (by first | rfl | exact bI_tb (by rw [feB, if_pos rfl]; assumption) | exact bI_fb (by rw [feB, if_pos rfl]; assumption)), rfl⟩
  · refine g_iload_n C dX7_isForEvent_0 rfl ?_
    refine g_lsw C (off := 48) 49 dX7_isForEvent_1 (by decide) (by decide) (by decide) ?_
    refine g_iload_n C dX7_isForEvent_49 rfl ?_
    refine g_callSp C (c_X7_isMark (d := d) ) dX7_isForEvent_50 km_RX7_63 kn_RX7 kc_yX7_isMark ks_yX7_isMark (by omega) (by decide) ⟨by decide, by decide, rfl⟩ rfl (Nat.le_of_ble_eq_true rfl) ?_
    refine g_zret C (by first | exact bI_01 _ | exact Or.inl rfl | exact Or.inr rfl) dX7_isForEvent_53 ?_
    exact ⟨congrArg (fun v => some (Value.int v)) (by first | rfl | exact bI_tb (by rw [feB, if_pos rfl]; assumption) | exact bI_fb (by rw [feB, if_pos rfl]; assumption)), rfl⟩
  · refine g_iload_n C dX7_isForEvent_0 rfl ?_
    refine g_lsw C (off := 48) 49 dX7_isForEvent_1 (by decide) (by decide) (by decide) ?_
    refine g_iload_n C dX7_isForEvent_49 rfl ?_
    refine g_callSp C (c_X7_isMark (d := d) ) dX7_isForEvent_50 km_RX7_63 kn_RX7 kc_yX7_isMark ks_yX7_isMark (by omega) (by decide) ⟨by decide, by decide, rfl⟩ rfl (Nat.le_of_ble_eq_true rfl) ?_
    refine g_zret C (by first | exact bI_01 _ | exact Or.inl rfl | exact Or.inr rfl) dX7_isForEvent_53 ?_
    exact ⟨congrArg (fun v => some (Value.int v)) (by first | rfl | exact bI_tb (by rw [feB, if_pos rfl]; assumption) | exact bI_fb (by rw [feB, if_pos rfl]; assumption)), rfl⟩
set_option maxHeartbeats 4000000 in
set_option maxRecDepth 100000 in
theorem c_X7_event {E : Ev} {d : Nat} {σ : St} {s : Ms} (hs : SyIs σ s) {w t : Int32} : Con E (d + 2) yX7_event cX7_event 3 ((Option.some FieldType.int)) [.ref (ev_a E 0), .int w, .int t] σ (SyTo (.int (aEvent s w t)) σ (tEvent s w t)) := by
  refine con_of (by decide) (Nat.le_of_ble_eq_true rfl) (fun X hX C => ?_)
  have C : Cx E X cX7_event RX7 3 ((Option.some FieldType.int)) := C
  obtain ⟨hS, hI, hO, hT, hA⟩ := id hs
  have hn8 : s.1.1.1 ≤ 8 := hS.1.2.1
  show G E _ X _ _ _ 0 [(0, .ref (ev_a E 0)), (1, .int w), (2, .int t)] []
  refine g_iload_n C dX7_event_0 rfl ?_
  refine g_icz (v := -1) C dX7_event_1 (by decide) ?_
  refine g_icne C 16 dX7_event_2 (by decide) (fun h2 => ?_) (fun h2 => ?_)
  · refine g_iload_n C dX7_event_16 rfl ?_
    refine g_iflt C 25 dX7_event_17 (by decide) (fun h17 => ?_) (fun h17 => ?_)
    · have e17 : inB w 0 3 = false := in_lo h17
      refine g_icz (v := -1) C dX7_event_25 (by decide) ?_
      refine g_iret C dX7_event_26 ?_
      exact ⟨congrArg (fun v => some (Value.int v)) (by unfold aEvent; first | rw [if_neg h2, if_pos e17] | rw [if_neg h2, if_pos e22]), by rw [show tEvent s w t = s from by unfold tEvent; first | rw [if_neg h2, if_pos e17] | rw [if_neg h2, if_pos e22]]; exact hs, Fs.rf⟩
    · refine g_iload_n C dX7_event_20 rfl ?_
      refine g_ic (n := 3) C dX7_event_21 (by decide) ?_
      refine g_icle C 27 dX7_event_22 (by decide) (fun h22 => ?_) (fun h22 => ?_)
      · have e22 : inB w 0 3 = true := in_le_t (k := 3) (by decide) h17 h22
        obtain ⟨w2, hw2, rfl⟩ := in_n (k := 3) e22
        have hm1 : ¬ nI w2 = -1 := h2
        refine g_iload_n C dX7_event_27 rfl ?_
        refine g_iload_n C dX7_event_28 rfl ?_
        refine g_callSp C (c_X7_isForEvent (d := d) (by omega)) dX7_event_29 km_RX7_255 kn_RX7 kc_yX7_isForEvent ks_yX7_isForEvent (by omega) (by decide) ⟨by decide, by decide, rfl⟩ rfl (Nat.le_of_ble_eq_true rfl) ?_
        refine g_ifneB C 38 dX7_event_32 (by decide) (fun h32 => ?_) (fun h32 => ?_)
        · refine g_aload_n C dX7_event_38 rfl ?_
          refine gf_X7_now C (by rfl) dX7_event_39 kf_RX7_12 ?_
          refine gn_X3_events C (by rfl) dX7_event_42 nw_X7_252 ?_
          refine g_callVp C (ob_X2 (by rfl)) (c_X2_isFull (d := d) hS.2.2.1) dX7_event_45 km_RX7_218 kn_RX2 kc_yX2_isFull ki_yX2_isFull kx_yX2_isFull (by omega) (by decide) ⟨by decide, by decide, rfl⟩ rfl (Nat.le_of_ble_eq_true rfl) ?_
          refine g_ifeqB C 56 dX7_event_48 (by decide) (fun h48 => ?_) (fun h48 => ?_)
          · refine g_aload_n C dX7_event_56 rfl ?_
            refine gf_X7_now C (by rfl) dX7_event_57 kf_RX7_12 ?_
            refine gn_X3_events C (by rfl) dX7_event_60 nw_X7_252 ?_
            refine g_iload_n C dX7_event_63 rfl ?_
            refine g_iload_n C dX7_event_64 rfl ?_
            refine g_callV C (ob_X2 (by rfl)) (c_X2_add (d := d) hS.2.2.1 (by have := hS.2.2.1.2.2.2.1; have := of_decide_eq_false h48; omega)) dX7_event_65 km_RX7_221 kn_RX2 kc_yX2_add ki_yX2_add kx_yX2_add (by omega) (by decide) ⟨by decide, by decide, rfl⟩ rfl (Nat.le_of_ble_eq_true rfl) (fun r1 σ1 q1 => ?_)
            obtain ⟨rfl, u1, u2⟩ := q1
            have hx := feB_ok (by omega) h32
            refine g_iret C dX7_event_68 ?_
            first | exact ⟨congrArg (fun v => some (Value.int v)) (by unfold aEvent; rw [if_neg h2, if_neg (by rw [e22]; decide), ix_nI (show w2 < 2 ^ 31 by omega), if_neg (by rw [h32]; decide), if_pos (of_decide_eq_true h48)]), by rw [show tEvent s (nI w2) t = s from by unfold tEvent; rw [if_neg h2, if_neg (by rw [e22]; decide), ix_nI (show w2 < 2 ^ 31 by omega), if_neg (by rw [h32]; decide), if_pos (of_decide_eq_true h48)]]; exact hs, Fs.rf⟩ | exact ⟨congrArg (fun v => some (Value.int v)) (by unfold aEvent; rw [if_neg h2, if_neg (by rw [e22]; decide), ix_nI (show w2 < 2 ^ 31 by omega), if_neg (by rw [h32]; decide), if_neg (of_decide_eq_false h48)]), by rw [show tEvent s (nI w2) t = sEv s (rwAdd s.1.2.2.1 w2 (ix t)) from by unfold tEvent; rw [if_neg h2, if_neg (by rw [e22]; decide), ix_nI (show w2 < 2 ^ 31 by omega), if_neg (by rw [h32]; decide), if_neg (of_decide_eq_false h48)]]; exact Sy.ev hs u2 (RwN.add u1 rfl hx.2), u2.s (by decide)⟩
          · refine g_bp C (-4) dX7_event_51 (by decide) ?_
            refine g_goto C 68 dX7_event_53 (by decide) ?_
            refine g_iret C dX7_event_68 ?_
            first | exact ⟨congrArg (fun v => some (Value.int v)) (by unfold aEvent; rw [if_neg h2, if_neg (by rw [e22]; decide), ix_nI (show w2 < 2 ^ 31 by omega), if_neg (by rw [h32]; decide), if_pos (of_decide_eq_true h48)]), by rw [show tEvent s (nI w2) t = s from by unfold tEvent; rw [if_neg h2, if_neg (by rw [e22]; decide), ix_nI (show w2 < 2 ^ 31 by omega), if_neg (by rw [h32]; decide), if_pos (of_decide_eq_true h48)]]; exact hs, Fs.rf⟩ | exact ⟨congrArg (fun v => some (Value.int v)) (by unfold aEvent; rw [if_neg h2, if_neg (by rw [e22]; decide), ix_nI (show w2 < 2 ^ 31 by omega), if_neg (by rw [h32]; decide), if_neg (of_decide_eq_false h48)]), by rw [show tEvent s (nI w2) t = sEv s (rwAdd s.1.2.2.1 w2 (ix t)) from by unfold tEvent; rw [if_neg h2, if_neg (by rw [e22]; decide), ix_nI (show w2 < 2 ^ 31 by omega), if_neg (by rw [h32]; decide), if_neg (of_decide_eq_false h48)]]; exact Sy.ev hs u2 (RwN.add u1 rfl hx.2), u2.s (by decide)⟩
        · refine g_bp C (-2) dX7_event_35 (by decide) ?_
          refine g_iret C dX7_event_37 ?_
          exact ⟨congrArg (fun v => some (Value.int v)) (by unfold aEvent; rw [if_neg h2, if_neg (by rw [e22]; decide), ix_nI (show w2 < 2 ^ 31 by omega), if_pos h32]), by rw [show tEvent s (nI w2) t = s from by unfold tEvent; rw [if_neg h2, if_neg (by rw [e22]; decide), ix_nI (show w2 < 2 ^ 31 by omega), if_pos h32]]; exact hs, Fs.rf⟩
      · have e22 : inB w 0 3 = false := in_le_f (k := 3) (by decide) h22
        refine g_icz (v := -1) C dX7_event_25 (by decide) ?_
        refine g_iret C dX7_event_26 ?_
        exact ⟨congrArg (fun v => some (Value.int v)) (by unfold aEvent; first | rw [if_neg h2, if_pos e17] | rw [if_neg h2, if_pos e22]), by rw [show tEvent s w t = s from by unfold tEvent; first | rw [if_neg h2, if_pos e17] | rw [if_neg h2, if_pos e22]]; exact hs, Fs.rf⟩
  · refine g_aload_n C dX7_event_5 rfl ?_
    refine gf_X7_now C (by rfl) dX7_event_6 kf_RX7_12 ?_
    refine gn_X3_events C (by rfl) dX7_event_9 nw_X7_252 ?_
    refine g_callV C (ob_X2 (by rfl)) (c_X2_empty (d := d) hS.2.2.1) dX7_event_12 km_RX7_213 kn_RX2 kc_yX2_empty ki_yX2_empty kx_yX2_empty (by omega) (by decide) ⟨by decide, by decide, rfl⟩ rfl (Nat.le_of_ble_eq_true rfl) (fun r1 σ1 q1 => ?_)
    obtain ⟨rfl, u1, u2⟩ := q1
    refine g_iret C dX7_event_15 ?_
    exact ⟨congrArg (fun v => some (Value.int v)) (by unfold aEvent; rw [if_pos h2]), by rw [show tEvent s w t = sEv s (0, s.1.2.2.1.2) from by unfold tEvent; rw [if_pos h2]]; exact Sy.ev hs u2 u1, u2.s (by decide)⟩
set_option maxHeartbeats 4000000 in
set_option maxRecDepth 100000 in
theorem c_X7_book {E : Ev} {d : Nat} {σ : St} {s : Ms} (hs : SyIs σ s) {m r : Int32} : Con E (d + 1) yX7_book cX7_book 3 ((Option.some FieldType.int)) [.ref (ev_a E 0), .int m, .int r] σ (SyTo (.int (aBook s m r)) σ (tBook s m r)) := by
  refine con_of (by decide) (Nat.le_of_ble_eq_true rfl) (fun X hX C => ?_)
  have C : Cx E X cX7_book RX7 3 ((Option.some FieldType.int)) := C
  obtain ⟨hS, hI, hO, hT, hA⟩ := id hs
  have hn8 : s.1.1.1 ≤ 8 := hS.1.2.1
  show G E _ X _ _ _ 0 [(0, .ref (ev_a E 0)), (1, .int m), (2, .int r)] []
  refine g_iload_n C dX7_book_0 rfl ?_
  refine g_icz (v := -1) C dX7_book_1 (by decide) ?_
  refine g_icne C 16 dX7_book_2 (by decide) (fun h2 => ?_) (fun h2 => ?_)
  · refine g_iload_n C dX7_book_16 rfl ?_
    refine g_callSp C (c_X1_isMove (d := d) ) dX7_book_17 km_RX7_130 kn_RX1 kc_yX1_isMove ks_yX1_isMove (by omega) (by decide) ⟨by decide, by decide, rfl⟩ rfl (Nat.le_of_ble_eq_true rfl) ?_
    refine g_ifneB C 25 dX7_book_20 (by decide) (fun h20 => ?_) (fun h20 => ?_)
    · obtain ⟨j, hj, rfl⟩ := isMv_t h20
      refine g_iload_n C dX7_book_25 rfl ?_
      refine g_ic (n := 1) C dX7_book_26 (by decide) ?_
      refine g_iclt C 36 dX7_book_27 (by decide) (fun h27 => ?_) (fun h27 => ?_)
      · have e27 := in1_lo h27
        refine g_bp C (-2) dX7_book_36 (by decide) ?_
        refine g_iret C dX7_book_38 ?_
        exact ⟨congrArg (fun v => some (Value.int v)) (by unfold aBook; rw [if_neg h2, if_neg (by rw [h20]; decide)]; first | rw [if_pos e27] | rw [if_pos e33]), by rw [show tBook s (nI j) r = s from by unfold tBook; rw [if_neg h2, if_neg (by rw [h20]; decide)]; first | rw [if_pos e27] | rw [if_pos e33]]; exact hs, Fs.rf⟩
      · refine g_iload_n C dX7_book_30 rfl ?_
        refine g_bp C (nI 6) dX7_book_31 (by decide) ?_
        refine g_icle C 39 dX7_book_33 (by decide) (fun h33 => ?_) (fun h33 => ?_)
        · have e33 := in1_6 h27 h33
          obtain ⟨r2, hr2, rfl⟩ := in1_n e33
          refine g_aload_n C dX7_book_39 rfl ?_
          refine gf_X7_now C (by rfl) dX7_book_40 kf_RX7_12 ?_
          refine gn_X3_book C (by rfl) dX7_book_43 nw_X7_266 ?_
          refine g_callVp C (ob_X2 (by rfl)) (c_X2_isFull (d := d) hS.2.2.2) dX7_book_46 km_RX7_218 kn_RX2 kc_yX2_isFull ki_yX2_isFull kx_yX2_isFull (by omega) (by decide) ⟨by decide, by decide, rfl⟩ rfl (Nat.le_of_ble_eq_true rfl) ?_
          refine g_ifeqB C 57 dX7_book_49 (by decide) (fun h49 => ?_) (fun h49 => ?_)
          · refine g_aload_n C dX7_book_57 rfl ?_
            refine gf_X7_now C (by rfl) dX7_book_58 kf_RX7_12 ?_
            refine gn_X3_book C (by rfl) dX7_book_61 nw_X7_266 ?_
            refine g_iload_n C dX7_book_64 rfl ?_
            refine g_iload_n C dX7_book_65 rfl ?_
            refine g_callV C (ob_X2 (by rfl)) (c_X2_add (d := d) hS.2.2.2 (by have := hS.2.2.2.2.2.2.1; have := of_decide_eq_false h49; omega)) dX7_book_66 km_RX7_221 kn_RX2 kc_yX2_add ki_yX2_add kx_yX2_add (by omega) (by decide) ⟨by decide, by decide, rfl⟩ rfl (Nat.le_of_ble_eq_true rfl) (fun r1 σ1 q1 => ?_)
            obtain ⟨rfl, u1, u2⟩ := q1
            refine g_iret C dX7_book_69 ?_
            first | exact ⟨congrArg (fun v => some (Value.int v)) (by unfold aBook; rw [if_neg h2, if_neg (by rw [h20]; decide), if_neg (by rw [e33]; decide), if_pos (of_decide_eq_true h49)]), by rw [show tBook s (nI j) (nI r2) = s from by unfold tBook; rw [if_neg h2, if_neg (by rw [h20]; decide), if_neg (by rw [e33]; decide), if_pos (of_decide_eq_true h49)]]; exact hs, Fs.rf⟩ | exact ⟨congrArg (fun v => some (Value.int v)) (by unfold aBook; rw [if_neg h2, if_neg (by rw [h20]; decide), if_neg (by rw [e33]; decide), if_neg (of_decide_eq_false h49)]), by rw [show tBook s (nI j) (nI r2) = sBk s (rwAdd s.1.2.2.2 j r2) from by unfold tBook; rw [if_neg h2, if_neg (by rw [h20]; decide), if_neg (by rw [e33]; decide), if_neg (of_decide_eq_false h49), ix_nI (show j < 2 ^ 31 by omega), ix_nI (show r2 < 2 ^ 31 by omega)]]; exact Sy.bk hs u2 (RwN.add u1 rfl rfl), u2.s (by decide)⟩
          · refine g_bp C (-4) dX7_book_52 (by decide) ?_
            refine g_goto C 69 dX7_book_54 (by decide) ?_
            refine g_iret C dX7_book_69 ?_
            first | exact ⟨congrArg (fun v => some (Value.int v)) (by unfold aBook; rw [if_neg h2, if_neg (by rw [h20]; decide), if_neg (by rw [e33]; decide), if_pos (of_decide_eq_true h49)]), by rw [show tBook s (nI j) (nI r2) = s from by unfold tBook; rw [if_neg h2, if_neg (by rw [h20]; decide), if_neg (by rw [e33]; decide), if_pos (of_decide_eq_true h49)]]; exact hs, Fs.rf⟩ | exact ⟨congrArg (fun v => some (Value.int v)) (by unfold aBook; rw [if_neg h2, if_neg (by rw [h20]; decide), if_neg (by rw [e33]; decide), if_neg (of_decide_eq_false h49)]), by rw [show tBook s (nI j) (nI r2) = sBk s (rwAdd s.1.2.2.2 j r2) from by unfold tBook; rw [if_neg h2, if_neg (by rw [h20]; decide), if_neg (by rw [e33]; decide), if_neg (of_decide_eq_false h49), ix_nI (show j < 2 ^ 31 by omega), ix_nI (show r2 < 2 ^ 31 by omega)]]; exact Sy.bk hs u2 (RwN.add u1 rfl rfl), u2.s (by decide)⟩
        · have e33 := in1_hi h33
          refine g_bp C (-2) dX7_book_36 (by decide) ?_
          refine g_iret C dX7_book_38 ?_
          exact ⟨congrArg (fun v => some (Value.int v)) (by unfold aBook; rw [if_neg h2, if_neg (by rw [h20]; decide)]; first | rw [if_pos e27] | rw [if_pos e33]), by rw [show tBook s (nI j) r = s from by unfold tBook; rw [if_neg h2, if_neg (by rw [h20]; decide)]; first | rw [if_pos e27] | rw [if_pos e33]]; exact hs, Fs.rf⟩
    · refine g_icz (v := -1) C dX7_book_23 (by decide) ?_
      refine g_iret C dX7_book_24 ?_
      exact ⟨congrArg (fun v => some (Value.int v)) (by unfold aBook; rw [if_neg h2, if_pos h20]), by rw [show tBook s m r = s from by unfold tBook; rw [if_neg h2, if_pos h20]]; exact hs, Fs.rf⟩
  · refine g_aload_n C dX7_book_5 rfl ?_
    refine gf_X7_now C (by rfl) dX7_book_6 kf_RX7_12 ?_
    refine gn_X3_book C (by rfl) dX7_book_9 nw_X7_266 ?_
    refine g_callV C (ob_X2 (by rfl)) (c_X2_empty (d := d) hS.2.2.2) dX7_book_12 km_RX7_213 kn_RX2 kc_yX2_empty ki_yX2_empty kx_yX2_empty (by omega) (by decide) ⟨by decide, by decide, rfl⟩ rfl (Nat.le_of_ble_eq_true rfl) (fun r1 σ1 q1 => ?_)
    obtain ⟨rfl, u1, u2⟩ := q1
    refine g_iret C dX7_book_15 ?_
    exact ⟨congrArg (fun v => some (Value.int v)) (by unfold aBook; rw [if_pos h2]), by rw [show tBook s m r = sBk s (0, s.1.2.2.2.2) from by unfold tBook; rw [if_pos h2]]; exact Sy.bk hs u2 u1, u2.s (by decide)⟩
set_option maxHeartbeats 4000000 in
set_option maxRecDepth 100000 in
theorem l_X7_looked {E : Ev} {d : Nat} {X : Mx} (C : Cx E X cX7_looked RX7 4 ((Option.some FieldType.int))) {σ : St} {s : Ms} (hR : RwN σ 18 8 s.1.2.2.2) (hM : ∀ q, q < 48 → σ.1 31 q = bI (kpt s.1.1.2 s.1.1.1 q)) (hbk : ∀ j, j < s.1.2.2.2.1 → s.1.2.2.2.2.1 j < 48 ∧ s.1.2.2.2.2.2 j ≤ 6) : ∀ (k : Nat) (r : Nat), s.1.2.2.2.1 = r + k → G E (d + 6) X 4 (Det (some (.int (oI (loL s.1.1.2 s.1.1.1 s.1.2.2.2.2.1 s.1.2.2.2.2.2 k r)))) σ) σ 7 ([(0, .ref (ev_a E 0)), (1, .ref (ev_a E 30)), (2, .int (nI r))]) [] := by
  intro k
  induction k with
  | zero =>
    intro r hr
    have hc8 : s.1.2.2.2.1 ≤ 8 := hR.2.2.2.1
    refine g_iload_n C dX7_looked_7 rfl ?_
    refine g_aload_n C dX7_looked_8 rfl ?_
    refine gf_X7_now C (by rfl) dX7_looked_9 kf_RX7_12 ?_
    refine gn_X3_book C (by rfl) dX7_looked_12 nw_X7_266 ?_
    refine gn_X2_size C (by rfl) dX7_looked_15 nw_X7_231 ?_
    rw [show σ.1 (9 * 1 + 9) 2 = nI s.1.2.2.2.1 from hR.2.2.2.2.2.1]
    first | refine g_icgeN C 70 dX7_looked_18 (by decide) (by omega) (by omega) (fun h18 => ?_) (fun h18 => ?_) | refine g_icge C 70 dX7_looked_18 (by decide) (fun h18 => ?_) (fun h18 => ?_)
    · refine g_bp C (-5) dX7_looked_70 (by decide) ?_
      refine g_iret C dX7_looked_72 ?_
      exact ⟨congrArg (fun v => some (Value.int v)) (rfl), rfl⟩
    · omega
  | succ k ih =>
    intro r hr
    have hc8 : s.1.2.2.2.1 ≤ 8 := hR.2.2.2.1
    refine g_iload_n C dX7_looked_7 rfl ?_
    refine g_aload_n C dX7_looked_8 rfl ?_
    refine gf_X7_now C (by rfl) dX7_looked_9 kf_RX7_12 ?_
    refine gn_X3_book C (by rfl) dX7_looked_12 nw_X7_266 ?_
    refine gn_X2_size C (by rfl) dX7_looked_15 nw_X7_231 ?_
    rw [show σ.1 (9 * 1 + 9) 2 = nI s.1.2.2.2.1 from hR.2.2.2.2.2.1]
    first | refine g_icgeN C 70 dX7_looked_18 (by decide) (by omega) (by omega) (fun h18 => ?_) (fun h18 => ?_) | refine g_icge C 70 dX7_looked_18 (by decide) (fun h18 => ?_) (fun h18 => ?_)
    · omega
    · refine g_aload_n C dX7_looked_21 rfl ?_
      refine gf_X7_now C (by rfl) dX7_looked_22 kf_RX7_12 ?_
      refine gn_X3_book C (by rfl) dX7_looked_25 nw_X7_266 ?_
      refine gn_X2_first C (by rfl) dX7_looked_28 nw_X7_235 ?_
      refine g_iload_n C dX7_looked_31 rfl ?_
      refine g_ialdN C (by rfl) (by omega) (by first | decide | omega) dX7_looked_32 ?_
      rw [show σ.1 (9 * 1 + 9 + 1) r = nI (s.1.2.2.2.2.1 r) from (hR.2.2.2.2.2.2 r (by omega)).1]
      refine g_istore_n C dX7_looked_33 (by decide) ?_
      refine g_aload_n C dX7_looked_34 rfl ?_
      refine gn_X0_members C (by rfl) dX7_looked_35 nw_X7_170 ?_
      refine g_iload_n C dX7_looked_38 rfl ?_
      refine g_zaldN C (by rfl) ((hbk r (by omega)).1) (by first | decide | omega) dX7_looked_39 ?_
      rw [show σ.1 (30 + 1) (s.1.2.2.2.2.1 r) = _ from hM _ (hbk r (by omega)).1]
      refine g_ifeqB C 62 dX7_looked_40 (by decide) (fun h40 => ?_) (fun h40 => ?_)
      · refine g_iload_n C dX7_looked_62 rfl ?_
        refine g_iret C dX7_looked_63 ?_
        exact ⟨congrArg (fun v => some (Value.int v)) (by rw [show (loL s.1.1.2 s.1.1.1 s.1.2.2.2.2.1 s.1.2.2.2.2.2 (k + 1) r) = some r from by first | (rw [loL, if_neg (fun q => by rw [h40] at q; exact absurd q.1 (by decide))]; done) | (rw [loL, if_neg (fun q => h59 q.2)]; done)]; rfl), rfl⟩
      · refine g_iload_n C dX7_looked_43 rfl ?_
        refine g_callSp C (c_X1_orderOf (d := d) (hbk r (by omega)).1) dX7_looked_44 km_RX7_141 kn_RX1 kc_yX1_orderOf ks_yX1_orderOf (by omega) (by decide) ⟨by decide, by decide, rfl⟩ rfl (Nat.le_of_ble_eq_true rfl) ?_
        refine g_aload_n C dX7_looked_47 rfl ?_
        refine gf_X7_now C (by rfl) dX7_looked_48 kf_RX7_12 ?_
        refine gn_X3_book C (by rfl) dX7_looked_51 nw_X7_266 ?_
        refine gn_X2_second C (by rfl) dX7_looked_54 nw_X7_232 ?_
        refine g_iload_n C dX7_looked_57 rfl ?_
        refine g_ialdN C (by rfl) (by omega) (by first | decide | omega) dX7_looked_58 ?_
        rw [show σ.1 (9 * 1 + 9 + 2) r = nI (s.1.2.2.2.2.2 r) from (hR.2.2.2.2.2.2 r (by omega)).2]
        have b1 := (ordN_le _ (hbk r (by omega)).1).1
        have b2 := (hbk r (by omega)).2
        first | refine g_iceqN C 64 dX7_looked_59 (by decide) (by omega) (by omega) (fun h59 => ?_) (fun h59 => ?_) | refine g_iceq C 64 dX7_looked_59 (by decide) (fun h59 => ?_) (fun h59 => ?_)
        · refine g_iinc1 C dX7_looked_64 rfl (by decide) ?_
          refine g_goto C 7 dX7_looked_67 (by decide) ?_
          refine g_loc ([(0, .ref (ev_a E 0)), (1, .ref (ev_a E 30)), (2, .int (nI (r + 1)))]) (And.intro rfl (And.intro rfl (And.intro rfl trivial))) ?_
          rw [show (loL s.1.1.2 s.1.1.1 s.1.2.2.2.2.1 s.1.2.2.2.2.2 (k + 1) r) = (loL s.1.1.2 s.1.1.1 s.1.2.2.2.2.1 s.1.2.2.2.2.2 k (r + 1)) from by rw [loL, if_pos ⟨h40, h59⟩]]
          exact ih (r + 1) (by omega)
        · refine g_iload_n C dX7_looked_62 rfl ?_
          refine g_iret C dX7_looked_63 ?_
          exact ⟨congrArg (fun v => some (Value.int v)) (by rw [show (loL s.1.1.2 s.1.1.1 s.1.2.2.2.2.1 s.1.2.2.2.2.2 (k + 1) r) = some r from by first | (rw [loL, if_neg (fun q => by rw [h40] at q; exact absurd q.1 (by decide))]; done) | (rw [loL, if_neg (fun q => h59 q.2)]; done)]; rfl), rfl⟩
set_option maxHeartbeats 4000000 in
set_option maxRecDepth 100000 in
theorem c_X7_looked {E : Ev} {d : Nat} {σ : St} {s : Ms} (hs : SyIs σ s) (hok : SuOk s.1) : Con E (d + 7) yX7_looked cX7_looked 4 ((Option.some FieldType.int)) [.ref (ev_a E 0)] σ (SyTo (.int (aLooked s)) σ (s)) := by
  refine con_of (by decide) (Nat.le_of_ble_eq_true rfl) (fun X hX C => ?_)
  have C : Cx E X cX7_looked RX7 4 ((Option.some FieldType.int)) := C
  obtain ⟨hS, hI, hO, hT, hA⟩ := id hs
  have hn8 : s.1.1.1 ≤ 8 := hS.1.2.1
  show G E _ X _ _ _ 0 [(0, .ref (ev_a E 0))] []
  refine g_aload_n C dX7_looked_0 rfl ?_
  refine g_callV C (ob_X7 (by rfl)) (c_X7_groupNow (d := d) hs) dX7_looked_1 km_RX7_93 kn_RX7 kc_yX7_groupNow ki_yX7_groupNow kx_yX7_groupNow (by omega) (by decide) ⟨by decide, by decide, rfl⟩ rfl (Nat.le_of_ble_eq_true rfl) (fun r1 σ1 q1 => ?_)
  obtain ⟨rfl, u1, u2, u3⟩ := q1
  obtain ⟨v0, ⟨vB, vM, vO, v5, vS, f0, f1, vC, vD, v8⟩, v12⟩ := id u2
  have vLe : (gL s).length ≤ 48 := vB.2.1.1
  refine g_astore_n C dX7_looked_4 (by decide) ?_
  refine g_ic (n := 0) C dX7_looked_5 (by decide) ?_
  refine g_istore_n C dX7_looked_6 (by decide) ?_
  refine g_loc ([(0, .ref (ev_a E 0)), (1, .ref (ev_a E 30)), (2, .int (nI 0))]) (And.intro rfl (And.intro rfl (And.intro rfl trivial))) ?_
  refine g_post (fun r σ2 q => ?_) (l_X7_looked C u1.1.2.2.2 vM hok.2.2.2 s.1.2.2.2.1 0 (by omega))
  obtain ⟨rfl, rfl⟩ := q
  exact ⟨rfl, u1, u3⟩
set_option maxHeartbeats 4000000 in
set_option maxRecDepth 100000 in
theorem l_X7_after {E : Ev} {d : Nat} {X : Mx} (C : Cx E X cX7_after RX7 3 ((Option.some FieldType.int))) {s : Ms} {w : Nat} {σ0 : St} {R : Option Value → St → Prop} (hev : ∀ j, j < s.1.2.2.1.1 → s.1.2.2.1.2.1 j < 4 ∧ s.1.2.2.1.2.2 j < 48) : ∀ (k : Nat) (r : Nat) (p : Pts) (σ : St), s.1.2.2.1.1 = r + k → ShIs σ 9 p.1 p.2 → SyIs σ s → Fs σ0 σ → (∀ σ2, ShIs σ2 9 (evL s.1.2.2.1.2.1 s.1.2.2.1.2.2 k r p).1 (evL s.1.2.2.1.2.1 s.1.2.2.1.2.2 k r p).2 → SyIs σ2 s → Fs σ0 σ2 → G E (d + 6) X 3 R σ2 78 ([(0, .ref (ev_a E 0)), (1, .int (nI w))]) []) → G E (d + 6) X 3 R σ 27 ([(0, .ref (ev_a E 0)), (1, .int (nI w)), (2, .int (nI r))]) [] := by
  intro k
  induction k with
  | zero =>
    intro r p σ hr h9 hs hF K
    have hc8 : s.1.2.2.1.1 ≤ 8 := hs.1.2.2.1.2.2.2.1
    refine g_iload_n C dX7_after_27 rfl ?_
    refine g_aload_n C dX7_after_28 rfl ?_
    refine gf_X7_now C (by rfl) dX7_after_29 kf_RX7_12 ?_
    refine gn_X3_events C (by rfl) dX7_after_32 nw_X7_252 ?_
    refine gn_X2_size C (by rfl) dX7_after_35 nw_X7_231 ?_
    rw [show σ.1 (9 * 1 + 6) 2 = nI s.1.2.2.1.1 from hs.1.2.2.1.2.2.2.2.2.1]
    first | refine g_icgeN C 78 dX7_after_38 (by decide) (by omega) (by omega) (fun h38 => ?_) (fun h38 => ?_) | refine g_icge C 78 dX7_after_38 (by decide) (fun h38 => ?_) (fun h38 => ?_)
    · refine g_loc ([(0, .ref (ev_a E 0)), (1, .int (nI w))]) (And.intro rfl (And.intro rfl trivial)) ?_
      exact K σ h9 hs hF
    · omega
  | succ k ih =>
    intro r p σ hr h9 hs hF K
    have hc8 : s.1.2.2.1.1 ≤ 8 := hs.1.2.2.1.2.2.2.1
    refine g_iload_n C dX7_after_27 rfl ?_
    refine g_aload_n C dX7_after_28 rfl ?_
    refine gf_X7_now C (by rfl) dX7_after_29 kf_RX7_12 ?_
    refine gn_X3_events C (by rfl) dX7_after_32 nw_X7_252 ?_
    refine gn_X2_size C (by rfl) dX7_after_35 nw_X7_231 ?_
    rw [show σ.1 (9 * 1 + 6) 2 = nI s.1.2.2.1.1 from hs.1.2.2.1.2.2.2.2.2.1]
    first | refine g_icgeN C 78 dX7_after_38 (by decide) (by omega) (by omega) (fun h38 => ?_) (fun h38 => ?_) | refine g_icge C 78 dX7_after_38 (by decide) (fun h38 => ?_) (fun h38 => ?_)
    · omega
    · refine g_aload_n C dX7_after_41 rfl ?_
      refine gf_X7_trial C (by rfl) dX7_after_42 kf_RX7_38 ?_
      refine g_aload_n C dX7_after_45 rfl ?_
      refine gf_X7_now C (by rfl) dX7_after_46 kf_RX7_12 ?_
      refine gn_X3_events C (by rfl) dX7_after_49 nw_X7_252 ?_
      refine gn_X2_first C (by rfl) dX7_after_52 nw_X7_235 ?_
      refine g_iload_n C dX7_after_55 rfl ?_
      refine g_ialdN C (by rfl) (by omega) (by first | decide | omega) dX7_after_56 ?_
      rw [show σ.1 (9 * 1 + 6 + 1) r = nI (s.1.2.2.1.2.1 r) from (hs.1.2.2.1.2.2.2.2.2.2 r (by omega)).1]
      refine g_aload_n C dX7_after_57 rfl ?_
      refine gf_X7_now C (by rfl) dX7_after_58 kf_RX7_12 ?_
      refine gn_X3_events C (by rfl) dX7_after_61 nw_X7_252 ?_
      refine gn_X2_second C (by rfl) dX7_after_64 nw_X7_232 ?_
      refine g_iload_n C dX7_after_67 rfl ?_
      refine g_ialdN C (by rfl) (by omega) (by first | decide | omega) dX7_after_68 ?_
      rw [show σ.1 (9 * 1 + 6 + 2) r = nI (s.1.2.2.1.2.2 r) from (hs.1.2.2.1.2.2.2.2.2.2 r (by omega)).2]
      refine g_callV C (ob_X4 (by rfl)) (c_X4_happen (d := d) h9 (hev r (by omega)).1 (fun _ => (hev r (by omega)).2) (hev r (by omega)).2) dX7_after_69 km_RX7_259 kn_RX4 kc_yX4_happen ki_yX4_happen kx_yX4_happen (by omega) (by decide) ⟨by decide, by decide, rfl⟩ rfl (Nat.le_of_ble_eq_true rfl) (fun r1 σ1 q1 => ?_)
      obtain ⟨rfl, u1, u2⟩ := q1
      have u4 : Fr [9, 10, 11] σ σ1 := u2
      refine g_iinc1 C dX7_after_72 rfl (by decide) ?_
      refine g_goto C 27 dX7_after_75 (by decide) ?_
      refine g_loc ([(0, .ref (ev_a E 0)), (1, .int (nI w)), (2, .int (nI (r + 1)))]) (And.intro rfl (And.intro rfl (And.intro rfl trivial))) ?_
      exact ih (r + 1) _ σ1 (by omega) u1 (Sy.tr9 hs u4) (hF.tr (u4.s (by decide))) K
set_option maxHeartbeats 4000000 in
set_option maxRecDepth 100000 in
theorem c_X7_after {E : Ev} {d : Nat} {σ : St} {s : Ms} (hs : SyIs σ s) (hok : SuOk s.1) {w : Int32} : Con E (d + 6) yX7_after cX7_after 3 ((Option.some FieldType.int)) [.ref (ev_a E 0), .int w] σ (SyTo (.int (aAfter s w)) σ (s)) := by
  refine con_of (by decide) (Nat.le_of_ble_eq_true rfl) (fun X hX C => ?_)
  have C : Cx E X cX7_after RX7 3 ((Option.some FieldType.int)) := C
  obtain ⟨hS, hI, hO, hT, hA⟩ := id hs
  have hn8 : s.1.1.1 ≤ 8 := hS.1.2.1
  show G E _ X _ _ _ 0 [(0, .ref (ev_a E 0)), (1, .int w)] []
  refine g_iload_n C dX7_after_0 rfl ?_
  refine g_iflt C 9 dX7_after_1 (by decide) (fun h1 => ?_) (fun h1 => ?_)
  · have e1 : inB w 0 2 = false := in_lo h1
    refine g_icz (v := -1) C dX7_after_9 (by decide) ?_
    refine g_iret C dX7_after_10 ?_
    exact ⟨congrArg (fun v => some (Value.int v)) (by first | (simp [aAfter, e1]; done) | (simp [aAfter, e6]; done)), hs, Fs.rf⟩
  · refine g_iload_n C dX7_after_4 rfl ?_
    refine g_ic (n := 2) C dX7_after_5 (by decide) ?_
    refine g_icle C 11 dX7_after_6 (by decide) (fun h6 => ?_) (fun h6 => ?_)
    · have e6 : inB w 0 2 = true := in_le_t (k := 2) (by decide) h1 h6
      refine g_aload_n C dX7_after_11 rfl ?_
      refine gf_X7_trial C (by rfl) dX7_after_12 kf_RX7_38 ?_
      refine g_aload_n C dX7_after_15 rfl ?_
      refine gf_X7_now C (by rfl) dX7_after_16 kf_RX7_12 ?_
      refine gn_X3_shape C (by rfl) dX7_after_19 nw_X7_67 ?_
      refine g_callV C (ob_X4 (by rfl)) (c_X4_become (d := d) hS.1 rfl rfl rfl (by omega)) dX7_after_22 km_RX7_223 kn_RX4 kc_yX4_become ki_yX4_become kx_yX4_become (by omega) (by decide) ⟨by decide, by decide, rfl⟩ rfl (Nat.le_of_ble_eq_true rfl) (fun r1 σ1 q1 => ?_)
      obtain ⟨rfl, u1, u2⟩ := q1
      have u4 : Fr [9, 10, 11] σ σ1 := u2
      have hs1 := Sy.tr9 hs u4
      refine g_ic (n := 0) C dX7_after_25 (by decide) ?_
      refine g_istore_n C dX7_after_26 (by decide) ?_
      obtain ⟨w2, hw2, rfl⟩ := in_n (k := 2) e6
      refine g_loc ([(0, .ref (ev_a E 0)), (1, .int (nI w2)), (2, .int (nI 0))]) (And.intro rfl (And.intro rfl (And.intro rfl trivial))) ?_
      refine l_X7_after C (s := s) (σ0 := σ) hok.2.2.1 s.1.2.2.1.1 0 s.1.1 σ1 (by omega) u1 hs1 (u4.s (by decide)) (fun σ2 z1 z2 z3 => ?_)
      have hw3 : w2 = 0 ∨ w2 = 1 ∨ w2 = 2 := by omega
      rcases hw3 with rfl | rfl | rfl
      · refine g_aload_n C dX7_after_78 rfl ?_
        refine gf_X7_trialGroup C (by rfl) dX7_after_79 kf_RX7_42 ?_
        refine g_aload_n C dX7_after_82 rfl ?_
        refine gf_X7_trial C (by rfl) dX7_after_83 kf_RX7_38 ?_
        refine g_callV C (ob_X0 (by rfl)) (c_X0_find (d := d) (b := 9) (n := (evP s).1) (P := (evP s).2) GK39 (Or.inl (by omega)) z1) dX7_after_86 km_RX7_263 kn_RX0 kc_yX0_find ki_yX0_find kx_yX0_find (by omega) (by decide) ⟨by decide, by decide, rfl⟩ rfl (Nat.le_of_ble_eq_true rfl) (fun r2 σ3 q2 => ?_)
        obtain ⟨rfl, y1, y2, y3⟩ := q2
        obtain ⟨yB, yM, yO, y1v5, yS, f0, f1, yC, yD, y1v8⟩ := id y1
        refine g_iload_n C dX7_after_89 rfl ?_
        refine g_lsw C (off := 26) 116 dX7_after_90 (by decide) (by decide) (by decide) ?_
        refine g_aload_n C dX7_after_116 rfl ?_
        refine gf_X7_trialGroup C (by rfl) dX7_after_117 kf_RX7_42 ?_
        refine gn_X0_size C (by rfl) dX7_after_120 nw_X7_159 ?_
        rw [y1.1.2.2.1]
        refine g_iret C dX7_after_123 ?_
        exact ⟨congrArg (fun v => some (Value.int v)) (by symm; unfold aAfter; rw [if_neg (by rw [e6]; decide), if_pos rfl]), Sy.tg z2 y3 (by decide), z3.tr (y3.s (by decide))⟩
      · refine g_aload_n C dX7_after_78 rfl ?_
        refine gf_X7_trialGroup C (by rfl) dX7_after_79 kf_RX7_42 ?_
        refine g_aload_n C dX7_after_82 rfl ?_
        refine gf_X7_trial C (by rfl) dX7_after_83 kf_RX7_38 ?_
        refine g_callV C (ob_X0 (by rfl)) (c_X0_find (d := d) (b := 9) (n := (evP s).1) (P := (evP s).2) GK39 (Or.inl (by omega)) z1) dX7_after_86 km_RX7_263 kn_RX0 kc_yX0_find ki_yX0_find kx_yX0_find (by omega) (by decide) ⟨by decide, by decide, rfl⟩ rfl (Nat.le_of_ble_eq_true rfl) (fun r2 σ3 q2 => ?_)
        obtain ⟨rfl, y1, y2, y3⟩ := q2
        obtain ⟨yB, yM, yO, y1v5, yS, f0, f1, yC, yD, y1v8⟩ := id y1
        refine g_iload_n C dX7_after_89 rfl ?_
        refine g_lsw C (off := 34) 124 dX7_after_90 (by decide) (by decide) (by decide) ?_
        refine g_aload_n C dX7_after_124 rfl ?_
        refine gf_X7_trialGroup C (by rfl) dX7_after_125 kf_RX7_42 ?_
        refine gn_X0_classes C (by rfl) dX7_after_128 nw_X7_160 ?_
        rw [y1v8, (clF_ag (gLst (evP s).2 (evP s).1) f0 f1).1]
        refine g_iret C dX7_after_131 ?_
        exact ⟨congrArg (fun v => some (Value.int v)) (by symm; unfold aAfter; rw [if_neg (by rw [e6]; decide), if_neg (by decide), if_pos rfl]), Sy.tg z2 y3 (by decide), z3.tr (y3.s (by decide))⟩
      · refine g_aload_n C dX7_after_78 rfl ?_
        refine gf_X7_trialGroup C (by rfl) dX7_after_79 kf_RX7_42 ?_
        refine g_aload_n C dX7_after_82 rfl ?_
        refine gf_X7_trial C (by rfl) dX7_after_83 kf_RX7_38 ?_
        refine g_callV C (ob_X0 (by rfl)) (c_X0_find (d := d) (b := 9) (n := (evP s).1) (P := (evP s).2) GK39 (Or.inl (by omega)) z1) dX7_after_86 km_RX7_263 kn_RX0 kc_yX0_find ki_yX0_find kx_yX0_find (by omega) (by decide) ⟨by decide, by decide, rfl⟩ rfl (Nat.le_of_ble_eq_true rfl) (fun r2 σ3 q2 => ?_)
        obtain ⟨rfl, y1, y2, y3⟩ := q2
        obtain ⟨yB, yM, yO, y1v5, yS, f0, f1, yC, yD, y1v8⟩ := id y1
        refine g_iload_n C dX7_after_89 rfl ?_
        refine g_lsw C (off := 42) 132 dX7_after_90 (by decide) (by decide) (by decide) ?_
        refine g_aload_n C dX7_after_132 rfl ?_
        refine gf_X7_trialGroup C (by rfl) dX7_after_133 kf_RX7_42 ?_
        refine gn_X0_orbitsInAll C (by rfl) dX7_after_136 nw_X7_163 ?_
        rw [y1v5]
        refine g_iret C dX7_after_139 ?_
        exact ⟨congrArg (fun v => some (Value.int v)) (by symm; unfold aAfter; rw [if_neg (by rw [e6]; decide), if_neg (by decide), if_neg (by decide)]), Sy.tg z2 y3 (by decide), z3.tr (y3.s (by decide))⟩
    · have e6 : inB w 0 2 = false := in_le_f (k := 2) (by decide) h6
      refine g_icz (v := -1) C dX7_after_9 (by decide) ?_
      refine g_iret C dX7_after_10 ?_
      exact ⟨congrArg (fun v => some (Value.int v)) (by first | (simp [aAfter, e1]; done) | (simp [aAfter, e6]; done)), hs, Fs.rf⟩
