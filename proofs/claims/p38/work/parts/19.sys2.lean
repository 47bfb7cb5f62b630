def SyF (v : Value) (σ : St) (s : Ms) : Option Value → St → Prop := fun r σ' => r = some v ∧ SyIs σ' s ∧ Fr [0, 3, 4, 5] σ σ'
theorem SyF.to {v : Value} {σ : St} {s : Ms} {r : Option Value} {σ' : St} (h : SyF v σ s r σ') : SyTo v σ s r σ' := ⟨h.1, h.2.1, h.2.2.s (by decide)⟩
/-! ShapeMoves: points, moves, the group (answers a.., states t.. behind them) -/
def ix (x : Int32) : Nat := x.toNatClampNeg
theorem ix_nI {j : Nat} (h : j < 2 ^ 31) : ix (nI j) = j := nI_clamp h
def sPts (s : Ms) (p : Pts) : Ms := ((p, s.1.2), s.2)
def pMark (P : Nat → Nat → Int32) (k : Nat) (v : Int32) : Nat → Nat → Int32 := fun p i => if p = k ∧ i = 3 then v else P p i
def aPoint (s : Ms) (x y z v : Int32) : Int32 := if (plB x y z && inB v 0 4) = false then -2 else if (ptL s.1.1.2 x y z s.1.1.1 0).isSome = true then -3 else if s.1.1.1 = 8 then -4 else nI s.1.1.1
def tPoint (s : Ms) (x y z v : Int32) : Ms := if (plB x y z && inB v 0 4) = false then s else if (ptL s.1.1.2 x y z s.1.1.1 0).isSome = true then s else if s.1.1.1 = 8 then s else sPts s (s.1.1.1 + 1, pAdd s.1.1.2 s.1.1.1 x y z v)
def aMark (s : Ms) (p v : Int32) : Int32 := if hpB s.1.1.1 p = false then -1 else if inB v 0 4 = false then -2 else s.1.1.2 (ix p) 3
def tMark (s : Ms) (p v : Int32) : Ms := if hpB s.1.1.1 p = false then s else if inB v 0 4 = false then s else sPts s (s.1.1.1, pMark s.1.1.2 (ix p) v)
def aDrop (s : Ms) (p : Int32) : Int32 := if hpB s.1.1.1 p = false then -1 else nI (s.1.1.1 - 1)
def tDrop (s : Ms) (p : Int32) : Ms := if hpB s.1.1.1 p = false then s else sPts s (s.1.1.1 - 1, pDrop s.1.1.2 (ix p))
def aOf (s : Ms) (p w : Int32) : Int32 := if (hpB s.1.1.1 p && inB w 0 4) = false then -9 else if w = nI 4 then oV s.1.1.2 s.1.1.1 (gLst s.1.1.2 s.1.1.1) (ix p) else s.1.1.2 (ix p) (ix w)
theorem Sy.pts {σ σ' : St} {s : Ms} {p : Pts} (h : SyIs σ s) (hF : Fr [0, 3, 4, 5] σ σ') (h02 : σ'.1 0 2 = σ.1 0 2) (h04 : σ'.1 0 4 = bI true) (hS : ShIs σ' 3 p.1 p.2) : SyIs σ' (sPts s p) := by
  obtain ⟨h1, h2, h3, h4, h5⟩ := h
  exact ⟨⟨hS, h1.2.1.go hF (by simp) (by simp) (by simp), h1.2.2.1.go hF (by simp) (by simp) (by simp), h1.2.2.2.go hF (by simp) (by simp) (by simp)⟩, h2.go h02 hF (by decide), Or.inl h04, h4.go hF (by simp) (by simp), h5.go hF (by decide)⟩
theorem oI_m5 {P : Nat → Nat → Int32} {x y z : Int32} {n : Nat} (hn : n ≤ 8) : oI (ptL P x y z n 0) = -5 ↔ (ptL P x y z n 0).isSome = false := by
  cases h : ptL P x y z n 0 with
  | none => simp [oI]
  | some q =>
    have := ptL_lt _ _ _ h
    simp only [oI, Option.isSome_some, Bool.true_eq_false, iff_false]
    exact oI_ne q (n := 9) (by omega) (by decide)
set_option maxHeartbeats 4000000 in
set_option maxRecDepth 100000 in
theorem c_X7_pointF {E : Ev} {d : Nat} {σ : St} {s : Ms} (hs : SyIs σ s) {x y z v : Int32} : Con E (d + 2) yX7_point cX7_point 5 ((Option.some FieldType.int)) [.ref (ev_a E 0), .int x, .int y, .int z, .int v] σ (SyF (.int (aPoint s x y z v)) σ (tPoint s x y z v)) := by
  refine con_of (by decide) (Nat.le_of_ble_eq_true rfl) (fun X hX C => ?_)
  have C : Cx E X cX7_point RX7 5 ((Option.some FieldType.int)) := C
  obtain ⟨hS, hI, hO, hT, hA⟩ := id hs
  have hn8 : s.1.1.1 ≤ 8 := hS.1.2.1
  show G E _ X _ _ _ 0 [(0, .ref (ev_a E 0)), (1, .int x), (2, .int y), (3, .int z), (4, .int v)] []
  refine g_iload_n C dX7_point_0 rfl ?_
  refine g_iload_n C dX7_point_1 rfl ?_
  refine g_iload_n C dX7_point_2 rfl ?_
  refine g_callSp C (c_X7_isPlace (d := d) ) dX7_point_3 km_RX7_59 kn_RX7 kc_yX7_isPlace ks_yX7_isPlace (by omega) (by decide) ⟨by decide, by decide, rfl⟩ rfl (Nat.le_of_ble_eq_true rfl) ?_
  refine g_ifeqB C 17 dX7_point_6 (by decide) (fun h6 => ?_) (fun h6 => ?_)
  · refine g_bp C (-2) dX7_point_17 (by decide) ?_
    refine g_iret C dX7_point_19 ?_
    exact ⟨congrArg (fun v => some (Value.int v)) (by simp [aPoint, h6]), by rw [show tPoint s x y z v = s from by simp [tPoint, h6]]; exact hs, Fr.rf⟩
  · refine g_iload C dX7_point_9 rfl ?_
    refine g_callSp C (c_X7_isMark (d := d) ) dX7_point_11 km_RX7_63 kn_RX7 kc_yX7_isMark ks_yX7_isMark (by omega) (by decide) ⟨by decide, by decide, rfl⟩ rfl (Nat.le_of_ble_eq_true rfl) ?_
    refine g_ifneB C 20 dX7_point_14 (by decide) (fun h14 => ?_) (fun h14 => ?_)
    · refine g_aload_n C dX7_point_20 rfl ?_
      refine gf_X7_now C (by rfl) dX7_point_21 kf_RX7_12 ?_
      refine gn_X3_shape C (by rfl) dX7_point_24 nw_X7_67 ?_
      refine g_iload_n C dX7_point_27 rfl ?_
      refine g_iload_n C dX7_point_28 rfl ?_
      refine g_iload_n C dX7_point_29 rfl ?_
      refine g_callVp C (ob_X4 (by rfl)) (c_X4_pointAt (d := d) hS.1) dX7_point_30 km_RX7_70 kn_RX4 kc_yX4_pointAt ki_yX4_pointAt kx_yX4_pointAt (by omega) (by decide) ⟨by decide, by decide, rfl⟩ rfl (Nat.le_of_ble_eq_true rfl) ?_
      refine g_bp C (-5) dX7_point_33 (by decide) ?_
      refine g_iceq C 41 dX7_point_35 (by decide) (fun h35 => ?_) (fun h35 => ?_)
      · have e35 := (oI_m5 hS.1.2.1).mp h35
        refine g_aload_n C dX7_point_41 rfl ?_
        refine gf_X7_now C (by rfl) dX7_point_42 kf_RX7_12 ?_
        refine gn_X3_shape C (by rfl) dX7_point_45 nw_X7_67 ?_
        refine gn_X4_size C (by rfl) dX7_point_48 nw_X7_74 ?_
        refine g_bp C (nI 8) dX7_point_51 (by decide) ?_
        rw [hS.1.2.2.1]
        refine g_icneN C 59 dX7_point_53 (by decide) (by omega) (by omega) (fun h53 => ?_) (fun h53 => ?_)
        · refine g_aload_n C dX7_point_59 rfl ?_
          refine g_ic (n := 1) C dX7_point_60 (by decide) ?_
          refine gp_X7_isGroupOld C (by rfl) (Or.inr rfl) dX7_point_61 kf_RX7_32 ?_
          refine g_aload_n C dX7_point_64 rfl ?_
          refine gf_X7_now C (by rfl) dX7_point_65 kf_RX7_12 ?_
          refine gn_X3_shape C (by rfl) dX7_point_68 nw_X7_67 ?_
          refine g_iload_n C dX7_point_71 rfl ?_
          refine g_iload_n C dX7_point_72 rfl ?_
          refine g_iload_n C dX7_point_73 rfl ?_
          refine g_iload C dX7_point_74 rfl ?_
          refine g_callV C (ob_X4 (by rfl)) (c_X4_add (d := d) (hS.1.go (l := [0]) (Fr.rf.sI (by simp)) (by simp) (by simp) (by simp)) (by have := hS.1.2.1; omega)) dX7_point_76 km_RX7_78 kn_RX4 kc_yX4_add ki_yX4_add kx_yX4_add (by omega) (by decide) ⟨by decide, by decide, rfl⟩ rfl (Nat.le_of_ble_eq_true rfl) (fun r1 σ1 q1 => ?_)
          obtain ⟨rfl, u1, u2⟩ := q1
          refine g_iret C dX7_point_79 ?_
          have hF : Fr [0, 3, 4, 5] σ σ1 := (Fr.rf.sI (by simp)).tr (u2.mono (by simp))
          exact ⟨congrArg (fun v => some (Value.int v)) (by unfold aPoint; rw [if_neg (by simp [h6, h14]), if_neg (by rw [e35]; decide), if_neg h53]), by rw [show tPoint s x y z v = sPts s (s.1.1.1 + 1, pAdd s.1.1.2 s.1.1.1 x y z v) from by unfold tPoint; rw [if_neg (by simp [h6, h14]), if_neg (by rw [e35]; decide), if_neg h53]]; exact Sy.pts hs hF (by rw [(u2 0 (by simp)).1, sI_self, up_n (by decide)]) (by rw [(u2 0 (by simp)).1, sI_self, up_i]; rfl) u1, hF⟩
        · refine g_bp C (-4) dX7_point_56 (by decide) ?_
          refine g_iret C dX7_point_58 ?_
          exact ⟨congrArg (fun v => some (Value.int v)) (by unfold aPoint; rw [if_neg (by simp [h6, h14]), if_neg (by rw [e35]; decide), if_pos h53]), by rw [show tPoint s x y z v = s from by unfold tPoint; rw [if_neg (by simp [h6, h14]), if_neg (by rw [e35]; decide), if_pos h53]]; exact hs, Fr.rf⟩
      · have e35 : (ptL s.1.1.2 x y z s.1.1.1 0).isSome = true := by cases hq : (ptL s.1.1.2 x y z s.1.1.1 0).isSome with | true => rfl | false => exact absurd ((oI_m5 hS.1.2.1).mpr hq) h35
        refine g_bp C (-3) dX7_point_38 (by decide) ?_
        refine g_iret C dX7_point_40 ?_
        exact ⟨congrArg (fun v => some (Value.int v)) (by unfold aPoint; rw [if_neg (by simp [h6, h14]), if_pos e35]), by rw [show tPoint s x y z v = s from by unfold tPoint; rw [if_neg (by simp [h6, h14]), if_pos e35]]; exact hs, Fr.rf⟩
    · refine g_bp C (-2) dX7_point_17 (by decide) ?_
      refine g_iret C dX7_point_19 ?_
      exact ⟨congrArg (fun v => some (Value.int v)) (by simp [aPoint, h6, h14]), by rw [show tPoint s x y z v = s from by simp [tPoint, h6, h14]]; exact hs, Fr.rf⟩
theorem c_X7_point {E : Ev} {d : Nat} {σ : St} {s : Ms} (hs : SyIs σ s) {x y z v : Int32} : Con E (d + 2) yX7_point cX7_point 5 ((Option.some FieldType.int)) [.ref (ev_a E 0), .int x, .int y, .int z, .int v] σ (SyTo (.int (aPoint s x y z v)) σ (tPoint s x y z v)) := con_post (c_X7_pointF hs) (fun r σ2 h => h.to)
theorem sh_mark {σ : St} {n j : Nat} {P : Nat → Nat → Int32} {v : Int32} {f : Nat → Int32} (h : ShIs σ 3 n P) (hj : j < n) : ShIs (sI (sI σ 5 (upd (σ.1 5) j v)) 0 f) 3 n (pMark P j v) := by
  obtain ⟨hk, h8, hsz, hk1, hk2, hP⟩ := h
  refine ⟨hk, h8, by rw [sI_ne (by decide), sI_ne (by decide)]; exact hsz, hk1, hk2, fun p hp => ?_⟩
  rw [sI_ne (show 3 + 1 ≠ 0 by decide), sI_ne (show 3 + 1 ≠ 5 by decide), sI_ne (show 3 + 2 ≠ 0 by decide)]
  obtain ⟨a1, a2, a3, a4⟩ := hP p hp
  refine ⟨by simp [pMark, a1], by simp [pMark, a2], by simp [pMark, a3], ?_⟩
  show (sI σ 5 (upd (σ.1 5) j v)).1 5 p = _
  rw [sI_self]
  by_cases e : p = j
  · subst e; rw [up_i]; simp [pMark]
  · rw [up_n e]; simp [pMark, e]; exact a4
set_option maxHeartbeats 4000000 in
set_option maxRecDepth 100000 in
theorem c_X7_markF {E : Ev} {d : Nat} {σ : St} {s : Ms} (hs : SyIs σ s) {p v : Int32} : Con E (d + 1) yX7_mark cX7_mark 4 ((Option.some FieldType.int)) [.ref (ev_a E 0), .int p, .int v] σ (SyF (.int (aMark s p v)) σ (tMark s p v)) := by
  refine con_of (by decide) (Nat.le_of_ble_eq_true rfl) (fun X hX C => ?_)
  have C : Cx E X cX7_mark RX7 4 ((Option.some FieldType.int)) := C
  obtain ⟨hS, hI, hO, hT, hA⟩ := id hs
  have hn8 : s.1.1.1 ≤ 8 := hS.1.2.1
  show G E _ X _ _ _ 0 [(0, .ref (ev_a E 0)), (1, .int p), (2, .int v)] []
  refine g_aload_n C dX7_mark_0 rfl ?_
  refine g_iload_n C dX7_mark_1 rfl ?_
  refine g_callVp C (ob_X7 (by rfl)) (c_X7_isPoint (d := d) hS.1) dX7_mark_2 km_RX7_82 kn_RX7 kc_yX7_isPoint ki_yX7_isPoint kx_yX7_isPoint (by omega) (by decide) ⟨by decide, by decide, rfl⟩ rfl (Nat.le_of_ble_eq_true rfl) ?_
  refine g_ifneB C 10 dX7_mark_5 (by decide) (fun h5 => ?_) (fun h5 => ?_)
  · obtain ⟨j, hj, rfl⟩ := hpB_t (by have := hS.1.2.1; omega) h5
    refine g_iload_n C dX7_mark_10 rfl ?_
    refine g_callSp C (c_X7_isMark (d := d) ) dX7_mark_11 km_RX7_63 kn_RX7 kc_yX7_isMark ks_yX7_isMark (by omega) (by decide) ⟨by decide, by decide, rfl⟩ rfl (Nat.le_of_ble_eq_true rfl) ?_
    refine g_ifneB C 20 dX7_mark_14 (by decide) (fun h14 => ?_) (fun h14 => ?_)
    · refine g_aload_n C dX7_mark_20 rfl ?_
      refine gf_X7_now C (by rfl) dX7_mark_21 kf_RX7_12 ?_
      refine gn_X3_shape C (by rfl) dX7_mark_24 nw_X7_67 ?_
      refine gn_X4_marks C (by rfl) dX7_mark_27 nw_X7_85 ?_
      refine g_iload_n C dX7_mark_30 rfl ?_
      refine g_ialdN C (by rfl) (by have := hS.1.2.1; omega) (by first | decide | omega) dX7_mark_31 ?_
      rw [(hS.1.2.2.2.2.2 j hj).2.2.2]
      refine g_istore_n C dX7_mark_32 (by decide) ?_
      refine g_aload_n C dX7_mark_33 rfl ?_
      refine gf_X7_now C (by rfl) dX7_mark_34 kf_RX7_12 ?_
      refine gn_X3_shape C (by rfl) dX7_mark_37 nw_X7_67 ?_
      refine gn_X4_marks C (by rfl) dX7_mark_40 nw_X7_85 ?_
      refine g_iload_n C dX7_mark_43 rfl ?_
      refine g_iload_n C dX7_mark_44 rfl ?_
      refine g_iastN C (by rfl) (by have := hS.1.2.1; omega) (by first | decide | omega) dX7_mark_45 ?_
      refine g_aload_n C dX7_mark_46 rfl ?_
      refine g_ic (n := 1) C dX7_mark_47 (by decide) ?_
      refine gp_X7_isGroupOld C (by rfl) (Or.inr rfl) dX7_mark_48 kf_RX7_32 ?_
      refine g_iload_n C dX7_mark_51 rfl ?_
      refine g_iret C dX7_mark_52 ?_
      have hj8 : j < 2 ^ 31 := by have := hS.1.2.1; omega
      exact ⟨congrArg (fun v => some (Value.int v)) (by simp [aMark, h5, h14, ix_nI hj8]), by rw [show tMark s (nI j) v = sPts s (s.1.1.1, pMark s.1.1.2 j v) from by simp [tMark, h5, h14, ix_nI hj8]]; exact Sy.pts hs (((Fr.rf.sI (by simp)).sI (by simp))) (by rw [sI_self, up_n (by decide), sI_ne (by decide)]) (by rw [sI_self, up_i]; rfl) (sh_mark hS.1 hj), ((Fr.rf.sI (by simp)).sI (by simp))⟩
    · refine g_bp C (-2) dX7_mark_17 (by decide) ?_
      refine g_iret C dX7_mark_19 ?_
      exact ⟨congrArg (fun v => some (Value.int v)) (by simp [aMark, h5, h14]), by rw [show tMark s (nI j) v = s from by simp [tMark, h5, h14]]; exact hs, Fr.rf⟩
  · refine g_icz (v := -1) C dX7_mark_8 (by decide) ?_
    refine g_iret C dX7_mark_9 ?_
    exact ⟨congrArg (fun v => some (Value.int v)) (by simp [aMark, h5]), by rw [show tMark s p v = s from by simp [tMark, h5]]; exact hs, Fr.rf⟩
theorem c_X7_mark {E : Ev} {d : Nat} {σ : St} {s : Ms} (hs : SyIs σ s) {p v : Int32} : Con E (d + 1) yX7_mark cX7_mark 4 ((Option.some FieldType.int)) [.ref (ev_a E 0), .int p, .int v] σ (SyTo (.int (aMark s p v)) σ (tMark s p v)) := con_post (c_X7_markF hs) (fun r σ2 h => h.to)
set_option maxHeartbeats 4000000 in
set_option maxRecDepth 100000 in
theorem c_X7_dropF {E : Ev} {d : Nat} {σ : St} {s : Ms} (hs : SyIs σ s) {p : Int32} : Con E (d + 2) yX7_drop cX7_drop 2 ((Option.some FieldType.int)) [.ref (ev_a E 0), .int p] σ (SyF (.int (aDrop s p)) σ (tDrop s p)) := by
  refine con_of (by decide) (Nat.le_of_ble_eq_true rfl) (fun X hX C => ?_)
  have C : Cx E X cX7_drop RX7 2 ((Option.some FieldType.int)) := C
  obtain ⟨hS, hI, hO, hT, hA⟩ := id hs
  have hn8 : s.1.1.1 ≤ 8 := hS.1.2.1
  show G E _ X _ _ _ 0 [(0, .ref (ev_a E 0)), (1, .int p)] []
  refine g_aload_n C dX7_drop_0 rfl ?_
  refine g_iload_n C dX7_drop_1 rfl ?_
  refine g_callVp C (ob_X7 (by rfl)) (c_X7_isPoint (d := d) hS.1) dX7_drop_2 km_RX7_82 kn_RX7 kc_yX7_isPoint ki_yX7_isPoint kx_yX7_isPoint (by omega) (by decide) ⟨by decide, by decide, rfl⟩ rfl (Nat.le_of_ble_eq_true rfl) ?_
  refine g_ifneB C 10 dX7_drop_5 (by decide) (fun h5 => ?_) (fun h5 => ?_)
  · obtain ⟨j, hj, rfl⟩ := hpB_t (by have := hS.1.2.1; omega) h5
    refine g_aload_n C dX7_drop_10 rfl ?_
    refine gf_X7_now C (by rfl) dX7_drop_11 kf_RX7_12 ?_
    refine gn_X3_shape C (by rfl) dX7_drop_14 nw_X7_67 ?_
    refine g_iload_n C dX7_drop_17 rfl ?_
    refine g_callV C (ob_X4 (by rfl)) (c_X4_remove (d := d) hS.1 hj) dX7_drop_18 km_RX7_89 kn_RX4 kc_yX4_remove ki_yX4_remove kx_yX4_remove (by omega) (by decide) ⟨by decide, by decide, rfl⟩ rfl (Nat.le_of_ble_eq_true rfl) (fun r1 σ1 q1 => ?_)
    obtain ⟨rfl, u1, u2⟩ := q1
    refine g_aload_n C dX7_drop_21 rfl ?_
    refine g_ic (n := 1) C dX7_drop_22 (by decide) ?_
    refine gp_X7_isGroupOld C (by rfl) (Or.inr rfl) dX7_drop_23 kf_RX7_32 ?_
    refine g_aload_n C dX7_drop_26 rfl ?_
    refine gf_X7_now C (by rfl) dX7_drop_27 kf_RX7_12 ?_
    refine gn_X3_shape C (by rfl) dX7_drop_30 nw_X7_67 ?_
    refine gn_X4_size C (by rfl) dX7_drop_33 nw_X7_74 ?_
    rw [sI_ne (show 3 * 1 ≠ 0 by decide), show σ1.1 (3 * 1) 2 = nI (s.1.1.1 - 1) from u1.2.2.1]
    refine g_iret C dX7_drop_36 ?_
    have hj8 : j < 2 ^ 31 := by have := hS.1.2.1; omega
    have hF : Fr [0, 3, 4, 5] σ (sI σ1 0 (upd (σ1.1 0) 4 (nI 1))) := (u2.mono (by simp)).sI (by simp)
    exact ⟨congrArg (fun v => some (Value.int v)) (by simp [aDrop, h5]), by rw [show tDrop s (nI j) = sPts s (s.1.1.1 - 1, pDrop s.1.1.2 j) from by simp [tDrop, h5, ix_nI hj8]]; exact Sy.pts hs hF (by rw [sI_self, up_n (by decide), (u2 0 (by simp)).1]) (by rw [sI_self, up_i]; rfl) (u1.go (l := [0]) (Fr.rf.sI (by simp)) (by simp) (by simp) (by simp)), hF⟩
  · refine g_icz (v := -1) C dX7_drop_8 (by decide) ?_
    refine g_iret C dX7_drop_9 ?_
    exact ⟨congrArg (fun v => some (Value.int v)) (by simp [aDrop, h5]), by rw [show tDrop s p = s from by simp [tDrop, h5]]; exact hs, Fr.rf⟩
theorem c_X7_drop {E : Ev} {d : Nat} {σ : St} {s : Ms} (hs : SyIs σ s) {p : Int32} : Con E (d + 2) yX7_drop cX7_drop 2 ((Option.some FieldType.int)) [.ref (ev_a E 0), .int p] σ (SyTo (.int (aDrop s p)) σ (tDrop s p)) := con_post (c_X7_dropF hs) (fun r σ2 h => h.to)
set_option maxHeartbeats 4000000 in
set_option maxRecDepth 100000 in
theorem c_X7_of {E : Ev} {d : Nat} {σ : St} {s : Ms} (hs : SyIs σ s) {p w : Int32} : Con E (d + 7) yX7_of cX7_of 3 ((Option.some FieldType.int)) [.ref (ev_a E 0), .int p, .int w] σ (SyTo (.int (aOf s p w)) σ (s)) := by
  refine con_of (by decide) (Nat.le_of_ble_eq_true rfl) (fun X hX C => ?_)
  have C : Cx E X cX7_of RX7 3 ((Option.some FieldType.int)) := C
  obtain ⟨hS, hI, hO, hT, hA⟩ := id hs
  have hn8 : s.1.1.1 ≤ 8 := hS.1.2.1
  show G E _ X _ _ _ 0 [(0, .ref (ev_a E 0)), (1, .int p), (2, .int w)] []
  refine g_aload_n C dX7_of_0 rfl ?_
  refine g_iload_n C dX7_of_1 rfl ?_
  refine g_callVp C (ob_X7 (by rfl)) (c_X7_isPoint (d := d) hS.1) dX7_of_2 km_RX7_82 kn_RX7 kc_yX7_isPoint ki_yX7_isPoint kx_yX7_isPoint (by omega) (by decide) ⟨by decide, by decide, rfl⟩ rfl (Nat.le_of_ble_eq_true rfl) ?_
  refine g_ifeqB C 17 dX7_of_5 (by decide) (fun h5 => ?_) (fun h5 => ?_)
  · refine g_bp C (-9) dX7_of_17 (by decide) ?_
    refine g_iret C dX7_of_19 ?_
    exact ⟨congrArg (fun v => some (Value.int v)) (by first | (simp [aOf, h5]; done) | (simp [aOf, e9]; done) | (simp [aOf, e14]; done)), hs, Fs.rf⟩
  · obtain ⟨j, hj, rfl⟩ := hpB_t (by have := hS.1.2.1; omega) h5
    have hj8 : j < 8 := by have := hS.1.2.1; omega
    refine g_iload_n C dX7_of_8 rfl ?_
    refine g_iflt C 17 dX7_of_9 (by decide) (fun h9 => ?_) (fun h9 => ?_)
    · have e9 : inB w 0 4 = false := in_lo h9
      refine g_bp C (-9) dX7_of_17 (by decide) ?_
      refine g_iret C dX7_of_19 ?_
      exact ⟨congrArg (fun v => some (Value.int v)) (by first | (simp [aOf, h5]; done) | (simp [aOf, e9]; done) | (simp [aOf, e14]; done)), hs, Fs.rf⟩
    · refine g_iload_n C dX7_of_12 rfl ?_
      refine g_ic (n := 4) C dX7_of_13 (by decide) ?_
      refine g_icle C 20 dX7_of_14 (by decide) (fun h14 => ?_) (fun h14 => ?_)
      · have e14 : inB w 0 4 = true := in_le_t (k := 4) (by decide) h9 h14
        refine g_iload_n C dX7_of_20 rfl ?_
        refine g_ic (n := 4) C dX7_of_21 (by decide) ?_
        refine g_icne C 35 dX7_of_22 (by decide) (fun h22 => ?_) (fun h22 => ?_)
        · refine g_iload_n C dX7_of_35 rfl ?_
          refine g_ic (n := 3) C dX7_of_36 (by decide) ?_
          refine g_icne C 55 dX7_of_37 (by decide) (fun h37 => ?_) (fun h37 => ?_)
          · obtain ⟨w2, hw2, rfl⟩ := in_n (k := 4) e14
            have hw3 : w2 < 3 := by have a1 : w2 ≠ 4 := fun e => h22 (by rw [e]); have a2 : w2 ≠ 3 := fun e => h37 (by rw [e]); omega
            refine g_aload_n C dX7_of_55 rfl ?_
            refine gf_X7_now C (by rfl) dX7_of_56 kf_RX7_12 ?_
            refine gn_X3_shape C (by rfl) dX7_of_59 nw_X7_67 ?_
            refine gn_X4_places C (by rfl) dX7_of_62 nw_X7_100 ?_
            refine g_ic (n := 3) C dX7_of_65 (by decide) ?_
            refine g_iload_n C dX7_of_66 rfl ?_
            first | refine g_imulN C dX7_of_67 ?_ | refine g_imul C dX7_of_67 ?_
            refine g_iload_n C dX7_of_68 rfl ?_
            first | refine g_iaddN C dX7_of_69 ?_ | refine g_iadd C dX7_of_69 ?_
            refine g_ialdN C (n := 24) rfl (by omega) (by decide) dX7_of_70 ?_
            rw [hS.1.i hj hw3]
            refine g_iret C dX7_of_71 ?_
            exact ⟨congrArg (fun v => some (Value.int v)) (by first | (subst h37; simp [aOf, h5, e14, h22, ix_nI (show j < 2 ^ 31 by omega), ix_nI (show 3 < 2 ^ 31 by decide)]) | simp [aOf, h5, e14, h22, ix_nI (show j < 2 ^ 31 by omega), ix_nI (show w2 < 2 ^ 31 by omega)]), hs, Fs.rf⟩
          · refine g_aload_n C dX7_of_40 rfl ?_
            refine gf_X7_now C (by rfl) dX7_of_41 kf_RX7_12 ?_
            refine gn_X3_shape C (by rfl) dX7_of_44 nw_X7_67 ?_
            refine gn_X4_marks C (by rfl) dX7_of_47 nw_X7_85 ?_
            refine g_iload_n C dX7_of_50 rfl ?_
            refine g_ialdN C (by rfl) (by omega) (by first | decide | omega) dX7_of_51 ?_
            rw [(hS.1.2.2.2.2.2 j hj).2.2.2]
            refine g_goto C 71 dX7_of_52 (by decide) ?_
            refine g_iret C dX7_of_71 ?_
            exact ⟨congrArg (fun v => some (Value.int v)) (by first | (subst h37; simp [aOf, h5, e14, h22, ix_nI (show j < 2 ^ 31 by omega), ix_nI (show 3 < 2 ^ 31 by decide)]) | simp [aOf, h5, e14, h22, ix_nI (show j < 2 ^ 31 by omega), ix_nI (show w2 < 2 ^ 31 by omega)]), hs, Fs.rf⟩
        · refine g_aload_n C dX7_of_25 rfl ?_
          refine g_callV C (ob_X7 (by rfl)) (c_X7_groupNow (d := d) hs) dX7_of_26 km_RX7_93 kn_RX7 kc_yX7_groupNow ki_yX7_groupNow kx_yX7_groupNow (by omega) (by decide) ⟨by decide, by decide, rfl⟩ rfl (Nat.le_of_ble_eq_true rfl) (fun r1 σ1 q1 => ?_)
          obtain ⟨rfl, u1, u2, u3⟩ := q1
          refine gn_X0_orbits C (by rfl) dX7_of_29 nw_X7_97 ?_
          refine g_iload_n C dX7_of_32 rfl ?_
          refine g_ialdN C (by rfl) (by omega) (by first | decide | omega) dX7_of_33 ?_
          rw [u2.2.1.2.2.1 j hj]
          refine g_iret C dX7_of_34 ?_
          exact ⟨congrArg (fun v => some (Value.int v)) (by unfold aOf; rw [if_neg (by simp [h5, e14]), if_pos h22, ix_nI (show j < 2 ^ 31 by omega)]), u1, u3⟩
      · have e14 : inB w 0 4 = false := in_le_f (k := 4) (by decide) h14
        refine g_bp C (-9) dX7_of_17 (by decide) ?_
        refine g_iret C dX7_of_19 ?_
        exact ⟨congrArg (fun v => some (Value.int v)) (by first | (simp [aOf, h5]; done) | (simp [aOf, e9]; done) | (simp [aOf, e14]; done)), hs, Fs.rf⟩
