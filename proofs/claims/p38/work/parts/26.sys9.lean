/-! ShapeMoves: image, undo, count; tapes -/
def aUndo (s : Ms) : Int32 := match s.2.1 with
  | none => -3
  | some u => nI u.1.1
def tUndo (s : Ms) : Ms := match s.2.1 with
  | none => s
  | some u => (u, s.2)
def tImage (s : Ms) : Ms := (s.1, some s.1, s.2.2)
def aCount (s : Ms) (w : Int32) : Int32 := if inB w 0 3 = false then -2 else if w = nI 0 then nI s.1.2.1.1 else if w = nI 1 then nI s.1.2.2.1.1 else if w = nI 2 then nI s.1.2.2.2.1 else nI s.2.2.1.1
def sTp (s : Ms) (k : Nat) (tp : Tp) : Ms := (s.1, s.2.1, s.2.2.1, fun q => if q = k then tp else s.2.2.2 q)
def aTape (k so n : Int32) : Int32 := if inB k 0 5 = false then -1 else if so = -1 then nI 1 else if inB so 0 4 = false then -2 else if ¬ n ≤ nI 60 then -2 else if n < 0 then -14 else nI 1
def tTape (s : Ms) (k so n : Int32) : Ms := if inB k 0 5 = false then s else if so = -1 then sTp s (ix k) (-1, 0, fun _ => 0) else if inB so 0 4 = false then s else if ¬ n ≤ nI 60 then s else if n < 0 then s else sTp s (ix k) (so, ix n, fun _ => 0)
def aItem (s : Ms) (k i : Int32) : Int32 := if inB k 0 5 = false then -1 else if (s.2.2.2 (ix k)).1 = -1 then -11 else if hpB (s.2.2.2 (ix k)).2.1 i = false then -13 else nI 1
def tItem (s : Ms) (k i : Int32) (v : Int64) : Ms := if inB k 0 5 = false then s else if (s.2.2.2 (ix k)).1 = -1 then s else if hpB (s.2.2.2 (ix k)).2.1 i = false then s else sTp s (ix k) ((s.2.2.2 (ix k)).1, (s.2.2.2 (ix k)).2.1, fun q => if q = ix i then asI (s.2.2.2 (ix k)).1 v else (s.2.2.2 (ix k)).2.2 q)
def jgL (n : Nat) (V : Nat → Int64) (L : List Nat) (x : Int32) : Nat → Nat → Int32
  | 0, _ => -5
  | k + 1, r => if (hpB n x && hpB n (x + nI r)) = false then nI (100 + r) else if V (ix (x + nI r)) = (nI (lg L r)).toInt64 then jgL n V L x k (r + 1) else nI r
def aJudge (s : Ms) (k x : Int32) : Int32 := if inB k 0 5 = false then -1 else if ¬ (s.2.2.2 (ix k)).1 = -1 ∧ ¬ (s.2.2.2 (ix k)).1 = 0 then -12 else jgL (s.2.2.2 (ix k)).2.1 (s.2.2.2 (ix k)).2.2 (gL s) x (gL s).length 0
theorem Sy.tp {σ σ' : St} {s : Ms} {k n : Nat} {so : Int32} {V : Nat → Int64} (h : SyIs σ s) (hk : k < 6) (h1 : TpIs σ' (52 + 2 * k) so n V) (hF : Fr [52 + 2 * k, 52 + 2 * k + 1] σ σ') : SyIs σ' (sTp s k (so, n, V)) ∧ Fs σ σ' := by
  obtain ⟨hS, hI, hO, hT, hA⟩ := h
  have hk6 : k = 0 ∨ k = 1 ∨ k = 2 ∨ k = 3 ∨ k = 4 ∨ k = 5 := by omega
  refine ⟨⟨?_, ?_, ?_, ?_, ?_⟩, ?_⟩
  · rcases hk6 with rfl | rfl | rfl | rfl | rfl | rfl <;> exact hS.go hF (by decide)
  · rcases hk6 with rfl | rfl | rfl | rfl | rfl | rfl <;> exact hI.go (by rw [(hF 0 (by simp)).1]) hF (by decide)
  · rcases hk6 with rfl | rfl | rfl | rfl | rfl | rfl <;> exact hO.go (by rw [(hF 0 (by simp)).1]) hF (by decide)
  · exact hT.go hF (by simp; omega) (by simp; omega)
  · intro q hq
    show TpIs σ' (52 + 2 * q) (if q = k then (so, n, V) else s.2.2.2 q).1 (if q = k then (so, n, V) else s.2.2.2 q).2.1 (if q = k then (so, n, V) else s.2.2.2 q).2.2
    by_cases e : q = k
    · subst e; rw [if_pos rfl]; exact h1
    · rw [if_neg e]; exact (hA q hq).go hF (by simp; omega) (by simp; omega)
  · rcases hk6 with rfl | rfl | rfl | rfl | rfl | rfl <;> exact hF.s (by decide)
theorem lgc (v w : Int64) : lg_cmp v w = 0 ↔ v = w := by
  unfold lg_cmp
  constructor
  · intro h
    split at h
    · exact absurd h (by decide)
    · split at h
      · assumption
      · exact absurd h (by decide)
  · intro h
    subst h
    simp
set_option maxHeartbeats 4000000 in
set_option maxRecDepth 100000 in
theorem c_X3_become2 {E : Ev} {d : Nat} {σ : St} {u : Su} (hu : SuIs σ 3 12 15 18 u) : Con E (d + 2) yX3_become cX3_become 2 ((Option.none : Option FieldType)) [.ref (ev_a E 2), .ref (ev_a E 1)] σ (fun r σ2 => r = none ∧ SuIs σ2 6 21 24 27 u ∧ Fr [6, 7, 8, 21, 22, 23, 24, 25, 26, 27, 28, 29] σ σ2) := by
  refine con_of (by decide) (Nat.le_of_ble_eq_true rfl) (fun X hX C => ?_)
  have C : Cx E X cX3_become RX3 2 ((Option.none : Option FieldType)) := C
  show G E _ X _ _ _ 0 [(0, .ref (ev_a E 2)), (1, .ref (ev_a E 1))] []
  refine g_aload_n C dX3_become_0 rfl ?_
  refine gf_X3_shape C (by rfl) dX3_become_1 kf_RX3_10 ?_
  refine g_aload_n C dX3_become_4 rfl ?_
  refine gf_X3_shape C (by rfl) dX3_become_5 kf_RX3_10 ?_
  refine g_callV C (ob_X4 (by rfl)) (c_X4_become (d := d) hu.1 rfl rfl rfl (by omega)) dX3_become_8 km_RX3_31 kn_RX4 kc_yX4_become ki_yX4_become kx_yX4_become (by omega) (by decide) ⟨by decide, by decide, rfl⟩ rfl (Nat.le_of_ble_eq_true rfl) (fun r1 σ1 q1 => ?_)
  obtain ⟨rfl, a1, a2⟩ := q1
  have F1 : Fr [6, 7, 8, 21, 22, 23, 24, 25, 26, 27, 28, 29] σ σ1 := Fr.mono a2 (by simp)
  refine g_aload_n C dX3_become_11 rfl ?_
  refine gf_X3_seen C (by rfl) dX3_become_12 kf_RX3_21 ?_
  refine g_aload_n C dX3_become_15 rfl ?_
  refine gf_X3_seen C (by rfl) dX3_become_16 kf_RX3_21 ?_
  refine g_callV C (ob_X2 (by rfl)) (c_X2_become (d := d) (hu.2.1.go F1 (by decide) (by decide) (by decide)) rfl rfl rfl (by omega)) dX3_become_19 km_RX3_35 kn_RX2 kc_yX2_become ki_yX2_become kx_yX2_become (by omega) (by decide) ⟨by decide, by decide, rfl⟩ rfl (Nat.le_of_ble_eq_true rfl) (fun r2 σ2 q2 => ?_)
  obtain ⟨rfl, b1, b2⟩ := q2
  have F2 : Fr [6, 7, 8, 21, 22, 23, 24, 25, 26, 27, 28, 29] σ σ2 := F1.tr (Fr.mono b2 (by simp))
  refine g_aload_n C dX3_become_22 rfl ?_
  refine gf_X3_events C (by rfl) dX3_become_23 kf_RX3_25 ?_
  refine g_aload_n C dX3_become_26 rfl ?_
  refine gf_X3_events C (by rfl) dX3_become_27 kf_RX3_25 ?_
  refine g_callV C (ob_X2 (by rfl)) (c_X2_become (d := d) (hu.2.2.1.go F2 (by decide) (by decide) (by decide)) rfl rfl rfl (by omega)) dX3_become_30 km_RX3_35 kn_RX2 kc_yX2_become ki_yX2_become kx_yX2_become (by omega) (by decide) ⟨by decide, by decide, rfl⟩ rfl (Nat.le_of_ble_eq_true rfl) (fun r3 σ3 q3 => ?_)
  obtain ⟨rfl, c1, c2⟩ := q3
  have F3 : Fr [6, 7, 8, 21, 22, 23, 24, 25, 26, 27, 28, 29] σ σ3 := F2.tr (Fr.mono c2 (by simp))
  refine g_aload_n C dX3_become_33 rfl ?_
  refine gf_X3_book C (by rfl) dX3_become_34 kf_RX3_28 ?_
  refine g_aload_n C dX3_become_37 rfl ?_
  refine gf_X3_book C (by rfl) dX3_become_38 kf_RX3_28 ?_
  refine g_callV C (ob_X2 (by rfl)) (c_X2_become (d := d) (hu.2.2.2.go F3 (by decide) (by decide) (by decide)) rfl rfl rfl (by omega)) dX3_become_41 km_RX3_35 kn_RX2 kc_yX2_become ki_yX2_become kx_yX2_become (by omega) (by decide) ⟨by decide, by decide, rfl⟩ rfl (Nat.le_of_ble_eq_true rfl) (fun r4 σ4 q4 => ?_)
  obtain ⟨rfl, d1, d2⟩ := q4
  have F4 : Fr [6, 7, 8, 21, 22, 23, 24, 25, 26, 27, 28, 29] σ σ4 := F3.tr (Fr.mono d2 (by simp))
  refine g_vret C dX3_become_44 ?_
  exact ⟨rfl, ⟨((a1.go b2 (by decide) (by decide) (by decide)).go c2 (by decide) (by decide) (by decide)).go d2 (by decide) (by decide) (by decide), (RwIs.go (b1.go c2 (by decide) (by decide) (by decide)) d2 (by decide) (by decide) (by decide)), c1.go d2 (by decide) (by decide) (by decide), d1⟩, F4⟩
set_option maxHeartbeats 4000000 in
set_option maxRecDepth 100000 in
theorem c_X3_become1 {E : Ev} {d : Nat} {σ : St} {u : Su} (hu : SuIs σ 6 21 24 27 u) : Con E (d + 2) yX3_become cX3_become 2 ((Option.none : Option FieldType)) [.ref (ev_a E 1), .ref (ev_a E 2)] σ (fun r σ2 => r = none ∧ SuIs σ2 3 12 15 18 u ∧ Fr [3, 4, 5, 12, 13, 14, 15, 16, 17, 18, 19, 20] σ σ2) := by
  refine con_of (by decide) (Nat.le_of_ble_eq_true rfl) (fun X hX C => ?_)
  have C : Cx E X cX3_become RX3 2 ((Option.none : Option FieldType)) := C
  show G E _ X _ _ _ 0 [(0, .ref (ev_a E 1)), (1, .ref (ev_a E 2))] []
  refine g_aload_n C dX3_become_0 rfl ?_
  refine gf_X3_shape C (by rfl) dX3_become_1 kf_RX3_10 ?_
  refine g_aload_n C dX3_become_4 rfl ?_
  refine gf_X3_shape C (by rfl) dX3_become_5 kf_RX3_10 ?_
  refine g_callV C (ob_X4 (by rfl)) (c_X4_become (d := d) hu.1 rfl rfl rfl (by omega)) dX3_become_8 km_RX3_31 kn_RX4 kc_yX4_become ki_yX4_become kx_yX4_become (by omega) (by decide) ⟨by decide, by decide, rfl⟩ rfl (Nat.le_of_ble_eq_true rfl) (fun r1 σ1 q1 => ?_)
  obtain ⟨rfl, a1, a2⟩ := q1
  have F1 : Fr [3, 4, 5, 12, 13, 14, 15, 16, 17, 18, 19, 20] σ σ1 := Fr.mono a2 (by simp)
  refine g_aload_n C dX3_become_11 rfl ?_
  refine gf_X3_seen C (by rfl) dX3_become_12 kf_RX3_21 ?_
  refine g_aload_n C dX3_become_15 rfl ?_
  refine gf_X3_seen C (by rfl) dX3_become_16 kf_RX3_21 ?_
  refine g_callV C (ob_X2 (by rfl)) (c_X2_become (d := d) (hu.2.1.go F1 (by decide) (by decide) (by decide)) rfl rfl rfl (by omega)) dX3_become_19 km_RX3_35 kn_RX2 kc_yX2_become ki_yX2_become kx_yX2_become (by omega) (by decide) ⟨by decide, by decide, rfl⟩ rfl (Nat.le_of_ble_eq_true rfl) (fun r2 σ2 q2 => ?_)
  obtain ⟨rfl, b1, b2⟩ := q2
  have F2 : Fr [3, 4, 5, 12, 13, 14, 15, 16, 17, 18, 19, 20] σ σ2 := F1.tr (Fr.mono b2 (by simp))
  refine g_aload_n C dX3_become_22 rfl ?_
  refine gf_X3_events C (by rfl) dX3_become_23 kf_RX3_25 ?_
  refine g_aload_n C dX3_become_26 rfl ?_
  refine gf_X3_events C (by rfl) dX3_become_27 kf_RX3_25 ?_
  refine g_callV C (ob_X2 (by rfl)) (c_X2_become (d := d) (hu.2.2.1.go F2 (by decide) (by decide) (by decide)) rfl rfl rfl (by omega)) dX3_become_30 km_RX3_35 kn_RX2 kc_yX2_become ki_yX2_become kx_yX2_become (by omega) (by decide) ⟨by decide, by decide, rfl⟩ rfl (Nat.le_of_ble_eq_true rfl) (fun r3 σ3 q3 => ?_)
  obtain ⟨rfl, c1, c2⟩ := q3
  have F3 : Fr [3, 4, 5, 12, 13, 14, 15, 16, 17, 18, 19, 20] σ σ3 := F2.tr (Fr.mono c2 (by simp))
  refine g_aload_n C dX3_become_33 rfl ?_
  refine gf_X3_book C (by rfl) dX3_become_34 kf_RX3_28 ?_
  refine g_aload_n C dX3_become_37 rfl ?_
  refine gf_X3_book C (by rfl) dX3_become_38 kf_RX3_28 ?_
  refine g_callV C (ob_X2 (by rfl)) (c_X2_become (d := d) (hu.2.2.2.go F3 (by decide) (by decide) (by decide)) rfl rfl rfl (by omega)) dX3_become_41 km_RX3_35 kn_RX2 kc_yX2_become ki_yX2_become kx_yX2_become (by omega) (by decide) ⟨by decide, by decide, rfl⟩ rfl (Nat.le_of_ble_eq_true rfl) (fun r4 σ4 q4 => ?_)
  obtain ⟨rfl, d1, d2⟩ := q4
  have F4 : Fr [3, 4, 5, 12, 13, 14, 15, 16, 17, 18, 19, 20] σ σ4 := F3.tr (Fr.mono d2 (by simp))
  refine g_vret C dX3_become_44 ?_
  exact ⟨rfl, ⟨((a1.go b2 (by decide) (by decide) (by decide)).go c2 (by decide) (by decide) (by decide)).go d2 (by decide) (by decide) (by decide), (RwIs.go (b1.go c2 (by decide) (by decide) (by decide)) d2 (by decide) (by decide) (by decide)), c1.go d2 (by decide) (by decide) (by decide), d1⟩, F4⟩
set_option maxHeartbeats 4000000 in
set_option maxRecDepth 100000 in
theorem c_X7_image {E : Ev} {d : Nat} {σ : St} {s : Ms} (hs : SyIs σ s) : Con E (d + 3) yX7_image cX7_image 1 ((Option.some FieldType.int)) [.ref (ev_a E 0)] σ (SyTo (.int (nI s.1.1.1)) σ (tImage s)) := by
  refine con_of (by decide) (Nat.le_of_ble_eq_true rfl) (fun X hX C => ?_)
  have C : Cx E X cX7_image RX7 1 ((Option.some FieldType.int)) := C
  obtain ⟨hS, hI, hO, hT, hA⟩ := id hs
  show G E _ X _ _ _ 0 [(0, .ref (ev_a E 0))] []
  refine g_aload_n C dX7_image_0 rfl ?_
  refine gf_X7_imaged C (by rfl) dX7_image_1 kf_RX7_18 ?_
  refine g_aload_n C dX7_image_4 rfl ?_
  refine gf_X7_now C (by rfl) dX7_image_5 kf_RX7_12 ?_
  refine g_callV C (ob_X3 (by rfl)) (c_X3_become2 (d := d) hS) dX7_image_8 km_RX7_282 kn_RX3 kc_yX3_become ki_yX3_become kx_yX3_become (by omega) (by decide) ⟨by decide, by decide, rfl⟩ rfl (Nat.le_of_ble_eq_true rfl) (fun r1 σ1 q1 => ?_)
  obtain ⟨rfl, u1, u2⟩ := q1
  refine g_aload_n C dX7_image_11 rfl ?_
  refine g_ic (n := 1) C dX7_image_12 (by decide) ?_
  refine gp_X7_isImaged C (by rfl) (Or.inr rfl) dX7_image_13 kf_RX7_21 ?_
  generalize hσ2 : sI σ1 0 (upd (σ1.1 0) 2 (nI 1)) = σ2
  have F2 : Fr [0, 6, 7, 8, 21, 22, 23, 24, 25, 26, 27, 28, 29] σ σ2 := by rw [← hσ2]; exact (Fr.mono u2 (by simp)).sI (by simp)
  have t2 : σ2.1 0 2 = bI true := by rw [← hσ2, sI_self, up_i]; rfl
  have t4 : σ2.1 0 4 = σ.1 0 4 := by rw [← hσ2, sI_self, up_n (by decide), (u2 0 (by simp)).1]
  have hs1 : SyIs σ2 (tImage s) := ⟨hS.go F2 (by decide), ⟨t2, by rw [← hσ2]; exact u1.go (l := [0]) (Fr.rf.sI (by simp)) (by decide)⟩, hO.go t4 F2 (by decide), hT.go F2 (by simp) (by simp), hA.go F2 (by decide)⟩
  refine g_aload_n C dX7_image_16 rfl ?_
  refine gf_X7_now C (by rfl) dX7_image_17 kf_RX7_12 ?_
  refine gn_X3_shape C (by rfl) dX7_image_20 nw_X7_67 ?_
  refine gn_X4_size C (by rfl) dX7_image_23 nw_X7_74 ?_
  refine g_iret C dX7_image_26 ?_
  rw [show σ2.1 (3 * 1) 2 = nI s.1.1.1 from hs1.1.1.2.2.1]
  exact ⟨rfl, hs1, F2.s (by decide)⟩
set_option maxHeartbeats 4000000 in
set_option maxRecDepth 100000 in
theorem c_X7_undo {E : Ev} {d : Nat} {σ : St} {s : Ms} (hs : SyIs σ s) : Con E (d + 3) yX7_undo cX7_undo 1 ((Option.some FieldType.int)) [.ref (ev_a E 0)] σ (SyTo (.int (aUndo s)) σ (tUndo s)) := by
  refine con_of (by decide) (Nat.le_of_ble_eq_true rfl) (fun X hX C => ?_)
  have C : Cx E X cX7_undo RX7 1 ((Option.some FieldType.int)) := C
  obtain ⟨hS, hI, hO, hT, hA⟩ := id hs
  show G E _ X _ _ _ 0 [(0, .ref (ev_a E 0))] []
  rcases hi : s.2.1 with _ | u
  · rw [hi] at hI
    refine g_aload_n C dX7_undo_0 rfl ?_
    refine gf_X7_isImaged C (by rfl) dX7_undo_1 kf_RX7_21 ?_
    rw [show σ.1 0 2 = bI false from hI]
    refine g_ifneB C 10 dX7_undo_4 (by decide) (fun h4 => ?_) (fun h4 => ?_)
    · exact absurd h4 (by decide)
    · refine g_bp C (-3) dX7_undo_7 (by decide) ?_
      refine g_iret C dX7_undo_9 ?_
      exact ⟨congrArg (fun v => some (Value.int v)) (by unfold aUndo; rw [hi]), by rw [show tUndo s = s from by unfold tUndo; rw [hi]]; exact hs, Fs.rf⟩
  · rw [hi] at hI
    refine g_aload_n C dX7_undo_0 rfl ?_
    refine gf_X7_isImaged C (by rfl) dX7_undo_1 kf_RX7_21 ?_
    rw [show σ.1 0 2 = bI true from hI.1]
    refine g_ifneB C 10 dX7_undo_4 (by decide) (fun h4 => ?_) (fun h4 => ?_)
    · refine g_aload_n C dX7_undo_10 rfl ?_
      refine gf_X7_now C (by rfl) dX7_undo_11 kf_RX7_12 ?_
      refine g_aload_n C dX7_undo_14 rfl ?_
      refine gf_X7_imaged C (by rfl) dX7_undo_15 kf_RX7_18 ?_
      refine g_callV C (ob_X3 (by rfl)) (c_X3_become1 (d := d) hI.2) dX7_undo_18 km_RX7_282 kn_RX3 kc_yX3_become ki_yX3_become kx_yX3_become (by omega) (by decide) ⟨by decide, by decide, rfl⟩ rfl (Nat.le_of_ble_eq_true rfl) (fun r1 σ1 q1 => ?_)
      obtain ⟨rfl, u1, u2⟩ := q1
      refine g_aload_n C dX7_undo_21 rfl ?_
      refine g_ic (n := 1) C dX7_undo_22 (by decide) ?_
      refine gp_X7_isGroupOld C (by rfl) (Or.inr rfl) dX7_undo_23 kf_RX7_32 ?_
      generalize hσ2 : sI σ1 0 (upd (σ1.1 0) 4 (nI 1)) = σ2
      have F2 : Fr [0, 3, 4, 5, 12, 13, 14, 15, 16, 17, 18, 19, 20] σ σ2 := by rw [← hσ2]; exact (Fr.mono u2 (by simp)).sI (by simp)
      have t4 : σ2.1 0 4 = bI true := by rw [← hσ2, sI_self, up_i]; rfl
      have t2 : σ2.1 0 2 = σ.1 0 2 := by rw [← hσ2, sI_self, up_n (by decide), (u2 0 (by simp)).1]
      have hS2 : SuIs σ2 3 12 15 18 u := by rw [← hσ2]; exact u1.go (l := [0]) (Fr.rf.sI (by simp)) (by decide)
      have hI2 : ImIs σ2 (some u) := ⟨t2.trans hI.1, hI.2.go F2 (by decide)⟩
      have hs1 : SyIs σ2 (u, s.2) := ⟨hS2, by show ImIs σ2 s.2.1; rw [hi]; exact hI2, Or.inl t4, hT.go F2 (by simp) (by simp), hA.go F2 (by decide)⟩
      refine g_aload_n C dX7_undo_26 rfl ?_
      refine gf_X7_now C (by rfl) dX7_undo_27 kf_RX7_12 ?_
      refine gn_X3_shape C (by rfl) dX7_undo_30 nw_X7_67 ?_
      refine gn_X4_size C (by rfl) dX7_undo_33 nw_X7_74 ?_
      refine g_iret C dX7_undo_36 ?_
      rw [show σ2.1 (3 * 1) 2 = nI u.1.1 from hS2.1.2.2.1]
      exact ⟨congrArg (fun v => some (Value.int v)) (by unfold aUndo; rw [hi]), by rw [show tUndo s = (u, s.2) from by unfold tUndo; rw [hi]]; exact hs1, F2.s (by decide)⟩
    · exact absurd h4 (by decide)
set_option maxHeartbeats 4000000 in
set_option maxRecDepth 100000 in
theorem c_X7_count {E : Ev} {d : Nat} {σ : St} {s : Ms} (hs : SyIs σ s) {w : Int32} : Con E (d + 1) yX7_count cX7_count 2 ((Option.some FieldType.int)) [.ref (ev_a E 0), .int w] σ (SyTo (.int (aCount s w)) σ (s)) := by
  refine con_of (by decide) (Nat.le_of_ble_eq_true rfl) (fun X hX C => ?_)
  have C : Cx E X cX7_count RX7 2 ((Option.some FieldType.int)) := C
  obtain ⟨hS, hI, hO, hT, hA⟩ := id hs
  show G E _ X _ _ _ 0 [(0, .ref (ev_a E 0)), (1, .int w)] []
  rcases sw_in (n := 3) (by decide) w with h4 | ⟨w2, hw, rfl⟩
  · refine g_iload_n C dX7_count_0 rfl ?_
    refine g_tsOut C 73 dX7_count_1 h4 (by decide) ?_
    refine g_bp C (-2) dX7_count_73 (by decide) ?_
    refine g_iret C dX7_count_75 ?_
    exact ⟨congrArg (fun v => some (Value.int v)) (by unfold aCount; rw [if_pos (by simp only [inB, decide_eq_false_iff_not]; omega)]), hs, Fs.rf⟩
  rcases (show w2 = 0 ∨ w2 = 1 ∨ w2 = 2 ∨ w2 = 3 from by omega) with rfl | rfl | rfl | rfl
  · refine g_iload_n C dX7_count_0 rfl ?_
    refine g_tsIn C 32 dX7_count_1 (by decide) (by decide) rfl (by decide) ?_
    refine g_aload_n C dX7_count_32 rfl ?_
    refine gf_X7_now C (by rfl) dX7_count_33 kf_RX7_12 ?_
    refine gn_X3_seen C (by rfl) dX7_count_36 nw_X7_209 ?_
    refine gn_X2_size C (by rfl) dX7_count_39 nw_X7_231 ?_
    refine g_iret C dX7_count_42 ?_
    exact ⟨congrArg (fun v => some (Value.int v)) (by unfold aCount; rw [if_neg (by decide), if_pos rfl]; exact hS.2.1.2.2.2.2.2.1), hs, Fs.rf⟩
  · refine g_iload_n C dX7_count_0 rfl ?_
    refine g_tsIn C 43 dX7_count_1 (by decide) (by decide) rfl (by decide) ?_
    refine g_aload_n C dX7_count_43 rfl ?_
    refine gf_X7_now C (by rfl) dX7_count_44 kf_RX7_12 ?_
    refine gn_X3_events C (by rfl) dX7_count_47 nw_X7_252 ?_
    refine gn_X2_size C (by rfl) dX7_count_50 nw_X7_231 ?_
    refine g_iret C dX7_count_53 ?_
    exact ⟨congrArg (fun v => some (Value.int v)) (by unfold aCount; rw [if_neg (by decide), if_neg (by decide), if_pos rfl]; exact hS.2.2.1.2.2.2.2.2.1), hs, Fs.rf⟩
  · refine g_iload_n C dX7_count_0 rfl ?_
    refine g_tsIn C 54 dX7_count_1 (by decide) (by decide) rfl (by decide) ?_
    refine g_aload_n C dX7_count_54 rfl ?_
    refine gf_X7_now C (by rfl) dX7_count_55 kf_RX7_12 ?_
    refine gn_X3_book C (by rfl) dX7_count_58 nw_X7_266 ?_
    refine gn_X2_size C (by rfl) dX7_count_61 nw_X7_231 ?_
    refine g_iret C dX7_count_64 ?_
    exact ⟨congrArg (fun v => some (Value.int v)) (by unfold aCount; rw [if_neg (by decide), if_neg (by decide), if_neg (by decide), if_pos rfl]; exact hS.2.2.2.2.2.2.2.2.1), hs, Fs.rf⟩
  · refine g_iload_n C dX7_count_0 rfl ?_
    refine g_tsIn C 65 dX7_count_1 (by decide) (by decide) rfl (by decide) ?_
    refine g_aload_n C dX7_count_65 rfl ?_
    refine gf_X7_text C (by rfl) dX7_count_66 kf_RX7_48 ?_
    refine gn_X6_size C (by rfl) dX7_count_69 nw_X7_103 ?_
    refine g_iret C dX7_count_72 ?_
    exact ⟨congrArg (fun v => some (Value.int v)) (by unfold aCount; rw [if_neg (by decide), if_neg (by decide), if_neg (by decide), if_neg (by decide)]; exact hT.1), hs, Fs.rf⟩
set_option maxHeartbeats 4000000 in
set_option maxRecDepth 100000 in
theorem c_X7_tape {E : Ev} {d : Nat} {σ : St} {s : Ms} (hs : SyIs σ s) {k so n : Int32} : Con E (d + 1) yX7_tape cX7_tape 4 ((Option.some FieldType.int)) [.ref (ev_a E 0), .int k, .int so, .int n] σ (SyTo (.int (aTape k so n)) σ (tTape s k so n)) := by
  refine con_of (by decide) (Nat.le_of_ble_eq_true rfl) (fun X hX C => ?_)
  have C : Cx E X cX7_tape RX7 4 ((Option.some FieldType.int)) := C
  obtain ⟨hS, hI, hO, hT, hA⟩ := id hs
  show G E _ X _ _ _ 0 [(0, .ref (ev_a E 0)), (1, .int k), (2, .int so), (3, .int n)] []
  refine g_iload_n C dX7_tape_0 rfl ?_
  refine g_callSp C (c_X7_isTape (d := d) ) dX7_tape_1 km_RX7_269 kn_RX7 kc_yX7_isTape ks_yX7_isTape (by omega) (by decide) ⟨by decide, by decide, rfl⟩ rfl (Nat.le_of_ble_eq_true rfl) ?_
  refine g_ifneB C 9 dX7_tape_4 (by decide) (fun h4 => ?_) (fun h4 => ?_)
  · obtain ⟨k2, hk2, rfl⟩ := in_n (k := 5) h4
    have ek : ix (nI k2) = k2 := ix_nI (by omega)
    obtain ⟨t1, t2, t3, t4, t5, t6⟩ := hA k2 (by omega)
    refine g_iload_n C dX7_tape_9 rfl ?_
    refine g_icz (v := -1) C dX7_tape_10 (by decide) ?_
    refine g_icne C 27 dX7_tape_11 (by decide) (fun h11 => ?_) (fun h11 => ?_)
    · refine g_iload_n C dX7_tape_27 rfl ?_
      refine g_iflt C 42 dX7_tape_28 (by decide) (fun h28 => ?_) (fun h28 => ?_)
      · have e28 : inB so 0 4 = false := in_lo h28
        refine g_bp C (-2) dX7_tape_42 (by decide) ?_
        refine g_iret C dX7_tape_44 ?_
        first | (exact ⟨congrArg (fun v => some (Value.int v)) (by unfold aTape; rw [if_neg (by rw [h4]; decide), if_neg h11, if_pos e28]), by rw [show tTape s (nI k2) so n = s from by unfold tTape; rw [if_neg (by rw [h4]; decide), if_neg h11, if_pos e28]]; exact hs, Fs.rf⟩) | (exact ⟨congrArg (fun v => some (Value.int v)) (by unfold aTape; rw [if_neg (by rw [h4]; decide), if_neg h11, if_pos e33]), by rw [show tTape s (nI k2) so n = s from by unfold tTape; rw [if_neg (by rw [h4]; decide), if_neg h11, if_pos e33]]; exact hs, Fs.rf⟩) | (exact ⟨congrArg (fun v => some (Value.int v)) (by unfold aTape; rw [if_neg (by rw [h4]; decide), if_neg h11, if_neg (by rw [e33]; decide), if_pos h39]), by rw [show tTape s (nI k2) so n = s from by unfold tTape; rw [if_neg (by rw [h4]; decide), if_neg h11, if_neg (by rw [e33]; decide), if_pos h39]]; exact hs, Fs.rf⟩)
      · refine g_iload_n C dX7_tape_31 rfl ?_
        refine g_ic (n := 4) C dX7_tape_32 (by decide) ?_
        refine g_icgt C 42 dX7_tape_33 (by decide) (fun h33 => ?_) (fun h33 => ?_)
        · have e33 : inB so 0 4 = false := in_gt_t (k := 4) (by decide) h33
          refine g_bp C (-2) dX7_tape_42 (by decide) ?_
          refine g_iret C dX7_tape_44 ?_
          first | (exact ⟨congrArg (fun v => some (Value.int v)) (by unfold aTape; rw [if_neg (by rw [h4]; decide), if_neg h11, if_pos e28]), by rw [show tTape s (nI k2) so n = s from by unfold tTape; rw [if_neg (by rw [h4]; decide), if_neg h11, if_pos e28]]; exact hs, Fs.rf⟩) | (exact ⟨congrArg (fun v => some (Value.int v)) (by unfold aTape; rw [if_neg (by rw [h4]; decide), if_neg h11, if_pos e33]), by rw [show tTape s (nI k2) so n = s from by unfold tTape; rw [if_neg (by rw [h4]; decide), if_neg h11, if_pos e33]]; exact hs, Fs.rf⟩) | (exact ⟨congrArg (fun v => some (Value.int v)) (by unfold aTape; rw [if_neg (by rw [h4]; decide), if_neg h11, if_neg (by rw [e33]; decide), if_pos h39]), by rw [show tTape s (nI k2) so n = s from by unfold tTape; rw [if_neg (by rw [h4]; decide), if_neg h11, if_neg (by rw [e33]; decide), if_pos h39]]; exact hs, Fs.rf⟩)
        · have e33 : inB so 0 4 = true := in_gt_f (k := 4) (by decide) h28 h33
          refine g_iload_n C dX7_tape_36 rfl ?_
          refine g_bp C (nI 60) dX7_tape_37 (by decide) ?_
          refine g_icle C 45 dX7_tape_39 (by decide) (fun h39 => ?_) (fun h39 => ?_)
          · refine g_iload_n C dX7_tape_45 rfl ?_
            refine g_ifge C 52 dX7_tape_46 (by decide) (fun h46 => ?_) (fun h46 => ?_)
            · have h46n : ¬ n < 0 := fun q => by rw [leI, Int32.toInt_zero] at h46; rw [ltI, Int32.toInt_zero] at q; omega
              obtain ⟨n2, hn2, rfl⟩ := in_n (k := 60) (in_le_t (k := 60) (by decide) h46n h39)
              refine g_aload_n C dX7_tape_52 rfl ?_
              refine gf_X7_tapes C (by rfl) dX7_tape_53 kf_RX7_54 ?_
              refine g_iload_n C dX7_tape_56 rfl ?_
              refine g_aaldN C (by omega) dX7_tape_57 ?_
              refine g_iload_n C dX7_tape_58 rfl ?_
              refine g_iload_n C dX7_tape_59 rfl ?_
              refine g_callV C (ob_X5 t1) (c_X5_become (d := d) t1 t2 (by omega)) dX7_tape_60 km_RX7_285 kn_RX5 kc_yX5_become ki_yX5_become kx_yX5_become (by omega) (by decide) ⟨by decide, by decide, rfl⟩ rfl (Nat.le_of_ble_eq_true rfl) (fun r1 σ1 q1 => ?_)
              obtain ⟨rfl, u1, u2⟩ := q1
              refine g_ic (n := 1) C dX7_tape_63 (by decide) ?_
              refine g_iret C dX7_tape_64 ?_
              exact ⟨congrArg (fun v => some (Value.int v)) (by unfold aTape; rw [if_neg (by rw [h4]; decide), if_neg h11, if_neg (by rw [e33]; decide), if_neg (fun q => q h39), if_neg h46n]), by rw [show tTape s (nI k2) so (nI n2) = sTp s k2 (so, n2, fun _ => 0) from by unfold tTape; rw [if_neg (by rw [h4]; decide), if_neg h11, if_neg (by rw [e33]; decide), if_neg (fun q => q h39), if_neg h46n, ek, ix_nI (show n2 < 2 ^ 31 by omega)]]; exact Sy.tp hs (by omega) u1 u2⟩
            · have h46n : n < 0 := by rw [leI, Int32.toInt_zero] at h46; rw [ltI, Int32.toInt_zero]; omega
              refine g_bp C (-14) dX7_tape_49 (by decide) ?_
              refine g_iret C dX7_tape_51 ?_
              exact ⟨congrArg (fun v => some (Value.int v)) (by unfold aTape; rw [if_neg (by rw [h4]; decide), if_neg h11, if_neg (by rw [e33]; decide), if_neg (fun q => q h39), if_pos h46n]), by rw [show tTape s (nI k2) so n = s from by unfold tTape; rw [if_neg (by rw [h4]; decide), if_neg h11, if_neg (by rw [e33]; decide), if_neg (fun q => q h39), if_pos h46n]]; exact hs, Fs.rf⟩
          · refine g_bp C (-2) dX7_tape_42 (by decide) ?_
            refine g_iret C dX7_tape_44 ?_
            first | (exact ⟨congrArg (fun v => some (Value.int v)) (by unfold aTape; rw [if_neg (by rw [h4]; decide), if_neg h11, if_pos e28]), by rw [show tTape s (nI k2) so n = s from by unfold tTape; rw [if_neg (by rw [h4]; decide), if_neg h11, if_pos e28]]; exact hs, Fs.rf⟩) | (exact ⟨congrArg (fun v => some (Value.int v)) (by unfold aTape; rw [if_neg (by rw [h4]; decide), if_neg h11, if_pos e33]), by rw [show tTape s (nI k2) so n = s from by unfold tTape; rw [if_neg (by rw [h4]; decide), if_neg h11, if_pos e33]]; exact hs, Fs.rf⟩) | (exact ⟨congrArg (fun v => some (Value.int v)) (by unfold aTape; rw [if_neg (by rw [h4]; decide), if_neg h11, if_neg (by rw [e33]; decide), if_pos h39]), by rw [show tTape s (nI k2) so n = s from by unfold tTape; rw [if_neg (by rw [h4]; decide), if_neg h11, if_neg (by rw [e33]; decide), if_pos h39]]; exact hs, Fs.rf⟩)
    · refine g_aload_n C dX7_tape_14 rfl ?_
      refine gf_X7_tapes C (by rfl) dX7_tape_15 kf_RX7_54 ?_
      refine g_iload_n C dX7_tape_18 rfl ?_
      refine g_aaldN C (by omega) dX7_tape_19 ?_
      refine g_icz (v := -1) C dX7_tape_20 (by decide) ?_
      refine g_ic (n := 0) C dX7_tape_21 (by decide) ?_
      refine g_callV C (ob_X5 t1) (c_X5_become (d := d) t1 t2 (by omega)) dX7_tape_22 km_RX7_285 kn_RX5 kc_yX5_become ki_yX5_become kx_yX5_become (by omega) (by decide) ⟨by decide, by decide, rfl⟩ rfl (Nat.le_of_ble_eq_true rfl) (fun r1 σ1 q1 => ?_)
      obtain ⟨rfl, u1, u2⟩ := q1
      refine g_ic (n := 1) C dX7_tape_25 (by decide) ?_
      refine g_iret C dX7_tape_26 ?_
      exact ⟨congrArg (fun v => some (Value.int v)) (by unfold aTape; rw [if_neg (by rw [h4]; decide), if_pos h11]), by rw [show tTape s (nI k2) so n = sTp s k2 (-1, 0, fun _ => 0) from by unfold tTape; rw [if_neg (by rw [h4]; decide), if_pos h11, ek]]; subst h11; exact Sy.tp hs (by omega) u1 u2⟩
  · refine g_icz (v := -1) C dX7_tape_7 (by decide) ?_
    refine g_iret C dX7_tape_8 ?_
    exact ⟨congrArg (fun v => some (Value.int v)) (by unfold aTape; rw [if_pos h4]), by rw [show tTape s k so n = s from by unfold tTape; rw [if_pos h4]]; exact hs, Fs.rf⟩
set_option maxHeartbeats 4000000 in
set_option maxRecDepth 100000 in
theorem c_X7_item {E : Ev} {d : Nat} {σ : St} {s : Ms} (hs : SyIs σ s) {k i : Int32} {v : Int64} : Con E (d + 1) yX7_item cX7_item 6 ((Option.some FieldType.int)) [.ref (ev_a E 0), .int k, .int i, .long v] σ (SyTo (.int (aItem s k i)) σ (tItem s k i v)) := by
  refine con_of (by decide) (Nat.le_of_ble_eq_true rfl) (fun X hX C => ?_)
  have C : Cx E X cX7_item RX7 6 ((Option.some FieldType.int)) := C
  obtain ⟨hS, hI, hO, hT, hA⟩ := id hs
  show G E _ X _ _ _ 0 [(0, .ref (ev_a E 0)), (1, .int k), (2, .int i), (3, .long v)] []
  refine g_iload_n C dX7_item_0 rfl ?_
  refine g_callSp C (c_X7_isTape (d := d) ) dX7_item_1 km_RX7_269 kn_RX7 kc_yX7_isTape ks_yX7_isTape (by omega) (by decide) ⟨by decide, by decide, rfl⟩ rfl (Nat.le_of_ble_eq_true rfl) ?_
  refine g_ifneB C 9 dX7_item_4 (by decide) (fun h4 => ?_) (fun h4 => ?_)
  · obtain ⟨k2, hk2, rfl⟩ := in_n (k := 5) h4
    have ek : ix (nI k2) = k2 := ix_nI (by omega)
    obtain ⟨t1, t2, t3, t4, t5, t6⟩ := hA k2 (by omega)
    refine g_aload_n C dX7_item_9 rfl ?_
    refine gf_X7_tapes C (by rfl) dX7_item_10 kf_RX7_54 ?_
    refine g_iload_n C dX7_item_13 rfl ?_
    refine g_aaldN C (by omega) dX7_item_14 ?_
    refine g_astore C dX7_item_15 (by decide) ?_
    refine g_aload C dX7_item_17 rfl ?_
    refine gn_X5_sort C t1 dX7_item_19 nw_X7_272 ?_
    rw [t4]
    refine g_icz (v := -1) C dX7_item_22 (by decide) ?_
    refine g_icne C 29 dX7_item_23 (by decide) (fun h23 => ?_) (fun h23 => ?_)
    · refine g_aload C dX7_item_29 rfl ?_
      refine g_iload_n C dX7_item_31 rfl ?_
      refine g_callVp C (ob_X5 t1) (c_X5_hasPlace (d := d) (hA k2 (by omega))) dX7_item_32 km_RX7_275 kn_RX5 kc_yX5_hasPlace ki_yX5_hasPlace kx_yX5_hasPlace (by omega) (by decide) ⟨by decide, by decide, rfl⟩ rfl (Nat.le_of_ble_eq_true rfl) ?_
      refine g_ifneB C 41 dX7_item_35 (by decide) (fun h35 => ?_) (fun h35 => ?_)
      · obtain ⟨j, hj, rfl⟩ := hpB_t (by omega) h35
        refine g_aload C dX7_item_41 rfl ?_
        refine gn_X5_items C t1 dX7_item_43 nw_X7_278 ?_
        refine g_iload_n C dX7_item_46 rfl ?_
        refine g_aload C dX7_item_47 rfl ?_
        refine g_lload_n C dX7_item_49 rfl ?_
        refine g_callVp C (ob_X5 t1) (c_X5_asItem (d := d) (hA k2 (by omega))) dX7_item_50 km_RX7_287 kn_RX5 kc_yX5_asItem ki_yX5_asItem kx_yX5_asItem (by omega) (by decide) ⟨by decide, by decide, rfl⟩ rfl (Nat.le_of_ble_eq_true rfl) ?_
        refine g_lastN C t2 (by omega) (by first | decide | omega) dX7_item_53 ?_
        refine g_ic (n := 1) C dX7_item_54 (by decide) ?_
        refine g_iret C dX7_item_55 ?_
        have F1 : Fr [52 + 2 * k2, 52 + 2 * k2 + 1] σ (sL σ (52 + 2 * k2 + 1) (vp_updL (σ.2 (52 + 2 * k2 + 1)) j (asI (s.2.2.2 k2).1 v))) := fun c hc => ⟨rfl, sL_ne (fun e => hc (by simp [e]))⟩
        have T1 : TpIs (sL σ (52 + 2 * k2 + 1) (vp_updL (σ.2 (52 + 2 * k2 + 1)) j (asI (s.2.2.2 k2).1 v))) (52 + 2 * k2) (s.2.2.2 k2).1 (s.2.2.2 k2).2.1 (fun q => if q = j then asI (s.2.2.2 k2).1 v else (s.2.2.2 k2).2.2 q) := ⟨t1, t2, t3, t4, t5, fun q hq => by rw [sL_self]; by_cases e : q = j; · { subst e; rw [upL_i]; exact (if_pos rfl).symm }; · { rw [upL_n e, t6 q hq]; exact (if_neg e).symm }⟩
        exact ⟨congrArg (fun v => some (Value.int v)) (by unfold aItem; rw [if_neg (by rw [h4]; decide), ek, if_neg h23, if_neg (by rw [h35]; decide)]), by rw [show tItem s (nI k2) (nI j) v = sTp s k2 ((s.2.2.2 k2).1, (s.2.2.2 k2).2.1, fun q => if q = j then asI (s.2.2.2 k2).1 v else (s.2.2.2 k2).2.2 q) from by unfold tItem; rw [if_neg (by rw [h4]; decide), ek, if_neg h23, if_neg (by rw [h35]; decide), ix_nI (show j < 2 ^ 31 by omega)]]; exact Sy.tp hs (by omega) T1 F1⟩
      · refine g_bp C (-13) dX7_item_38 (by decide) ?_
        refine g_iret C dX7_item_40 ?_
        exact ⟨congrArg (fun v => some (Value.int v)) (by unfold aItem; rw [if_neg (by rw [h4]; decide), ek, if_neg h23, if_pos h35]), by rw [show tItem s (nI k2) i v = s from by unfold tItem; rw [if_neg (by rw [h4]; decide), ek, if_neg h23, if_pos h35]]; exact hs, Fs.rf⟩
    · refine g_bp C (-11) dX7_item_26 (by decide) ?_
      refine g_iret C dX7_item_28 ?_
      exact ⟨congrArg (fun v => some (Value.int v)) (by unfold aItem; rw [if_neg (by rw [h4]; decide), ek, if_pos h23]), by rw [show tItem s (nI k2) i v = s from by unfold tItem; rw [if_neg (by rw [h4]; decide), ek, if_pos h23]]; exact hs, Fs.rf⟩
  · refine g_icz (v := -1) C dX7_item_7 (by decide) ?_
    refine g_iret C dX7_item_8 ?_
    exact ⟨congrArg (fun v => some (Value.int v)) (by unfold aItem; rw [if_pos h4]), by rw [show tItem s k i v = s from by unfold tItem; rw [if_pos h4]]; exact hs, Fs.rf⟩
set_option maxHeartbeats 4000000 in
set_option maxRecDepth 100000 in
theorem l_X7_judge {E : Ev} {d : Nat} {X : Mx} (C : Cx E X cX7_judge RX7 6 ((Option.some FieldType.int))) {σ : St} {L : List Nat} {n t : Nat} {so x : Int32} {V : Nat → Int64} (hT : TpIs σ (52 + 2 * t) so n V) (vB : GrB σ 30 L) (hL : L.length ≤ 48) : ∀ (k : Nat) (r : Nat), L.length = r + k → G E (d + 6) X 6 (Det (some (.int (jgL n V L x k r))) σ) σ 43 ([(0, .ref (ev_a E 0)), (2, .int x), (3, .ref (ev_a E (52 + 2 * t))), (4, .ref (ev_a E 30)), (5, .int (nI r))]) [] := by
  intro k
  induction k with
  | zero =>
    intro r hr
    refine g_iload C dX7_judge_43 rfl ?_
    refine g_aload C dX7_judge_45 rfl ?_
    refine gn_X0_size C (by rfl) dX7_judge_47 nw_X7_159 ?_
    rw [vB.2.2.1]
    first | refine g_icgeN C 109 dX7_judge_50 (by decide) (by omega) (by omega) (fun h50 => ?_) (fun h50 => ?_) | refine g_icge C 109 dX7_judge_50 (by decide) (fun h50 => ?_) (fun h50 => ?_)
    · refine g_bp C (-5) dX7_judge_109 (by decide) ?_
      refine g_iret C dX7_judge_111 ?_
      exact ⟨congrArg (fun v => some (Value.int v)) (rfl), rfl⟩
    · omega
  | succ k ih =>
    intro r hr
    refine g_iload C dX7_judge_43 rfl ?_
    refine g_aload C dX7_judge_45 rfl ?_
    refine gn_X0_size C (by rfl) dX7_judge_47 nw_X7_159 ?_
    rw [vB.2.2.1]
    first | refine g_icgeN C 109 dX7_judge_50 (by decide) (by omega) (by omega) (fun h50 => ?_) (fun h50 => ?_) | refine g_icge C 109 dX7_judge_50 (by decide) (fun h50 => ?_) (fun h50 => ?_)
    · omega
    · refine g_aload_n C dX7_judge_53 rfl ?_
      refine g_iload_n C dX7_judge_54 rfl ?_
      refine g_callVp C (ob_X5 hT.1) (c_X5_hasPlace (d := d) hT) dX7_judge_55 km_RX7_275 kn_RX5 kc_yX5_hasPlace ki_yX5_hasPlace kx_yX5_hasPlace (by omega) (by decide) ⟨by decide, by decide, rfl⟩ rfl (Nat.le_of_ble_eq_true rfl) ?_
      refine g_ifeqB C 72 dX7_judge_58 (by decide) (fun h58 => ?_) (fun h58 => ?_)
      · refine g_bp C (nI 100) dX7_judge_72 (by decide) ?_
        refine g_iload C dX7_judge_74 rfl ?_
        refine g_iaddN C dX7_judge_76 ?_
        refine g_iret C dX7_judge_77 ?_
        exact ⟨congrArg (fun v => some (Value.int v)) (by symm; unfold jgL; rw [if_pos (by first | (simp [h58]; done) | (simp [h58, h69]; done))]), rfl⟩
      · refine g_aload_n C dX7_judge_61 rfl ?_
        refine g_iload_n C dX7_judge_62 rfl ?_
        refine g_iload C dX7_judge_63 rfl ?_
        refine g_iadd C dX7_judge_65 ?_
        refine g_callVp C (ob_X5 hT.1) (c_X5_hasPlace (d := d) hT) dX7_judge_66 km_RX7_275 kn_RX5 kc_yX5_hasPlace ki_yX5_hasPlace kx_yX5_hasPlace (by omega) (by decide) ⟨by decide, by decide, rfl⟩ rfl (Nat.le_of_ble_eq_true rfl) ?_
        refine g_ifneB C 78 dX7_judge_69 (by decide) (fun h69 => ?_) (fun h69 => ?_)
        · refine g_aload_n C dX7_judge_78 rfl ?_
          refine gn_X5_items C hT.1 dX7_judge_79 nw_X7_278 ?_
          refine g_iload_n C dX7_judge_82 rfl ?_
          refine g_iload C dX7_judge_83 rfl ?_
          refine g_iadd C dX7_judge_85 ?_
          obtain ⟨j2, hj2, e2⟩ := hpB_t (by have := hT.2.2.1; omega) h69
          rw [e2]
          refine g_laldN C hT.2.1 (by have := hT.2.2.1; omega) (by first | decide | omega) dX7_judge_86 ?_
          rw [hT.2.2.2.2.2 j2 hj2]
          refine g_aload C dX7_judge_87 rfl ?_
          refine gn_X0_byNumber C (by rfl) dX7_judge_89 nw_X7_181 ?_
          refine g_iload C dX7_judge_92 rfl ?_
          refine g_ialdN C (n := 48) rfl (by omega) (by decide) dX7_judge_94 ?_
          rw [vB.2.2.2 r (by omega)]
          refine g_i2l C _ dX7_judge_95 rfl ?_
          refine g_lcmp C dX7_judge_96 ?_
          refine g_ifeq C 103 dX7_judge_97 (by decide) (fun h97 => ?_) (fun h97 => ?_)
          · have e97 := (lgc _ _).mp h97
            refine g_iinc1 C dX7_judge_103 rfl (by decide) ?_
            refine g_goto C 43 dX7_judge_106 (by decide) ?_
            refine g_loc ([(0, .ref (ev_a E 0)), (2, .int x), (3, .ref (ev_a E (52 + 2 * t))), (4, .ref (ev_a E 30)), (5, .int (nI (r + 1)))]) (And.intro rfl (And.intro rfl (And.intro rfl (And.intro rfl (And.intro rfl trivial))))) ?_
            rw [show jgL n V L x (k + 1) r = jgL n V L x k (r + 1) from by rw [jgL, if_neg (by simp [h58, h69]), if_pos (by rw [e2, ix_nI (show j2 < 2 ^ 31 by have := hT.2.2.1; omega)]; exact e97)]]
            exact ih (r + 1) (by omega)
          · have e97 := fun q => h97 ((lgc _ _).mpr q)
            refine g_iload C dX7_judge_100 rfl ?_
            refine g_iret C dX7_judge_102 ?_
            exact ⟨congrArg (fun v => some (Value.int v)) (by symm; unfold jgL; rw [if_neg (by simp [h58, h69]), if_neg (by rw [e2, ix_nI (show j2 < 2 ^ 31 by have := hT.2.2.1; omega)]; exact e97)]), rfl⟩
        · refine g_bp C (nI 100) dX7_judge_72 (by decide) ?_
          refine g_iload C dX7_judge_74 rfl ?_
          refine g_iaddN C dX7_judge_76 ?_
          refine g_iret C dX7_judge_77 ?_
          exact ⟨congrArg (fun v => some (Value.int v)) (by symm; unfold jgL; rw [if_pos (by first | (simp [h58]; done) | (simp [h58, h69]; done))]), rfl⟩
set_option maxHeartbeats 4000000 in
set_option maxRecDepth 100000 in
theorem c_X7_judge {E : Ev} {d : Nat} {σ : St} {s : Ms} (hs : SyIs σ s) {k x : Int32} : Con E (d + 7) yX7_judge cX7_judge 6 ((Option.some FieldType.int)) [.ref (ev_a E 0), .int k, .int x] σ (SyTo (.int (aJudge s k x)) σ (s)) := by
  refine con_of (by decide) (Nat.le_of_ble_eq_true rfl) (fun X hX C => ?_)
  have C : Cx E X cX7_judge RX7 6 ((Option.some FieldType.int)) := C
  obtain ⟨hS, hI, hO, hT, hA⟩ := id hs
  show G E _ X _ _ _ 0 [(0, .ref (ev_a E 0)), (1, .int k), (2, .int x)] []
  refine g_iload_n C dX7_judge_0 rfl ?_
  refine g_callSp C (c_X7_isTape (d := d) ) dX7_judge_1 km_RX7_269 kn_RX7 kc_yX7_isTape ks_yX7_isTape (by omega) (by decide) ⟨by decide, by decide, rfl⟩ rfl (Nat.le_of_ble_eq_true rfl) ?_
  refine g_ifneB C 9 dX7_judge_4 (by decide) (fun h4 => ?_) (fun h4 => ?_)
  · obtain ⟨k2, hk2, rfl⟩ := in_n (k := 5) h4
    have ek : ix (nI k2) = k2 := ix_nI (by omega)
    obtain ⟨t1, t2, t3, t4, t5, t6⟩ := hA k2 (by omega)
    refine g_aload_n C dX7_judge_9 rfl ?_
    refine gf_X7_tapes C (by rfl) dX7_judge_10 kf_RX7_54 ?_
    refine g_iload_n C dX7_judge_13 rfl ?_
    refine g_aaldN C (by omega) dX7_judge_14 ?_
    refine g_astore_n C dX7_judge_15 (by decide) ?_
    refine g_aload_n C dX7_judge_16 rfl ?_
    refine gn_X5_sort C t1 dX7_judge_17 nw_X7_272 ?_
    rw [t4]
    refine g_icz (v := -1) C dX7_judge_20 (by decide) ?_
    refine g_iceq C 34 dX7_judge_21 (by decide) (fun h21 => ?_) (fun h21 => ?_)
    · refine g_aload_n C dX7_judge_34 rfl ?_
      refine g_callV C (ob_X7 (by rfl)) (c_X7_groupNow (d := d) hs) dX7_judge_35 km_RX7_93 kn_RX7 kc_yX7_groupNow ki_yX7_groupNow kx_yX7_groupNow (by omega) (by decide) ⟨by decide, by decide, rfl⟩ rfl (Nat.le_of_ble_eq_true rfl) (fun r1 σ1 q1 => ?_)
      obtain ⟨rfl, u1, u2, u3⟩ := q1
      have vB : GrB σ1 30 (gL s) := u2.2.1.1
      have vLe : (gL s).length ≤ 48 := vB.2.1.1
      refine g_astore C dX7_judge_38 (by decide) ?_
      refine g_ic (n := 0) C dX7_judge_40 (by decide) ?_
      refine g_istore C dX7_judge_41 (by decide) ?_
      refine g_loc ([(0, .ref (ev_a E 0)), (2, .int x), (3, .ref (ev_a E (52 + 2 * k2))), (4, .ref (ev_a E 30)), (5, .int (nI 0))]) (And.intro rfl (And.intro rfl (And.intro rfl (And.intro rfl (And.intro rfl trivial))))) ?_
      refine g_post (fun r σ2 q => ?_) (l_X7_judge C (u1.2.2.2.2 k2 (by omega)) vB vLe (gL s).length 0 (by omega))
      obtain ⟨rfl, rfl⟩ := q
      exact ⟨congrArg (fun v => some (Value.int v)) (by symm; unfold aJudge; rw [if_neg (by rw [h4]; decide), ek, if_neg (fun q => by first | exact q.1 h21 | exact q.2 h28)]), u1, u3⟩
    · refine g_aload_n C dX7_judge_24 rfl ?_
      refine gn_X5_sort C t1 dX7_judge_25 nw_X7_272 ?_
      rw [t4]
      refine g_ifeq C 34 dX7_judge_28 (by decide) (fun h28 => ?_) (fun h28 => ?_)
      · refine g_aload_n C dX7_judge_34 rfl ?_
        refine g_callV C (ob_X7 (by rfl)) (c_X7_groupNow (d := d) hs) dX7_judge_35 km_RX7_93 kn_RX7 kc_yX7_groupNow ki_yX7_groupNow kx_yX7_groupNow (by omega) (by decide) ⟨by decide, by decide, rfl⟩ rfl (Nat.le_of_ble_eq_true rfl) (fun r1 σ1 q1 => ?_)
        obtain ⟨rfl, u1, u2, u3⟩ := q1
        have vB : GrB σ1 30 (gL s) := u2.2.1.1
        have vLe : (gL s).length ≤ 48 := vB.2.1.1
        refine g_astore C dX7_judge_38 (by decide) ?_
        refine g_ic (n := 0) C dX7_judge_40 (by decide) ?_
        refine g_istore C dX7_judge_41 (by decide) ?_
        refine g_loc ([(0, .ref (ev_a E 0)), (2, .int x), (3, .ref (ev_a E (52 + 2 * k2))), (4, .ref (ev_a E 30)), (5, .int (nI 0))]) (And.intro rfl (And.intro rfl (And.intro rfl (And.intro rfl (And.intro rfl trivial))))) ?_
        refine g_post (fun r σ2 q => ?_) (l_X7_judge C (u1.2.2.2.2 k2 (by omega)) vB vLe (gL s).length 0 (by omega))
        obtain ⟨rfl, rfl⟩ := q
        exact ⟨congrArg (fun v => some (Value.int v)) (by symm; unfold aJudge; rw [if_neg (by rw [h4]; decide), ek, if_neg (fun q => by first | exact q.1 h21 | exact q.2 h28)]), u1, u3⟩
      · refine g_bp C (-12) dX7_judge_31 (by decide) ?_
        refine g_iret C dX7_judge_33 ?_
        exact ⟨congrArg (fun v => some (Value.int v)) (by unfold aJudge; rw [if_neg (by rw [h4]; decide), ek, if_pos ⟨h21, h28⟩]), hs, Fs.rf⟩
  · refine g_icz (v := -1) C dX7_judge_7 (by decide) ?_
    refine g_iret C dX7_judge_8 ?_
    exact ⟨congrArg (fun v => some (Value.int v)) (by unfold aJudge; rw [if_pos h4]), hs, Fs.rf⟩
