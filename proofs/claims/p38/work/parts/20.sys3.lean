/-! ShapeMoves: moves; the group's members, classes -/
theorem ciL_v {L : List Nat} : ∀ (k i : Nat) (f : Nat → Int32) (j : Nat), (i ≤ j ∧ j < i + k ∨ f (lg L j) = -1) → ciL L k i f (lg L j) = -1 := by
  intro k
  induction k with
  | zero =>
    intro i f j h
    rcases h with h | h
    · omega
    · exact h
  | succ k ih =>
    intro i f j h
    unfold ciL
    apply ih
    by_cases e : lg L j = lg L i
    · right; rw [e, up_i]
    · rw [up_n e]
      rcases h with h | h
      · left
        have : i ≠ j := fun q => e (by rw [q])
        omega
      · right; exact h
theorem fcL_ag {L : List Nat} {m : Nat} : ∀ (k i : Nat) (f f' : Nat → Int32), (∀ j, f (lg L j) = f' (lg L j) ∨ L.length ≤ j) → ∀ j, fcL L m k i f (lg L j) = fcL L m k i f' (lg L j) ∨ L.length ≤ j := by
  intro k
  induction k with
  | zero => intro i f f' h j; exact h j
  | succ k ih =>
    intro i f f' h j
    unfold fcL
    refine ih _ _ _ (fun j => ?_) j
    rcases h j with h | h
    · left
      by_cases e : lg L j = cjN (lg L i) m
      · rw [e, up_i, up_i]
      · rw [up_n e, up_n e, h]
    · right; exact h
theorem clL_ag {L : List Nat} : ∀ (k i : Nat) (f f' h h' : Nat → Int32) (c : Nat), L.length = i + k → (∀ j, f (lg L j) = f' (lg L j) ∨ L.length ≤ j) → (∀ q, q < c → h q = h' q) →
    (clL L k i f h c).2.2 = (clL L k i f' h' c).2.2 ∧ (∀ j, j < L.length → (clL L k i f h c).1 (lg L j) = (clL L k i f' h' c).1 (lg L j)) ∧ ∀ q, q < (clL L k i f h c).2.2 → (clL L k i f h c).2.1 q = (clL L k i f' h' c).2.1 q := by
  intro k
  induction k with
  | zero => intro i f f' h h' c hi ha hh; exact ⟨rfl, fun j hj => (ha j).resolve_right (by omega), hh⟩
  | succ k ih =>
    intro i f f' h h' c hi ha hh
    have e : f (lg L i) = f' (lg L i) := (ha i).resolve_right (by omega)
    by_cases q : f (lg L i) = -1
    · have q' : f' (lg L i) = -1 := by rw [← e]; exact q
      rw [clL, clL, if_pos q, if_pos q']
      refine ih _ _ _ _ _ _ (by omega) (fcL_ag _ _ _ _ ha) (fun r hr => ?_)
      by_cases er : r = c
      · subst er; rw [up_i, up_i]
      · rw [up_n er, up_n er]; exact hh r (by omega)
    · have q' : ¬ f' (lg L i) = -1 := by rw [← e]; exact q
      rw [clL, clL, if_neg q, if_neg q']
      exact ih _ _ _ _ _ _ (by omega) ha hh
/-- CLASSES of a group, whatever stood in the rows before -/
def clC (L : List Nat) : (Nat → Int32) × (Nat → Int32) × Nat := clF L (fun _ => 0) (fun _ => 0)
theorem clF_ag (L : List Nat) (f h : Nat → Int32) : (clF L f h).2.2 = (clC L).2.2 ∧ (∀ j, j < L.length → (clF L f h).1 (lg L j) = (clC L).1 (lg L j)) ∧ ∀ q, q < (clC L).2.2 → (clF L f h).2.1 q = (clC L).2.1 q := by
  have a := clL_ag (L := L) L.length 0 (ciL L L.length 0 f) (ciL L L.length 0 (fun _ => 0)) h (fun _ => 0) 0 (by omega) (fun j => by
    rcases Nat.lt_or_ge j L.length with q | q
    · left; rw [ciL_v _ _ _ _ (Or.inl ⟨by omega, by omega⟩), ciL_v _ _ _ _ (Or.inl ⟨by omega, by omega⟩)]
    · right; exact q) (fun q hq => absurd hq (by omega))
  exact ⟨a.1, a.2.1, fun q hq => a.2.2 q (by rw [a.1]; exact hq)⟩
theorem lg_mem {L : List Nat} {x : Nat} (h : x ∈ L) : ∃ j, j < L.length ∧ lg L j = x := by
  obtain ⟨j, hj, e⟩ := List.mem_iff_getElem.mp h
  exact ⟨j, hj, by simp [lg, List.getD_eq_getElem?_getD, hj, e]⟩
theorem lg_in {L : List Nat} {j : Nat} (h : j < L.length) : lg L j ∈ L := by
  simp only [lg, List.getD_eq_getElem?_getD, List.getElem?_eq_getElem h, Option.getD_some]
  exact List.getElem_mem h
abbrev gL (s : Ms) : List Nat := gLst s.1.1.2 s.1.1.1
def aMove (s : Ms) (m w : Int32) : Int32 := if (isMv m && inB w 0 3) = false then -1 else if w = nI 0 then nI (invN (ix m)) else if w = nI 1 then nI (ordN (ix m)) else if w = nI 2 then bI (kpt s.1.1.2 s.1.1.1 (ix m)) else nI (mvN s.1.1.2 s.1.1.1 (ix m))
def aTakes (s : Ms) (m p : Int32) : Int32 := if (isMv m && hpB s.1.1.1 p) = true then oI (goT s.1.1.2 s.1.1.1 (ix m) (ix p)) else -1
def nrL (P : Nat → Nat → Int32) (n : Nat) : Nat → Nat → Option Nat → Nat → Option Nat
  | 0, _, b, _ => b
  | k + 1, m, b, f => if kpt P n m = false ∧ mvN P n m < f then nrL P n k (m + 1) (some m) (mvN P n m) else nrL P n k (m + 1) b f
def aGroup (s : Ms) (k : Int32) : Int32 := if k < 0 then -1 else if inB k 0 ((gL s).length - 1 : Int) = true then nI (lg (gL s) (ix k)) else -5
theorem mvN_le {P : Nat → Nat → Int32} {n m : Nat} : mvN P n m ≤ n := by
  have := mcL_le (P := P) (n := n) (m := m) n 0 0
  unfold mvN
  omega
theorem ix_mv {m : Int32} (h : isMv m = true) : ix m < 48 ∧ m = nI (ix m) := by
  obtain ⟨j, hj, rfl⟩ := isMv_t h
  rw [ix_nI (by omega)]
  exact ⟨hj, rfl⟩
theorem in_k1 {k : Int32} {n : Nat} (hn : n < 2 ^ 31) (h0 : ¬ k < 0) (h : ¬ nI n ≤ k) : inB k 0 (n - 1 : Int) = true ∧ ∃ j, j < n ∧ k = nI j := by
  rcases pk_ix k (n := n) hn with q | q | q
  · exact absurd q h0
  · exact absurd q h
  · refine ⟨?_, q⟩
    obtain ⟨j, hj, rfl⟩ := q
    simp only [inB, decide_eq_true_eq, nI_toInt (show j < 2 ^ 31 by omega)]
    omega
theorem in_k0 {k : Int32} {n : Nat} (hn : n < 2 ^ 31) (h : nI n ≤ k) : inB k 0 (n - 1 : Int) = false := by
  rw [leI, nI_toInt hn] at h
  simp only [inB, decide_eq_false_iff_not]
  omega
set_option maxHeartbeats 4000000 in
set_option maxRecDepth 100000 in
theorem c_X7_move {E : Ev} {d : Nat} {σ : St} {s : Ms} (hs : SyIs σ s) {m w : Int32} : Con E (d + 5) yX7_move cX7_move 3 ((Option.some FieldType.int)) [.ref (ev_a E 0), .int m, .int w] σ (SyTo (.int (aMove s m w)) σ (s)) := by
  refine con_of (by decide) (Nat.le_of_ble_eq_true rfl) (fun X hX C => ?_)
  have C : Cx E X cX7_move RX7 3 ((Option.some FieldType.int)) := C
  obtain ⟨hS, hI, hO, hT, hA⟩ := id hs
  have hn8 : s.1.1.1 ≤ 8 := hS.1.2.1
  show G E _ X _ _ _ 0 [(0, .ref (ev_a E 0)), (1, .int m), (2, .int w)] []
  refine g_iload_n C dX7_move_0 rfl ?_
  refine g_callSp C (c_X1_isMove (d := d) ) dX7_move_1 km_RX7_130 kn_RX1 kc_yX1_isMove ks_yX1_isMove (by omega) (by decide) ⟨by decide, by decide, rfl⟩ rfl (Nat.le_of_ble_eq_true rfl) ?_
  refine g_ifeqB C 16 dX7_move_4 (by decide) (fun h4 => ?_) (fun h4 => ?_)
  · refine g_icz (v := -1) C dX7_move_16 (by decide) ?_
    refine g_iret C dX7_move_17 ?_
    exact ⟨congrArg (fun v => some (Value.int v)) (by first | (simp [aMove, h4]; done) | (simp [aMove, e8]; done) | (simp [aMove, e13]; done)), hs, Fs.rf⟩
  · obtain ⟨j, hj, rfl⟩ := isMv_t h4
    refine g_iload_n C dX7_move_7 rfl ?_
    refine g_iflt C 16 dX7_move_8 (by decide) (fun h8 => ?_) (fun h8 => ?_)
    · have e8 : inB w 0 3 = false := in_lo h8
      refine g_icz (v := -1) C dX7_move_16 (by decide) ?_
      refine g_iret C dX7_move_17 ?_
      exact ⟨congrArg (fun v => some (Value.int v)) (by first | (simp [aMove, h4]; done) | (simp [aMove, e8]; done) | (simp [aMove, e13]; done)), hs, Fs.rf⟩
    · refine g_iload_n C dX7_move_11 rfl ?_
      refine g_ic (n := 3) C dX7_move_12 (by decide) ?_
      refine g_icle C 18 dX7_move_13 (by decide) (fun h13 => ?_) (fun h13 => ?_)
      · have e13 : inB w 0 3 = true := in_le_t (k := 3) (by decide) h8 h13
        obtain ⟨w2, hw2, rfl⟩ := in_n (k := 3) e13
        have hw4 : w2 = 0 ∨ w2 = 1 ∨ w2 = 2 ∨ w2 = 3 := by omega
        rcases hw4 with rfl | rfl | rfl | rfl
        · refine g_iload_n C dX7_move_18 rfl ?_
          refine g_tsIn C 44 dX7_move_19 (by decide) (by decide) rfl (by decide) ?_
          refine g_iload_n C dX7_move_44 rfl ?_
          refine g_callSp C (c_X1_invert (d := d) hj) dX7_move_45 km_RX7_138 kn_RX1 kc_yX1_invert ks_yX1_invert (by omega) (by decide) ⟨by decide, by decide, rfl⟩ rfl (Nat.le_of_ble_eq_true rfl) ?_
          refine g_iret C dX7_move_48 ?_
          exact ⟨congrArg (fun v => some (Value.int v)) (by unfold aMove; rw [if_neg (by simp [h4, e13]), if_pos rfl, ix_nI (show j < 2 ^ 31 by omega)]), hs, Fs.rf⟩
        · refine g_iload_n C dX7_move_18 rfl ?_
          refine g_tsIn C 49 dX7_move_19 (by decide) (by decide) rfl (by decide) ?_
          refine g_iload_n C dX7_move_49 rfl ?_
          refine g_callSp C (c_X1_orderOf (d := d) hj) dX7_move_50 km_RX7_141 kn_RX1 kc_yX1_orderOf ks_yX1_orderOf (by omega) (by decide) ⟨by decide, by decide, rfl⟩ rfl (Nat.le_of_ble_eq_true rfl) ?_
          refine g_iret C dX7_move_53 ?_
          exact ⟨congrArg (fun v => some (Value.int v)) (by unfold aMove; rw [if_neg (by simp [h4, e13]), if_neg (by decide), if_pos rfl, ix_nI (show j < 2 ^ 31 by omega)]), hs, Fs.rf⟩
        · refine g_iload_n C dX7_move_18 rfl ?_
          refine g_tsIn C 54 dX7_move_19 (by decide) (by decide) rfl (by decide) ?_
          refine g_aload_n C dX7_move_54 rfl ?_
          refine gf_X7_now C (by rfl) dX7_move_55 kf_RX7_12 ?_
          refine gn_X3_shape C (by rfl) dX7_move_58 nw_X7_67 ?_
          refine g_iload_n C dX7_move_61 rfl ?_
          refine g_callVp C (ob_X4 (by rfl)) (c_X4_isKeptBy (d := d) hS.1 hj) dX7_move_62 km_RX7_144 kn_RX4 kc_yX4_isKeptBy ki_yX4_isKeptBy kx_yX4_isKeptBy (by omega) (by decide) ⟨by decide, by decide, rfl⟩ rfl (Nat.le_of_ble_eq_true rfl) ?_
          refine g_ifeqB C 72 dX7_move_65 (by decide) (fun h65 => ?_) (fun h65 => ?_)
          · refine g_ic (n := 0) C dX7_move_72 (by decide) ?_
            refine g_iret C dX7_move_73 ?_
            exact ⟨congrArg (fun v => some (Value.int v)) (by unfold aMove; rw [if_neg (by simp [h4, e13]), if_neg (by decide), if_neg (by decide), if_pos rfl, ix_nI (show j < 2 ^ 31 by omega)]; rw [h65]; rfl), hs, Fs.rf⟩
          · refine g_ic (n := 1) C dX7_move_68 (by decide) ?_
            refine g_goto C 73 dX7_move_69 (by decide) ?_
            refine g_iret C dX7_move_73 ?_
            exact ⟨congrArg (fun v => some (Value.int v)) (by unfold aMove; rw [if_neg (by simp [h4, e13]), if_neg (by decide), if_neg (by decide), if_pos rfl, ix_nI (show j < 2 ^ 31 by omega)]; rw [h65]; rfl), hs, Fs.rf⟩
        · refine g_iload_n C dX7_move_18 rfl ?_
          refine g_tsOut C 74 dX7_move_19 (by decide) (by decide) ?_
          refine g_aload_n C dX7_move_74 rfl ?_
          refine gf_X7_now C (by rfl) dX7_move_75 kf_RX7_12 ?_
          refine gn_X3_shape C (by rfl) dX7_move_78 nw_X7_67 ?_
          refine g_iload_n C dX7_move_81 rfl ?_
          refine g_callVp C (ob_X4 (by rfl)) (c_X4_movedBy (d := d) hS.1 hj) dX7_move_82 km_RX7_147 kn_RX4 kc_yX4_movedBy ki_yX4_movedBy kx_yX4_movedBy (by omega) (by decide) ⟨by decide, by decide, rfl⟩ rfl (Nat.le_of_ble_eq_true rfl) ?_
          refine g_iret C dX7_move_85 ?_
          exact ⟨congrArg (fun v => some (Value.int v)) (by unfold aMove; rw [if_neg (by simp [h4, e13]), if_neg (by decide), if_neg (by decide), if_neg (by decide), ix_nI (show j < 2 ^ 31 by omega)]), hs, Fs.rf⟩
      · have e13 : inB w 0 3 = false := in_le_f (k := 3) (by decide) h13
        refine g_icz (v := -1) C dX7_move_16 (by decide) ?_
        refine g_iret C dX7_move_17 ?_
        exact ⟨congrArg (fun v => some (Value.int v)) (by first | (simp [aMove, h4]; done) | (simp [aMove, e8]; done) | (simp [aMove, e13]; done)), hs, Fs.rf⟩
set_option maxHeartbeats 4000000 in
set_option maxRecDepth 100000 in
theorem c_X7_takes {E : Ev} {d : Nat} {σ : St} {s : Ms} (hs : SyIs σ s) {m p : Int32} : Con E (d + 3) yX7_takes cX7_takes 3 ((Option.some FieldType.int)) [.ref (ev_a E 0), .int m, .int p] σ (SyTo (.int (aTakes s m p)) σ (s)) := by
  refine con_of (by decide) (Nat.le_of_ble_eq_true rfl) (fun X hX C => ?_)
  have C : Cx E X cX7_takes RX7 3 ((Option.some FieldType.int)) := C
  obtain ⟨hS, hI, hO, hT, hA⟩ := id hs
  have hn8 : s.1.1.1 ≤ 8 := hS.1.2.1
  show G E _ X _ _ _ 0 [(0, .ref (ev_a E 0)), (1, .int m), (2, .int p)] []
  refine g_iload_n C dX7_takes_0 rfl ?_
  refine g_callSp C (c_X1_isMove (d := d) ) dX7_takes_1 km_RX7_130 kn_RX1 kc_yX1_isMove ks_yX1_isMove (by omega) (by decide) ⟨by decide, by decide, rfl⟩ rfl (Nat.le_of_ble_eq_true rfl) ?_
  refine g_ifeqB C 30 dX7_takes_4 (by decide) (fun h4 => ?_) (fun h4 => ?_)
  · refine g_icz (v := -1) C dX7_takes_30 (by decide) ?_
    refine g_iret C dX7_takes_31 ?_
    exact ⟨congrArg (fun v => some (Value.int v)) (by first | (simp [aTakes, h4]; done) | (simp [aTakes, h12]; done) | (unfold aTakes; rw [if_pos (by simp [h4, h12]), ix_nI (show j < 2 ^ 31 by omega), ix_nI (show k < 2 ^ 31 by omega)])), hs, Fs.rf⟩
  · obtain ⟨j, hj, rfl⟩ := isMv_t h4
    refine g_aload_n C dX7_takes_7 rfl ?_
    refine g_iload_n C dX7_takes_8 rfl ?_
    refine g_callVp C (ob_X7 (by rfl)) (c_X7_isPoint (d := d) hS.1) dX7_takes_9 km_RX7_82 kn_RX7 kc_yX7_isPoint ki_yX7_isPoint kx_yX7_isPoint (by omega) (by decide) ⟨by decide, by decide, rfl⟩ rfl (Nat.le_of_ble_eq_true rfl) ?_
    refine g_ifeqB C 30 dX7_takes_12 (by decide) (fun h12 => ?_) (fun h12 => ?_)
    · refine g_icz (v := -1) C dX7_takes_30 (by decide) ?_
      refine g_iret C dX7_takes_31 ?_
      exact ⟨congrArg (fun v => some (Value.int v)) (by first | (simp [aTakes, h4]; done) | (simp [aTakes, h12]; done) | (unfold aTakes; rw [if_pos (by simp [h4, h12]), ix_nI (show j < 2 ^ 31 by omega), ix_nI (show k < 2 ^ 31 by omega)])), hs, Fs.rf⟩
    · obtain ⟨k, hk, rfl⟩ := hpB_t (n := s.1.1.1) (by omega) h12
      refine g_aload_n C dX7_takes_15 rfl ?_
      refine gf_X7_now C (by rfl) dX7_takes_16 kf_RX7_12 ?_
      refine gn_X3_shape C (by rfl) dX7_takes_19 nw_X7_67 ?_
      refine g_iload_n C dX7_takes_22 rfl ?_
      refine g_iload_n C dX7_takes_23 rfl ?_
      refine g_callVp C (ob_X4 (by rfl)) (c_X4_pointBehind (d := d) hS.1 hj hk) dX7_takes_24 km_RX7_156 kn_RX4 kc_yX4_pointBehind ki_yX4_pointBehind kx_yX4_pointBehind (by omega) (by decide) ⟨by decide, by decide, rfl⟩ rfl (Nat.le_of_ble_eq_true rfl) ?_
      refine g_goto C 31 dX7_takes_27 (by decide) ?_
      refine g_iret C dX7_takes_31 ?_
      exact ⟨congrArg (fun v => some (Value.int v)) (by first | (simp [aTakes, h4]; done) | (simp [aTakes, h12]; done) | (unfold aTakes; rw [if_pos (by simp [h4, h12]), ix_nI (show j < 2 ^ 31 by omega), ix_nI (show k < 2 ^ 31 by omega)])), hs, Fs.rf⟩
set_option maxHeartbeats 4000000 in
set_option maxRecDepth 100000 in
theorem c_X7_group {E : Ev} {d : Nat} {σ : St} {s : Ms} (hs : SyIs σ s) {k : Int32} : Con E (d + 7) yX7_group cX7_group 3 ((Option.some FieldType.int)) [.ref (ev_a E 0), .int k] σ (SyTo (.int (aGroup s k)) σ (s)) := by
  refine con_of (by decide) (Nat.le_of_ble_eq_true rfl) (fun X hX C => ?_)
  have C : Cx E X cX7_group RX7 3 ((Option.some FieldType.int)) := C
  obtain ⟨hS, hI, hO, hT, hA⟩ := id hs
  have hn8 : s.1.1.1 ≤ 8 := hS.1.2.1
  show G E _ X _ _ _ 0 [(0, .ref (ev_a E 0)), (1, .int k)] []
  refine g_iload_n C dX7_group_0 rfl ?_
  refine g_ifge C 6 dX7_group_1 (by decide) (fun h1 => ?_) (fun h1 => ?_)
  · have h1 : ¬ k < 0 := fun q => by rw [leI, Int32.toInt_zero] at h1; rw [ltI, Int32.toInt_zero] at q; omega
    refine g_aload_n C dX7_group_6 rfl ?_
    refine g_callV C (ob_X7 (by rfl)) (c_X7_groupNow (d := d) hs) dX7_group_7 km_RX7_93 kn_RX7 kc_yX7_groupNow ki_yX7_groupNow kx_yX7_groupNow (by omega) (by decide) ⟨by decide, by decide, rfl⟩ rfl (Nat.le_of_ble_eq_true rfl) (fun r1 σ1 q1 => ?_)
    obtain ⟨rfl, u1, u2, u3⟩ := q1
    obtain ⟨v0, ⟨vB, vM, vO, v5, vS, f0, f1, vC, vD, v8⟩, v12⟩ := id u2
    have vLe : (gL s).length ≤ 48 := vB.2.1.1
    refine g_astore_n C dX7_group_10 (by decide) ?_
    refine g_iload_n C dX7_group_11 rfl ?_
    refine g_aload_n C dX7_group_12 rfl ?_
    refine gn_X0_size C (by rfl) dX7_group_13 nw_X7_159 ?_
    rw [vB.2.2.1]
    refine g_icge C 28 dX7_group_16 (by decide) (fun h16 => ?_) (fun h16 => ?_)
    · have e16 := in_k0 (n := (gL s).length) (by omega) h16
      refine g_bp C (-5) dX7_group_28 (by decide) ?_
      refine g_iret C dX7_group_30 ?_
      exact ⟨congrArg (fun v => some (Value.int v)) (by unfold aGroup; first | rw [if_neg h1, if_pos e16, ix_nI (show j < 2 ^ 31 by omega)] | (rw [if_neg h1, if_neg (by rw [e16]; decide)])), u1, u3⟩
    · obtain ⟨e16, j, hj, rfl⟩ := in_k1 (n := (gL s).length) (by omega) h1 h16
      refine g_aload_n C dX7_group_19 rfl ?_
      refine gn_X0_byNumber C (by rfl) dX7_group_20 nw_X7_181 ?_
      refine g_iload_n C dX7_group_23 rfl ?_
      refine g_ialdN C (n := 48) rfl (by omega) (by decide) dX7_group_24 ?_
      rw [vB.2.2.2 j hj]
      refine g_goto C 30 dX7_group_25 (by decide) ?_
      refine g_iret C dX7_group_30 ?_
      exact ⟨congrArg (fun v => some (Value.int v)) (by unfold aGroup; first | rw [if_neg h1, if_pos e16, ix_nI (show j < 2 ^ 31 by omega)] | (rw [if_neg h1, if_neg (by rw [e16]; decide)])), u1, u3⟩
  · have h1 : k < 0 := by rw [leI, Int32.toInt_zero] at h1; rw [ltI, Int32.toInt_zero]; omega
    refine g_icz (v := -1) C dX7_group_4 (by decide) ?_
    refine g_iret C dX7_group_5 ?_
    exact ⟨congrArg (fun v => some (Value.int v)) (by unfold aGroup; rw [if_pos (by first | exact h1 | (rw [ltI, Int32.toInt_zero]; rw [leI, Int32.toInt_zero] at h1; omega))]), hs, Fs.rf⟩
