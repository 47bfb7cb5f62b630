/-! THE REFERENCE over the same state: the text read -/
def hrI (T : Nat → Nat) (n i : Nat) : Int32 := if i < n then nI (T i) else -1
def dgR (T : Nat → Nat) (n : Nat) (b : Bool) (i : Nat) : Bool × Nat × Int32 := if (!b && dgA T n i) = true then (false, i + 1, nI (T i - 48)) else (true, i, nI 0)
def cmR (T : Nat → Nat) (n : Nat) (b : Bool) (i : Nat) : Bool × Nat := if (!b && sgA T n 44 i) = true then (false, i + 1) else (true, i)
def bwR (T : Nat → Nat) (n : Nat) (b : Bool) (i : Nat) : Bool := !b && sgA T n 45 i
def nmR (T : Nat → Nat) (n : Nat) (b : Bool) (i : Nat) : Bool × Nat × Int32 := ((dgR T n b (if bwR T n b i = true then i + 1 else i)).1, (dgR T n b (if bwR T n b i = true then i + 1 else i)).2.1, if bwR T n b i = true then - (dgR T n b (if bwR T n b i = true then i + 1 else i)).2.2 else (dgR T n b (if bwR T n b i = true then i + 1 else i)).2.2)
def xR (T : Nat → Nat) (n : Nat) (b : Bool) (i : Nat) : Bool × Nat := cmR T n (nmR T n b i).1 (nmR T n b i).2.1
theorem hr_lt {T : Nat → Nat} {n i : Nat} (h : i < n) : hrI T n i = nI (T i) := by unfold hrI; rw [if_pos h]
theorem hr_sg {T : Nat → Nat} {n i g : Nat} (hT : ∀ j, j < n → T j < 128) (hg : g < 128) : hrI T n i = nI g ↔ sgA T n g i = true := by
  unfold hrI sgA
  by_cases h : i < n
  · rw [if_pos h, decide_eq_true h, Bool.true_and, decide_eq_true_eq]
    have := hT i h
    exact ⟨fun q => nI_inj (by omega) (by omega) q, fun q => by rw [q]⟩
  · rw [if_neg h, decide_eq_false h, Bool.false_and]
    refine ⟨fun q => ?_, fun q => absurd q (by decide)⟩
    have e := congrArg Int32.toInt q
    rw [nI_toInt (by omega), show (-1 : Int32).toInt = -1 from by decide] at e
    omega
theorem hr_dg {T : Nat → Nat} {n i : Nat} (hT : ∀ j, j < n → T j < 128) : inB (hrI T n i) 48 57 = dgA T n i := by
  unfold hrI dgA inB
  by_cases h : i < n
  · rw [if_pos h, decide_eq_true h, Bool.true_and]
    have := hT i h
    rw [nI_toInt (by omega), Bool.eq_iff_iff]
    simp only [decide_eq_true_eq, Bool.and_eq_true]
    omega
  · rw [if_neg h, decide_eq_false h, Bool.false_and, show (-1 : Int32).toInt = -1 from by decide]
    decide
theorem dgr_t {T : Nat → Nat} {n i : Nat} (h : dgA T n i = true) : i < n ∧ 48 ≤ T i ∧ T i ≤ 57 := by
  unfold dgA at h
  simp only [Bool.and_eq_true, decide_eq_true_eq] at h
  exact ⟨h.1, h.2.1, h.2.2⟩
theorem sgr_t {T : Nat → Nat} {n g i : Nat} (h : sgA T n g i = true) : i < n := by
  unfold sgA at h
  simp only [Bool.and_eq_true, decide_eq_true_eq] at h
  exact h.1
theorem dgR_le {T : Nat → Nat} {n i : Nat} {b : Bool} (h : i ≤ n) : (dgR T n b i).2.1 ≤ n := by
  unfold dgR
  split
  · rename_i q
    simp only [Bool.and_eq_true] at q
    exact (dgr_t q.2).1
  · exact h
theorem cmR_le {T : Nat → Nat} {n i : Nat} {b : Bool} (h : i ≤ n) : (cmR T n b i).2 ≤ n := by
  unfold cmR
  split
  · rename_i q
    simp only [Bool.and_eq_true] at q
    exact sgr_t q.2
  · exact h
theorem bw_le {T : Nat → Nat} {n i : Nat} {b : Bool} (h : i ≤ n) : (if bwR T n b i = true then i + 1 else i) ≤ n := by
  split
  · rename_i q
    unfold bwR at q
    simp only [Bool.and_eq_true] at q
    exact sgr_t q.2
  · exact h
theorem nmR_le {T : Nat → Nat} {n i : Nat} {b : Bool} (h : i ≤ n) : (nmR T n b i).2.1 ≤ n := dgR_le (bw_le h)
theorem xR_le {T : Nat → Nat} {n i : Nat} {b : Bool} (h : i ≤ n) : (xR T n b i).2 ≤ n := cmR_le (nmR_le h)
theorem dgR_w {T : Nat → Nat} {n i : Nat} : dgR T n true i = (true, i, nI 0) := rfl
theorem xR_w {T : Nat → Nat} {n i : Nat} : xR T n true i = (true, i) := rfl
theorem dgR_d {T : Nat → Nat} {n i : Nat} : (dgR T n false i).1 = !(clD T n i).1 ∧ (dgR T n false i).2.1 = (clD T n i).2.1 ∧ ((clD T n i).1 = true → (dgR T n false i).2.2 = (clD T n i).2.2) := by
  unfold dgR clD
  cases h : dgA T n i
  · exact ⟨rfl, rfl, fun q => absurd (show false = true from q) (by decide)⟩
  · exact ⟨rfl, rfl, fun _ => rfl⟩
theorem xR_a {T : Nat → Nat} {n i : Nat} : (xR T n false i).1 = !(clA T n i).1 ∧ (xR T n false i).2 = (clA T n i).2.1 ∧ ((clA T n i).1 = true → (nmR T n false i).2.2 = (clA T n i).2.2) := by
  unfold xR nmR cmR bwR dgR clA
  cases h1 : sgA T n 45 i
  · cases h2 : dgA T n i
    · simp [h2]
    · cases h3 : sgA T n 44 (i + 1)
      · simp [h2, h3]
      · simp [h2, h3]
  · cases h2 : dgA T n (i + 1)
    · simp [h2]
    · cases h3 : sgA T n 44 (i + 1 + 1)
      · simp [h2, h3]
      · simp [h2, h3]
theorem TR.fk {σ σ' : St} {n : Nat} {T : Nat → Nat} {fs l : List Nat} (h : TR σ n T) (hF : Fk fs l σ σ') (h1 : 14 ∉ fs) (h2 : 74 ∉ l) : TR σ' n T := h.go (hF.2 14 h1) (hF.1 74 (by simp [h2])).1
theorem TR.lt {σ : St} {n : Nat} {T : Nat → Nat} (h : TR σ n T) : ∀ j, j < n → T j < 128 := fun j hj => (h.2.2 j hj).2
theorem nbI1 : nI 1 = bI true := rfl
theorem nbI0 : nI 0 = bI false := rfl

set_option maxHeartbeats 4000000 in
set_option maxRecDepth 100000 in
theorem c_X8_here {E : Ev} {d : Nat} {σ : St} {n i : Nat} {T : Nat → Nat} (hT : TR σ n T) (hi : i ≤ n) (hp : σ.1 64 15 = nI i) : Con E (d) yX8_here cX8_here 1 ((Option.some FieldType.int)) [.ref (ev_a E 64)] σ (Det (some (.int (hrI T n i))) σ) := by
  refine con_of (by decide) (Nat.le_of_ble_eq_true rfl) (fun X hX C => ?_)
  have C : Cx E X cX8_here RX8 1 ((Option.some FieldType.int)) := C
  have h100 := hT.2.1
  show G E _ X _ _ _ 0 [(0, .ref (ev_a E 64))] []
  refine g_aload_n C dX8_here_0 rfl ?_
  refine gf_X8_place C (by rfl) dX8_here_1 kf_RX8_174 ?_
  refine g_aload_n C dX8_here_4 rfl ?_
  refine gf_X8_length C (by rfl) dX8_here_5 kf_RX8_171 ?_
  rw [hp, hT.1]
  refine g_icgeN C 23 dX8_here_8 (by decide) (by omega) (by omega) (fun h8 => ?_) (fun h8 => ?_)
  · refine g_icz (v := -1) C dX8_here_23 (by decide) ?_
    refine g_iret C dX8_here_24 ?_
    exact ⟨congrArg (fun v => some (Value.int v)) (by unfold hrI; first | (rw [if_pos (show i < n by omega)]; done) | (rw [if_neg (show ¬ i < n by omega)]; done)), rfl⟩
  · refine g_aload_n C dX8_here_11 rfl ?_
    refine gf_X8_text C (by rfl) dX8_here_12 kf_RX8_40 ?_
    refine g_aload_n C dX8_here_15 rfl ?_
    refine gf_X8_place C (by rfl) dX8_here_16 kf_RX8_174 ?_
    rw [hp]
    refine g_ialdN C (by rfl) (by omega) (by first | decide | omega) dX8_here_19 ?_
    rw [(hT.2.2 i (by omega)).1]
    refine g_goto C 24 dX8_here_20 (by decide) ?_
    refine g_iret C dX8_here_24 ?_
    exact ⟨congrArg (fun v => some (Value.int v)) (by unfold hrI; first | (rw [if_pos (show i < n by omega)]; done) | (rw [if_neg (show ¬ i < n by omega)]; done)), rfl⟩

set_option maxHeartbeats 4000000 in
set_option maxRecDepth 100000 in
theorem c_X8_digit {E : Ev} {d : Nat} {σ : St} {n i : Nat} {T : Nat → Nat} (hT : TR σ n T) (hi : i ≤ n) (hp : σ.1 64 15 = nI i) {b : Bool} (hw : σ.1 64 16 = bI b) : Con E (d + 1) yX8_digit cX8_digit 2 ((Option.some FieldType.int)) [.ref (ev_a E 64)] σ (fun r σ2 => r = some (.int (dgR T n b i).2.2) ∧ σ2.1 64 15 = nI ((dgR T n b i).2.1) ∧ σ2.1 64 16 = bI ((dgR T n b i).1) ∧ Fk [15, 16] [] σ σ2) := by
  refine con_of (by decide) (Nat.le_of_ble_eq_true rfl) (fun X hX C => ?_)
  have C : Cx E X cX8_digit RX8 2 ((Option.some FieldType.int)) := C
  have h100 := hT.2.1
  show G E _ X _ _ _ 0 [(0, .ref (ev_a E 64))] []
  cases b
  · cases hd : dgA T n i
    · rw [show dgR T n false i = (true, i, nI 0) from by unfold dgR; rw [hd]; rfl]
      refine g_aload_n C dX8_digit_0 rfl ?_
      refine g_aload_n C dX8_digit_1 rfl ?_
      refine gf_X8_isWrong C (by rfl) dX8_digit_2 kf_RX8_177 ?_
      rw [hw]
      refine g_ifneB C 25 dX8_digit_5 (by decide) (fun h5 => ?_) (fun h5 => ?_)
      · exact absurd h5 (by decide)
      · refine g_aload_n C dX8_digit_8 rfl ?_
        refine g_callVp C (ob_X8 (by rfl)) (c_X8_here (d := d) hT hi hp) dX8_digit_9 km_RX8_181 kn_RX8 kc_yX8_here ki_yX8_here kx_yX8_here (by omega) (by decide) ⟨by decide, by decide, rfl⟩ rfl (Nat.le_of_ble_eq_true rfl) ?_
        refine g_i2l C _ dX8_digit_12 rfl ?_
        refine g_ldc2 C (48) dX8_digit_13 (List.mem_of_getElem? (i := 923) (by decide +kernel)) ?_
        refine g_ldc2 C (57) dX8_digit_16 (List.mem_of_getElem? (i := 924) (by decide +kernel)) ?_
        refine g_callSp C (c_X8_in (d := d) (48) (57) (by decide) (by decide)) dX8_digit_19 km_RX8_56 kn_RX8 kc_yX8_in ks_yX8_in (by omega) (by decide) ⟨by decide, by decide, rfl⟩ rfl (Nat.le_of_ble_eq_true rfl) ?_
        rw [hr_dg hT.lt, hd]
        refine g_ifneB C 29 dX8_digit_22 (by decide) (fun h22 => ?_) (fun h22 => ?_)
        · exact absurd h22 (by decide)
        · refine g_ic (n := 1) C dX8_digit_25 (by decide) ?_
          refine g_goto C 30 dX8_digit_26 (by decide) ?_
          refine gp_X8_isWrong C (by rfl) (by first | exact bI_01 _ | exact Or.inl rfl | exact Or.inr rfl) dX8_digit_30 kf_RX8_177 ?_
          have hpS : (setF σ 64 16 (nI 1)).1 64 15 = nI i := by unfold setF; rw [sI_self, up_n (by decide)]; exact hp
          have hwS : (setF σ 64 16 (nI 1)).1 64 16 = (nI 1) := by unfold setF; rw [sI_self, up_i]
          have hTS : TR (setF σ 64 16 (nI 1)) n T := hT.fk (Fk.rf.sF (fs := [16]) (l := []) (by simp)) (by simp) (by simp)
          show G E _ X _ _ (setF σ 64 16 (nI 1)) _ _ _
          refine g_aload_n C dX8_digit_33 rfl ?_
          refine gf_X8_isWrong C (by rfl) dX8_digit_34 kf_RX8_177 ?_
          rw [hwS]
          refine g_ifeqN C 44 dX8_digit_37 (by decide) (by omega) (fun h37 => ?_) (fun h37 => ?_)
          · first | exact absurd h37 (by decide) | exact absurd rfl h37
          · refine g_ic (n := 0) C dX8_digit_40 (by decide) ?_
            refine g_goto C 51 dX8_digit_41 (by decide) ?_
            refine g_istore_n C dX8_digit_51 (by decide) ?_
            refine g_aload_n C dX8_digit_52 rfl ?_
            refine g_dup C dX8_digit_53 rfl ?_
            refine gf_X8_place C (by rfl) dX8_digit_54 kf_RX8_174 ?_
            rw [hpS]
            refine g_aload_n C dX8_digit_57 rfl ?_
            refine gf_X8_isWrong C (by rfl) dX8_digit_58 kf_RX8_177 ?_
            rw [hwS]
            refine g_ifeqN C 68 dX8_digit_61 (by decide) (by omega) (fun h61 => ?_) (fun h61 => ?_)
            · first | exact absurd h61 (by decide) | exact absurd rfl h61
            · refine g_ic (n := 0) C dX8_digit_64 (by decide) ?_
              refine g_goto C 69 dX8_digit_65 (by decide) ?_
              refine g_iaddN C dX8_digit_69 ?_
              refine gp_X8_place C (by rfl) dX8_digit_70 kf_RX8_174 ?_
              refine g_iload_n C dX8_digit_73 rfl ?_
              refine g_iret C dX8_digit_74 ?_
              show _ ∧ (setF (setF σ 64 16 (nI 1)) 64 15 (nI (i + 0))).1 64 15 = _ ∧ (setF (setF σ 64 16 (nI 1)) 64 15 (nI (i + 0))).1 64 16 = _ ∧ Fk [15, 16] [] σ (setF (setF σ 64 16 (nI 1)) 64 15 (nI (i + 0)))
              refine ⟨?_, ?_, ?_, (Fk.rf.sF (by simp)).sF (by simp)⟩
              · rfl
              · unfold setF; rw [sI_self, up_i]; rfl
              · unfold setF; rw [sI_self, up_n (by decide), sI_self, up_i]; rfl
    · have hdt := dgr_t hd
      rw [show dgR T n false i = (false, i + 1, nI (T i - 48)) from by unfold dgR; rw [hd]; rfl]
      refine g_aload_n C dX8_digit_0 rfl ?_
      refine g_aload_n C dX8_digit_1 rfl ?_
      refine gf_X8_isWrong C (by rfl) dX8_digit_2 kf_RX8_177 ?_
      rw [hw]
      refine g_ifneB C 25 dX8_digit_5 (by decide) (fun h5 => ?_) (fun h5 => ?_)
      · exact absurd h5 (by decide)
      · refine g_aload_n C dX8_digit_8 rfl ?_
        refine g_callVp C (ob_X8 (by rfl)) (c_X8_here (d := d) hT hi hp) dX8_digit_9 km_RX8_181 kn_RX8 kc_yX8_here ki_yX8_here kx_yX8_here (by omega) (by decide) ⟨by decide, by decide, rfl⟩ rfl (Nat.le_of_ble_eq_true rfl) ?_
        refine g_i2l C _ dX8_digit_12 rfl ?_
        refine g_ldc2 C (48) dX8_digit_13 (List.mem_of_getElem? (i := 923) (by decide +kernel)) ?_
        refine g_ldc2 C (57) dX8_digit_16 (List.mem_of_getElem? (i := 924) (by decide +kernel)) ?_
        refine g_callSp C (c_X8_in (d := d) (48) (57) (by decide) (by decide)) dX8_digit_19 km_RX8_56 kn_RX8 kc_yX8_in ks_yX8_in (by omega) (by decide) ⟨by decide, by decide, rfl⟩ rfl (Nat.le_of_ble_eq_true rfl) ?_
        rw [hr_dg hT.lt, hd]
        refine g_ifneB C 29 dX8_digit_22 (by decide) (fun h22 => ?_) (fun h22 => ?_)
        · refine g_ic (n := 0) C dX8_digit_29 (by decide) ?_
          refine gp_X8_isWrong C (by rfl) (by first | exact bI_01 _ | exact Or.inl rfl | exact Or.inr rfl) dX8_digit_30 kf_RX8_177 ?_
          have hpS : (setF σ 64 16 (nI 0)).1 64 15 = nI i := by unfold setF; rw [sI_self, up_n (by decide)]; exact hp
          have hwS : (setF σ 64 16 (nI 0)).1 64 16 = (nI 0) := by unfold setF; rw [sI_self, up_i]
          have hTS : TR (setF σ 64 16 (nI 0)) n T := hT.fk (Fk.rf.sF (fs := [16]) (l := []) (by simp)) (by simp) (by simp)
          show G E _ X _ _ (setF σ 64 16 (nI 0)) _ _ _
          refine g_aload_n C dX8_digit_33 rfl ?_
          refine gf_X8_isWrong C (by rfl) dX8_digit_34 kf_RX8_177 ?_
          rw [hwS]
          refine g_ifeqN C 44 dX8_digit_37 (by decide) (by omega) (fun h37 => ?_) (fun h37 => ?_)
          · refine g_aload_n C dX8_digit_44 rfl ?_
            refine g_callVp C (ob_X8 (by rfl)) (c_X8_here (d := d) hTS hi hpS) dX8_digit_45 km_RX8_181 kn_RX8 kc_yX8_here ki_yX8_here kx_yX8_here (by omega) (by decide) ⟨by decide, by decide, rfl⟩ rfl (Nat.le_of_ble_eq_true rfl) ?_
            rw [hr_lt hdt.1]
            refine g_bp C (nI 48) dX8_digit_48 (by decide) ?_
            first | refine g_isubN C dX8_digit_50 (by omega) ?_ | refine g_isub C dX8_digit_50 ?_
            refine g_istore_n C dX8_digit_51 (by decide) ?_
            refine g_aload_n C dX8_digit_52 rfl ?_
            refine g_dup C dX8_digit_53 rfl ?_
            refine gf_X8_place C (by rfl) dX8_digit_54 kf_RX8_174 ?_
            rw [hpS]
            refine g_aload_n C dX8_digit_57 rfl ?_
            refine gf_X8_isWrong C (by rfl) dX8_digit_58 kf_RX8_177 ?_
            rw [hwS]
            refine g_ifeqN C 68 dX8_digit_61 (by decide) (by omega) (fun h61 => ?_) (fun h61 => ?_)
            · refine g_ic (n := 1) C dX8_digit_68 (by decide) ?_
              refine g_iaddN C dX8_digit_69 ?_
              refine gp_X8_place C (by rfl) dX8_digit_70 kf_RX8_174 ?_
              refine g_iload_n C dX8_digit_73 rfl ?_
              refine g_iret C dX8_digit_74 ?_
              show _ ∧ (setF (setF σ 64 16 (nI 0)) 64 15 (nI (i + 1))).1 64 15 = _ ∧ (setF (setF σ 64 16 (nI 0)) 64 15 (nI (i + 1))).1 64 16 = _ ∧ Fk [15, 16] [] σ (setF (setF σ 64 16 (nI 0)) 64 15 (nI (i + 1)))
              refine ⟨?_, ?_, ?_, (Fk.rf.sF (by simp)).sF (by simp)⟩
              · rfl
              · unfold setF; rw [sI_self, up_i]
              · unfold setF; rw [sI_self, up_n (by decide), sI_self, up_i]; rfl
            · first | exact absurd h61 (by decide) | exact absurd rfl h61
          · first | exact absurd h37 (by decide) | exact absurd rfl h37
        · exact absurd h22 (by decide)
  · rw [dgR_w]
    refine g_aload_n C dX8_digit_0 rfl ?_
    refine g_aload_n C dX8_digit_1 rfl ?_
    refine gf_X8_isWrong C (by rfl) dX8_digit_2 kf_RX8_177 ?_
    rw [hw]
    refine g_ifneB C 25 dX8_digit_5 (by decide) (fun h5 => ?_) (fun h5 => ?_)
    · refine g_ic (n := 1) C dX8_digit_25 (by decide) ?_
      refine g_goto C 30 dX8_digit_26 (by decide) ?_
      refine gp_X8_isWrong C (by rfl) (by first | exact bI_01 _ | exact Or.inl rfl | exact Or.inr rfl) dX8_digit_30 kf_RX8_177 ?_
      have hpS : (setF σ 64 16 (nI 1)).1 64 15 = nI i := by unfold setF; rw [sI_self, up_n (by decide)]; exact hp
      have hwS : (setF σ 64 16 (nI 1)).1 64 16 = (nI 1) := by unfold setF; rw [sI_self, up_i]
      have hTS : TR (setF σ 64 16 (nI 1)) n T := hT.fk (Fk.rf.sF (fs := [16]) (l := []) (by simp)) (by simp) (by simp)
      show G E _ X _ _ (setF σ 64 16 (nI 1)) _ _ _
      refine g_aload_n C dX8_digit_33 rfl ?_
      refine gf_X8_isWrong C (by rfl) dX8_digit_34 kf_RX8_177 ?_
      rw [hwS]
      refine g_ifeqN C 44 dX8_digit_37 (by decide) (by omega) (fun h37 => ?_) (fun h37 => ?_)
      · first | exact absurd h37 (by decide) | exact absurd rfl h37
      · refine g_ic (n := 0) C dX8_digit_40 (by decide) ?_
        refine g_goto C 51 dX8_digit_41 (by decide) ?_
        refine g_istore_n C dX8_digit_51 (by decide) ?_
        refine g_aload_n C dX8_digit_52 rfl ?_
        refine g_dup C dX8_digit_53 rfl ?_
        refine gf_X8_place C (by rfl) dX8_digit_54 kf_RX8_174 ?_
        rw [hpS]
        refine g_aload_n C dX8_digit_57 rfl ?_
        refine gf_X8_isWrong C (by rfl) dX8_digit_58 kf_RX8_177 ?_
        rw [hwS]
        refine g_ifeqN C 68 dX8_digit_61 (by decide) (by omega) (fun h61 => ?_) (fun h61 => ?_)
        · first | exact absurd h61 (by decide) | exact absurd rfl h61
        · refine g_ic (n := 0) C dX8_digit_64 (by decide) ?_
          refine g_goto C 69 dX8_digit_65 (by decide) ?_
          refine g_iaddN C dX8_digit_69 ?_
          refine gp_X8_place C (by rfl) dX8_digit_70 kf_RX8_174 ?_
          refine g_iload_n C dX8_digit_73 rfl ?_
          refine g_iret C dX8_digit_74 ?_
          show _ ∧ (setF (setF σ 64 16 (nI 1)) 64 15 (nI (i + 0))).1 64 15 = _ ∧ (setF (setF σ 64 16 (nI 1)) 64 15 (nI (i + 0))).1 64 16 = _ ∧ Fk [15, 16] [] σ (setF (setF σ 64 16 (nI 1)) 64 15 (nI (i + 0)))
          refine ⟨?_, ?_, ?_, (Fk.rf.sF (by simp)).sF (by simp)⟩
          · rfl
          · unfold setF; rw [sI_self, up_i]; rfl
          · unfold setF; rw [sI_self, up_n (by decide), sI_self, up_i]; rfl
    · exact absurd h5 (by decide)

set_option maxHeartbeats 4000000 in
set_option maxRecDepth 100000 in
theorem c_X8_comma {E : Ev} {d : Nat} {σ : St} {n i : Nat} {T : Nat → Nat} (hT : TR σ n T) (hi : i ≤ n) (hp : σ.1 64 15 = nI i) {b : Bool} (hw : σ.1 64 16 = bI b) : Con E (d + 1) yX8_comma cX8_comma 1 ((Option.none : Option FieldType)) [.ref (ev_a E 64)] σ (fun r σ2 => r = none ∧ σ2.1 64 15 = nI ((cmR T n b i).2) ∧ σ2.1 64 16 = bI ((cmR T n b i).1) ∧ Fk [15, 16] [] σ σ2) := by
  refine con_of (by decide) (Nat.le_of_ble_eq_true rfl) (fun X hX C => ?_)
  have C : Cx E X cX8_comma RX8 1 ((Option.none : Option FieldType)) := C
  have h100 := hT.2.1
  show G E _ X _ _ _ 0 [(0, .ref (ev_a E 64))] []
  cases b
  · cases hd : sgA T n 44 i
    · rw [show cmR T n false i = (true, i) from by unfold cmR; rw [hd]; rfl]
      refine g_aload_n C dX8_comma_0 rfl ?_
      refine g_aload_n C dX8_comma_1 rfl ?_
      refine gf_X8_isWrong C (by rfl) dX8_comma_2 kf_RX8_177 ?_
      rw [hw]
      refine g_ifneB C 17 dX8_comma_5 (by decide) (fun h5 => ?_) (fun h5 => ?_)
      · exact absurd h5 (by decide)
      · refine g_aload_n C dX8_comma_8 rfl ?_
        refine g_callVp C (ob_X8 (by rfl)) (c_X8_here (d := d) hT hi hp) dX8_comma_9 km_RX8_181 kn_RX8 kc_yX8_here ki_yX8_here kx_yX8_here (by omega) (by decide) ⟨by decide, by decide, rfl⟩ rfl (Nat.le_of_ble_eq_true rfl) ?_
        refine g_bp C (nI 44) dX8_comma_12 (by decide) ?_
        refine g_iceq C 21 dX8_comma_14 (by decide) (fun h14 => ?_) (fun h14 => ?_)
        · rw [hr_sg hT.lt (by decide), hd] at h14; exact absurd h14 (by decide)
        · refine g_ic (n := 1) C dX8_comma_17 (by decide) ?_
          refine g_goto C 22 dX8_comma_18 (by decide) ?_
          refine gp_X8_isWrong C (by rfl) (by first | exact bI_01 _ | exact Or.inl rfl | exact Or.inr rfl) dX8_comma_22 kf_RX8_177 ?_
          have hpS : (setF σ 64 16 (nI 1)).1 64 15 = nI i := by unfold setF; rw [sI_self, up_n (by decide)]; exact hp
          have hwS : (setF σ 64 16 (nI 1)).1 64 16 = (nI 1) := by unfold setF; rw [sI_self, up_i]
          have hTS : TR (setF σ 64 16 (nI 1)) n T := hT.fk (Fk.rf.sF (fs := [16]) (l := []) (by simp)) (by simp) (by simp)
          show G E _ X _ _ (setF σ 64 16 (nI 1)) _ _ _
          refine g_aload_n C dX8_comma_25 rfl ?_
          refine g_dup C dX8_comma_26 rfl ?_
          refine gf_X8_place C (by rfl) dX8_comma_27 kf_RX8_174 ?_
          rw [hpS]
          refine g_aload_n C dX8_comma_30 rfl ?_
          refine gf_X8_isWrong C (by rfl) dX8_comma_31 kf_RX8_177 ?_
          rw [hwS]
          refine g_ifeqN C 41 dX8_comma_34 (by decide) (by omega) (fun h34 => ?_) (fun h34 => ?_)
          · first | exact absurd h34 (by decide) | exact absurd rfl h34
          · refine g_ic (n := 0) C dX8_comma_37 (by decide) ?_
            refine g_goto C 42 dX8_comma_38 (by decide) ?_
            refine g_iaddN C dX8_comma_42 ?_
            refine gp_X8_place C (by rfl) dX8_comma_43 kf_RX8_174 ?_
            refine g_vret C dX8_comma_46 ?_
            show _ ∧ (setF (setF σ 64 16 (nI 1)) 64 15 (nI (i + 0))).1 64 15 = _ ∧ (setF (setF σ 64 16 (nI 1)) 64 15 (nI (i + 0))).1 64 16 = _ ∧ Fk [15, 16] [] σ (setF (setF σ 64 16 (nI 1)) 64 15 (nI (i + 0)))
            refine ⟨?_, ?_, ?_, (Fk.rf.sF (by simp)).sF (by simp)⟩
            · rfl
            · unfold setF; rw [sI_self, up_i]; rfl
            · unfold setF; rw [sI_self, up_n (by decide), sI_self, up_i]; rfl
    · rw [show cmR T n false i = (false, i + 1) from by unfold cmR; rw [hd]; rfl]
      refine g_aload_n C dX8_comma_0 rfl ?_
      refine g_aload_n C dX8_comma_1 rfl ?_
      refine gf_X8_isWrong C (by rfl) dX8_comma_2 kf_RX8_177 ?_
      rw [hw]
      refine g_ifneB C 17 dX8_comma_5 (by decide) (fun h5 => ?_) (fun h5 => ?_)
      · exact absurd h5 (by decide)
      · refine g_aload_n C dX8_comma_8 rfl ?_
        refine g_callVp C (ob_X8 (by rfl)) (c_X8_here (d := d) hT hi hp) dX8_comma_9 km_RX8_181 kn_RX8 kc_yX8_here ki_yX8_here kx_yX8_here (by omega) (by decide) ⟨by decide, by decide, rfl⟩ rfl (Nat.le_of_ble_eq_true rfl) ?_
        refine g_bp C (nI 44) dX8_comma_12 (by decide) ?_
        refine g_iceq C 21 dX8_comma_14 (by decide) (fun h14 => ?_) (fun h14 => ?_)
        · refine g_ic (n := 0) C dX8_comma_21 (by decide) ?_
          refine gp_X8_isWrong C (by rfl) (by first | exact bI_01 _ | exact Or.inl rfl | exact Or.inr rfl) dX8_comma_22 kf_RX8_177 ?_
          have hpS : (setF σ 64 16 (nI 0)).1 64 15 = nI i := by unfold setF; rw [sI_self, up_n (by decide)]; exact hp
          have hwS : (setF σ 64 16 (nI 0)).1 64 16 = (nI 0) := by unfold setF; rw [sI_self, up_i]
          have hTS : TR (setF σ 64 16 (nI 0)) n T := hT.fk (Fk.rf.sF (fs := [16]) (l := []) (by simp)) (by simp) (by simp)
          show G E _ X _ _ (setF σ 64 16 (nI 0)) _ _ _
          refine g_aload_n C dX8_comma_25 rfl ?_
          refine g_dup C dX8_comma_26 rfl ?_
          refine gf_X8_place C (by rfl) dX8_comma_27 kf_RX8_174 ?_
          rw [hpS]
          refine g_aload_n C dX8_comma_30 rfl ?_
          refine gf_X8_isWrong C (by rfl) dX8_comma_31 kf_RX8_177 ?_
          rw [hwS]
          refine g_ifeqN C 41 dX8_comma_34 (by decide) (by omega) (fun h34 => ?_) (fun h34 => ?_)
          · refine g_ic (n := 1) C dX8_comma_41 (by decide) ?_
            refine g_iaddN C dX8_comma_42 ?_
            refine gp_X8_place C (by rfl) dX8_comma_43 kf_RX8_174 ?_
            refine g_vret C dX8_comma_46 ?_
            show _ ∧ (setF (setF σ 64 16 (nI 0)) 64 15 (nI (i + 1))).1 64 15 = _ ∧ (setF (setF σ 64 16 (nI 0)) 64 15 (nI (i + 1))).1 64 16 = _ ∧ Fk [15, 16] [] σ (setF (setF σ 64 16 (nI 0)) 64 15 (nI (i + 1)))
            refine ⟨?_, ?_, ?_, (Fk.rf.sF (by simp)).sF (by simp)⟩
            · rfl
            · unfold setF; rw [sI_self, up_i]
            · unfold setF; rw [sI_self, up_n (by decide), sI_self, up_i]; rfl
          · first | exact absurd h34 (by decide) | exact absurd rfl h34
        · exact absurd ((hr_sg hT.lt (by decide)).mpr hd) h14
  · rw [show cmR T n true i = (true, i) from rfl]
    refine g_aload_n C dX8_comma_0 rfl ?_
    refine g_aload_n C dX8_comma_1 rfl ?_
    refine gf_X8_isWrong C (by rfl) dX8_comma_2 kf_RX8_177 ?_
    rw [hw]
    refine g_ifneB C 17 dX8_comma_5 (by decide) (fun h5 => ?_) (fun h5 => ?_)
    · refine g_ic (n := 1) C dX8_comma_17 (by decide) ?_
      refine g_goto C 22 dX8_comma_18 (by decide) ?_
      refine gp_X8_isWrong C (by rfl) (by first | exact bI_01 _ | exact Or.inl rfl | exact Or.inr rfl) dX8_comma_22 kf_RX8_177 ?_
      have hpS : (setF σ 64 16 (nI 1)).1 64 15 = nI i := by unfold setF; rw [sI_self, up_n (by decide)]; exact hp
      have hwS : (setF σ 64 16 (nI 1)).1 64 16 = (nI 1) := by unfold setF; rw [sI_self, up_i]
      have hTS : TR (setF σ 64 16 (nI 1)) n T := hT.fk (Fk.rf.sF (fs := [16]) (l := []) (by simp)) (by simp) (by simp)
      show G E _ X _ _ (setF σ 64 16 (nI 1)) _ _ _
      refine g_aload_n C dX8_comma_25 rfl ?_
      refine g_dup C dX8_comma_26 rfl ?_
      refine gf_X8_place C (by rfl) dX8_comma_27 kf_RX8_174 ?_
      rw [hpS]
      refine g_aload_n C dX8_comma_30 rfl ?_
      refine gf_X8_isWrong C (by rfl) dX8_comma_31 kf_RX8_177 ?_
      rw [hwS]
      refine g_ifeqN C 41 dX8_comma_34 (by decide) (by omega) (fun h34 => ?_) (fun h34 => ?_)
      · first | exact absurd h34 (by decide) | exact absurd rfl h34
      · refine g_ic (n := 0) C dX8_comma_37 (by decide) ?_
        refine g_goto C 42 dX8_comma_38 (by decide) ?_
        refine g_iaddN C dX8_comma_42 ?_
        refine gp_X8_place C (by rfl) dX8_comma_43 kf_RX8_174 ?_
        refine g_vret C dX8_comma_46 ?_
        show _ ∧ (setF (setF σ 64 16 (nI 1)) 64 15 (nI (i + 0))).1 64 15 = _ ∧ (setF (setF σ 64 16 (nI 1)) 64 15 (nI (i + 0))).1 64 16 = _ ∧ Fk [15, 16] [] σ (setF (setF σ 64 16 (nI 1)) 64 15 (nI (i + 0)))
        refine ⟨?_, ?_, ?_, (Fk.rf.sF (by simp)).sF (by simp)⟩
        · rfl
        · unfold setF; rw [sI_self, up_i]; rfl
        · unfold setF; rw [sI_self, up_n (by decide), sI_self, up_i]; rfl
    · exact absurd h5 (by decide)

set_option maxHeartbeats 4000000 in
set_option maxRecDepth 100000 in
theorem c_X8_number {E : Ev} {d : Nat} {σ : St} {n i : Nat} {T : Nat → Nat} (hT : TR σ n T) (hi : i ≤ n) (hp : σ.1 64 15 = nI i) {b : Bool} (hw : σ.1 64 16 = bI b) : Con E (d + 2) yX8_number cX8_number 3 ((Option.some FieldType.int)) [.ref (ev_a E 64)] σ (fun r σ2 => r = some (.int (nmR T n b i).2.2) ∧ σ2.1 64 15 = nI ((nmR T n b i).2.1) ∧ σ2.1 64 16 = bI ((nmR T n b i).1) ∧ Fk [15, 16] [] σ σ2) := by
  refine con_of (by decide) (Nat.le_of_ble_eq_true rfl) (fun X hX C => ?_)
  have C : Cx E X cX8_number RX8 3 ((Option.some FieldType.int)) := C
  have h100 := hT.2.1
  show G E _ X _ _ _ 0 [(0, .ref (ev_a E 64))] []
  cases b
  · cases hb : sgA T n 45 i
    · have e : nmR T n false i = ((dgR T n false i).1, (dgR T n false i).2.1, (dgR T n false i).2.2) := by unfold nmR; rw [show bwR T n false i = false from by unfold bwR; rw [hb]; rfl]; rfl
      rw [e]
      refine g_aload_n C dX8_number_0 rfl ?_
      refine gf_X8_isWrong C (by rfl) dX8_number_1 kf_RX8_177 ?_
      rw [hw]
      refine g_ifneB C 20 dX8_number_4 (by decide) (fun h4 => ?_) (fun h4 => ?_)
      · exact absurd h4 (by decide)
      · refine g_aload_n C dX8_number_7 rfl ?_
        refine g_callVp C (ob_X8 (by rfl)) (c_X8_here (d := d) hT hi hp) dX8_number_8 km_RX8_181 kn_RX8 kc_yX8_here ki_yX8_here kx_yX8_here (by omega) (by decide) ⟨by decide, by decide, rfl⟩ rfl (Nat.le_of_ble_eq_true rfl) ?_
        refine g_bp C (nI 45) dX8_number_11 (by decide) ?_
        refine g_icne C 20 dX8_number_13 (by decide) (fun h13 => ?_) (fun h13 => ?_)
        · refine g_ic (n := 0) C dX8_number_20 (by decide) ?_
          refine g_istore_n C dX8_number_21 (by decide) ?_
          refine g_aload_n C dX8_number_22 rfl ?_
          refine g_dup C dX8_number_23 rfl ?_
          refine gf_X8_place C (by rfl) dX8_number_24 kf_RX8_174 ?_
          rw [hp]
          refine g_iload_n C dX8_number_27 rfl ?_
          refine g_ifeqN C 35 dX8_number_28 (by decide) (by omega) (fun h28 => ?_) (fun h28 => ?_)
          · refine g_ic (n := 0) C dX8_number_35 (by decide) ?_
            refine g_iaddN C dX8_number_36 ?_
            refine gp_X8_place C (by rfl) dX8_number_37 kf_RX8_174 ?_
            have hpS : (setF σ 64 15 (nI (i + 0))).1 64 15 = nI (i + 0) := by unfold setF; rw [sI_self, up_i]
            have hwS : (setF σ 64 15 (nI (i + 0))).1 64 16 = bI false := by unfold setF; rw [sI_self, up_n (by decide)]; exact hw
            have hTS : TR (setF σ 64 15 (nI (i + 0))) n T := hT.fk (Fk.rf.sF (fs := [15]) (l := []) (by simp)) (by simp) (by simp)
            show G E _ X _ _ (setF σ 64 15 (nI (i + 0))) _ _ _
            refine g_aload_n C dX8_number_40 rfl ?_
            refine g_callV C (ob_X8 (by rfl)) (c_X8_digit (d := d) hTS (hi) hpS hwS) dX8_number_41 km_RX8_189 kn_RX8 kc_yX8_digit ki_yX8_digit kx_yX8_digit (by omega) (by decide) ⟨by decide, by decide, rfl⟩ rfl (Nat.le_of_ble_eq_true rfl) (fun r1 σ1 q1 => ?_)
            obtain ⟨rfl, p1, w1, f1⟩ := q1
            refine g_istore_n C dX8_number_44 (by decide) ?_
            refine g_iload_n C dX8_number_45 rfl ?_
            refine g_ifeqN C 54 dX8_number_46 (by decide) (by omega) (fun h46 => ?_) (fun h46 => ?_)
            · refine g_iload_n C dX8_number_54 rfl ?_
              refine g_iret C dX8_number_55 ?_
              exact ⟨rfl, p1, w1, (Fk.rf.sF (by simp)).tr f1⟩
            · first | exact absurd h46 (by decide) | exact absurd rfl h46
          · first | exact absurd h28 (by decide) | exact absurd rfl h28
        · rw [hr_sg hT.lt (by decide), hb] at h13; exact absurd h13 (by decide)
    · have e : nmR T n false i = ((dgR T n false (i + 1)).1, (dgR T n false (i + 1)).2.1, - (dgR T n false (i + 1)).2.2) := by unfold nmR; rw [show bwR T n false i = true from by unfold bwR; rw [hb]; rfl]; rfl
      rw [e]
      refine g_aload_n C dX8_number_0 rfl ?_
      refine gf_X8_isWrong C (by rfl) dX8_number_1 kf_RX8_177 ?_
      rw [hw]
      refine g_ifneB C 20 dX8_number_4 (by decide) (fun h4 => ?_) (fun h4 => ?_)
      · exact absurd h4 (by decide)
      · refine g_aload_n C dX8_number_7 rfl ?_
        refine g_callVp C (ob_X8 (by rfl)) (c_X8_here (d := d) hT hi hp) dX8_number_8 km_RX8_181 kn_RX8 kc_yX8_here ki_yX8_here kx_yX8_here (by omega) (by decide) ⟨by decide, by decide, rfl⟩ rfl (Nat.le_of_ble_eq_true rfl) ?_
        refine g_bp C (nI 45) dX8_number_11 (by decide) ?_
        refine g_icne C 20 dX8_number_13 (by decide) (fun h13 => ?_) (fun h13 => ?_)
        · exact absurd ((hr_sg hT.lt (by decide)).mpr hb) h13
        · refine g_ic (n := 1) C dX8_number_16 (by decide) ?_
          refine g_goto C 21 dX8_number_17 (by decide) ?_
          refine g_istore_n C dX8_number_21 (by decide) ?_
          refine g_aload_n C dX8_number_22 rfl ?_
          refine g_dup C dX8_number_23 rfl ?_
          refine gf_X8_place C (by rfl) dX8_number_24 kf_RX8_174 ?_
          rw [hp]
          refine g_iload_n C dX8_number_27 rfl ?_
          refine g_ifeqN C 35 dX8_number_28 (by decide) (by omega) (fun h28 => ?_) (fun h28 => ?_)
          · first | exact absurd h28 (by decide) | exact absurd rfl h28
          · refine g_ic (n := 1) C dX8_number_31 (by decide) ?_
            refine g_goto C 36 dX8_number_32 (by decide) ?_
            refine g_iaddN C dX8_number_36 ?_
            refine gp_X8_place C (by rfl) dX8_number_37 kf_RX8_174 ?_
            have hpS : (setF σ 64 15 (nI (i + 1))).1 64 15 = nI (i + 1) := by unfold setF; rw [sI_self, up_i]
            have hwS : (setF σ 64 15 (nI (i + 1))).1 64 16 = bI false := by unfold setF; rw [sI_self, up_n (by decide)]; exact hw
            have hTS : TR (setF σ 64 15 (nI (i + 1))) n T := hT.fk (Fk.rf.sF (fs := [15]) (l := []) (by simp)) (by simp) (by simp)
            show G E _ X _ _ (setF σ 64 15 (nI (i + 1))) _ _ _
            refine g_aload_n C dX8_number_40 rfl ?_
            refine g_callV C (ob_X8 (by rfl)) (c_X8_digit (d := d) hTS (sgr_t hb) hpS hwS) dX8_number_41 km_RX8_189 kn_RX8 kc_yX8_digit ki_yX8_digit kx_yX8_digit (by omega) (by decide) ⟨by decide, by decide, rfl⟩ rfl (Nat.le_of_ble_eq_true rfl) (fun r1 σ1 q1 => ?_)
            obtain ⟨rfl, p1, w1, f1⟩ := q1
            refine g_istore_n C dX8_number_44 (by decide) ?_
            refine g_iload_n C dX8_number_45 rfl ?_
            refine g_ifeqN C 54 dX8_number_46 (by decide) (by omega) (fun h46 => ?_) (fun h46 => ?_)
            · first | exact absurd h46 (by decide) | exact absurd rfl h46
            · refine g_iload_n C dX8_number_49 rfl ?_
              refine g_ineg C dX8_number_50 ?_
              refine g_goto C 55 dX8_number_51 (by decide) ?_
              refine g_iret C dX8_number_55 ?_
              exact ⟨rfl, p1, w1, (Fk.rf.sF (by simp)).tr f1⟩
  · have e : nmR T n true i = ((dgR T n true i).1, (dgR T n true i).2.1, (dgR T n true i).2.2) := by unfold nmR; rw [show bwR T n true i = false from rfl]; rfl
    rw [e]
    refine g_aload_n C dX8_number_0 rfl ?_
    refine gf_X8_isWrong C (by rfl) dX8_number_1 kf_RX8_177 ?_
    rw [hw]
    refine g_ifneB C 20 dX8_number_4 (by decide) (fun h4 => ?_) (fun h4 => ?_)
    · refine g_ic (n := 0) C dX8_number_20 (by decide) ?_
      refine g_istore_n C dX8_number_21 (by decide) ?_
      refine g_aload_n C dX8_number_22 rfl ?_
      refine g_dup C dX8_number_23 rfl ?_
      refine gf_X8_place C (by rfl) dX8_number_24 kf_RX8_174 ?_
      rw [hp]
      refine g_iload_n C dX8_number_27 rfl ?_
      refine g_ifeqN C 35 dX8_number_28 (by decide) (by omega) (fun h28 => ?_) (fun h28 => ?_)
      · refine g_ic (n := 0) C dX8_number_35 (by decide) ?_
        refine g_iaddN C dX8_number_36 ?_
        refine gp_X8_place C (by rfl) dX8_number_37 kf_RX8_174 ?_
        have hpS : (setF σ 64 15 (nI (i + 0))).1 64 15 = nI (i + 0) := by unfold setF; rw [sI_self, up_i]
        have hwS : (setF σ 64 15 (nI (i + 0))).1 64 16 = bI true := by unfold setF; rw [sI_self, up_n (by decide)]; exact hw
        have hTS : TR (setF σ 64 15 (nI (i + 0))) n T := hT.fk (Fk.rf.sF (fs := [15]) (l := []) (by simp)) (by simp) (by simp)
        show G E _ X _ _ (setF σ 64 15 (nI (i + 0))) _ _ _
        refine g_aload_n C dX8_number_40 rfl ?_
        refine g_callV C (ob_X8 (by rfl)) (c_X8_digit (d := d) hTS (hi) hpS hwS) dX8_number_41 km_RX8_189 kn_RX8 kc_yX8_digit ki_yX8_digit kx_yX8_digit (by omega) (by decide) ⟨by decide, by decide, rfl⟩ rfl (Nat.le_of_ble_eq_true rfl) (fun r1 σ1 q1 => ?_)
        obtain ⟨rfl, p1, w1, f1⟩ := q1
        refine g_istore_n C dX8_number_44 (by decide) ?_
        refine g_iload_n C dX8_number_45 rfl ?_
        refine g_ifeqN C 54 dX8_number_46 (by decide) (by omega) (fun h46 => ?_) (fun h46 => ?_)
        · refine g_iload_n C dX8_number_54 rfl ?_
          refine g_iret C dX8_number_55 ?_
          exact ⟨rfl, p1, w1, (Fk.rf.sF (by simp)).tr f1⟩
        · first | exact absurd h46 (by decide) | exact absurd rfl h46
      · first | exact absurd h28 (by decide) | exact absurd rfl h28
    · exact absurd h4 (by decide)

set_option maxHeartbeats 4000000 in
set_option maxRecDepth 100000 in
theorem s_X8_clause {E : Ev} {d : Nat} {X : Mx} (C : Cx E X cX8_clause RX8 4 ((Option.none : Option FieldType))) {R : Option Value → St → Prop} {σ : St} {n i c k : Nat} {T : Nat → Nat} {b : Bool} (hT : TR σ n T) (hi : i ≤ n) (hp : σ.1 64 15 = nI i) (hw : σ.1 64 16 = bI b) (hc : c < 12) (hk : k < 3) (KK : ∀ σ2, σ2.1 64 15 = nI (xR T n b i).2 → σ2.1 64 16 = bI (xR T n b i).1 → σ2.1 75 = upd (σ.1 75) (5 * c + 1 + k) (nmR T n b i).2.2 → Fk [15, 16] [75] σ σ2 → G E (d + 3) X 4 R σ2 61 ([(0, .ref (ev_a E 64)), (1, .int (nI 112)), (2, .int (nI (5 * c))), (3, .int (nI (k + 1)))]) []) : G E (d + 3) X 4 R σ 61 ([(0, .ref (ev_a E 64)), (1, .int (nI 112)), (2, .int (nI (5 * c))), (3, .int (nI k))]) [] := by
  have h100 := hT.2.1
  refine g_iload_n C dX8_clause_61 rfl ?_
  refine g_ic (n := 3) C dX8_clause_62 (by decide) ?_
  refine g_icgeN C 90 dX8_clause_63 (by decide) (by omega) (by omega) (fun h63 => ?_) (fun h63 => ?_)
  · omega
  · refine g_aload_n C dX8_clause_66 rfl ?_
    refine gf_X8_told C (by rfl) dX8_clause_67 kf_RX8_43 ?_
    refine g_iload_n C dX8_clause_70 rfl ?_
    refine g_ic (n := 1) C dX8_clause_71 (by decide) ?_
    refine g_iaddN C dX8_clause_72 ?_
    refine g_iload_n C dX8_clause_73 rfl ?_
    refine g_iaddN C dX8_clause_74 ?_
    refine g_aload_n C dX8_clause_75 rfl ?_
    refine g_callV C (ob_X8 (by rfl)) (c_X8_number (d := d) hT hi hp hw) dX8_clause_76 km_RX8_195 kn_RX8 kc_yX8_number ki_yX8_number kx_yX8_number (by omega) (by decide) ⟨by decide, by decide, rfl⟩ rfl (Nat.le_of_ble_eq_true rfl) (fun r1 σ1 q1 => ?_)
    obtain ⟨rfl, p1, w1, f1⟩ := q1
    refine g_iastN C (by rfl) (by omega) (by first | decide | omega) dX8_clause_79 ?_
    refine g_aload_n C dX8_clause_80 rfl ?_
    refine g_callV C (ob_X8 (by rfl)) (c_X8_comma (d := d) ((hT.fk f1 (by simp) (by simp)).fk (Fk.rf.sI (fs := []) (l := [75]) (by simp) (by decide)) (by simp) (by simp)) (nmR_le hi) ((by rw [sI_ne (by decide)]; exact p1)) ((by rw [sI_ne (by decide)]; exact w1))) dX8_clause_81 km_RX8_198 kn_RX8 kc_yX8_comma ki_yX8_comma kx_yX8_comma (by omega) (by decide) ⟨by decide, by decide, rfl⟩ rfl (Nat.le_of_ble_eq_true rfl) (fun r2 σ2 q2 => ?_)
    obtain ⟨rfl, p2, w2, f2⟩ := q2
    refine g_iinc1 C dX8_clause_84 rfl (by decide) ?_
    refine g_goto C 61 dX8_clause_87 (by decide) ?_
    refine g_loc ([(0, .ref (ev_a E 64)), (1, .int (nI 112)), (2, .int (nI (5 * c))), (3, .int (nI (k + 1)))]) (And.intro rfl (And.intro rfl (And.intro rfl (And.intro rfl trivial)))) ?_
    exact KK σ2 p2 w2 (by rw [(f2.1 75 (by simp)).1, sI_self, (f1.1 75 (by simp)).1]) (((f1.mono (by simp) (by simp)).tr (Fk.rf.sI (by simp) (by decide))).tr (f2.mono (by simp) (by simp)))

/-- what stands behind a clause: its end, or its fault -/
def ClE (σ σ' : St) (T : Nat → Nat) (n i c : Nat) : Prop := σ'.1 64 15 = nI (clV T n i).2.1 ∧ σ'.1 64 16 = bI (!(clV T n i).1) ∧ ((clV T n i).1 = true → σ'.1 64 18 = nI (c + 1) ∧ WC (σ'.1 75) (5 * c) (clV T n i).2.2) ∧ (∀ q, q < 5 * c → σ'.1 75 q = σ.1 75 q) ∧ Fk [15, 16, 18] [75] σ σ'
theorem b_ne {b : Bool} (h : ¬ b = true) : b = false := by cases b; rfl; exact absurd rfl h
theorem clD_le {T : Nat → Nat} {n i : Nat} (h : i ≤ n) : (clD T n i).2.1 ≤ n := by rw [← dgR_d.2.1]; exact dgR_le h
theorem clA_le {T : Nat → Nat} {n i : Nat} (h : i ≤ n) : (clA T n i).2.1 ≤ n := by rw [← xR_a.2.1]; exact xR_le h
/-- the reference's way through a clause p is the system's -/
theorem p_way {T : Nat → Nat} {n i : Nat} (h : sgA T n 112 i = true) :
    (dgR T n (xR T n (xR T n (xR T n false (i + 1)).1 (xR T n false (i + 1)).2).1 (xR T n (xR T n false (i + 1)).1 (xR T n false (i + 1)).2).2).1 (xR T n (xR T n (xR T n false (i + 1)).1 (xR T n false (i + 1)).2).1 (xR T n (xR T n false (i + 1)).1 (xR T n false (i + 1)).2).2).2).1 = !(clV T n i).1 ∧
    (dgR T n (xR T n (xR T n (xR T n false (i + 1)).1 (xR T n false (i + 1)).2).1 (xR T n (xR T n false (i + 1)).1 (xR T n false (i + 1)).2).2).1 (xR T n (xR T n (xR T n false (i + 1)).1 (xR T n false (i + 1)).2).1 (xR T n (xR T n false (i + 1)).1 (xR T n false (i + 1)).2).2).2).2.1 = (clV T n i).2.1 ∧
    ((clV T n i).1 = true → (clV T n i).2.2 = (nI 112, (nmR T n false (i + 1)).2.2, (nmR T n (xR T n false (i + 1)).1 (xR T n false (i + 1)).2).2.2, (nmR T n (xR T n (xR T n false (i + 1)).1 (xR T n false (i + 1)).2).1 (xR T n (xR T n false (i + 1)).1 (xR T n false (i + 1)).2).2).2.2, (dgR T n (xR T n (xR T n (xR T n false (i + 1)).1 (xR T n false (i + 1)).2).1 (xR T n (xR T n false (i + 1)).1 (xR T n false (i + 1)).2).2).1 (xR T n (xR T n (xR T n false (i + 1)).1 (xR T n false (i + 1)).2).1 (xR T n (xR T n false (i + 1)).1 (xR T n false (i + 1)).2).2).2).2.2)) := by
  unfold clV
  rw [if_pos h]
  obtain ⟨a1, a2, a3⟩ := xR_a (T := T) (n := n) (i := i + 1)
  rw [a1, a2]
  cases e1 : (clA T n (i + 1)).1
  · simp only [Bool.not_false, xR_w, dgR_w, Bool.false_eq_true, if_false]
    exact ⟨trivial, trivial, fun q => absurd q (by decide)⟩
  · simp only [Bool.not_true, if_true]
    rw [a3 e1]
    obtain ⟨b1, b2, b3⟩ := xR_a (T := T) (n := n) (i := (clA T n (i + 1)).2.1)
    rw [b1, b2]
    cases e2 : (clA T n (clA T n (i + 1)).2.1).1
    · simp only [Bool.not_false, xR_w, dgR_w, Bool.false_eq_true, if_false]
      exact ⟨trivial, trivial, fun q => absurd q (by decide)⟩
    · simp only [Bool.not_true, if_true]
      rw [b3 e2]
      obtain ⟨c1, c2, c3⟩ := xR_a (T := T) (n := n) (i := (clA T n (clA T n (i + 1)).2.1).2.1)
      rw [c1, c2]
      cases e3 : (clA T n (clA T n (clA T n (i + 1)).2.1).2.1).1
      · simp only [Bool.not_false, dgR_w, Bool.false_eq_true, if_false]
        exact ⟨trivial, trivial, fun q => absurd q (by decide)⟩
      · simp only [Bool.not_true, if_true]
        rw [c3 e3]
        obtain ⟨d1, d2, d3⟩ := dgR_d (T := T) (n := n) (i := (clA T n (clA T n (clA T n (i + 1)).2.1).2.1).2.1)
        exact ⟨d1, d2, fun q => by rw [d3 q]⟩
theorem m_way {T : Nat → Nat} {n i : Nat} (h0 : sgA T n 112 i = false) (h : sgA T n 109 i = true) :
    (dgR T n (dgR T n false (i + 1)).1 (dgR T n false (i + 1)).2.1).1 = !(clV T n i).1 ∧ (dgR T n (dgR T n false (i + 1)).1 (dgR T n false (i + 1)).2.1).2.1 = (clV T n i).2.1 ∧
    ((clV T n i).1 = true → (clV T n i).2.2 = (nI 109, (dgR T n false (i + 1)).2.2, (dgR T n (dgR T n false (i + 1)).1 (dgR T n false (i + 1)).2.1).2.2, 0, 0)) := by
  unfold clV
  rw [if_neg (by rw [h0]; decide), if_pos h]
  obtain ⟨a1, a2, a3⟩ := dgR_d (T := T) (n := n) (i := i + 1)
  rw [a1, a2]
  cases e1 : (clD T n (i + 1)).1
  · simp only [Bool.not_false, dgR_w, Bool.false_eq_true, if_false]
    exact ⟨trivial, trivial, fun q => absurd q (by decide)⟩
  · simp only [Bool.not_true, if_true]
    rw [a3 e1]
    obtain ⟨d1, d2, d3⟩ := dgR_d (T := T) (n := n) (i := (clD T n (i + 1)).2.1)
    exact ⟨d1, d2, fun q => by rw [d3 q]⟩
theorem d_way {T : Nat → Nat} {n i : Nat} (h0 : sgA T n 112 i = false) (h1 : sgA T n 109 i = false) (h : sgA T n 100 i = true) :
    (dgR T n false (i + 1)).1 = !(clV T n i).1 ∧ (dgR T n false (i + 1)).2.1 = (clV T n i).2.1 ∧ ((clV T n i).1 = true → (clV T n i).2.2 = (nI 100, (dgR T n false (i + 1)).2.2, 0, 0, 0)) := by
  unfold clV
  rw [if_neg (by rw [h0]; decide), if_neg (by rw [h1]; decide), if_pos h]
  obtain ⟨d1, d2, d3⟩ := dgR_d (T := T) (n := n) (i := i + 1)
  exact ⟨d1, d2, fun q => by rw [d3 q]⟩
theorem n_way {T : Nat → Nat} {n i : Nat} (h0 : sgA T n 112 i = false) (h1 : sgA T n 109 i = false) (h : sgA T n 100 i = false) : clV T n i = (false, i, 0, 0, 0, 0, 0) := by
  unfold clV
  rw [if_neg (by rw [h0]; decide), if_neg (by rw [h1]; decide), if_neg (by rw [h]; decide)]

