/-! THE REFERENCE's text by its places (String.charAt), and its functions of moves alone -/
section RJ
variable {E : Ev} {d : Nat} {X : Mx} {cc : ByteArray} {own : String} {nL : Nat} {ret : Option FieldType} {R : Option Value → St → Prop} {σ : St} {pc : Nat} {L : List (Nat × Value)} {st : List Value}
theorem g_ldcS (C : Cx E X cc RX8 nL ret) (hdg : decode cc pc = .ok (.ldc 62, 2)) (k : G E d X nL R σ (pc + 2) L (.ref (ev_s E 3) :: st)) : G E d X nL R σ pc L st :=
  fun H locs ls hP hS hl => va_ldcS C.1 C.2.1 C.2.2.2.2.2.1 C.2.2.2.2.2.2.2.2.1.2.2.2.2.2.2.2.2.1 hdg (k H locs ls hP hS hl)
theorem g_gsC (C : Cx E X cc RJ0 nL ret) (hdg : decode cc pc = .ok (.getstatic 38, 3)) (kk : G E d X nL R σ (pc + 3) L (.int 1 :: st)) : G E d X nL R σ pc L st :=
  fun H locs ls hP hS hlv => va_gets C.1 C.2.1 C.2.2.2.2.2.2.2.2.1.2.2.2.2.2.2.1 hS C.2.2.2.2.2.1 (C.2.2.2.2.2.2.1 _ (mg kf_RJ0_38 rfl)) (fun _ h => h) hdg (kk H locs ls hP hS hlv)
theorem g_gsF (C : Cx E X cc RJ0 nL ret) (hdg : decode cc pc = .ok (.getstatic 1053, 3)) (kk : ∀ v : Value, (v = .null ∨ ∃ t, v = .ref t) → G E d X nL R σ (pc + 3) L (v :: st)) : G E d X nL R σ pc L st := by
  intro H locs ls hP hS hlv
  rcases C.2.2.2.2.2.2.2.2.1.2.2.2.2.2.2.2.2.2.1 with h | ⟨t, h⟩
  · exact va_gets C.1 C.2.1 h hS C.2.2.2.2.2.1 (C.2.2.2.2.2.2.1 _ (mg kf_RJ0_1053 rfl)) (fun _ h => h) hdg (kk _ (Or.inl rfl) H locs ls hP hS hlv)
  · exact va_gets C.1 C.2.1 h hS C.2.2.2.2.2.1 (C.2.2.2.2.2.2.1 _ (mg kf_RJ0_1053 rfl)) (fun _ h => h) hdg (kk _ (Or.inr ⟨t, rfl⟩) H locs ls hP hS hlv)
theorem g_sgc (C : Cx E X cc RJ0 nL ret) (hdg : decode cc pc = .ok (.getfield 15, 3)) (kk : G E d X nL R σ (pc + 3) L (.int 0 :: st)) : G E d X nL R σ pc L (.ref (ev_s E 3) :: st) :=
  fun H locs ls hP hS hlv => vk_getf C.1 C.2.1 (C.2.2.2.2.2.2.2.2.1.2.2.2.2.2.2.2.1.1 0 (by decide)).2.1 hS C.2.2.2.2.2.1 (C.2.2.2.2.2.2.1 _ (mg kf_RJ0_15 rfl)) (fun _ h => h) hdg (kk H locs ls hP hS hlv)
theorem g_sgv (C : Cx E X cc RJ0 nL ret) (hdg : decode cc pc = .ok (.getfield 9, 3)) (kk : G E d X nL R σ (pc + 3) L (.ref (ev_s E 4) :: st)) : G E d X nL R σ pc L (.ref (ev_s E 3) :: st) :=
  fun H locs ls hP hS hlv => vk_getf C.1 C.2.1 (C.2.2.2.2.2.2.2.2.1.2.2.2.2.2.2.2.1.1 0 (by decide)).2.2.1 hS C.2.2.2.2.2.1 (C.2.2.2.2.2.2.1 _ (mg kf_RJ0_9 rfl)) (fun _ h => h) hdg (kk H locs ls hP hS hlv)
theorem g_slen (C : Cx E X cc own nL ret) (hdg : decode cc pc = .ok (.arraylength, 1)) (kk : G E d X nL R σ (pc + 1) L (.int (nI 18) :: st)) : G E d X nL R σ pc L (.ref (ev_s E 4) :: st) :=
  fun H locs ls hP hS hlv => va_tlen C.1 C.2.1 (C.2.2.2.2.2.2.2.2.1.2.2.2.2.2.2.2.1.1 0 (by decide)).2.2.2 hS (v := nI 18) rfl hdg (kk H locs ls hP hS hlv)
theorem g_sbald (C : Cx E X cc own nL ret) {j : Nat} (hj : j < 18) (hdg : decode cc pc = .ok (.baload, 1)) (kk : G E d X nL R σ (pc + 1) L (.int (jw_TEXT.getD j 0) :: st)) : G E d X nL R σ pc L (.int (nI j) :: .ref (ev_s E 4) :: st) :=
  fun H locs ls hP hS hlv => va_tb C.1 C.2.1 (C.2.2.2.2.2.2.2.2.1.2.2.2.2.2.2.2.1.1 0 (by decide)).2.2.2 hS (vp_in_nI hj (by decide)) (by rw [nI_clamp (Nat.lt_trans hj (by decide))]; rfl) hdg (kk H locs ls hP hS hlv)
theorem g_callK {y : MethodName} {bytes : ByteArray} {maxL d1 ix : Nat} {ret1 : Option FieldType} {av stk : List Value} {v : Value} {σ1 : St} (C : Cx E X cc own nL ret) (hK : y.cls = "java/lang/String") (hM : Con E d1 y bytes maxL ret1 (.ref (ev_s E 3) :: av) σ (Det (some v) σ1)) (hdg : decode cc pc = .ok (.invokevirtual ix, 3)) (hl : Cond.methodLink own ix y ∈ lw_tbl) (hn : Cond.initialized y.cls ∈ lw_tbl) (hc : Cond.code y bytes maxL ret1 ∈ lw_tbl) (hi : Cond.instanceMethod y ∈ lw_tbl) (hx : Cond.selects y.cls y y ∈ lw_tbl) (hd : d1 + 1 ≤ d) (hm : maxL ≤ 19) (hy : y.cls ≠ "java/lang/invoke/MethodHandle" ∧ y.cls ≠ "java/lang/invoke/VarHandle" ∧ (parseMethodDescriptor y.desc).map (fun d => d.parameters.length) = some av.length) (hst : stk = av.reverse ++ (.ref (ev_s E 3) :: st)) (hr : (st.map fun v => v.category).sum ≤ 8) (kk : G E d X nL R σ1 (pc + 3) L (v :: st)) : G E d X nL R σ pc L stk := by
  intro H locs ls hP hS hlv
  refine run_go hS hlv (va_runV (C := y.cls) ⟨C.1, C.2.1, C.2.2.2.2.1, C.2.2.2.2.2.1, C.2.2.2.2.2.2.1⟩ hM ⟨(callB_of av.length C.2.2.2.2.2.2.1 (ws_in hc) rfl rfl rfl (C.2.2.2.2.2.2.1 _ (mg hn rfl)) (C.2.2.2.2.2.2.1 _ (mg hl rfl)) hy ⟨hd, by show 8 + (maxL + 11) + 38 * d1 ≤ 38 * d; omega⟩), C.2.2.2.2.2.2.1 _ (mg hi rfl), C.2.2.2.2.2.2.1 _ (mg hx rfl)⟩ ⟨pc_blind, by rw [hK]; exact vk_recv (i := 0) C.2.2.2.2.2.2.2.2.1.2.2.2.2.2.2.2.1 (by decide) hS, fun U hU hW => ⟨rfl, by rw [hU]; exact hP, Sx.go C.2.2.2.2.2.2.2 hS hW hU⟩⟩ rfl rfl hlv.1 hst (lv_room hr) hdg ⟨Nat.zero_le _, Nat.zero_le _⟩) (fun r s h => ?_)
  obtain ⟨h1, h2⟩ := h
  subst h1
  subst h2
  exact kk
end RJ
theorem x_chr : ∀ i, i < 18 → ((jw_TEXT.getD i 0 &&& 255).toUInt32 % 65536).toInt32 = jw_TEXT.getD i 0 ∧ narrow .char (.int (jw_TEXT.getD i 0)) = .int (jw_TEXT.getD i 0) := by decide +kernel

set_option maxHeartbeats 4000000 in
set_option maxRecDepth 100000 in
theorem c_J3_checkn {E : Ev} {d : Nat} {σ : St} {i : Nat} (hi : i < 18) : Con E (d) yJ3_checkIndex_8e157 cJ3_checkIndex_8e157 3 ((Option.some FieldType.int)) [.int (nI i), .int (nI 18), .null] σ (Det (some (.int (nI i))) σ) := by
  refine con_of (by decide) (Nat.le_of_ble_eq_true rfl) (fun X hX C => ?_)
  have C : Cx E X cJ3_checkIndex_8e157 RJ3 3 ((Option.some FieldType.int)) := C
  show G E _ X _ _ _ 0 [(0, .int (nI i)), (1, .int (nI 18)), (2, .null)] []
  refine g_iload_n C dJ3_checkIndex_8e157_0 rfl ?_
  refine g_iflt C 9 dJ3_checkIndex_8e157_1 (by decide) (fun h1 => ?_) (fun h1 => ?_)
  · exact absurd h1 (nI_pos (by omega))
  · refine g_iload_n C dJ3_checkIndex_8e157_4 rfl ?_
    refine g_iload_n C dJ3_checkIndex_8e157_5 rfl ?_
    refine g_icltN C 16 dJ3_checkIndex_8e157_6 (by decide) (by omega) (by omega) (fun h6 => ?_) (fun h6 => ?_)
    · refine g_iload_n C dJ3_checkIndex_8e157_16 rfl ?_
      refine g_iret C dJ3_checkIndex_8e157_17 ?_
      exact ⟨congrArg (fun v => some (Value.int v)) (rfl), rfl⟩
    · exact absurd h6 (by omega)

set_option maxHeartbeats 4000000 in
set_option maxRecDepth 100000 in
theorem c_J3_checkr {E : Ev} {d : Nat} {σ : St} {i : Nat} (hi : i < 18) {t : Nat} : Con E (d) yJ3_checkIndex_8e157 cJ3_checkIndex_8e157 3 ((Option.some FieldType.int)) [.int (nI i), .int (nI 18), .ref t] σ (Det (some (.int (nI i))) σ) := by
  refine con_of (by decide) (Nat.le_of_ble_eq_true rfl) (fun X hX C => ?_)
  have C : Cx E X cJ3_checkIndex_8e157 RJ3 3 ((Option.some FieldType.int)) := C
  show G E _ X _ _ _ 0 [(0, .int (nI i)), (1, .int (nI 18)), (2, .ref t)] []
  refine g_iload_n C dJ3_checkIndex_8e157_0 rfl ?_
  refine g_iflt C 9 dJ3_checkIndex_8e157_1 (by decide) (fun h1 => ?_) (fun h1 => ?_)
  · exact absurd h1 (nI_pos (by omega))
  · refine g_iload_n C dJ3_checkIndex_8e157_4 rfl ?_
    refine g_iload_n C dJ3_checkIndex_8e157_5 rfl ?_
    refine g_icltN C 16 dJ3_checkIndex_8e157_6 (by decide) (by omega) (by omega) (fun h6 => ?_) (fun h6 => ?_)
    · refine g_iload_n C dJ3_checkIndex_8e157_16 rfl ?_
      refine g_iret C dJ3_checkIndex_8e157_17 ?_
      exact ⟨congrArg (fun v => some (Value.int v)) (rfl), rfl⟩
    · exact absurd h6 (by omega)

theorem c_J3_check {E : Ev} {d : Nat} {σ : St} {i : Nat} (hi : i < 18) {v : Value} (hv : v = .null ∨ ∃ t, v = .ref t) : Con E d yJ3_checkIndex_8e157 cJ3_checkIndex_8e157 3 (Option.some FieldType.int) [.int (nI i), .int (nI 18), v] σ (Det (some (.int (nI i))) σ) := by
  rcases hv with rfl | ⟨t, rfl⟩
  · exact c_J3_checkn hi
  · exact c_J3_checkr hi

set_option maxHeartbeats 4000000 in
set_option maxRecDepth 100000 in
theorem c_J0_check {E : Ev} {d : Nat} {σ : St} {i : Nat} (hi : i < 18) : Con E (d + 1) yJ0_checkIndex_df160 cJ0_checkIndex_df160 2 ((Option.none : Option FieldType)) [.int (nI i), .int (nI 18)] σ (Det none σ) := by
  refine con_of (by decide) (Nat.le_of_ble_eq_true rfl) (fun X hX C => ?_)
  have C : Cx E X cJ0_checkIndex_df160 RJ0 2 ((Option.none : Option FieldType)) := C
  show G E _ X _ _ _ 0 [(0, .int (nI i)), (1, .int (nI 18))] []
  refine g_iload_n C dJ0_checkIndex_df160_0 rfl ?_
  refine g_iload_n C dJ0_checkIndex_df160_1 rfl ?_
  refine g_gsF C dJ0_checkIndex_df160_2 (fun v hv => ?_)
  refine g_callSp C (c_J3_check (d := d) hi hv) dJ0_checkIndex_df160_5 km_RJ0_1059 kn_RJ3 kc_yJ3_checkIndex_8e157 ks_yJ3_checkIndex_8e157 (by omega) (by decide) ⟨by decide, by decide, rfl⟩ rfl (Nat.le_of_ble_eq_true rfl) ?_
  refine g_pop1 C dJ0_checkIndex_df160_8 ?_
  refine g_vret C dJ0_checkIndex_df160_9 ?_
  exact ⟨rfl, rfl⟩

set_option maxHeartbeats 4000000 in
set_option maxRecDepth 100000 in
theorem c_J1_charAt {E : Ev} {d : Nat} {σ : St} {i : Nat} (hi : i < 18) : Con E (d + 2) yJ1_charAt_3b067 cJ1_charAt_3b067 2 ((Option.some FieldType.char)) [.ref (ev_s E 4), .int (nI i)] σ (Det (some (.int (jw_TEXT.getD i 0))) σ) := by
  refine con_of (by decide) (Nat.le_of_ble_eq_true rfl) (fun X hX C => ?_)
  have C : Cx E X cJ1_charAt_3b067 RJ1 2 ((Option.some FieldType.char)) := C
  show G E _ X _ _ _ 0 [(0, .ref (ev_s E 4)), (1, .int (nI i))] []
  refine g_iload_n C dJ1_charAt_3b067_0 rfl ?_
  refine g_aload_n C dJ1_charAt_3b067_1 rfl ?_
  refine g_slen C dJ1_charAt_3b067_2 ?_
  refine g_callSu C (c_J0_check (d := d) hi) dJ1_charAt_3b067_3 km_RJ1_9 kn_RJ0 kc_yJ0_checkIndex_df160 ks_yJ0_checkIndex_df160 (by omega) (by decide) ⟨by decide, by decide, rfl⟩ rfl (Nat.le_of_ble_eq_true rfl) ?_
  refine g_aload_n C dJ1_charAt_3b067_6 rfl ?_
  refine g_iload_n C dJ1_charAt_3b067_7 rfl ?_
  refine g_sbald C hi dJ1_charAt_3b067_8 ?_
  refine g_sp C (nI 255) dJ1_charAt_3b067_9 (by decide) ?_
  refine g_iand C dJ1_charAt_3b067_12 ?_
  refine g_i2c C _ dJ1_charAt_3b067_13 (x_chr i hi).1 ?_
  refine g_cret C ((x_chr i hi).2) dJ1_charAt_3b067_14 ?_
  exact ⟨rfl, rfl⟩

set_option maxHeartbeats 4000000 in
set_option maxRecDepth 100000 in
theorem c_J0_isLatin1 {E : Ev} {d : Nat} {σ : St}  : Con E (d) yJ0_isLatin1_aae02 cJ0_isLatin1_aae02 1 ((Option.some FieldType.boolean)) [.ref (ev_s E 3)] σ (Det (some (.int (nI 1))) σ) := by
  refine con_of (by decide) (Nat.le_of_ble_eq_true rfl) (fun X hX C => ?_)
  have C : Cx E X cJ0_isLatin1_aae02 RJ0 1 ((Option.some FieldType.boolean)) := C
  show G E _ X _ _ _ 0 [(0, .ref (ev_s E 3))] []
  refine g_gsC C dJ0_isLatin1_aae02_0 ?_
  refine g_ifeq C 17 dJ0_isLatin1_aae02_3 (by decide) (fun h3 => ?_) (fun h3 => ?_)
  · exact absurd h3 (by decide)
  · refine g_aload_n C dJ0_isLatin1_aae02_6 rfl ?_
    refine g_sgc C dJ0_isLatin1_aae02_7 ?_
    refine g_ifne C 17 dJ0_isLatin1_aae02_10 (by decide) (fun h10 => ?_) (fun h10 => ?_)
    · exact absurd rfl h10
    · refine g_ic (n := 1) C dJ0_isLatin1_aae02_13 (by decide) ?_
      refine g_goto C 18 dJ0_isLatin1_aae02_14 (by decide) ?_
      refine g_zret C (by first | exact bI_01 _ | exact Or.inl rfl | exact Or.inr rfl) dJ0_isLatin1_aae02_18 ?_
      exact ⟨rfl, rfl⟩

set_option maxHeartbeats 4000000 in
set_option maxRecDepth 100000 in
theorem c_J0_charAt {E : Ev} {d : Nat} {σ : St} {i : Nat} (hi : i < 18) : Con E (d + 3) yJ0_charAt_5068e cJ0_charAt_5068e 2 ((Option.some FieldType.char)) [.ref (ev_s E 3), .int (nI i)] σ (Det (some (.int (jw_TEXT.getD i 0))) σ) := by
  refine con_of (by decide) (Nat.le_of_ble_eq_true rfl) (fun X hX C => ?_)
  have C : Cx E X cJ0_charAt_5068e RJ0 2 ((Option.some FieldType.char)) := C
  show G E _ X _ _ _ 0 [(0, .ref (ev_s E 3)), (1, .int (nI i))] []
  refine g_aload_n C dJ0_charAt_5068e_0 rfl ?_
  refine g_callK C rfl (c_J0_isLatin1 (d := d) ) dJ0_charAt_5068e_1 km_RJ0_492 kn_RJ0 kc_yJ0_isLatin1_aae02 ki_yJ0_isLatin1_aae02 kx_yJ0_isLatin1_aae02 (by omega) (by decide) ⟨by decide, by decide, rfl⟩ rfl (Nat.le_of_ble_eq_true rfl) ?_
  refine g_ifeq C 16 dJ0_charAt_5068e_4 (by decide) (fun h4 => ?_) (fun h4 => ?_)
  · exact absurd h4 (by decide)
  · refine g_aload_n C dJ0_charAt_5068e_7 rfl ?_
    refine g_sgv C dJ0_charAt_5068e_8 ?_
    refine g_iload_n C dJ0_charAt_5068e_11 rfl ?_
    refine g_callSp C (c_J1_charAt (d := d) hi) dJ0_charAt_5068e_12 km_RJ0_495 kn_RJ1 kc_yJ1_charAt_3b067 ks_yJ1_charAt_3b067 (by omega) (by decide) ⟨by decide, by decide, rfl⟩ rfl (Nat.le_of_ble_eq_true rfl) ?_
    refine g_cret C ((x_chr i hi).2) dJ0_charAt_5068e_15 ?_
    exact ⟨rfl, rfl⟩

theorem lgc_lt (v w : Int64) : lg_cmp v w < 0 ↔ v < w := by
  unfold lg_cmp
  by_cases h1 : v > w
  · rw [if_pos h1]
    refine ⟨fun q => absurd q (by decide), fun q => ?_⟩
    have a := Int64.lt_iff_toInt_lt.mp h1
    have b := Int64.lt_iff_toInt_lt.mp q
    omega
  · rw [if_neg h1]
    by_cases h2 : v = w
    · rw [if_pos h2]
      refine ⟨fun q => absurd q (by decide), fun q => ?_⟩
      have b := Int64.lt_iff_toInt_lt.mp q
      rw [h2] at b
      omega
    · rw [if_neg h2]
      refine ⟨fun _ => ?_, fun _ => by decide⟩
      have a : ¬ w.toInt < v.toInt := fun q => h1 (Int64.lt_iff_toInt_lt.mpr q)
      have b : ¬ v.toInt = w.toInt := fun q => h2 (Int64.toInt_inj.mp q)
      exact Int64.lt_iff_toInt_lt.mpr (by omega)
theorem lgc_gt (v w : Int64) : 0 < lg_cmp v w ↔ w < v := by
  unfold lg_cmp
  by_cases h1 : v > w
  · rw [if_pos h1]
    exact ⟨fun _ => h1, fun _ => by decide⟩
  · rw [if_neg h1]
    by_cases h2 : v = w
    · rw [if_pos h2]
      exact ⟨fun q => absurd q (by decide), fun q => absurd q h1⟩
    · rw [if_neg h2]
      exact ⟨fun q => absurd q (by decide), fun q => absurd q h1⟩
theorem x64 (x : Int32) : x.toInt64.toInt = x.toInt := Int32.toInt_toInt64 x

set_option maxHeartbeats 4000000 in
set_option maxRecDepth 100000 in
theorem c_X8_in {E : Ev} {d : Nat} {σ : St} {x : Int32} {a b : Int64} (lo hi : Int) (ha : a.toInt = lo) (hb : b.toInt = hi) : Con E (d) yX8_in cX8_in 6 ((Option.some FieldType.boolean)) [.long x.toInt64, .long a, .long b] σ (Det (some (.int (bI (inB x lo hi)))) σ) := by
  refine con_of (by decide) (Nat.le_of_ble_eq_true rfl) (fun X hX C => ?_)
  have C : Cx E X cX8_in RX8 6 ((Option.some FieldType.boolean)) := C
  show G E _ X _ _ _ 0 [(0, .long x.toInt64), (2, .long a), (4, .long b)] []
  refine g_lload_n C dX8_in_0 rfl ?_
  refine g_lload_n C dX8_in_1 rfl ?_
  refine g_lcmp C dX8_in_2 ?_
  refine g_iflt C 17 dX8_in_3 (by decide) (fun h3 => ?_) (fun h3 => ?_)
  · have e3 : ¬ (lo ≤ x.toInt ∧ x.toInt ≤ hi) := by have q := Int64.lt_iff_toInt_lt.mp ((lgc_lt _ _).mp h3); rw [x64, ha] at q; omega
    refine g_ic (n := 0) C dX8_in_17 (by decide) ?_
    refine g_zret C (by first | exact bI_01 _ | exact Or.inl rfl | exact Or.inr rfl) dX8_in_18 ?_
    exact ⟨congrArg (fun v => some (Value.int v)) (by unfold inB; first | (rw [decide_eq_true e10]; rfl) | (rw [decide_eq_false e10]; rfl) | (rw [decide_eq_false e3]; rfl)), rfl⟩
  · have e3 : lo ≤ x.toInt := by have q : ¬ x.toInt64.toInt < a.toInt := fun z => h3 ((lgc_lt _ _).mpr (Int64.lt_iff_toInt_lt.mpr z)); rw [x64, ha] at q; omega
    refine g_lload_n C dX8_in_6 rfl ?_
    refine g_lload C dX8_in_7 rfl ?_
    refine g_lcmp C dX8_in_9 ?_
    refine g_ifgt C 17 dX8_in_10 (by decide) (fun h10 => ?_) (fun h10 => ?_)
    · have e10 : ¬ (lo ≤ x.toInt ∧ x.toInt ≤ hi) := by have q := Int64.lt_iff_toInt_lt.mp ((lgc_gt _ _).mp h10); rw [x64, hb] at q; omega
      refine g_ic (n := 0) C dX8_in_17 (by decide) ?_
      refine g_zret C (by first | exact bI_01 _ | exact Or.inl rfl | exact Or.inr rfl) dX8_in_18 ?_
      exact ⟨congrArg (fun v => some (Value.int v)) (by unfold inB; first | (rw [decide_eq_true e10]; rfl) | (rw [decide_eq_false e10]; rfl) | (rw [decide_eq_false e3]; rfl)), rfl⟩
    · have e10 : lo ≤ x.toInt ∧ x.toInt ≤ hi := by have q : ¬ b.toInt < x.toInt64.toInt := fun z => h10 ((lgc_gt _ _).mpr (Int64.lt_iff_toInt_lt.mpr z)); rw [x64, hb] at q; omega
      refine g_ic (n := 1) C dX8_in_13 (by decide) ?_
      refine g_goto C 18 dX8_in_14 (by decide) ?_
      refine g_zret C (by first | exact bI_01 _ | exact Or.inl rfl | exact Or.inr rfl) dX8_in_18 ?_
      exact ⟨congrArg (fun v => some (Value.int v)) (by unfold inB; first | (rw [decide_eq_true e10]; rfl) | (rw [decide_eq_false e10]; rfl) | (rw [decide_eq_false e3]; rfl)), rfl⟩

set_option maxHeartbeats 4000000 in
set_option maxRecDepth 100000 in
theorem c_X8_isMove {E : Ev} {d : Nat} {σ : St} {x : Int32} : Con E (d + 1) yX8_isMove cX8_isMove 1 ((Option.some FieldType.boolean)) [.int x] σ (Det (some (.int (bI (isMv x)))) σ) := by
  refine con_of (by decide) (Nat.le_of_ble_eq_true rfl) (fun X hX C => ?_)
  have C : Cx E X cX8_isMove RX8 1 ((Option.some FieldType.boolean)) := C
  show G E _ X _ _ _ 0 [(0, .int x)] []
  refine g_iload_n C dX8_isMove_0 rfl ?_
  refine g_i2l C _ dX8_isMove_1 rfl ?_
  refine g_lc (v := 0) C dX8_isMove_2 (by decide) ?_
  refine g_ldc2 C (47) dX8_isMove_3 (List.mem_of_getElem? (i := 942) (by decide +kernel)) ?_
  refine g_callSp C (c_X8_in (d := d) (0) (47) (by decide) (by decide)) dX8_isMove_6 km_RX8_56 kn_RX8 kc_yX8_in ks_yX8_in (by omega) (by decide) ⟨by decide, by decide, rfl⟩ rfl (Nat.le_of_ble_eq_true rfl) ?_
  refine g_zret C (by first | exact bI_01 _ | exact Or.inl rfl | exact Or.inr rfl) dX8_isMove_9 ?_
  exact ⟨congrArg (fun v => some (Value.int v)) (by rw [in_iMv]), rfl⟩

theorem x_axR : ∀ a, a < 48 → ∀ i, i < 3 → jw_TEXT.getD (3 * (a / 8) + i) 0 - nI 48 = nI (axN a i) := by decide +kernel

set_option maxHeartbeats 4000000 in
set_option maxRecDepth 100000 in
theorem c_X8_axis {E : Ev} {d : Nat} {σ : St} {a i : Nat} (ha : a < 48) (hi : i < 3) : Con E (d + 4) yX8_axis cX8_axis 2 ((Option.some FieldType.int)) [.int (nI a), .int (nI i)] σ (Det (some (.int (nI (axN a i)))) σ) := by
  refine con_of (by decide) (Nat.le_of_ble_eq_true rfl) (fun X hX C => ?_)
  have C : Cx E X cX8_axis RX8 2 ((Option.some FieldType.int)) := C
  show G E _ X _ _ _ 0 [(0, .int (nI a)), (1, .int (nI i))] []
  refine g_ldcS C dX8_axis_0 ?_
  refine g_ic (n := 3) C dX8_axis_2 (by decide) ?_
  refine g_iload_n C dX8_axis_3 rfl ?_
  refine g_bp C (nI 8) dX8_axis_4 (by decide) ?_
  refine g_idivN C dX8_axis_6 (by omega) (by omega) (by omega) ?_
  first | refine g_imulN C dX8_axis_7 ?_ | refine g_imul C dX8_axis_7 ?_
  refine g_iload_n C dX8_axis_8 rfl ?_
  first | refine g_iaddN C dX8_axis_9 ?_ | refine g_iadd C dX8_axis_9 ?_
  refine g_callK C rfl (c_J0_charAt (d := d) (by omega)) dX8_axis_10 km_RX8_64 kn_RJ0 kc_yJ0_charAt_5068e ki_yJ0_charAt_5068e kx_yJ0_charAt_5068e (by omega) (by decide) ⟨by decide, by decide, rfl⟩ rfl (Nat.le_of_ble_eq_true rfl) ?_
  refine g_bp C (nI 48) dX8_axis_13 (by decide) ?_
  refine g_isub C dX8_axis_15 ?_
  refine g_iret C dX8_axis_16 ?_
  exact ⟨congrArg (fun v => some (Value.int v)) (x_axR a ha i hi), rfl⟩

set_option maxHeartbeats 4000000 in
set_option maxRecDepth 100000 in
theorem c_X8_bit {E : Ev} {d : Nat} {σ : St} {a i : Nat} (ha : a < 48) (hi : i < 3) : Con E (d) yX8_bit cX8_bit 2 ((Option.some FieldType.int)) [.int (nI a), .int (nI i)] σ (Det (some (.int (nI (sbN a i)))) σ) := by
  refine con_of (by decide) (Nat.le_of_ble_eq_true rfl) (fun X hX C => ?_)
  have C : Cx E X cX8_bit RX8 2 ((Option.some FieldType.int)) := C
  show G E _ X _ _ _ 0 [(0, .int (nI a)), (1, .int (nI i))] []
  refine g_iload_n C dX8_bit_0 rfl ?_
  refine g_iload_n C dX8_bit_1 rfl ?_
  refine g_ishr C dX8_bit_2 ?_
  refine g_ic (n := 1) C dX8_bit_3 (by decide) ?_
  refine g_iand C dX8_bit_4 ?_
  refine g_iret C dX8_bit_5 ?_
  exact ⟨congrArg (fun v => some (Value.int v)) (x_sb a ha i hi), rfl⟩

def chB (k : Nat) (i a : Nat) : Bool := decide ([0, 1, 2, 0, 2, 1, 1, 0, 2, 1, 2, 0, 2, 0, 1, 2, 1, 0].getD (3 * k + i) 0 = a)
def wyL (a b c : Nat) : Nat → Nat → Nat → Nat
  | 0, _, f => f
  | k + 1, w, f => wyL a b c k (w + 1) (if chB w 0 a = true ∧ chB w 1 b = true ∧ chB w 2 c = true then w else f)
theorem x_ch : ∀ w, w < 6 → ∀ i, i < 3 → jw_TEXT.getD (3 * w + i) 0 - nI 48 = nI ([0, 1, 2, 0, 2, 1, 1, 0, 2, 1, 2, 0, 2, 0, 1, 2, 1, 0].getD (3 * w + i) 0) ∧ [0, 1, 2, 0, 2, 1, 1, 0, 2, 1, 2, 0, 2, 0, 1, 2, 1, 0].getD (3 * w + i) 0 < 3 := by decide +kernel
theorem wy_lt {a b c : Nat} : ∀ (k w f : Nat), f < 6 → w + k ≤ 6 → wyL a b c k w f < 6 := by
  intro k
  induction k with
  | zero => intro w f hf hk; exact hf
  | succ k ih =>
    intro w f hf hk
    unfold wyL
    exact ih _ _ (by split <;> omega) (by omega)

set_option maxHeartbeats 4000000 in
set_option maxRecDepth 100000 in
theorem l_X8_wayOf {E : Ev} {d : Nat} {X : Mx} (C : Cx E X cX8_wayOf RX8 6 ((Option.some FieldType.int))) {σ : St} {a b c : Nat} (ha : a < 3) (hb : b < 3) (hc : c < 3) : ∀ (k : Nat) (w f : Nat), 6 = w + k → f < 6 → G E (d + 4) X 6 (Det (some (.int (nI (wyL a b c k w f)))) σ) σ 5 ([(0, .int (nI a)), (1, .int (nI b)), (2, .int (nI c)), (3, .int (nI f)), (4, .int (nI w))]) [] := by
  intro k
  induction k with
  | zero =>
    intro w f hw hf
    refine g_iload C dX8_wayOf_5 rfl ?_
    refine g_bp C (nI 6) dX8_wayOf_7 (by decide) ?_
    refine g_icgeN C 89 dX8_wayOf_9 (by decide) (by omega) (by omega) (fun h9 => ?_) (fun h9 => ?_)
    · refine g_iload_n C dX8_wayOf_89 rfl ?_
      refine g_iret C dX8_wayOf_90 ?_
      exact ⟨congrArg (fun v => some (Value.int v)) (rfl), rfl⟩
    · omega
  | succ k ih =>
    intro w f hw hf
    refine g_iload C dX8_wayOf_5 rfl ?_
    refine g_bp C (nI 6) dX8_wayOf_7 (by decide) ?_
    refine g_icgeN C 89 dX8_wayOf_9 (by decide) (by omega) (by omega) (fun h9 => ?_) (fun h9 => ?_)
    · omega
    · refine g_ldcS C dX8_wayOf_12 ?_
      refine g_ic (n := 3) C dX8_wayOf_14 (by decide) ?_
      refine g_iload C dX8_wayOf_15 rfl ?_
      first | refine g_imulN C dX8_wayOf_17 ?_ | refine g_imul C dX8_wayOf_17 ?_
      refine g_callK C rfl (c_J0_charAt (d := d) (i := 3 * w) (by omega)) dX8_wayOf_18 km_RX8_64 kn_RJ0 kc_yJ0_charAt_5068e ki_yJ0_charAt_5068e kx_yJ0_charAt_5068e (by omega) (by decide) ⟨by decide, by decide, rfl⟩ rfl (Nat.le_of_ble_eq_true rfl) ?_
      refine g_bp C (nI 48) dX8_wayOf_21 (by decide) ?_
      refine g_isub C dX8_wayOf_23 ?_
      have x0 := x_ch w (by omega) 0 (by decide)
      rw [Nat.add_zero] at x0
      rw [x0.1]
      refine g_iload_n C dX8_wayOf_24 rfl ?_
      refine g_icneN C 68 dX8_wayOf_25 (by decide) (by omega) (by omega) (fun h25 => ?_) (fun h25 => ?_)
      · have hc : ¬ (chB w 0 a = true ∧ chB w 1 b = true ∧ chB w 2 c = true) := by
          intro q
          obtain ⟨q1, q2, q3⟩ := q
          simp only [chB, decide_eq_true_eq, Nat.add_zero] at q1 q2 q3
          first | exact h25 q1 | exact h43 q2 | exact h61 q3
        refine g_ic (n := 0) C dX8_wayOf_68 (by decide) ?_
        refine g_istore C dX8_wayOf_69 (by decide) ?_
        refine g_iload C dX8_wayOf_71 rfl ?_
        refine g_ifeqN C 81 dX8_wayOf_73 (by decide) (by omega) (fun h73 => ?_) (fun h73 => ?_)
        · have e : wyL a b c (k + 1) w f = wyL a b c k (w + 1) f := by rw [wyL, if_neg hc]
          refine g_iload_n C dX8_wayOf_81 rfl ?_
          refine g_istore_n C dX8_wayOf_82 (by decide) ?_
          refine g_iinc1 C dX8_wayOf_83 rfl (by decide) ?_
          refine g_goto C 5 dX8_wayOf_86 (by decide) ?_
          rw [e]
          first | (refine g_loc ([(0, .int (nI a)), (1, .int (nI b)), (2, .int (nI c)), (3, .int (nI w)), (4, .int (nI (w + 1)))]) (And.intro rfl (And.intro rfl (And.intro rfl (And.intro rfl (And.intro rfl trivial))))) ?_; exact ih (w + 1) w (by omega) (by omega)) | (refine g_loc ([(0, .int (nI a)), (1, .int (nI b)), (2, .int (nI c)), (3, .int (nI f)), (4, .int (nI (w + 1)))]) (And.intro rfl (And.intro rfl (And.intro rfl (And.intro rfl (And.intro rfl trivial))))) ?_; exact ih (w + 1) f (by omega) hf)
        · exact absurd h73 (by first | omega | decide)
      · refine g_ldcS C dX8_wayOf_28 ?_
        refine g_ic (n := 3) C dX8_wayOf_30 (by decide) ?_
        refine g_iload C dX8_wayOf_31 rfl ?_
        first | refine g_imulN C dX8_wayOf_33 ?_ | refine g_imul C dX8_wayOf_33 ?_
        refine g_ic (n := 1) C dX8_wayOf_34 (by decide) ?_
        first | refine g_iaddN C dX8_wayOf_35 ?_ | refine g_iadd C dX8_wayOf_35 ?_
        refine g_callK C rfl (c_J0_charAt (d := d) (by omega)) dX8_wayOf_36 km_RX8_64 kn_RJ0 kc_yJ0_charAt_5068e ki_yJ0_charAt_5068e kx_yJ0_charAt_5068e (by omega) (by decide) ⟨by decide, by decide, rfl⟩ rfl (Nat.le_of_ble_eq_true rfl) ?_
        refine g_bp C (nI 48) dX8_wayOf_39 (by decide) ?_
        refine g_isub C dX8_wayOf_41 ?_
        have x1 := x_ch w (by omega) 1 (by decide)
        rw [x1.1]
        refine g_iload_n C dX8_wayOf_42 rfl ?_
        refine g_icneN C 68 dX8_wayOf_43 (by decide) (by omega) (by omega) (fun h43 => ?_) (fun h43 => ?_)
        · have hc : ¬ (chB w 0 a = true ∧ chB w 1 b = true ∧ chB w 2 c = true) := by
            intro q
            obtain ⟨q1, q2, q3⟩ := q
            simp only [chB, decide_eq_true_eq, Nat.add_zero] at q1 q2 q3
            first | exact h25 q1 | exact h43 q2 | exact h61 q3
          refine g_ic (n := 0) C dX8_wayOf_68 (by decide) ?_
          refine g_istore C dX8_wayOf_69 (by decide) ?_
          refine g_iload C dX8_wayOf_71 rfl ?_
          refine g_ifeqN C 81 dX8_wayOf_73 (by decide) (by omega) (fun h73 => ?_) (fun h73 => ?_)
          · have e : wyL a b c (k + 1) w f = wyL a b c k (w + 1) f := by rw [wyL, if_neg hc]
            refine g_iload_n C dX8_wayOf_81 rfl ?_
            refine g_istore_n C dX8_wayOf_82 (by decide) ?_
            refine g_iinc1 C dX8_wayOf_83 rfl (by decide) ?_
            refine g_goto C 5 dX8_wayOf_86 (by decide) ?_
            rw [e]
            first | (refine g_loc ([(0, .int (nI a)), (1, .int (nI b)), (2, .int (nI c)), (3, .int (nI w)), (4, .int (nI (w + 1)))]) (And.intro rfl (And.intro rfl (And.intro rfl (And.intro rfl (And.intro rfl trivial))))) ?_; exact ih (w + 1) w (by omega) (by omega)) | (refine g_loc ([(0, .int (nI a)), (1, .int (nI b)), (2, .int (nI c)), (3, .int (nI f)), (4, .int (nI (w + 1)))]) (And.intro rfl (And.intro rfl (And.intro rfl (And.intro rfl (And.intro rfl trivial))))) ?_; exact ih (w + 1) f (by omega) hf)
          · exact absurd h73 (by first | omega | decide)
        · refine g_ldcS C dX8_wayOf_46 ?_
          refine g_ic (n := 3) C dX8_wayOf_48 (by decide) ?_
          refine g_iload C dX8_wayOf_49 rfl ?_
          first | refine g_imulN C dX8_wayOf_51 ?_ | refine g_imul C dX8_wayOf_51 ?_
          refine g_ic (n := 2) C dX8_wayOf_52 (by decide) ?_
          first | refine g_iaddN C dX8_wayOf_53 ?_ | refine g_iadd C dX8_wayOf_53 ?_
          refine g_callK C rfl (c_J0_charAt (d := d) (by omega)) dX8_wayOf_54 km_RX8_64 kn_RJ0 kc_yJ0_charAt_5068e ki_yJ0_charAt_5068e kx_yJ0_charAt_5068e (by omega) (by decide) ⟨by decide, by decide, rfl⟩ rfl (Nat.le_of_ble_eq_true rfl) ?_
          refine g_bp C (nI 48) dX8_wayOf_57 (by decide) ?_
          refine g_isub C dX8_wayOf_59 ?_
          have x2 := x_ch w (by omega) 2 (by decide)
          rw [x2.1]
          refine g_iload_n C dX8_wayOf_60 rfl ?_
          refine g_icneN C 68 dX8_wayOf_61 (by decide) (by omega) (by omega) (fun h61 => ?_) (fun h61 => ?_)
          · have hc : ¬ (chB w 0 a = true ∧ chB w 1 b = true ∧ chB w 2 c = true) := by
              intro q
              obtain ⟨q1, q2, q3⟩ := q
              simp only [chB, decide_eq_true_eq, Nat.add_zero] at q1 q2 q3
              first | exact h25 q1 | exact h43 q2 | exact h61 q3
            refine g_ic (n := 0) C dX8_wayOf_68 (by decide) ?_
            refine g_istore C dX8_wayOf_69 (by decide) ?_
            refine g_iload C dX8_wayOf_71 rfl ?_
            refine g_ifeqN C 81 dX8_wayOf_73 (by decide) (by omega) (fun h73 => ?_) (fun h73 => ?_)
            · have e : wyL a b c (k + 1) w f = wyL a b c k (w + 1) f := by rw [wyL, if_neg hc]
              refine g_iload_n C dX8_wayOf_81 rfl ?_
              refine g_istore_n C dX8_wayOf_82 (by decide) ?_
              refine g_iinc1 C dX8_wayOf_83 rfl (by decide) ?_
              refine g_goto C 5 dX8_wayOf_86 (by decide) ?_
              rw [e]
              first | (refine g_loc ([(0, .int (nI a)), (1, .int (nI b)), (2, .int (nI c)), (3, .int (nI w)), (4, .int (nI (w + 1)))]) (And.intro rfl (And.intro rfl (And.intro rfl (And.intro rfl (And.intro rfl trivial))))) ?_; exact ih (w + 1) w (by omega) (by omega)) | (refine g_loc ([(0, .int (nI a)), (1, .int (nI b)), (2, .int (nI c)), (3, .int (nI f)), (4, .int (nI (w + 1)))]) (And.intro rfl (And.intro rfl (And.intro rfl (And.intro rfl (And.intro rfl trivial))))) ?_; exact ih (w + 1) f (by omega) hf)
            · exact absurd h73 (by first | omega | decide)
          · have hc : chB w 0 a = true ∧ chB w 1 b = true ∧ chB w 2 c = true := ⟨by simp [chB]; exact h25, by simp [chB]; exact h43, by simp [chB]; exact h61⟩
            refine g_ic (n := 1) C dX8_wayOf_64 (by decide) ?_
            refine g_goto C 69 dX8_wayOf_65 (by decide) ?_
            refine g_istore C dX8_wayOf_69 (by decide) ?_
            refine g_iload C dX8_wayOf_71 rfl ?_
            refine g_ifeqN C 81 dX8_wayOf_73 (by decide) (by omega) (fun h73 => ?_) (fun h73 => ?_)
            · exact absurd h73 (by first | omega | decide)
            · have e : wyL a b c (k + 1) w f = wyL a b c k (w + 1) w := by rw [wyL, if_pos hc]
              refine g_iload C dX8_wayOf_76 rfl ?_
              refine g_goto C 82 dX8_wayOf_78 (by decide) ?_
              refine g_istore_n C dX8_wayOf_82 (by decide) ?_
              refine g_iinc1 C dX8_wayOf_83 rfl (by decide) ?_
              refine g_goto C 5 dX8_wayOf_86 (by decide) ?_
              rw [e]
              first | (refine g_loc ([(0, .int (nI a)), (1, .int (nI b)), (2, .int (nI c)), (3, .int (nI w)), (4, .int (nI (w + 1)))]) (And.intro rfl (And.intro rfl (And.intro rfl (And.intro rfl (And.intro rfl trivial))))) ?_; exact ih (w + 1) w (by omega) (by omega)) | (refine g_loc ([(0, .int (nI a)), (1, .int (nI b)), (2, .int (nI c)), (3, .int (nI f)), (4, .int (nI (w + 1)))]) (And.intro rfl (And.intro rfl (And.intro rfl (And.intro rfl (And.intro rfl trivial))))) ?_; exact ih (w + 1) f (by omega) hf)

set_option maxHeartbeats 4000000 in
set_option maxRecDepth 100000 in
theorem c_X8_wayOf {E : Ev} {d : Nat} {σ : St} {a b c : Nat} (ha : a < 3) (hb : b < 3) (hc : c < 3) : Con E (d + 4) yX8_wayOf cX8_wayOf 6 ((Option.some FieldType.int)) [.int (nI a), .int (nI b), .int (nI c)] σ (Det (some (.int (nI (wyL a b c 6 0 0)))) σ) := by
  refine con_of (by decide) (Nat.le_of_ble_eq_true rfl) (fun X hX C => ?_)
  have C : Cx E X cX8_wayOf RX8 6 ((Option.some FieldType.int)) := C
  show G E _ X _ _ _ 0 [(0, .int (nI a)), (1, .int (nI b)), (2, .int (nI c))] []
  refine g_ic (n := 0) C dX8_wayOf_0 (by decide) ?_
  refine g_istore_n C dX8_wayOf_1 (by decide) ?_
  refine g_ic (n := 0) C dX8_wayOf_2 (by decide) ?_
  refine g_istore C dX8_wayOf_3 (by decide) ?_
  refine g_loc ([(0, .int (nI a)), (1, .int (nI b)), (2, .int (nI c)), (3, .int (nI 0)), (4, .int (nI 0))]) (And.intro rfl (And.intro rfl (And.intro rfl (And.intro rfl (And.intro rfl trivial))))) ?_
  exact l_X8_wayOf C ha hb hc 6 0 0 (by omega) (by omega)

theorem x_mulR : ∀ a, a < 48 → ∀ b, b < 48 → nI (8 * wyL (axN b (axN a 0)) (axN b (axN a 1)) (axN b (axN a 2)) 6 0 0) + x_s a b = nI (mulN a b) := by decide +kernel

set_option maxHeartbeats 4000000 in
set_option maxRecDepth 100000 in
theorem c_X8_times {E : Ev} {d : Nat} {σ : St} {a b : Nat} (ha : a < 48) (hb : b < 48) : Con E (d + 5) yX8_times cX8_times 4 ((Option.some FieldType.int)) [.int (nI a), .int (nI b)] σ (Det (some (.int (nI (mulN a b)))) σ) := by
  refine con_of (by decide) (Nat.le_of_ble_eq_true rfl) (fun X hX C => ?_)
  have C : Cx E X cX8_times RX8 4 ((Option.some FieldType.int)) := C
  show G E _ X _ _ _ 0 [(0, .int (nI a)), (1, .int (nI b))] []
  refine g_ic (n := 0) C dX8_times_0 (by decide) ?_
  refine g_istore_n C dX8_times_1 (by decide) ?_
  refine g_ic (n := 0) C dX8_times_2 (by decide) ?_
  refine g_istore_n C dX8_times_3 (by decide) ?_
  refine g_iload_n C dX8_times_4 rfl ?_
  refine g_ic (n := 3) C dX8_times_5 (by decide) ?_
  first | refine g_icgeN C 35 dX8_times_6 (by decide) (by omega) (by omega) (fun h6 => ?_) (fun h6 => ?_) | refine g_icge C 35 dX8_times_6 (by decide) (fun h6 => ?_) (fun h6 => ?_)
  · exact absurd h6 (by first | omega | decide)
  · refine g_iload_n C dX8_times_9 rfl ?_
    refine g_iload_n C dX8_times_10 rfl ?_
    refine g_iload_n C dX8_times_11 rfl ?_
    refine g_callSp C (c_X8_bit (d := d) (by first | assumption | omega | exact axN_lt _ (by assumption) _ (by omega)) (by first | assumption | omega | exact axN_lt _ (by assumption) _ (by omega))) dX8_times_12 km_RX8_70 kn_RX8 kc_yX8_bit ks_yX8_bit (by omega) (by decide) ⟨by decide, by decide, rfl⟩ rfl (Nat.le_of_ble_eq_true rfl) ?_
    refine g_iload_n C dX8_times_15 rfl ?_
    refine g_iload_n C dX8_times_16 rfl ?_
    refine g_iload_n C dX8_times_17 rfl ?_
    refine g_callSp C (c_X8_axis (d := d) (by first | assumption | omega | exact axN_lt _ (by assumption) _ (by omega)) (by first | assumption | omega | exact axN_lt _ (by assumption) _ (by omega))) dX8_times_18 km_RX8_74 kn_RX8 kc_yX8_axis ks_yX8_axis (by omega) (by decide) ⟨by decide, by decide, rfl⟩ rfl (Nat.le_of_ble_eq_true rfl) ?_
    refine g_callSp C (c_X8_bit (d := d) (by first | assumption | omega | exact axN_lt _ (by assumption) _ (by omega)) (by first | assumption | omega | exact axN_lt _ (by assumption) _ (by omega))) dX8_times_21 km_RX8_70 kn_RX8 kc_yX8_bit ks_yX8_bit (by omega) (by decide) ⟨by decide, by decide, rfl⟩ rfl (Nat.le_of_ble_eq_true rfl) ?_
    refine g_ixor C dX8_times_24 ?_
    refine g_iload_n C dX8_times_25 rfl ?_
    refine g_ishl C dX8_times_26 ?_
    refine g_ior C dX8_times_27 ?_
    refine g_istore_n C dX8_times_28 (by decide) ?_
    refine g_iinc1 C dX8_times_29 rfl (by decide) ?_
    refine g_goto C 4 dX8_times_32 (by decide) ?_
    refine g_iload_n C dX8_times_4 rfl ?_
    refine g_ic (n := 3) C dX8_times_5 (by decide) ?_
    first | refine g_icgeN C 35 dX8_times_6 (by decide) (by omega) (by omega) (fun h6_1 => ?_) (fun h6_1 => ?_) | refine g_icge C 35 dX8_times_6 (by decide) (fun h6_1 => ?_) (fun h6_1 => ?_)
    · exact absurd h6_1 (by first | omega | decide)
    · refine g_iload_n C dX8_times_9 rfl ?_
      refine g_iload_n C dX8_times_10 rfl ?_
      refine g_iload_n C dX8_times_11 rfl ?_
      refine g_callSp C (c_X8_bit (d := d) (by first | assumption | omega | exact axN_lt _ (by assumption) _ (by omega)) (by first | assumption | omega | exact axN_lt _ (by assumption) _ (by omega))) dX8_times_12 km_RX8_70 kn_RX8 kc_yX8_bit ks_yX8_bit (by omega) (by decide) ⟨by decide, by decide, rfl⟩ rfl (Nat.le_of_ble_eq_true rfl) ?_
      refine g_iload_n C dX8_times_15 rfl ?_
      refine g_iload_n C dX8_times_16 rfl ?_
      refine g_iload_n C dX8_times_17 rfl ?_
      refine g_callSp C (c_X8_axis (d := d) (by first | assumption | omega | exact axN_lt _ (by assumption) _ (by omega)) (by first | assumption | omega | exact axN_lt _ (by assumption) _ (by omega))) dX8_times_18 km_RX8_74 kn_RX8 kc_yX8_axis ks_yX8_axis (by omega) (by decide) ⟨by decide, by decide, rfl⟩ rfl (Nat.le_of_ble_eq_true rfl) ?_
      refine g_callSp C (c_X8_bit (d := d) (by first | assumption | omega | exact axN_lt _ (by assumption) _ (by omega)) (by first | assumption | omega | exact axN_lt _ (by assumption) _ (by omega))) dX8_times_21 km_RX8_70 kn_RX8 kc_yX8_bit ks_yX8_bit (by omega) (by decide) ⟨by decide, by decide, rfl⟩ rfl (Nat.le_of_ble_eq_true rfl) ?_
      refine g_ixor C dX8_times_24 ?_
      refine g_iload_n C dX8_times_25 rfl ?_
      refine g_ishl C dX8_times_26 ?_
      refine g_ior C dX8_times_27 ?_
      refine g_istore_n C dX8_times_28 (by decide) ?_
      refine g_iinc1 C dX8_times_29 rfl (by decide) ?_
      refine g_goto C 4 dX8_times_32 (by decide) ?_
      refine g_iload_n C dX8_times_4 rfl ?_
      refine g_ic (n := 3) C dX8_times_5 (by decide) ?_
      first | refine g_icgeN C 35 dX8_times_6 (by decide) (by omega) (by omega) (fun h6_2 => ?_) (fun h6_2 => ?_) | refine g_icge C 35 dX8_times_6 (by decide) (fun h6_2 => ?_) (fun h6_2 => ?_)
      · exact absurd h6_2 (by first | omega | decide)
      · refine g_iload_n C dX8_times_9 rfl ?_
        refine g_iload_n C dX8_times_10 rfl ?_
        refine g_iload_n C dX8_times_11 rfl ?_
        refine g_callSp C (c_X8_bit (d := d) (by first | assumption | omega | exact axN_lt _ (by assumption) _ (by omega)) (by first | assumption | omega | exact axN_lt _ (by assumption) _ (by omega))) dX8_times_12 km_RX8_70 kn_RX8 kc_yX8_bit ks_yX8_bit (by omega) (by decide) ⟨by decide, by decide, rfl⟩ rfl (Nat.le_of_ble_eq_true rfl) ?_
        refine g_iload_n C dX8_times_15 rfl ?_
        refine g_iload_n C dX8_times_16 rfl ?_
        refine g_iload_n C dX8_times_17 rfl ?_
        refine g_callSp C (c_X8_axis (d := d) (by first | assumption | omega | exact axN_lt _ (by assumption) _ (by omega)) (by first | assumption | omega | exact axN_lt _ (by assumption) _ (by omega))) dX8_times_18 km_RX8_74 kn_RX8 kc_yX8_axis ks_yX8_axis (by omega) (by decide) ⟨by decide, by decide, rfl⟩ rfl (Nat.le_of_ble_eq_true rfl) ?_
        refine g_callSp C (c_X8_bit (d := d) (by first | assumption | omega | exact axN_lt _ (by assumption) _ (by omega)) (by first | assumption | omega | exact axN_lt _ (by assumption) _ (by omega))) dX8_times_21 km_RX8_70 kn_RX8 kc_yX8_bit ks_yX8_bit (by omega) (by decide) ⟨by decide, by decide, rfl⟩ rfl (Nat.le_of_ble_eq_true rfl) ?_
        refine g_ixor C dX8_times_24 ?_
        refine g_iload_n C dX8_times_25 rfl ?_
        refine g_ishl C dX8_times_26 ?_
        refine g_ior C dX8_times_27 ?_
        refine g_istore_n C dX8_times_28 (by decide) ?_
        refine g_iinc1 C dX8_times_29 rfl (by decide) ?_
        refine g_goto C 4 dX8_times_32 (by decide) ?_
        refine g_iload_n C dX8_times_4 rfl ?_
        refine g_ic (n := 3) C dX8_times_5 (by decide) ?_
        first | refine g_icgeN C 35 dX8_times_6 (by decide) (by omega) (by omega) (fun h6_3 => ?_) (fun h6_3 => ?_) | refine g_icge C 35 dX8_times_6 (by decide) (fun h6_3 => ?_) (fun h6_3 => ?_)
        · refine g_bp C (nI 8) dX8_times_35 (by decide) ?_
          refine g_iload_n C dX8_times_37 rfl ?_
          refine g_iload_n C dX8_times_38 rfl ?_
          refine g_ic (n := 0) C dX8_times_39 (by decide) ?_
          refine g_callSp C (c_X8_axis (d := d) (by first | assumption | omega | exact axN_lt _ (by assumption) _ (by omega)) (by first | assumption | omega | exact axN_lt _ (by assumption) _ (by omega))) dX8_times_40 km_RX8_74 kn_RX8 kc_yX8_axis ks_yX8_axis (by omega) (by decide) ⟨by decide, by decide, rfl⟩ rfl (Nat.le_of_ble_eq_true rfl) ?_
          refine g_callSp C (c_X8_axis (d := d) (by first | assumption | omega | exact axN_lt _ (by assumption) _ (by omega)) (by first | assumption | omega | exact axN_lt _ (by assumption) _ (by omega))) dX8_times_43 km_RX8_74 kn_RX8 kc_yX8_axis ks_yX8_axis (by omega) (by decide) ⟨by decide, by decide, rfl⟩ rfl (Nat.le_of_ble_eq_true rfl) ?_
          refine g_iload_n C dX8_times_46 rfl ?_
          refine g_iload_n C dX8_times_47 rfl ?_
          refine g_ic (n := 1) C dX8_times_48 (by decide) ?_
          refine g_callSp C (c_X8_axis (d := d) (by first | assumption | omega | exact axN_lt _ (by assumption) _ (by omega)) (by first | assumption | omega | exact axN_lt _ (by assumption) _ (by omega))) dX8_times_49 km_RX8_74 kn_RX8 kc_yX8_axis ks_yX8_axis (by omega) (by decide) ⟨by decide, by decide, rfl⟩ rfl (Nat.le_of_ble_eq_true rfl) ?_
          refine g_callSp C (c_X8_axis (d := d) (by first | assumption | omega | exact axN_lt _ (by assumption) _ (by omega)) (by first | assumption | omega | exact axN_lt _ (by assumption) _ (by omega))) dX8_times_52 km_RX8_74 kn_RX8 kc_yX8_axis ks_yX8_axis (by omega) (by decide) ⟨by decide, by decide, rfl⟩ rfl (Nat.le_of_ble_eq_true rfl) ?_
          refine g_iload_n C dX8_times_55 rfl ?_
          refine g_iload_n C dX8_times_56 rfl ?_
          refine g_ic (n := 2) C dX8_times_57 (by decide) ?_
          refine g_callSp C (c_X8_axis (d := d) (by first | assumption | omega | exact axN_lt _ (by assumption) _ (by omega)) (by first | assumption | omega | exact axN_lt _ (by assumption) _ (by omega))) dX8_times_58 km_RX8_74 kn_RX8 kc_yX8_axis ks_yX8_axis (by omega) (by decide) ⟨by decide, by decide, rfl⟩ rfl (Nat.le_of_ble_eq_true rfl) ?_
          refine g_callSp C (c_X8_axis (d := d) (by first | assumption | omega | exact axN_lt _ (by assumption) _ (by omega)) (by first | assumption | omega | exact axN_lt _ (by assumption) _ (by omega))) dX8_times_61 km_RX8_74 kn_RX8 kc_yX8_axis ks_yX8_axis (by omega) (by decide) ⟨by decide, by decide, rfl⟩ rfl (Nat.le_of_ble_eq_true rfl) ?_
          refine g_callSp C (c_X8_wayOf (d := d) (by first | assumption | omega | exact axN_lt _ (by assumption) _ (by first | omega | exact axN_lt _ (by assumption) _ (by omega))) (by first | assumption | omega | exact axN_lt _ (by assumption) _ (by first | omega | exact axN_lt _ (by assumption) _ (by omega))) (by first | assumption | omega | exact axN_lt _ (by assumption) _ (by first | omega | exact axN_lt _ (by assumption) _ (by omega)))) dX8_times_64 km_RX8_77 kn_RX8 kc_yX8_wayOf ks_yX8_wayOf (by omega) (by decide) ⟨by decide, by decide, rfl⟩ rfl (Nat.le_of_ble_eq_true rfl) ?_
          first | refine g_imulN C dX8_times_67 ?_ | refine g_imul C dX8_times_67 ?_
          refine g_iload_n C dX8_times_68 rfl ?_
          refine g_iadd C dX8_times_69 ?_
          refine g_iret C dX8_times_70 ?_
          exact ⟨congrArg (fun v => some (Value.int v)) (x_mulR a ha b hb), rfl⟩
        · exact absurd h6_3 (by first | omega | decide)

def ivL (a : Nat) : Nat → Nat → Nat → Nat
  | 0, _, f => f
  | k + 1, b, f => ivL a k (b + 1) (if mulN a b = 0 then b else f)
theorem x_invR : ∀ a, a < 48 → ivL a 48 0 0 = invN a := by decide +kernel
def ordR (a : Nat) : Nat → Nat → Nat → Nat
  | 0, _, n => n
  | k + 1, p, n => if p = 0 then n else ordR a k (mulN p a) (n + 1)
theorem x_ordR : ∀ a, a < 48 → ordR a 5 a 1 = ordN a := by decide +kernel
/-- the powers come to 0 -/
def ordZ (a : Nat) : Nat → Nat → Bool
  | 0, p => decide (p = 0)
  | k + 1, p => decide (p = 0) || ordZ a k (mulN p a)
theorem x_ordZ : ∀ a, a < 48 → ordZ a 5 a = true := by decide +kernel

set_option maxHeartbeats 4000000 in
set_option maxRecDepth 100000 in
theorem l_X8_inverse {E : Ev} {d : Nat} {X : Mx} (C : Cx E X cX8_inverse RX8 3 ((Option.some FieldType.int))) {σ : St} {a : Nat} (ha : a < 48) : ∀ (k : Nat) (b f : Nat), 48 = b + k → f < 48 → G E (d + 6) X 3 (Det (some (.int (nI (ivL a k b f)))) σ) σ 4 ([(0, .int (nI a)), (1, .int (nI f)), (2, .int (nI b))]) [] := by
  intro k
  induction k with
  | zero =>
    intro b f hb hf
    refine g_iload_n C dX8_inverse_4 rfl ?_
    refine g_bp C (nI 48) dX8_inverse_5 (by decide) ?_
    refine g_icgeN C 30 dX8_inverse_7 (by decide) (by omega) (by omega) (fun h7 => ?_) (fun h7 => ?_)
    · refine g_iload_n C dX8_inverse_30 rfl ?_
      refine g_iret C dX8_inverse_31 ?_
      exact ⟨congrArg (fun v => some (Value.int v)) (rfl), rfl⟩
    · omega
  | succ k ih =>
    intro b f hb hf
    refine g_iload_n C dX8_inverse_4 rfl ?_
    refine g_bp C (nI 48) dX8_inverse_5 (by decide) ?_
    refine g_icgeN C 30 dX8_inverse_7 (by decide) (by omega) (by omega) (fun h7 => ?_) (fun h7 => ?_)
    · omega
    · refine g_iload_n C dX8_inverse_10 rfl ?_
      refine g_iload_n C dX8_inverse_11 rfl ?_
      refine g_callSp C (c_X8_times (d := d) ha (by omega)) dX8_inverse_12 km_RX8_81 kn_RX8 kc_yX8_times ks_yX8_times (by omega) (by decide) ⟨by decide, by decide, rfl⟩ rfl (Nat.le_of_ble_eq_true rfl) ?_
      have hm := mulN_lt a ha b (by omega)
      refine g_ifneN C 22 dX8_inverse_15 (by decide) (by omega) (fun h15 => ?_) (fun h15 => ?_)
      · have e : ivL a (k + 1) b f = ivL a k (b + 1) f := by rw [ivL, if_neg h15]
        refine g_iload_n C dX8_inverse_22 rfl ?_
        refine g_istore_n C dX8_inverse_23 (by decide) ?_
        refine g_iinc1 C dX8_inverse_24 rfl (by decide) ?_
        refine g_goto C 4 dX8_inverse_27 (by decide) ?_
        rw [e]
        first | (refine g_loc ([(0, .int (nI a)), (1, .int (nI b)), (2, .int (nI (b + 1)))]) (And.intro rfl (And.intro rfl (And.intro rfl trivial))) ?_; exact ih (b + 1) b (by omega) (by omega)) | (refine g_loc ([(0, .int (nI a)), (1, .int (nI f)), (2, .int (nI (b + 1)))]) (And.intro rfl (And.intro rfl (And.intro rfl trivial))) ?_; exact ih (b + 1) f (by omega) hf)
      · have e : ivL a (k + 1) b f = ivL a k (b + 1) b := by rw [ivL, if_pos h15]
        refine g_iload_n C dX8_inverse_18 rfl ?_
        refine g_goto C 23 dX8_inverse_19 (by decide) ?_
        refine g_istore_n C dX8_inverse_23 (by decide) ?_
        refine g_iinc1 C dX8_inverse_24 rfl (by decide) ?_
        refine g_goto C 4 dX8_inverse_27 (by decide) ?_
        rw [e]
        first | (refine g_loc ([(0, .int (nI a)), (1, .int (nI b)), (2, .int (nI (b + 1)))]) (And.intro rfl (And.intro rfl (And.intro rfl trivial))) ?_; exact ih (b + 1) b (by omega) (by omega)) | (refine g_loc ([(0, .int (nI a)), (1, .int (nI f)), (2, .int (nI (b + 1)))]) (And.intro rfl (And.intro rfl (And.intro rfl trivial))) ?_; exact ih (b + 1) f (by omega) hf)

set_option maxHeartbeats 4000000 in
set_option maxRecDepth 100000 in
theorem c_X8_inverse {E : Ev} {d : Nat} {σ : St} {a : Nat} (ha : a < 48) : Con E (d + 6) yX8_inverse cX8_inverse 3 ((Option.some FieldType.int)) [.int (nI a)] σ (Det (some (.int (nI (invN a)))) σ) := by
  refine con_of (by decide) (Nat.le_of_ble_eq_true rfl) (fun X hX C => ?_)
  have C : Cx E X cX8_inverse RX8 3 ((Option.some FieldType.int)) := C
  show G E _ X _ _ _ 0 [(0, .int (nI a))] []
  refine g_ic (n := 0) C dX8_inverse_0 (by decide) ?_
  refine g_istore_n C dX8_inverse_1 (by decide) ?_
  refine g_ic (n := 0) C dX8_inverse_2 (by decide) ?_
  refine g_istore_n C dX8_inverse_3 (by decide) ?_
  refine g_loc ([(0, .int (nI a)), (1, .int (nI 0)), (2, .int (nI 0))]) (And.intro rfl (And.intro rfl (And.intro rfl trivial))) ?_
  rw [← x_invR a ha]
  exact l_X8_inverse C ha 48 0 0 (by omega) (by omega)

set_option maxHeartbeats 4000000 in
set_option maxRecDepth 100000 in
theorem l_X8_orderOf {E : Ev} {d : Nat} {X : Mx} (C : Cx E X cX8_orderOf RX8 3 ((Option.some FieldType.int))) {σ : St} {a : Nat} (ha : a < 48) : ∀ (k : Nat) (p n : Nat), p < 48 → ordZ a k p = true → G E (d + 6) X 3 (Det (some (.int (nI (ordR a k p n)))) σ) σ 4 ([(0, .int (nI a)), (1, .int (nI n)), (2, .int (nI p))]) [] := by
  intro k
  induction k with
  | zero =>
    intro p n hp hz
    refine g_iload_n C dX8_orderOf_4 rfl ?_
    refine g_ifeqN C 20 dX8_orderOf_5 (by decide) (by omega) (fun h5 => ?_) (fun h5 => ?_)
    · refine g_iload_n C dX8_orderOf_20 rfl ?_
      refine g_iret C dX8_orderOf_21 ?_
      exact ⟨congrArg (fun v => some (Value.int v)) (rfl), rfl⟩
    · exact absurd (by simpa [ordZ] using hz) h5
  | succ k ih =>
    intro p n hp hz
    refine g_iload_n C dX8_orderOf_4 rfl ?_
    refine g_ifeqN C 20 dX8_orderOf_5 (by decide) (by omega) (fun h5 => ?_) (fun h5 => ?_)
    · refine g_iload_n C dX8_orderOf_20 rfl ?_
      refine g_iret C dX8_orderOf_21 ?_
      exact ⟨congrArg (fun v => some (Value.int v)) (by simp [ordR, h5]), rfl⟩
    · refine g_iinc1 C dX8_orderOf_8 rfl (by decide) ?_
      refine g_iload_n C dX8_orderOf_11 rfl ?_
      refine g_iload_n C dX8_orderOf_12 rfl ?_
      refine g_callSp C (c_X8_times (d := d) hp ha) dX8_orderOf_13 km_RX8_81 kn_RX8 kc_yX8_times ks_yX8_times (by omega) (by decide) ⟨by decide, by decide, rfl⟩ rfl (Nat.le_of_ble_eq_true rfl) ?_
      refine g_istore_n C dX8_orderOf_16 (by decide) ?_
      refine g_goto C 4 dX8_orderOf_17 (by decide) ?_
      refine g_loc ([(0, .int (nI a)), (1, .int (nI (n + 1))), (2, .int (nI (mulN p a)))]) (And.intro rfl (And.intro rfl (And.intro rfl trivial))) ?_
      rw [show ordR a (k + 1) p n = ordR a k (mulN p a) (n + 1) from by simp [ordR, h5]]
      exact ih (mulN p a) (n + 1) (mulN_lt p hp a ha) (by simpa [ordZ, h5] using hz)

set_option maxHeartbeats 4000000 in
set_option maxRecDepth 100000 in
theorem c_X8_orderOf {E : Ev} {d : Nat} {σ : St} {a : Nat} (ha : a < 48) : Con E (d + 6) yX8_orderOf cX8_orderOf 3 ((Option.some FieldType.int)) [.int (nI a)] σ (Det (some (.int (nI (ordN a)))) σ) := by
  refine con_of (by decide) (Nat.le_of_ble_eq_true rfl) (fun X hX C => ?_)
  have C : Cx E X cX8_orderOf RX8 3 ((Option.some FieldType.int)) := C
  show G E _ X _ _ _ 0 [(0, .int (nI a))] []
  refine g_ic (n := 1) C dX8_orderOf_0 (by decide) ?_
  refine g_istore_n C dX8_orderOf_1 (by decide) ?_
  refine g_iload_n C dX8_orderOf_2 rfl ?_
  refine g_istore_n C dX8_orderOf_3 (by decide) ?_
  refine g_loc ([(0, .int (nI a)), (1, .int (nI 1)), (2, .int (nI a))]) (And.intro rfl (And.intro rfl (And.intro rfl trivial))) ?_
  rw [← x_ordR a ha]
  exact l_X8_orderOf C ha 5 a 1 ha (x_ordZ a ha)

set_option maxHeartbeats 4000000 in
set_option maxRecDepth 100000 in
theorem c_X8_traceOf {E : Ev} {d : Nat} {σ : St} {a : Nat} (ha : a < 48) : Con E (d + 5) yX8_traceOf cX8_traceOf 3 ((Option.some FieldType.int)) [.int (nI a)] σ (Det (some (.int (trI a))) σ) := by
  refine con_of (by decide) (Nat.le_of_ble_eq_true rfl) (fun X hX C => ?_)
  have C : Cx E X cX8_traceOf RX8 3 ((Option.some FieldType.int)) := C
  have b1 := axN_lt a ha 0 (by decide)
  have b2 := axN_lt a ha 1 (by decide)
  have b3 := axN_lt a ha 2 (by decide)
  show G E _ X _ _ _ 0 [(0, .int (nI a))] []
  refine g_ic (n := 0) C dX8_traceOf_0 (by decide) ?_
  refine g_istore_n C dX8_traceOf_1 (by decide) ?_
  refine g_ic (n := 0) C dX8_traceOf_2 (by decide) ?_
  refine g_istore_n C dX8_traceOf_3 (by decide) ?_
  refine g_iload_n C dX8_traceOf_4 rfl ?_
  refine g_ic (n := 3) C dX8_traceOf_5 (by decide) ?_
  first | refine g_icgeN C 40 dX8_traceOf_6 (by decide) (by omega) (by omega) (fun h6 => ?_) (fun h6 => ?_) | refine g_icge C 40 dX8_traceOf_6 (by decide) (fun h6 => ?_) (fun h6 => ?_)
  · exact absurd h6 (by first | omega | decide)
  · refine g_iload_n C dX8_traceOf_9 rfl ?_
    refine g_iload_n C dX8_traceOf_10 rfl ?_
    refine g_iload_n C dX8_traceOf_11 rfl ?_
    refine g_callSp C (c_X8_axis (d := d) (by first | assumption | omega | exact axN_lt _ (by assumption) _ (by omega)) (by first | assumption | omega | exact axN_lt _ (by assumption) _ (by omega))) dX8_traceOf_12 km_RX8_74 kn_RX8 kc_yX8_axis ks_yX8_axis (by omega) (by decide) ⟨by decide, by decide, rfl⟩ rfl (Nat.le_of_ble_eq_true rfl) ?_
    refine g_iload_n C dX8_traceOf_15 rfl ?_
    first | refine g_icneN C 31 dX8_traceOf_16 (by decide) (by omega) (by omega) (fun h16 => ?_) (fun h16 => ?_) | refine g_icne C 31 dX8_traceOf_16 (by decide) (fun h16 => ?_) (fun h16 => ?_)
    · refine g_ic (n := 0) C dX8_traceOf_31 (by decide) ?_
      refine g_iadd C dX8_traceOf_32 ?_
      refine g_istore_n C dX8_traceOf_33 (by decide) ?_
      refine g_iinc1 C dX8_traceOf_34 rfl (by decide) ?_
      refine g_goto C 4 dX8_traceOf_37 (by decide) ?_
      refine g_iload_n C dX8_traceOf_4 rfl ?_
      refine g_ic (n := 3) C dX8_traceOf_5 (by decide) ?_
      first | refine g_icgeN C 40 dX8_traceOf_6 (by decide) (by omega) (by omega) (fun h6_1 => ?_) (fun h6_1 => ?_) | refine g_icge C 40 dX8_traceOf_6 (by decide) (fun h6_1 => ?_) (fun h6_1 => ?_)
      · exact absurd h6_1 (by first | omega | decide)
      · refine g_iload_n C dX8_traceOf_9 rfl ?_
        refine g_iload_n C dX8_traceOf_10 rfl ?_
        refine g_iload_n C dX8_traceOf_11 rfl ?_
        refine g_callSp C (c_X8_axis (d := d) (by first | assumption | omega | exact axN_lt _ (by assumption) _ (by omega)) (by first | assumption | omega | exact axN_lt _ (by assumption) _ (by omega))) dX8_traceOf_12 km_RX8_74 kn_RX8 kc_yX8_axis ks_yX8_axis (by omega) (by decide) ⟨by decide, by decide, rfl⟩ rfl (Nat.le_of_ble_eq_true rfl) ?_
        refine g_iload_n C dX8_traceOf_15 rfl ?_
        first | refine g_icneN C 31 dX8_traceOf_16 (by decide) (by omega) (by omega) (fun h16_1 => ?_) (fun h16_1 => ?_) | refine g_icne C 31 dX8_traceOf_16 (by decide) (fun h16_1 => ?_) (fun h16_1 => ?_)
        · refine g_ic (n := 0) C dX8_traceOf_31 (by decide) ?_
          refine g_iadd C dX8_traceOf_32 ?_
          refine g_istore_n C dX8_traceOf_33 (by decide) ?_
          refine g_iinc1 C dX8_traceOf_34 rfl (by decide) ?_
          refine g_goto C 4 dX8_traceOf_37 (by decide) ?_
          refine g_iload_n C dX8_traceOf_4 rfl ?_
          refine g_ic (n := 3) C dX8_traceOf_5 (by decide) ?_
          first | refine g_icgeN C 40 dX8_traceOf_6 (by decide) (by omega) (by omega) (fun h6_2 => ?_) (fun h6_2 => ?_) | refine g_icge C 40 dX8_traceOf_6 (by decide) (fun h6_2 => ?_) (fun h6_2 => ?_)
          · exact absurd h6_2 (by first | omega | decide)
          · refine g_iload_n C dX8_traceOf_9 rfl ?_
            refine g_iload_n C dX8_traceOf_10 rfl ?_
            refine g_iload_n C dX8_traceOf_11 rfl ?_
            refine g_callSp C (c_X8_axis (d := d) (by first | assumption | omega | exact axN_lt _ (by assumption) _ (by omega)) (by first | assumption | omega | exact axN_lt _ (by assumption) _ (by omega))) dX8_traceOf_12 km_RX8_74 kn_RX8 kc_yX8_axis ks_yX8_axis (by omega) (by decide) ⟨by decide, by decide, rfl⟩ rfl (Nat.le_of_ble_eq_true rfl) ?_
            refine g_iload_n C dX8_traceOf_15 rfl ?_
            first | refine g_icneN C 31 dX8_traceOf_16 (by decide) (by omega) (by omega) (fun h16_2 => ?_) (fun h16_2 => ?_) | refine g_icne C 31 dX8_traceOf_16 (by decide) (fun h16_2 => ?_) (fun h16_2 => ?_)
            · refine g_ic (n := 0) C dX8_traceOf_31 (by decide) ?_
              refine g_iadd C dX8_traceOf_32 ?_
              refine g_istore_n C dX8_traceOf_33 (by decide) ?_
              refine g_iinc1 C dX8_traceOf_34 rfl (by decide) ?_
              refine g_goto C 4 dX8_traceOf_37 (by decide) ?_
              refine g_iload_n C dX8_traceOf_4 rfl ?_
              refine g_ic (n := 3) C dX8_traceOf_5 (by decide) ?_
              first | refine g_icgeN C 40 dX8_traceOf_6 (by decide) (by omega) (by omega) (fun h6_3 => ?_) (fun h6_3 => ?_) | refine g_icge C 40 dX8_traceOf_6 (by decide) (fun h6_3 => ?_) (fun h6_3 => ?_)
              · refine g_iload_n C dX8_traceOf_40 rfl ?_
                refine g_iret C dX8_traceOf_41 ?_
                exact ⟨congrArg (fun v => some (Value.int v)) (by clear b1 b2 b3; revert h16 h16_1 h16_2; revert a; decide +kernel), rfl⟩
              · exact absurd h6_3 (by first | omega | decide)
            · refine g_ic (n := 1) C dX8_traceOf_19 (by decide) ?_
              refine g_ic (n := 2) C dX8_traceOf_20 (by decide) ?_
              refine g_iload_n C dX8_traceOf_21 rfl ?_
              refine g_iload_n C dX8_traceOf_22 rfl ?_
              refine g_callSp C (c_X8_bit (d := d) (by first | assumption | omega | exact axN_lt _ (by assumption) _ (by omega)) (by first | assumption | omega | exact axN_lt _ (by assumption) _ (by omega))) dX8_traceOf_23 km_RX8_70 kn_RX8 kc_yX8_bit ks_yX8_bit (by omega) (by decide) ⟨by decide, by decide, rfl⟩ rfl (Nat.le_of_ble_eq_true rfl) ?_
              refine g_imul C dX8_traceOf_26 ?_
              refine g_isub C dX8_traceOf_27 ?_
              refine g_goto C 32 dX8_traceOf_28 (by decide) ?_
              refine g_iadd C dX8_traceOf_32 ?_
              refine g_istore_n C dX8_traceOf_33 (by decide) ?_
              refine g_iinc1 C dX8_traceOf_34 rfl (by decide) ?_
              refine g_goto C 4 dX8_traceOf_37 (by decide) ?_
              refine g_iload_n C dX8_traceOf_4 rfl ?_
              refine g_ic (n := 3) C dX8_traceOf_5 (by decide) ?_
              first | refine g_icgeN C 40 dX8_traceOf_6 (by decide) (by omega) (by omega) (fun h6_3 => ?_) (fun h6_3 => ?_) | refine g_icge C 40 dX8_traceOf_6 (by decide) (fun h6_3 => ?_) (fun h6_3 => ?_)
              · refine g_iload_n C dX8_traceOf_40 rfl ?_
                refine g_iret C dX8_traceOf_41 ?_
                exact ⟨congrArg (fun v => some (Value.int v)) (by clear b1 b2 b3; revert h16 h16_1 h16_2; revert a; decide +kernel), rfl⟩
              · exact absurd h6_3 (by first | omega | decide)
        · refine g_ic (n := 1) C dX8_traceOf_19 (by decide) ?_
          refine g_ic (n := 2) C dX8_traceOf_20 (by decide) ?_
          refine g_iload_n C dX8_traceOf_21 rfl ?_
          refine g_iload_n C dX8_traceOf_22 rfl ?_
          refine g_callSp C (c_X8_bit (d := d) (by first | assumption | omega | exact axN_lt _ (by assumption) _ (by omega)) (by first | assumption | omega | exact axN_lt _ (by assumption) _ (by omega))) dX8_traceOf_23 km_RX8_70 kn_RX8 kc_yX8_bit ks_yX8_bit (by omega) (by decide) ⟨by decide, by decide, rfl⟩ rfl (Nat.le_of_ble_eq_true rfl) ?_
          refine g_imul C dX8_traceOf_26 ?_
          refine g_isub C dX8_traceOf_27 ?_
          refine g_goto C 32 dX8_traceOf_28 (by decide) ?_
          refine g_iadd C dX8_traceOf_32 ?_
          refine g_istore_n C dX8_traceOf_33 (by decide) ?_
          refine g_iinc1 C dX8_traceOf_34 rfl (by decide) ?_
          refine g_goto C 4 dX8_traceOf_37 (by decide) ?_
          refine g_iload_n C dX8_traceOf_4 rfl ?_
          refine g_ic (n := 3) C dX8_traceOf_5 (by decide) ?_
          first | refine g_icgeN C 40 dX8_traceOf_6 (by decide) (by omega) (by omega) (fun h6_2 => ?_) (fun h6_2 => ?_) | refine g_icge C 40 dX8_traceOf_6 (by decide) (fun h6_2 => ?_) (fun h6_2 => ?_)
          · exact absurd h6_2 (by first | omega | decide)
          · refine g_iload_n C dX8_traceOf_9 rfl ?_
            refine g_iload_n C dX8_traceOf_10 rfl ?_
            refine g_iload_n C dX8_traceOf_11 rfl ?_
            refine g_callSp C (c_X8_axis (d := d) (by first | assumption | omega | exact axN_lt _ (by assumption) _ (by omega)) (by first | assumption | omega | exact axN_lt _ (by assumption) _ (by omega))) dX8_traceOf_12 km_RX8_74 kn_RX8 kc_yX8_axis ks_yX8_axis (by omega) (by decide) ⟨by decide, by decide, rfl⟩ rfl (Nat.le_of_ble_eq_true rfl) ?_
            refine g_iload_n C dX8_traceOf_15 rfl ?_
            first | refine g_icneN C 31 dX8_traceOf_16 (by decide) (by omega) (by omega) (fun h16_2 => ?_) (fun h16_2 => ?_) | refine g_icne C 31 dX8_traceOf_16 (by decide) (fun h16_2 => ?_) (fun h16_2 => ?_)
            · refine g_ic (n := 0) C dX8_traceOf_31 (by decide) ?_
              refine g_iadd C dX8_traceOf_32 ?_
              refine g_istore_n C dX8_traceOf_33 (by decide) ?_
              refine g_iinc1 C dX8_traceOf_34 rfl (by decide) ?_
              refine g_goto C 4 dX8_traceOf_37 (by decide) ?_
              refine g_iload_n C dX8_traceOf_4 rfl ?_
              refine g_ic (n := 3) C dX8_traceOf_5 (by decide) ?_
              first | refine g_icgeN C 40 dX8_traceOf_6 (by decide) (by omega) (by omega) (fun h6_3 => ?_) (fun h6_3 => ?_) | refine g_icge C 40 dX8_traceOf_6 (by decide) (fun h6_3 => ?_) (fun h6_3 => ?_)
              · refine g_iload_n C dX8_traceOf_40 rfl ?_
                refine g_iret C dX8_traceOf_41 ?_
                exact ⟨congrArg (fun v => some (Value.int v)) (by clear b1 b2 b3; revert h16 h16_1 h16_2; revert a; decide +kernel), rfl⟩
              · exact absurd h6_3 (by first | omega | decide)
            · refine g_ic (n := 1) C dX8_traceOf_19 (by decide) ?_
              refine g_ic (n := 2) C dX8_traceOf_20 (by decide) ?_
              refine g_iload_n C dX8_traceOf_21 rfl ?_
              refine g_iload_n C dX8_traceOf_22 rfl ?_
              refine g_callSp C (c_X8_bit (d := d) (by first | assumption | omega | exact axN_lt _ (by assumption) _ (by omega)) (by first | assumption | omega | exact axN_lt _ (by assumption) _ (by omega))) dX8_traceOf_23 km_RX8_70 kn_RX8 kc_yX8_bit ks_yX8_bit (by omega) (by decide) ⟨by decide, by decide, rfl⟩ rfl (Nat.le_of_ble_eq_true rfl) ?_
              refine g_imul C dX8_traceOf_26 ?_
              refine g_isub C dX8_traceOf_27 ?_
              refine g_goto C 32 dX8_traceOf_28 (by decide) ?_
              refine g_iadd C dX8_traceOf_32 ?_
              refine g_istore_n C dX8_traceOf_33 (by decide) ?_
              refine g_iinc1 C dX8_traceOf_34 rfl (by decide) ?_
              refine g_goto C 4 dX8_traceOf_37 (by decide) ?_
              refine g_iload_n C dX8_traceOf_4 rfl ?_
              refine g_ic (n := 3) C dX8_traceOf_5 (by decide) ?_
              first | refine g_icgeN C 40 dX8_traceOf_6 (by decide) (by omega) (by omega) (fun h6_3 => ?_) (fun h6_3 => ?_) | refine g_icge C 40 dX8_traceOf_6 (by decide) (fun h6_3 => ?_) (fun h6_3 => ?_)
              · refine g_iload_n C dX8_traceOf_40 rfl ?_
                refine g_iret C dX8_traceOf_41 ?_
                exact ⟨congrArg (fun v => some (Value.int v)) (by clear b1 b2 b3; revert h16 h16_1 h16_2; revert a; decide +kernel), rfl⟩
              · exact absurd h6_3 (by first | omega | decide)
    · refine g_ic (n := 1) C dX8_traceOf_19 (by decide) ?_
      refine g_ic (n := 2) C dX8_traceOf_20 (by decide) ?_
      refine g_iload_n C dX8_traceOf_21 rfl ?_
      refine g_iload_n C dX8_traceOf_22 rfl ?_
      refine g_callSp C (c_X8_bit (d := d) (by first | assumption | omega | exact axN_lt _ (by assumption) _ (by omega)) (by first | assumption | omega | exact axN_lt _ (by assumption) _ (by omega))) dX8_traceOf_23 km_RX8_70 kn_RX8 kc_yX8_bit ks_yX8_bit (by omega) (by decide) ⟨by decide, by decide, rfl⟩ rfl (Nat.le_of_ble_eq_true rfl) ?_
      refine g_imul C dX8_traceOf_26 ?_
      refine g_isub C dX8_traceOf_27 ?_
      refine g_goto C 32 dX8_traceOf_28 (by decide) ?_
      refine g_iadd C dX8_traceOf_32 ?_
      refine g_istore_n C dX8_traceOf_33 (by decide) ?_
      refine g_iinc1 C dX8_traceOf_34 rfl (by decide) ?_
      refine g_goto C 4 dX8_traceOf_37 (by decide) ?_
      refine g_iload_n C dX8_traceOf_4 rfl ?_
      refine g_ic (n := 3) C dX8_traceOf_5 (by decide) ?_
      first | refine g_icgeN C 40 dX8_traceOf_6 (by decide) (by omega) (by omega) (fun h6_1 => ?_) (fun h6_1 => ?_) | refine g_icge C 40 dX8_traceOf_6 (by decide) (fun h6_1 => ?_) (fun h6_1 => ?_)
      · exact absurd h6_1 (by first | omega | decide)
      · refine g_iload_n C dX8_traceOf_9 rfl ?_
        refine g_iload_n C dX8_traceOf_10 rfl ?_
        refine g_iload_n C dX8_traceOf_11 rfl ?_
        refine g_callSp C (c_X8_axis (d := d) (by first | assumption | omega | exact axN_lt _ (by assumption) _ (by omega)) (by first | assumption | omega | exact axN_lt _ (by assumption) _ (by omega))) dX8_traceOf_12 km_RX8_74 kn_RX8 kc_yX8_axis ks_yX8_axis (by omega) (by decide) ⟨by decide, by decide, rfl⟩ rfl (Nat.le_of_ble_eq_true rfl) ?_
        refine g_iload_n C dX8_traceOf_15 rfl ?_
        first | refine g_icneN C 31 dX8_traceOf_16 (by decide) (by omega) (by omega) (fun h16_1 => ?_) (fun h16_1 => ?_) | refine g_icne C 31 dX8_traceOf_16 (by decide) (fun h16_1 => ?_) (fun h16_1 => ?_)
        · refine g_ic (n := 0) C dX8_traceOf_31 (by decide) ?_
          refine g_iadd C dX8_traceOf_32 ?_
          refine g_istore_n C dX8_traceOf_33 (by decide) ?_
          refine g_iinc1 C dX8_traceOf_34 rfl (by decide) ?_
          refine g_goto C 4 dX8_traceOf_37 (by decide) ?_
          refine g_iload_n C dX8_traceOf_4 rfl ?_
          refine g_ic (n := 3) C dX8_traceOf_5 (by decide) ?_
          first | refine g_icgeN C 40 dX8_traceOf_6 (by decide) (by omega) (by omega) (fun h6_2 => ?_) (fun h6_2 => ?_) | refine g_icge C 40 dX8_traceOf_6 (by decide) (fun h6_2 => ?_) (fun h6_2 => ?_)
          · exact absurd h6_2 (by first | omega | decide)
          · refine g_iload_n C dX8_traceOf_9 rfl ?_
            refine g_iload_n C dX8_traceOf_10 rfl ?_
            refine g_iload_n C dX8_traceOf_11 rfl ?_
            refine g_callSp C (c_X8_axis (d := d) (by first | assumption | omega | exact axN_lt _ (by assumption) _ (by omega)) (by first | assumption | omega | exact axN_lt _ (by assumption) _ (by omega))) dX8_traceOf_12 km_RX8_74 kn_RX8 kc_yX8_axis ks_yX8_axis (by omega) (by decide) ⟨by decide, by decide, rfl⟩ rfl (Nat.le_of_ble_eq_true rfl) ?_
            refine g_iload_n C dX8_traceOf_15 rfl ?_
            first | refine g_icneN C 31 dX8_traceOf_16 (by decide) (by omega) (by omega) (fun h16_2 => ?_) (fun h16_2 => ?_) | refine g_icne C 31 dX8_traceOf_16 (by decide) (fun h16_2 => ?_) (fun h16_2 => ?_)
            · refine g_ic (n := 0) C dX8_traceOf_31 (by decide) ?_
              refine g_iadd C dX8_traceOf_32 ?_
              refine g_istore_n C dX8_traceOf_33 (by decide) ?_
              refine g_iinc1 C dX8_traceOf_34 rfl (by decide) ?_
              refine g_goto C 4 dX8_traceOf_37 (by decide) ?_
              refine g_iload_n C dX8_traceOf_4 rfl ?_
              refine g_ic (n := 3) C dX8_traceOf_5 (by decide) ?_
              first | refine g_icgeN C 40 dX8_traceOf_6 (by decide) (by omega) (by omega) (fun h6_3 => ?_) (fun h6_3 => ?_) | refine g_icge C 40 dX8_traceOf_6 (by decide) (fun h6_3 => ?_) (fun h6_3 => ?_)
              · refine g_iload_n C dX8_traceOf_40 rfl ?_
                refine g_iret C dX8_traceOf_41 ?_
                exact ⟨congrArg (fun v => some (Value.int v)) (by clear b1 b2 b3; revert h16 h16_1 h16_2; revert a; decide +kernel), rfl⟩
              · exact absurd h6_3 (by first | omega | decide)
            · refine g_ic (n := 1) C dX8_traceOf_19 (by decide) ?_
              refine g_ic (n := 2) C dX8_traceOf_20 (by decide) ?_
              refine g_iload_n C dX8_traceOf_21 rfl ?_
              refine g_iload_n C dX8_traceOf_22 rfl ?_
              refine g_callSp C (c_X8_bit (d := d) (by first | assumption | omega | exact axN_lt _ (by assumption) _ (by omega)) (by first | assumption | omega | exact axN_lt _ (by assumption) _ (by omega))) dX8_traceOf_23 km_RX8_70 kn_RX8 kc_yX8_bit ks_yX8_bit (by omega) (by decide) ⟨by decide, by decide, rfl⟩ rfl (Nat.le_of_ble_eq_true rfl) ?_
              refine g_imul C dX8_traceOf_26 ?_
              refine g_isub C dX8_traceOf_27 ?_
              refine g_goto C 32 dX8_traceOf_28 (by decide) ?_
              refine g_iadd C dX8_traceOf_32 ?_
              refine g_istore_n C dX8_traceOf_33 (by decide) ?_
              refine g_iinc1 C dX8_traceOf_34 rfl (by decide) ?_
              refine g_goto C 4 dX8_traceOf_37 (by decide) ?_
              refine g_iload_n C dX8_traceOf_4 rfl ?_
              refine g_ic (n := 3) C dX8_traceOf_5 (by decide) ?_
              first | refine g_icgeN C 40 dX8_traceOf_6 (by decide) (by omega) (by omega) (fun h6_3 => ?_) (fun h6_3 => ?_) | refine g_icge C 40 dX8_traceOf_6 (by decide) (fun h6_3 => ?_) (fun h6_3 => ?_)
              · refine g_iload_n C dX8_traceOf_40 rfl ?_
                refine g_iret C dX8_traceOf_41 ?_
                exact ⟨congrArg (fun v => some (Value.int v)) (by clear b1 b2 b3; revert h16 h16_1 h16_2; revert a; decide +kernel), rfl⟩
              · exact absurd h6_3 (by first | omega | decide)
        · refine g_ic (n := 1) C dX8_traceOf_19 (by decide) ?_
          refine g_ic (n := 2) C dX8_traceOf_20 (by decide) ?_
          refine g_iload_n C dX8_traceOf_21 rfl ?_
          refine g_iload_n C dX8_traceOf_22 rfl ?_
          refine g_callSp C (c_X8_bit (d := d) (by first | assumption | omega | exact axN_lt _ (by assumption) _ (by omega)) (by first | assumption | omega | exact axN_lt _ (by assumption) _ (by omega))) dX8_traceOf_23 km_RX8_70 kn_RX8 kc_yX8_bit ks_yX8_bit (by omega) (by decide) ⟨by decide, by decide, rfl⟩ rfl (Nat.le_of_ble_eq_true rfl) ?_
          refine g_imul C dX8_traceOf_26 ?_
          refine g_isub C dX8_traceOf_27 ?_
          refine g_goto C 32 dX8_traceOf_28 (by decide) ?_
          refine g_iadd C dX8_traceOf_32 ?_
          refine g_istore_n C dX8_traceOf_33 (by decide) ?_
          refine g_iinc1 C dX8_traceOf_34 rfl (by decide) ?_
          refine g_goto C 4 dX8_traceOf_37 (by decide) ?_
          refine g_iload_n C dX8_traceOf_4 rfl ?_
          refine g_ic (n := 3) C dX8_traceOf_5 (by decide) ?_
          first | refine g_icgeN C 40 dX8_traceOf_6 (by decide) (by omega) (by omega) (fun h6_2 => ?_) (fun h6_2 => ?_) | refine g_icge C 40 dX8_traceOf_6 (by decide) (fun h6_2 => ?_) (fun h6_2 => ?_)
          · exact absurd h6_2 (by first | omega | decide)
          · refine g_iload_n C dX8_traceOf_9 rfl ?_
            refine g_iload_n C dX8_traceOf_10 rfl ?_
            refine g_iload_n C dX8_traceOf_11 rfl ?_
            refine g_callSp C (c_X8_axis (d := d) (by first | assumption | omega | exact axN_lt _ (by assumption) _ (by omega)) (by first | assumption | omega | exact axN_lt _ (by assumption) _ (by omega))) dX8_traceOf_12 km_RX8_74 kn_RX8 kc_yX8_axis ks_yX8_axis (by omega) (by decide) ⟨by decide, by decide, rfl⟩ rfl (Nat.le_of_ble_eq_true rfl) ?_
            refine g_iload_n C dX8_traceOf_15 rfl ?_
            first | refine g_icneN C 31 dX8_traceOf_16 (by decide) (by omega) (by omega) (fun h16_2 => ?_) (fun h16_2 => ?_) | refine g_icne C 31 dX8_traceOf_16 (by decide) (fun h16_2 => ?_) (fun h16_2 => ?_)
            · refine g_ic (n := 0) C dX8_traceOf_31 (by decide) ?_
              refine g_iadd C dX8_traceOf_32 ?_
              refine g_istore_n C dX8_traceOf_33 (by decide) ?_
              refine g_iinc1 C dX8_traceOf_34 rfl (by decide) ?_
              refine g_goto C 4 dX8_traceOf_37 (by decide) ?_
              refine g_iload_n C dX8_traceOf_4 rfl ?_
              refine g_ic (n := 3) C dX8_traceOf_5 (by decide) ?_
              first | refine g_icgeN C 40 dX8_traceOf_6 (by decide) (by omega) (by omega) (fun h6_3 => ?_) (fun h6_3 => ?_) | refine g_icge C 40 dX8_traceOf_6 (by decide) (fun h6_3 => ?_) (fun h6_3 => ?_)
              · refine g_iload_n C dX8_traceOf_40 rfl ?_
                refine g_iret C dX8_traceOf_41 ?_
                exact ⟨congrArg (fun v => some (Value.int v)) (by clear b1 b2 b3; revert h16 h16_1 h16_2; revert a; decide +kernel), rfl⟩
              · exact absurd h6_3 (by first | omega | decide)
            · refine g_ic (n := 1) C dX8_traceOf_19 (by decide) ?_
              refine g_ic (n := 2) C dX8_traceOf_20 (by decide) ?_
              refine g_iload_n C dX8_traceOf_21 rfl ?_
              refine g_iload_n C dX8_traceOf_22 rfl ?_
              refine g_callSp C (c_X8_bit (d := d) (by first | assumption | omega | exact axN_lt _ (by assumption) _ (by omega)) (by first | assumption | omega | exact axN_lt _ (by assumption) _ (by omega))) dX8_traceOf_23 km_RX8_70 kn_RX8 kc_yX8_bit ks_yX8_bit (by omega) (by decide) ⟨by decide, by decide, rfl⟩ rfl (Nat.le_of_ble_eq_true rfl) ?_
              refine g_imul C dX8_traceOf_26 ?_
              refine g_isub C dX8_traceOf_27 ?_
              refine g_goto C 32 dX8_traceOf_28 (by decide) ?_
              refine g_iadd C dX8_traceOf_32 ?_
              refine g_istore_n C dX8_traceOf_33 (by decide) ?_
              refine g_iinc1 C dX8_traceOf_34 rfl (by decide) ?_
              refine g_goto C 4 dX8_traceOf_37 (by decide) ?_
              refine g_iload_n C dX8_traceOf_4 rfl ?_
              refine g_ic (n := 3) C dX8_traceOf_5 (by decide) ?_
              first | refine g_icgeN C 40 dX8_traceOf_6 (by decide) (by omega) (by omega) (fun h6_3 => ?_) (fun h6_3 => ?_) | refine g_icge C 40 dX8_traceOf_6 (by decide) (fun h6_3 => ?_) (fun h6_3 => ?_)
              · refine g_iload_n C dX8_traceOf_40 rfl ?_
                refine g_iret C dX8_traceOf_41 ?_
                exact ⟨congrArg (fun v => some (Value.int v)) (by clear b1 b2 b3; revert h16 h16_1 h16_2; revert a; decide +kernel), rfl⟩
              · exact absurd h6_3 (by first | omega | decide)

set_option maxHeartbeats 4000000 in
set_option maxRecDepth 100000 in
theorem c_X8_turnOf {E : Ev} {d : Nat} {σ : St} {a : Nat} (ha : a < 48) : Con E (d + 1) yX8_turnOf cX8_turnOf 4 ((Option.some FieldType.int)) [.int (nI a)] σ (Det (some (.int (tuI a))) σ) := by
  refine con_of (by decide) (Nat.le_of_ble_eq_true rfl) (fun X hX C => ?_)
  have C : Cx E X cX8_turnOf RX8 4 ((Option.some FieldType.int)) := C
  show G E _ X _ _ _ 0 [(0, .int (nI a))] []
  refine g_iload_n C dX8_turnOf_0 rfl ?_
  refine g_bp C (nI 8) dX8_turnOf_1 (by decide) ?_
  refine g_idivN C dX8_turnOf_3 (by omega) (by omega) (by omega) ?_
  refine g_istore_n C dX8_turnOf_4 (by decide) ?_
  refine g_iload_n C dX8_turnOf_5 rfl ?_
  refine g_ifeqN C 19 dX8_turnOf_6 (by decide) (by omega) (fun h6 => ?_) (fun h6 => ?_)
  · refine g_ic (n := 1) C dX8_turnOf_19 (by decide) ?_
    refine g_goto C 24 dX8_turnOf_20 (by decide) ?_
    refine g_istore_n C dX8_turnOf_24 (by decide) ?_
    refine g_ic (n := 0) C dX8_turnOf_25 (by decide) ?_
    refine g_istore_n C dX8_turnOf_26 (by decide) ?_
    refine g_iload_n C dX8_turnOf_27 rfl ?_
    refine g_ic (n := 3) C dX8_turnOf_28 (by decide) ?_
    first | refine g_icgeN C 50 dX8_turnOf_29 (by decide) (by omega) (by omega) (fun h29 => ?_) (fun h29 => ?_) | refine g_icge C 50 dX8_turnOf_29 (by decide) (fun h29 => ?_) (fun h29 => ?_)
    · exact absurd h29 (by first | omega | decide)
    · refine g_iload_n C dX8_turnOf_32 rfl ?_
      refine g_ic (n := 1) C dX8_turnOf_33 (by decide) ?_
      refine g_ic (n := 2) C dX8_turnOf_34 (by decide) ?_
      refine g_iload_n C dX8_turnOf_35 rfl ?_
      refine g_iload_n C dX8_turnOf_36 rfl ?_
      refine g_callSp C (c_X8_bit (d := d) (by first | assumption | omega | exact axN_lt _ (by assumption) _ (by omega)) (by first | assumption | omega | exact axN_lt _ (by assumption) _ (by omega))) dX8_turnOf_37 km_RX8_70 kn_RX8 kc_yX8_bit ks_yX8_bit (by omega) (by decide) ⟨by decide, by decide, rfl⟩ rfl (Nat.le_of_ble_eq_true rfl) ?_
      refine g_imul C dX8_turnOf_40 ?_
      refine g_isub C dX8_turnOf_41 ?_
      refine g_imul C dX8_turnOf_42 ?_
      refine g_istore_n C dX8_turnOf_43 (by decide) ?_
      refine g_iinc1 C dX8_turnOf_44 rfl (by decide) ?_
      refine g_goto C 27 dX8_turnOf_47 (by decide) ?_
      refine g_iload_n C dX8_turnOf_27 rfl ?_
      refine g_ic (n := 3) C dX8_turnOf_28 (by decide) ?_
      first | refine g_icgeN C 50 dX8_turnOf_29 (by decide) (by omega) (by omega) (fun h29_1 => ?_) (fun h29_1 => ?_) | refine g_icge C 50 dX8_turnOf_29 (by decide) (fun h29_1 => ?_) (fun h29_1 => ?_)
      · exact absurd h29_1 (by first | omega | decide)
      · refine g_iload_n C dX8_turnOf_32 rfl ?_
        refine g_ic (n := 1) C dX8_turnOf_33 (by decide) ?_
        refine g_ic (n := 2) C dX8_turnOf_34 (by decide) ?_
        refine g_iload_n C dX8_turnOf_35 rfl ?_
        refine g_iload_n C dX8_turnOf_36 rfl ?_
        refine g_callSp C (c_X8_bit (d := d) (by first | assumption | omega | exact axN_lt _ (by assumption) _ (by omega)) (by first | assumption | omega | exact axN_lt _ (by assumption) _ (by omega))) dX8_turnOf_37 km_RX8_70 kn_RX8 kc_yX8_bit ks_yX8_bit (by omega) (by decide) ⟨by decide, by decide, rfl⟩ rfl (Nat.le_of_ble_eq_true rfl) ?_
        refine g_imul C dX8_turnOf_40 ?_
        refine g_isub C dX8_turnOf_41 ?_
        refine g_imul C dX8_turnOf_42 ?_
        refine g_istore_n C dX8_turnOf_43 (by decide) ?_
        refine g_iinc1 C dX8_turnOf_44 rfl (by decide) ?_
        refine g_goto C 27 dX8_turnOf_47 (by decide) ?_
        refine g_iload_n C dX8_turnOf_27 rfl ?_
        refine g_ic (n := 3) C dX8_turnOf_28 (by decide) ?_
        first | refine g_icgeN C 50 dX8_turnOf_29 (by decide) (by omega) (by omega) (fun h29_2 => ?_) (fun h29_2 => ?_) | refine g_icge C 50 dX8_turnOf_29 (by decide) (fun h29_2 => ?_) (fun h29_2 => ?_)
        · exact absurd h29_2 (by first | omega | decide)
        · refine g_iload_n C dX8_turnOf_32 rfl ?_
          refine g_ic (n := 1) C dX8_turnOf_33 (by decide) ?_
          refine g_ic (n := 2) C dX8_turnOf_34 (by decide) ?_
          refine g_iload_n C dX8_turnOf_35 rfl ?_
          refine g_iload_n C dX8_turnOf_36 rfl ?_
          refine g_callSp C (c_X8_bit (d := d) (by first | assumption | omega | exact axN_lt _ (by assumption) _ (by omega)) (by first | assumption | omega | exact axN_lt _ (by assumption) _ (by omega))) dX8_turnOf_37 km_RX8_70 kn_RX8 kc_yX8_bit ks_yX8_bit (by omega) (by decide) ⟨by decide, by decide, rfl⟩ rfl (Nat.le_of_ble_eq_true rfl) ?_
          refine g_imul C dX8_turnOf_40 ?_
          refine g_isub C dX8_turnOf_41 ?_
          refine g_imul C dX8_turnOf_42 ?_
          refine g_istore_n C dX8_turnOf_43 (by decide) ?_
          refine g_iinc1 C dX8_turnOf_44 rfl (by decide) ?_
          refine g_goto C 27 dX8_turnOf_47 (by decide) ?_
          refine g_iload_n C dX8_turnOf_27 rfl ?_
          refine g_ic (n := 3) C dX8_turnOf_28 (by decide) ?_
          first | refine g_icgeN C 50 dX8_turnOf_29 (by decide) (by omega) (by omega) (fun h29_3 => ?_) (fun h29_3 => ?_) | refine g_icge C 50 dX8_turnOf_29 (by decide) (fun h29_3 => ?_) (fun h29_3 => ?_)
          · refine g_iload_n C dX8_turnOf_50 rfl ?_
            refine g_iret C dX8_turnOf_51 ?_
            exact ⟨congrArg (fun v => some (Value.int v)) (by revert h6; revert a; decide +kernel), rfl⟩
          · exact absurd h29_3 (by first | omega | decide)
  · refine g_iload_n C dX8_turnOf_9 rfl ?_
    refine g_ic (n := 3) C dX8_turnOf_10 (by decide) ?_
    refine g_iceqN C 19 dX8_turnOf_11 (by decide) (by omega) (by omega) (fun h11 => ?_) (fun h11 => ?_)
    · refine g_ic (n := 1) C dX8_turnOf_19 (by decide) ?_
      refine g_goto C 24 dX8_turnOf_20 (by decide) ?_
      refine g_istore_n C dX8_turnOf_24 (by decide) ?_
      refine g_ic (n := 0) C dX8_turnOf_25 (by decide) ?_
      refine g_istore_n C dX8_turnOf_26 (by decide) ?_
      refine g_iload_n C dX8_turnOf_27 rfl ?_
      refine g_ic (n := 3) C dX8_turnOf_28 (by decide) ?_
      first | refine g_icgeN C 50 dX8_turnOf_29 (by decide) (by omega) (by omega) (fun h29 => ?_) (fun h29 => ?_) | refine g_icge C 50 dX8_turnOf_29 (by decide) (fun h29 => ?_) (fun h29 => ?_)
      · exact absurd h29 (by first | omega | decide)
      · refine g_iload_n C dX8_turnOf_32 rfl ?_
        refine g_ic (n := 1) C dX8_turnOf_33 (by decide) ?_
        refine g_ic (n := 2) C dX8_turnOf_34 (by decide) ?_
        refine g_iload_n C dX8_turnOf_35 rfl ?_
        refine g_iload_n C dX8_turnOf_36 rfl ?_
        refine g_callSp C (c_X8_bit (d := d) (by first | assumption | omega | exact axN_lt _ (by assumption) _ (by omega)) (by first | assumption | omega | exact axN_lt _ (by assumption) _ (by omega))) dX8_turnOf_37 km_RX8_70 kn_RX8 kc_yX8_bit ks_yX8_bit (by omega) (by decide) ⟨by decide, by decide, rfl⟩ rfl (Nat.le_of_ble_eq_true rfl) ?_
        refine g_imul C dX8_turnOf_40 ?_
        refine g_isub C dX8_turnOf_41 ?_
        refine g_imul C dX8_turnOf_42 ?_
        refine g_istore_n C dX8_turnOf_43 (by decide) ?_
        refine g_iinc1 C dX8_turnOf_44 rfl (by decide) ?_
        refine g_goto C 27 dX8_turnOf_47 (by decide) ?_
        refine g_iload_n C dX8_turnOf_27 rfl ?_
        refine g_ic (n := 3) C dX8_turnOf_28 (by decide) ?_
        first | refine g_icgeN C 50 dX8_turnOf_29 (by decide) (by omega) (by omega) (fun h29_1 => ?_) (fun h29_1 => ?_) | refine g_icge C 50 dX8_turnOf_29 (by decide) (fun h29_1 => ?_) (fun h29_1 => ?_)
        · exact absurd h29_1 (by first | omega | decide)
        · refine g_iload_n C dX8_turnOf_32 rfl ?_
          refine g_ic (n := 1) C dX8_turnOf_33 (by decide) ?_
          refine g_ic (n := 2) C dX8_turnOf_34 (by decide) ?_
          refine g_iload_n C dX8_turnOf_35 rfl ?_
          refine g_iload_n C dX8_turnOf_36 rfl ?_
          refine g_callSp C (c_X8_bit (d := d) (by first | assumption | omega | exact axN_lt _ (by assumption) _ (by omega)) (by first | assumption | omega | exact axN_lt _ (by assumption) _ (by omega))) dX8_turnOf_37 km_RX8_70 kn_RX8 kc_yX8_bit ks_yX8_bit (by omega) (by decide) ⟨by decide, by decide, rfl⟩ rfl (Nat.le_of_ble_eq_true rfl) ?_
          refine g_imul C dX8_turnOf_40 ?_
          refine g_isub C dX8_turnOf_41 ?_
          refine g_imul C dX8_turnOf_42 ?_
          refine g_istore_n C dX8_turnOf_43 (by decide) ?_
          refine g_iinc1 C dX8_turnOf_44 rfl (by decide) ?_
          refine g_goto C 27 dX8_turnOf_47 (by decide) ?_
          refine g_iload_n C dX8_turnOf_27 rfl ?_
          refine g_ic (n := 3) C dX8_turnOf_28 (by decide) ?_
          first | refine g_icgeN C 50 dX8_turnOf_29 (by decide) (by omega) (by omega) (fun h29_2 => ?_) (fun h29_2 => ?_) | refine g_icge C 50 dX8_turnOf_29 (by decide) (fun h29_2 => ?_) (fun h29_2 => ?_)
          · exact absurd h29_2 (by first | omega | decide)
          · refine g_iload_n C dX8_turnOf_32 rfl ?_
            refine g_ic (n := 1) C dX8_turnOf_33 (by decide) ?_
            refine g_ic (n := 2) C dX8_turnOf_34 (by decide) ?_
            refine g_iload_n C dX8_turnOf_35 rfl ?_
            refine g_iload_n C dX8_turnOf_36 rfl ?_
            refine g_callSp C (c_X8_bit (d := d) (by first | assumption | omega | exact axN_lt _ (by assumption) _ (by omega)) (by first | assumption | omega | exact axN_lt _ (by assumption) _ (by omega))) dX8_turnOf_37 km_RX8_70 kn_RX8 kc_yX8_bit ks_yX8_bit (by omega) (by decide) ⟨by decide, by decide, rfl⟩ rfl (Nat.le_of_ble_eq_true rfl) ?_
            refine g_imul C dX8_turnOf_40 ?_
            refine g_isub C dX8_turnOf_41 ?_
            refine g_imul C dX8_turnOf_42 ?_
            refine g_istore_n C dX8_turnOf_43 (by decide) ?_
            refine g_iinc1 C dX8_turnOf_44 rfl (by decide) ?_
            refine g_goto C 27 dX8_turnOf_47 (by decide) ?_
            refine g_iload_n C dX8_turnOf_27 rfl ?_
            refine g_ic (n := 3) C dX8_turnOf_28 (by decide) ?_
            first | refine g_icgeN C 50 dX8_turnOf_29 (by decide) (by omega) (by omega) (fun h29_3 => ?_) (fun h29_3 => ?_) | refine g_icge C 50 dX8_turnOf_29 (by decide) (fun h29_3 => ?_) (fun h29_3 => ?_)
            · refine g_iload_n C dX8_turnOf_50 rfl ?_
              refine g_iret C dX8_turnOf_51 ?_
              exact ⟨congrArg (fun v => some (Value.int v)) (by revert h6 h11; revert a; decide +kernel), rfl⟩
            · exact absurd h29_3 (by first | omega | decide)
    · refine g_iload_n C dX8_turnOf_14 rfl ?_
      refine g_ic (n := 4) C dX8_turnOf_15 (by decide) ?_
      refine g_icneN C 23 dX8_turnOf_16 (by decide) (by omega) (by omega) (fun h16 => ?_) (fun h16 => ?_)
      · refine g_icz (v := -1) C dX8_turnOf_23 (by decide) ?_
        refine g_istore_n C dX8_turnOf_24 (by decide) ?_
        refine g_ic (n := 0) C dX8_turnOf_25 (by decide) ?_
        refine g_istore_n C dX8_turnOf_26 (by decide) ?_
        refine g_iload_n C dX8_turnOf_27 rfl ?_
        refine g_ic (n := 3) C dX8_turnOf_28 (by decide) ?_
        first | refine g_icgeN C 50 dX8_turnOf_29 (by decide) (by omega) (by omega) (fun h29 => ?_) (fun h29 => ?_) | refine g_icge C 50 dX8_turnOf_29 (by decide) (fun h29 => ?_) (fun h29 => ?_)
        · exact absurd h29 (by first | omega | decide)
        · refine g_iload_n C dX8_turnOf_32 rfl ?_
          refine g_ic (n := 1) C dX8_turnOf_33 (by decide) ?_
          refine g_ic (n := 2) C dX8_turnOf_34 (by decide) ?_
          refine g_iload_n C dX8_turnOf_35 rfl ?_
          refine g_iload_n C dX8_turnOf_36 rfl ?_
          refine g_callSp C (c_X8_bit (d := d) (by first | assumption | omega | exact axN_lt _ (by assumption) _ (by omega)) (by first | assumption | omega | exact axN_lt _ (by assumption) _ (by omega))) dX8_turnOf_37 km_RX8_70 kn_RX8 kc_yX8_bit ks_yX8_bit (by omega) (by decide) ⟨by decide, by decide, rfl⟩ rfl (Nat.le_of_ble_eq_true rfl) ?_
          refine g_imul C dX8_turnOf_40 ?_
          refine g_isub C dX8_turnOf_41 ?_
          refine g_imul C dX8_turnOf_42 ?_
          refine g_istore_n C dX8_turnOf_43 (by decide) ?_
          refine g_iinc1 C dX8_turnOf_44 rfl (by decide) ?_
          refine g_goto C 27 dX8_turnOf_47 (by decide) ?_
          refine g_iload_n C dX8_turnOf_27 rfl ?_
          refine g_ic (n := 3) C dX8_turnOf_28 (by decide) ?_
          first | refine g_icgeN C 50 dX8_turnOf_29 (by decide) (by omega) (by omega) (fun h29_1 => ?_) (fun h29_1 => ?_) | refine g_icge C 50 dX8_turnOf_29 (by decide) (fun h29_1 => ?_) (fun h29_1 => ?_)
          · exact absurd h29_1 (by first | omega | decide)
          · refine g_iload_n C dX8_turnOf_32 rfl ?_
            refine g_ic (n := 1) C dX8_turnOf_33 (by decide) ?_
            refine g_ic (n := 2) C dX8_turnOf_34 (by decide) ?_
            refine g_iload_n C dX8_turnOf_35 rfl ?_
            refine g_iload_n C dX8_turnOf_36 rfl ?_
            refine g_callSp C (c_X8_bit (d := d) (by first | assumption | omega | exact axN_lt _ (by assumption) _ (by omega)) (by first | assumption | omega | exact axN_lt _ (by assumption) _ (by omega))) dX8_turnOf_37 km_RX8_70 kn_RX8 kc_yX8_bit ks_yX8_bit (by omega) (by decide) ⟨by decide, by decide, rfl⟩ rfl (Nat.le_of_ble_eq_true rfl) ?_
            refine g_imul C dX8_turnOf_40 ?_
            refine g_isub C dX8_turnOf_41 ?_
            refine g_imul C dX8_turnOf_42 ?_
            refine g_istore_n C dX8_turnOf_43 (by decide) ?_
            refine g_iinc1 C dX8_turnOf_44 rfl (by decide) ?_
            refine g_goto C 27 dX8_turnOf_47 (by decide) ?_
            refine g_iload_n C dX8_turnOf_27 rfl ?_
            refine g_ic (n := 3) C dX8_turnOf_28 (by decide) ?_
            first | refine g_icgeN C 50 dX8_turnOf_29 (by decide) (by omega) (by omega) (fun h29_2 => ?_) (fun h29_2 => ?_) | refine g_icge C 50 dX8_turnOf_29 (by decide) (fun h29_2 => ?_) (fun h29_2 => ?_)
            · exact absurd h29_2 (by first | omega | decide)
            · refine g_iload_n C dX8_turnOf_32 rfl ?_
              refine g_ic (n := 1) C dX8_turnOf_33 (by decide) ?_
              refine g_ic (n := 2) C dX8_turnOf_34 (by decide) ?_
              refine g_iload_n C dX8_turnOf_35 rfl ?_
              refine g_iload_n C dX8_turnOf_36 rfl ?_
              refine g_callSp C (c_X8_bit (d := d) (by first | assumption | omega | exact axN_lt _ (by assumption) _ (by omega)) (by first | assumption | omega | exact axN_lt _ (by assumption) _ (by omega))) dX8_turnOf_37 km_RX8_70 kn_RX8 kc_yX8_bit ks_yX8_bit (by omega) (by decide) ⟨by decide, by decide, rfl⟩ rfl (Nat.le_of_ble_eq_true rfl) ?_
              refine g_imul C dX8_turnOf_40 ?_
              refine g_isub C dX8_turnOf_41 ?_
              refine g_imul C dX8_turnOf_42 ?_
              refine g_istore_n C dX8_turnOf_43 (by decide) ?_
              refine g_iinc1 C dX8_turnOf_44 rfl (by decide) ?_
              refine g_goto C 27 dX8_turnOf_47 (by decide) ?_
              refine g_iload_n C dX8_turnOf_27 rfl ?_
              refine g_ic (n := 3) C dX8_turnOf_28 (by decide) ?_
              first | refine g_icgeN C 50 dX8_turnOf_29 (by decide) (by omega) (by omega) (fun h29_3 => ?_) (fun h29_3 => ?_) | refine g_icge C 50 dX8_turnOf_29 (by decide) (fun h29_3 => ?_) (fun h29_3 => ?_)
              · refine g_iload_n C dX8_turnOf_50 rfl ?_
                refine g_iret C dX8_turnOf_51 ?_
                exact ⟨congrArg (fun v => some (Value.int v)) (by revert h6 h11 h16; revert a; decide +kernel), rfl⟩
              · exact absurd h29_3 (by first | omega | decide)
      · refine g_ic (n := 1) C dX8_turnOf_19 (by decide) ?_
        refine g_goto C 24 dX8_turnOf_20 (by decide) ?_
        refine g_istore_n C dX8_turnOf_24 (by decide) ?_
        refine g_ic (n := 0) C dX8_turnOf_25 (by decide) ?_
        refine g_istore_n C dX8_turnOf_26 (by decide) ?_
        refine g_iload_n C dX8_turnOf_27 rfl ?_
        refine g_ic (n := 3) C dX8_turnOf_28 (by decide) ?_
        first | refine g_icgeN C 50 dX8_turnOf_29 (by decide) (by omega) (by omega) (fun h29 => ?_) (fun h29 => ?_) | refine g_icge C 50 dX8_turnOf_29 (by decide) (fun h29 => ?_) (fun h29 => ?_)
        · exact absurd h29 (by first | omega | decide)
        · refine g_iload_n C dX8_turnOf_32 rfl ?_
          refine g_ic (n := 1) C dX8_turnOf_33 (by decide) ?_
          refine g_ic (n := 2) C dX8_turnOf_34 (by decide) ?_
          refine g_iload_n C dX8_turnOf_35 rfl ?_
          refine g_iload_n C dX8_turnOf_36 rfl ?_
          refine g_callSp C (c_X8_bit (d := d) (by first | assumption | omega | exact axN_lt _ (by assumption) _ (by omega)) (by first | assumption | omega | exact axN_lt _ (by assumption) _ (by omega))) dX8_turnOf_37 km_RX8_70 kn_RX8 kc_yX8_bit ks_yX8_bit (by omega) (by decide) ⟨by decide, by decide, rfl⟩ rfl (Nat.le_of_ble_eq_true rfl) ?_
          refine g_imul C dX8_turnOf_40 ?_
          refine g_isub C dX8_turnOf_41 ?_
          refine g_imul C dX8_turnOf_42 ?_
          refine g_istore_n C dX8_turnOf_43 (by decide) ?_
          refine g_iinc1 C dX8_turnOf_44 rfl (by decide) ?_
          refine g_goto C 27 dX8_turnOf_47 (by decide) ?_
          refine g_iload_n C dX8_turnOf_27 rfl ?_
          refine g_ic (n := 3) C dX8_turnOf_28 (by decide) ?_
          first | refine g_icgeN C 50 dX8_turnOf_29 (by decide) (by omega) (by omega) (fun h29_1 => ?_) (fun h29_1 => ?_) | refine g_icge C 50 dX8_turnOf_29 (by decide) (fun h29_1 => ?_) (fun h29_1 => ?_)
          · exact absurd h29_1 (by first | omega | decide)
          · refine g_iload_n C dX8_turnOf_32 rfl ?_
            refine g_ic (n := 1) C dX8_turnOf_33 (by decide) ?_
            refine g_ic (n := 2) C dX8_turnOf_34 (by decide) ?_
            refine g_iload_n C dX8_turnOf_35 rfl ?_
            refine g_iload_n C dX8_turnOf_36 rfl ?_
            refine g_callSp C (c_X8_bit (d := d) (by first | assumption | omega | exact axN_lt _ (by assumption) _ (by omega)) (by first | assumption | omega | exact axN_lt _ (by assumption) _ (by omega))) dX8_turnOf_37 km_RX8_70 kn_RX8 kc_yX8_bit ks_yX8_bit (by omega) (by decide) ⟨by decide, by decide, rfl⟩ rfl (Nat.le_of_ble_eq_true rfl) ?_
            refine g_imul C dX8_turnOf_40 ?_
            refine g_isub C dX8_turnOf_41 ?_
            refine g_imul C dX8_turnOf_42 ?_
            refine g_istore_n C dX8_turnOf_43 (by decide) ?_
            refine g_iinc1 C dX8_turnOf_44 rfl (by decide) ?_
            refine g_goto C 27 dX8_turnOf_47 (by decide) ?_
            refine g_iload_n C dX8_turnOf_27 rfl ?_
            refine g_ic (n := 3) C dX8_turnOf_28 (by decide) ?_
            first | refine g_icgeN C 50 dX8_turnOf_29 (by decide) (by omega) (by omega) (fun h29_2 => ?_) (fun h29_2 => ?_) | refine g_icge C 50 dX8_turnOf_29 (by decide) (fun h29_2 => ?_) (fun h29_2 => ?_)
            · exact absurd h29_2 (by first | omega | decide)
            · refine g_iload_n C dX8_turnOf_32 rfl ?_
              refine g_ic (n := 1) C dX8_turnOf_33 (by decide) ?_
              refine g_ic (n := 2) C dX8_turnOf_34 (by decide) ?_
              refine g_iload_n C dX8_turnOf_35 rfl ?_
              refine g_iload_n C dX8_turnOf_36 rfl ?_
              refine g_callSp C (c_X8_bit (d := d) (by first | assumption | omega | exact axN_lt _ (by assumption) _ (by omega)) (by first | assumption | omega | exact axN_lt _ (by assumption) _ (by omega))) dX8_turnOf_37 km_RX8_70 kn_RX8 kc_yX8_bit ks_yX8_bit (by omega) (by decide) ⟨by decide, by decide, rfl⟩ rfl (Nat.le_of_ble_eq_true rfl) ?_
              refine g_imul C dX8_turnOf_40 ?_
              refine g_isub C dX8_turnOf_41 ?_
              refine g_imul C dX8_turnOf_42 ?_
              refine g_istore_n C dX8_turnOf_43 (by decide) ?_
              refine g_iinc1 C dX8_turnOf_44 rfl (by decide) ?_
              refine g_goto C 27 dX8_turnOf_47 (by decide) ?_
              refine g_iload_n C dX8_turnOf_27 rfl ?_
              refine g_ic (n := 3) C dX8_turnOf_28 (by decide) ?_
              first | refine g_icgeN C 50 dX8_turnOf_29 (by decide) (by omega) (by omega) (fun h29_3 => ?_) (fun h29_3 => ?_) | refine g_icge C 50 dX8_turnOf_29 (by decide) (fun h29_3 => ?_) (fun h29_3 => ?_)
              · refine g_iload_n C dX8_turnOf_50 rfl ?_
                refine g_iret C dX8_turnOf_51 ?_
                exact ⟨congrArg (fun v => some (Value.int v)) (by revert h6 h11 h16; revert a; decide +kernel), rfl⟩
              · exact absurd h29_3 (by first | omega | decide)

