/-! WHAT THE START GIVES: the classes, the array classes, the nest, what stands still (wip/whole/gen/start.py) -/
theorem t_arr {args : Array Value} {s : State} {ty : FieldType} (h : (Cond.arrayClass ty).before args s = true) : ∃ cA : ClassId, ArrOfT s cA ty ∧ s.vm.findClass ("[" ++ ty.toString) = some cA := by
  obtain ⟨cA, kA, comp, h1, h2, h3⟩ := Cond.arrayClass_spec h
  exact ⟨cA, fun n z => ⟨(fun k h => by cases h), kA, h2, comp, h3⟩, h1⟩
theorem t_arq {args : Array Value} {s : State} {C : String} (h : (Cond.arrayOver (.object C)).before args s = true) : ∃ cA : ClassId, ArrOfT s cA (.object C) ∧ va_RA s cA (.object C) := by
  obtain ⟨comp, cA, kA, h1, h2, h3, h4, h5⟩ := Cond.arrayOver_spec h
  exact ⟨cA, fun n z => ⟨(fun k h => by cases h), kA, h3, comp, h4⟩, kA, comp, h3, h4, h1, h5⟩
set_option maxHeartbeats 4000000 in
theorem s_known {args : Array Value} {s : State} (hts : ∀ w ∈ lw_tbl, w.before args s = true) : ∃ (D : va_G) (cs : Nat → ClassId), va_K D vwCl (ty5 cs) s := by
  obtain ⟨k0, j0, h0⟩ := u_known (C := RX0) (T := TX0) (N := 13) (n := 13) hts inX0 (hts (Cond.instantiable RX0 13) (List.mem_of_getElem? (i := 145) (by decide +kernel)))
  obtain ⟨k1, j1, h1⟩ := u_known (C := RX2) (T := TX2) (N := 3) (n := 3) hts inX2 (hts (Cond.instantiable RX2 3) (List.mem_of_getElem? (i := 109) (by decide +kernel)))
  obtain ⟨k2, j2, h2⟩ := u_known (C := RX3) (T := TX3) (N := 4) (n := 4) hts inX3 (hts (Cond.instantiable RX3 4) (List.mem_of_getElem? (i := 82) (by decide +kernel)))
  obtain ⟨k3, j3, h3⟩ := u_known (C := RX4) (T := TX4) (N := 3) (n := 3) hts inX4 (hts (Cond.instantiable RX4 3) (List.mem_of_getElem? (i := 88) (by decide +kernel)))
  obtain ⟨k4, j4, h4⟩ := u_known (C := RX5) (T := TX5) (N := 3) (n := 3) hts inX5 (hts (Cond.instantiable RX5 3) (List.mem_of_getElem? (i := 228) (by decide +kernel)))
  obtain ⟨k5, j5, h5⟩ := u_known (C := RX6) (T := TX6) (N := 5) (n := 5) hts inX6 (hts (Cond.instantiable RX6 5) (List.mem_of_getElem? (i := 202) (by decide +kernel)))
  obtain ⟨k6, j6, h6⟩ := u_known (C := RX7) (T := TX7) (N := 9) (n := 9) hts inX7 (hts (Cond.instantiable RX7 9) (List.mem_of_getElem? (i := 74) (by decide +kernel)))
  obtain ⟨k7, j7, h7⟩ := u_known (C := RX8) (T := TX8) (N := 22) (n := 22) hts inX8 (hts (Cond.instantiable RX8 22) (List.mem_of_getElem? (i := 716) (by decide +kernel)))
  obtain ⟨a0, a0x, a0y⟩ := t_arr (ty := .boolean) (hts _ (List.mem_of_getElem? (i := 198) (by decide +kernel)))
  obtain ⟨a1, a1x, a1y⟩ := t_arr (ty := .byte) (hts _ (List.mem_of_getElem? (i := 225) (by decide +kernel)))
  obtain ⟨a2, a2x, a2y⟩ := t_arr (ty := .int) (hts _ (List.mem_of_getElem? (i := 107) (by decide +kernel)))
  obtain ⟨a3, a3x, a3y⟩ := t_arr (ty := .long) (hts _ (List.mem_of_getElem? (i := 245) (by decide +kernel)))
  obtain ⟨a4, a4x, a4y⟩ := t_arq (C := "ShapeMoves$Tape") (hts _ (List.mem_of_getElem? (i := 227) (by decide +kernel)))
  refine ⟨(fun c => ([k0, k1, k2, k3, k4, k5, k6, k7] : List ClassId).getD c k0, fun c => ([j0, j1, j2, j3, j4, j5, j6, j7] : List (Nat → Nat)).getD c j0), fun c => ([a0, a1, a2, a3, a4] : List ClassId).getD c a0, fun c q hq => ?_, fun k q hq => ?_⟩
  · match c, hq with
    | 0, hq =>
      obtain rfl : (RX0, TX0, 13) = q := Option.some.inj hq
      exact h0
    | 1, hq =>
      obtain rfl : (RX2, TX2, 3) = q := Option.some.inj hq
      exact h1
    | 2, hq =>
      obtain rfl : (RX3, TX3, 4) = q := Option.some.inj hq
      exact h2
    | 3, hq =>
      obtain rfl : (RX4, TX4, 3) = q := Option.some.inj hq
      exact h3
    | 4, hq =>
      obtain rfl : (RX5, TX5, 3) = q := Option.some.inj hq
      exact h4
    | 5, hq =>
      obtain rfl : (RX6, TX6, 5) = q := Option.some.inj hq
      exact h5
    | 6, hq =>
      obtain rfl : (RX7, TX7, 9) = q := Option.some.inj hq
      exact h6
    | 7, hq =>
      obtain rfl : (RX8, TX8, 22) = q := Option.some.inj hq
      exact h7
    | c + 8, hq => exact absurd (show (none : Option vw_C) = some q from hq) (by simp)
  · match k, hq with
    | 0, hq =>
      obtain rfl : (a0, FieldType.boolean) = q := Option.some.inj hq
      exact ⟨a0x, a0y⟩
    | 1, hq =>
      obtain rfl : (a1, FieldType.byte) = q := Option.some.inj hq
      exact ⟨a1x, a1y⟩
    | 2, hq =>
      obtain rfl : (a2, FieldType.int) = q := Option.some.inj hq
      exact ⟨a2x, a2y⟩
    | 3, hq =>
      obtain rfl : (a3, FieldType.long) = q := Option.some.inj hq
      exact ⟨a3x, a3y⟩
    | 4, hq =>
      obtain rfl : (a4, FieldType.object "ShapeMoves$Tape") = q := Option.some.inj hq
      exact ⟨a4x, a4y⟩
    | k + 5, hq => exact absurd (show (none : Option (ClassId × FieldType)) = some q from hq) (by simp)
theorem s_nest {args : Array Value} {s : State} (hts : ∀ w ∈ lw_tbl, w.before args s = true) : nestOk s := by
  intro w hw
  simp only [nestW, List.mem_cons, List.not_mem_nil, or_false] at hw
  rcases hw with rfl | rfl | rfl | rfl | rfl | rfl | rfl | rfl | rfl | rfl | rfl | rfl | rfl | rfl | rfl | rfl | rfl | rfl | rfl | rfl | rfl | rfl | rfl | rfl | rfl | rfl | rfl | rfl | rfl
  · exact va_Nw.of rfl (hts _ nm_RX7_11)
  · exact va_Nw.of rfl (hts _ nm_RX3_9)
  · exact va_Nw.of rfl (hts _ nf_RX7_100)
  · exact va_Nw.of rfl (hts _ nf_RX7_85)
  · exact va_Nw.of rfl (hts _ nf_RX7_74)
  · exact va_Nw.of rfl (hts _ nf_RX0_66)
  · exact va_Nw.of rfl (hts _ nf_RX7_235)
  · exact va_Nw.of rfl (hts _ nf_RX7_232)
  · exact va_Nw.of rfl (hts _ nf_RX7_231)
  · exact va_Nw.of rfl (hts _ nf_RX7_67)
  · exact va_Nw.of rfl (hts _ nf_RX7_209)
  · exact va_Nw.of rfl (hts _ nf_RX7_252)
  · exact va_Nw.of rfl (hts _ nf_RX7_266)
  · exact va_Nw.of rfl (hts _ nm_RX7_27)
  · exact va_Nw.of rfl (hts _ nf_RX7_170)
  · exact va_Nw.of rfl (hts _ nf_RX7_181)
  · exact va_Nw.of rfl (hts _ nf_RX7_159)
  · exact va_Nw.of rfl (hts _ nf_RX7_97)
  · exact va_Nw.of rfl (hts _ nf_RX7_163)
  · exact va_Nw.of rfl (hts _ nf_RX7_184)
  · exact va_Nw.of rfl (hts _ nf_RX7_190)
  · exact va_Nw.of rfl (hts _ nf_RX7_160)
  · exact va_Nw.of rfl (hts _ nm_RX7_37)
  · exact va_Nw.of rfl (hts _ nm_RX7_47)
  · exact va_Nw.of rfl (hts _ nf_RX7_103)
  · exact va_Nw.of rfl (hts _ nf_RX7_111)
  · exact va_Nw.of rfl (hts _ nm_RX7_58)
  · exact va_Nw.of rfl (hts _ nf_RX7_278)
  · exact va_Nw.of rfl (hts _ nf_RX7_272)
theorem s_ao {args : Array Value} {s : State} (hts : ∀ w ∈ lw_tbl, w.before args s = true) : va_AO "ShapeMoves$Tape" s := va_AO.of (hts _ (List.mem_of_getElem? (i := 227) (by decide +kernel)))
abbrev frA (s : State) : Nat → Prop := fun q => s.heap.size ≤ q
abbrev gvC : Jvm.Cond := Jvm.Cond.and given_1 narrow_1
theorem sg_WAYS : ∀ j, j < 18 → (Cond.eq (.elem (.static RX1 "WAYS" "[I") (.int (Int32.ofNat j))) (.int (jw_WAYS.getD j 0))) ∈ flatC gvC := by decide +kernel
theorem sl_WAYS : (Cond.eq (.length (.static RX1 "WAYS" "[I")) (.int (Int32.ofNat 18))) ∈ flatC gvC ∧ (Cond.arrayOf (.static RX1 "WAYS" "[I") .int) ∈ flatC gvC := by decide +kernel
theorem sg_TURN_OF_WAY : ∀ j, j < 6 → (Cond.eq (.elem (.static RX1 "TURN_OF_WAY" "[I") (.int (Int32.ofNat j))) (.int (jw_TURN.getD j 0))) ∈ flatC gvC := by decide +kernel
theorem sl_TURN_OF_WAY : (Cond.eq (.length (.static RX1 "TURN_OF_WAY" "[I")) (.int (Int32.ofNat 6))) ∈ flatC gvC ∧ (Cond.arrayOf (.static RX1 "TURN_OF_WAY" "[I") .int) ∈ flatC gvC := by decide +kernel
theorem sg_WAY_BACK : ∀ j, j < 6 → (Cond.eq (.elem (.static RX1 "WAY_BACK" "[I") (.int (Int32.ofNat j))) (.int (jw_BACK.getD j 0))) ∈ flatC gvC := by decide +kernel
theorem sl_WAY_BACK : (Cond.eq (.length (.static RX1 "WAY_BACK" "[I")) (.int (Int32.ofNat 6))) ∈ flatC gvC ∧ (Cond.arrayOf (.static RX1 "WAY_BACK" "[I") .int) ∈ flatC gvC := by decide +kernel
theorem sg_text : ∀ j, j < 18 → (Cond.eq (.elem (.field (.string RX8 62) "java/lang/String" "value" "[B") (.int (Int32.ofNat j))) (.int (jw_TEXT.getD j 0))) ∈ flatC gvC := by decide +kernel
theorem sl_text : (Cond.exactly (.string RX8 62) "java/lang/String") ∈ flatC gvC ∧ (Cond.eq (.field (.string RX8 62) "java/lang/String" "coder" "B") (.int 0)) ∈ flatC gvC ∧ (Cond.arrayOf (.field (.string RX8 62) "java/lang/String" "value" "[B") .byte) ∈ flatC gvC ∧ (Cond.eq (.length (.field (.string RX8 62) "java/lang/String" "value" "[B")) (.int (Int32.ofNat 18))) ∈ flatC gvC ∧ (Cond.eq (.static "java/lang/String" "COMPACT_STRINGS" "Z") (.int 1)) ∈ flatC gvC ∧ (Cond.isRef (.static "jdk/internal/util/Preconditions" "SIOOBE_FORMATTER" "Ljava/util/function/BiFunction;")) ∈ flatC gvC := by decide +kernel
set_option maxHeartbeats 4000000 in
theorem s_sta {args : Array Value} {s : State} (hts : ∀ w ∈ lw_tbl, w.before args s = true) (hgv : gvC.before args s = true) : ∃ sA : Nat → Nat, ∀ (l : Launch) (D : va_G) (ad : Nat → Nat) (cs : Nat → ClassId), Sta (l, D, ad, cs, frA s, sA) s s.heap := by
  have hs := flat_of_before _ hgv
  have hA : ∀ a : Nat, a < s.heap.size → ¬ frA s a := fun a h q => Nat.not_lt.mpr q h
  obtain ⟨t0, e0, T0⟩ := va_Tof (ty := .int) (N := 18) (f := fun j => .int (jw_WAYS.getD j 0)) (A := frA s) (by decide) (hs _ sl_WAYS.2) (va_eqt (hs _ sl_WAYS.1)) (fun j hj => va_eqt (hs _ (sg_WAYS j hj))) hA
  have Z0 := va_Zref (C := RX1) (n := "WAYS") (d := "[I") (hts _ (List.mem_of_getElem? (i := 350) (by decide +kernel))) (hts (Cond.initialized RX1) (List.mem_of_getElem? (i := 66) (by decide +kernel))) e0 hA
  obtain ⟨t1, e1, T1⟩ := va_Tof (ty := .int) (N := 6) (f := fun j => .int (jw_TURN.getD j 0)) (A := frA s) (by decide) (hs _ sl_TURN_OF_WAY.2) (va_eqt (hs _ sl_TURN_OF_WAY.1)) (fun j hj => va_eqt (hs _ (sg_TURN_OF_WAY j hj))) hA
  have Z1 := va_Zref (C := RX1) (n := "TURN_OF_WAY") (d := "[I") (hts _ (List.mem_of_getElem? (i := 465) (by decide +kernel))) (hts (Cond.initialized RX1) (List.mem_of_getElem? (i := 66) (by decide +kernel))) e1 hA
  obtain ⟨t2, e2, T2⟩ := va_Tof (ty := .int) (N := 6) (f := fun j => .int (jw_BACK.getD j 0)) (A := frA s) (by decide) (hs _ sl_WAY_BACK.2) (va_eqt (hs _ sl_WAY_BACK.1)) (fun j hj => va_eqt (hs _ (sg_WAY_BACK j hj))) hA
  have Z2 := va_Zref (C := RX1) (n := "WAY_BACK") (d := "[I") (hts _ (List.mem_of_getElem? (i := 384) (by decide +kernel))) (hts (Cond.initialized RX1) (List.mem_of_getElem? (i := 66) (by decide +kernel))) e2 hA
  obtain ⟨adK, adV, hV, hk⟩ := vk_Sof (N := 1) (tm := fun _ => .string RX8 62) (len := [18]) (byt := [jw_TEXT]) (A := frA s) (fun i hi => by have e0 : i = 0 := (by omega); subst e0; decide) (fun i hi => hs _ sl_text.1) (fun i hi => hs _ sl_text.2.1) (fun i hi => hs _ sl_text.2.2.1) (fun i hi => by have e0 : i = 0 := (by omega); subst e0; exact hs _ sl_text.2.2.2.1) (fun i hi j hj => by have e0 : i = 0 := (by omega); subst e0; exact hs _ (sg_text j hj)) (fun i j hi hj h => absurd (show i = j by omega) h) hA
  have hV2 : vk_S 1 [18] [jw_TEXT] (fun _ => adK 0) (fun _ => adV 0) (frA s) s s.heap := ⟨fun i hi => by have e0 : i = 0 := (by omega); subst e0; exact hV.1 0 (by decide), fun i j hi hj _ => by omega⟩
  exact ⟨fun i => ([t0, t1, t2, adK 0, adV 0] : List Nat).getD i 0, fun l D ad cs => ⟨Z0, T0, Z1, T1, Z2, T2, va_Zof (hts _ (List.mem_of_getElem? (i := 855) (by decide +kernel))) (hts (Cond.initialized "java/lang/String") (List.mem_of_getElem? (i := 68) (by decide +kernel))) (va_eqt (hs _ sl_text.2.2.2.2.1)) hA, hV2, vk_R.of (hts (Cond.stringRef RX8 62 "012021102120201210") (List.mem_of_getElem? (i := 845) (by decide +kernel))) (hk 0 (by decide)), va_Zqof (hts _ (List.mem_of_getElem? (i := 863) (by decide +kernel))) (hts (Cond.initialized "jdk/internal/util/Preconditions") (List.mem_of_getElem? (i := 70) (by decide +kernel))) (hs _ sl_text.2.2.2.2.2) hA, s_nest hts⟩⟩
