/-! WHAT THE START GIVES: the classes, the array classes, the nest, what stands still (wip/whole/gen/start.py) -/
theorem xs_back (x : Int32) : nI x.toBitVec.toNat = x := by
  apply Int32.toBitVec_inj.mp
  show BitVec.ofNat 32 _ = _
  rw [BitVec.ofNat_toNat, BitVec.setWidth_eq]
theorem t_arr {args : Array Value} {s : State} {ty : FieldType} (h : (Cond.arrayClass ty).before args s = true) : ∃ cA : ClassId, ArrOfT s cA ty ∧ s.vm.findClass ("[" ++ ty.toString) = some cA := by
  obtain ⟨cA, kA, comp, h1, h2, h3⟩ := Cond.arrayClass_spec h
  exact ⟨cA, fun n z => ⟨(fun k h => by cases h), kA, h2, comp, h3⟩, h1⟩
theorem t_arq {args : Array Value} {s : State} {C : String} (h : (Cond.arrayOver (.object C)).before args s = true) : ∃ cA : ClassId, ArrOfT s cA (.object C) ∧ va_RA s cA (.object C) := by
  obtain ⟨comp, cA, kA, h1, h2, h3, h4, h5⟩ := Cond.arrayOver_spec h
  exact ⟨cA, fun n z => ⟨(fun k h => by cases h), kA, h3, comp, h4⟩, kA, comp, h3, h4, h1, h5⟩
set_option maxHeartbeats 4000000 in
theorem s_known {args : Array Value} {s : State} (hts : ∀ w ∈ lw_tbl, w.before args s = true) : ∃ (D : va_G) (cs : Nat → ClassId), va_K D vwCl (ty5 cs) s := by
  obtain ⟨k0, j0, h0⟩ := u_known (C := RX0) (T := TX0) (N := 13) (n := 13) hts inX0 (hts (Cond.instantiable RX0 13) (List.mem_of_getElem? (i := 97) (by decide +kernel)))
  obtain ⟨k1, j1, h1⟩ := u_known (C := RX2) (T := TX2) (N := 3) (n := 3) hts inX2 (hts (Cond.instantiable RX2 3) (List.mem_of_getElem? (i := 376) (by decide +kernel)))
  obtain ⟨k2, j2, h2⟩ := u_known (C := RX3) (T := TX3) (N := 4) (n := 4) hts inX3 (hts (Cond.instantiable RX3 4) (List.mem_of_getElem? (i := 350) (by decide +kernel)))
  obtain ⟨k3, j3, h3⟩ := u_known (C := RX4) (T := TX4) (N := 3) (n := 3) hts inX4 (hts (Cond.instantiable RX4 3) (List.mem_of_getElem? (i := 72) (by decide +kernel)))
  obtain ⟨k4, j4, h4⟩ := u_known (C := RX5) (T := TX5) (N := 3) (n := 3) hts inX5 (hts (Cond.instantiable RX5 3) (List.mem_of_getElem? (i := 491) (by decide +kernel)))
  obtain ⟨k5, j5, h5⟩ := u_known (C := RX6) (T := TX6) (N := 5) (n := 5) hts inX6 (hts (Cond.instantiable RX6 5) (List.mem_of_getElem? (i := 466) (by decide +kernel)))
  obtain ⟨k6, j6, h6⟩ := u_known (C := RX7) (T := TX7) (N := 9) (n := 9) hts inX7 (hts (Cond.instantiable RX7 9) (List.mem_of_getElem? (i := 37) (by decide +kernel)))
  obtain ⟨a0, a0x, a0y⟩ := t_arr (ty := .boolean) (hts _ (List.mem_of_getElem? (i := 462) (by decide +kernel)))
  obtain ⟨a1, a1x, a1y⟩ := t_arr (ty := .byte) (hts _ (List.mem_of_getElem? (i := 488) (by decide +kernel)))
  obtain ⟨a2, a2x, a2y⟩ := t_arr (ty := .int) (hts _ (List.mem_of_getElem? (i := 374) (by decide +kernel)))
  obtain ⟨a3, a3x, a3y⟩ := t_arr (ty := .long) (hts _ (List.mem_of_getElem? (i := 508) (by decide +kernel)))
  obtain ⟨a4, a4x, a4y⟩ := t_arq (C := "ShapeMoves$Tape") (hts _ (List.mem_of_getElem? (i := 490) (by decide +kernel)))
  refine ⟨(fun c => ([k0, k1, k2, k3, k4, k5, k6] : List ClassId).getD c k0, fun c => ([j0, j1, j2, j3, j4, j5, j6] : List (Nat → Nat)).getD c j0), fun c => ([a0, a1, a2, a3, a4] : List ClassId).getD c a0, fun c q hq => ?_, fun k q hq => ?_⟩
  · match c, hq with
    | 0, hq =>
      obtain rfl : (RX0, TX0, 13) = q := Option.some.inj hq
      exact h0
    | 1, hq =>
      obtain rfl : (RX2, TX2, 3) = q := Option.some.inj hq
      exact h1
    | 2, hq =>
      obtain rfl : (RX3, TX3, 4) = q := Option.some.inj hq
      exact h2
    | 3, hq =>
      obtain rfl : (RX4, TX4, 3) = q := Option.some.inj hq
      exact h3
    | 4, hq =>
      obtain rfl : (RX5, TX5, 3) = q := Option.some.inj hq
      exact h4
    | 5, hq =>
      obtain rfl : (RX6, TX6, 5) = q := Option.some.inj hq
      exact h5
    | 6, hq =>
      obtain rfl : (RX7, TX7, 9) = q := Option.some.inj hq
      exact h6
    | c + 7, hq => exact absurd (show (none : Option vw_C) = some q from hq) (by simp)
  · match k, hq with
    | 0, hq =>
      obtain rfl : (a0, FieldType.boolean) = q := Option.some.inj hq
      exact ⟨a0x, a0y⟩
    | 1, hq =>
      obtain rfl : (a1, FieldType.byte) = q := Option.some.inj hq
      exact ⟨a1x, a1y⟩
    | 2, hq =>
      obtain rfl : (a2, FieldType.int) = q := Option.some.inj hq
      exact ⟨a2x, a2y⟩
    | 3, hq =>
      obtain rfl : (a3, FieldType.long) = q := Option.some.inj hq
      exact ⟨a3x, a3y⟩
    | 4, hq =>
      obtain rfl : (a4, FieldType.object "ShapeMoves$Tape") = q := Option.some.inj hq
      exact ⟨a4x, a4y⟩
    | k + 5, hq => exact absurd (show (none : Option (ClassId × FieldType)) = some q from hq) (by simp)
theorem s_nest {args : Array Value} {s : State} (hts : ∀ w ∈ lw_tbl, w.before args s = true) : nestOk s := by
  intro w hw
  simp only [nestW, List.mem_cons, List.not_mem_nil, or_false] at hw
  rcases hw with rfl | rfl | rfl | rfl | rfl | rfl | rfl | rfl | rfl | rfl | rfl | rfl | rfl | rfl | rfl | rfl | rfl | rfl | rfl | rfl | rfl | rfl | rfl | rfl | rfl | rfl
  · exact va_Nw.of rfl (hts _ nf_RX7_100)
  · exact va_Nw.of rfl (hts _ nf_RX7_85)
  · exact va_Nw.of rfl (hts _ nf_RX7_74)
  · exact va_Nw.of rfl (hts _ nf_RX0_66)
  · exact va_Nw.of rfl (hts _ nf_RX7_235)
  · exact va_Nw.of rfl (hts _ nf_RX7_232)
  · exact va_Nw.of rfl (hts _ nf_RX7_231)
  · exact va_Nw.of rfl (hts _ nf_RX7_67)
  · exact va_Nw.of rfl (hts _ nf_RX7_209)
  · exact va_Nw.of rfl (hts _ nf_RX7_252)
  · exact va_Nw.of rfl (hts _ nf_RX7_266)
  · exact va_Nw.of rfl (hts _ nf_RX7_170)
  · exact va_Nw.of rfl (hts _ nf_RX7_181)
  · exact va_Nw.of rfl (hts _ nf_RX7_159)
  · exact va_Nw.of rfl (hts _ nf_RX7_97)
  · exact va_Nw.of rfl (hts _ nf_RX7_163)
  · exact va_Nw.of rfl (hts _ nf_RX7_160)
  · exact va_Nw.of rfl (hts _ nf_RX7_103)
  · exact va_Nw.of rfl (hts _ nf_RX7_278)
  · exact va_Nw.of rfl (hts _ nf_RX7_272)
  · exact va_Nw.of rfl (hts _ nm_RX7_11)
  · exact va_Nw.of rfl (hts _ nm_RX3_9)
  · exact va_Nw.of rfl (hts _ nm_RX7_27)
  · exact va_Nw.of rfl (hts _ nm_RX7_37)
  · exact va_Nw.of rfl (hts _ nm_RX7_47)
  · exact va_Nw.of rfl (hts _ nm_RX7_58)
theorem s_ao {args : Array Value} {s : State} (hts : ∀ w ∈ lw_tbl, w.before args s = true) : va_AO "ShapeMoves$Tape" s := va_AO.of (hts _ (List.mem_of_getElem? (i := 490) (by decide +kernel)))
abbrev frA (s : State) : Nat → Prop := fun q => s.heap.size ≤ q
abbrev gvC : Jvm.Cond := Jvm.Cond.and given_1 narrow_1
theorem sg_WAYS : ∀ j, j < 18 → (Cond.eq (.elem (.static RX1 "WAYS" "[I") (.int (Int32.ofNat j))) (.int (jw_WAYS.getD j 0))) ∈ flatC gvC := by decide +kernel
theorem sl_WAYS : (Cond.eq (.length (.static RX1 "WAYS" "[I")) (.int (Int32.ofNat 18))) ∈ flatC gvC ∧ (Cond.arrayOf (.static RX1 "WAYS" "[I") .int) ∈ flatC gvC := by decide +kernel
theorem sg_TURN_OF_WAY : ∀ j, j < 6 → (Cond.eq (.elem (.static RX1 "TURN_OF_WAY" "[I") (.int (Int32.ofNat j))) (.int (jw_TURN.getD j 0))) ∈ flatC gvC := by decide +kernel
theorem sl_TURN_OF_WAY : (Cond.eq (.length (.static RX1 "TURN_OF_WAY" "[I")) (.int (Int32.ofNat 6))) ∈ flatC gvC ∧ (Cond.arrayOf (.static RX1 "TURN_OF_WAY" "[I") .int) ∈ flatC gvC := by decide +kernel
theorem sg_WAY_BACK : ∀ j, j < 6 → (Cond.eq (.elem (.static RX1 "WAY_BACK" "[I") (.int (Int32.ofNat j))) (.int (jw_BACK.getD j 0))) ∈ flatC gvC := by decide +kernel
theorem sl_WAY_BACK : (Cond.eq (.length (.static RX1 "WAY_BACK" "[I")) (.int (Int32.ofNat 6))) ∈ flatC gvC ∧ (Cond.arrayOf (.static RX1 "WAY_BACK" "[I") .int) ∈ flatC gvC := by decide +kernel
set_option maxHeartbeats 4000000 in
theorem s_sta {args : Array Value} {s : State} {b n : Nat} {xs : Nat → Int32} (hts : ∀ w ∈ lw_tbl, w.before args s = true) (hgv : gvC.before args s = true) (hX : va_X b n xs s s.heap) (hn : n ≤ 260) : ∃ sA : Nat → Nat, sA 3 = b ∧ sA 4 = n ∧ (∀ j, sA (5 + j) = (xs j).toBitVec.toNat) ∧ ∀ (l : Launch) (D : va_G) (ad : Nat → Nat) (cs : Nat → ClassId), Sta (l, D, ad, cs, frA s, sA) s s.heap := by
  have hs := flat_of_before _ hgv
  have hA : ∀ a : Nat, a < s.heap.size → ¬ frA s a := fun a h q => Nat.not_lt.mpr q h
  obtain ⟨t0, e0, T0⟩ := va_Tof (ty := .int) (N := 18) (f := fun j => .int (jw_WAYS.getD j 0)) (A := frA s) (by decide) (hs _ sl_WAYS.2) (va_eqt (hs _ sl_WAYS.1)) (fun j hj => va_eqt (hs _ (sg_WAYS j hj))) hA
  have Z0 := va_Zref (C := RX1) (n := "WAYS") (d := "[I") (hts _ (List.mem_of_getElem? (i := 86) (by decide +kernel))) (hts (Cond.initialized RX1) (List.mem_of_getElem? (i := 26) (by decide +kernel))) e0 hA
  obtain ⟨t1, e1, T1⟩ := va_Tof (ty := .int) (N := 6) (f := fun j => .int (jw_TURN.getD j 0)) (A := frA s) (by decide) (hs _ sl_TURN_OF_WAY.2) (va_eqt (hs _ sl_TURN_OF_WAY.1)) (fun j hj => va_eqt (hs _ (sg_TURN_OF_WAY j hj))) hA
  have Z1 := va_Zref (C := RX1) (n := "TURN_OF_WAY") (d := "[I") (hts _ (List.mem_of_getElem? (i := 159) (by decide +kernel))) (hts (Cond.initialized RX1) (List.mem_of_getElem? (i := 26) (by decide +kernel))) e1 hA
  obtain ⟨t2, e2, T2⟩ := va_Tof (ty := .int) (N := 6) (f := fun j => .int (jw_BACK.getD j 0)) (A := frA s) (by decide) (hs _ sl_WAY_BACK.2) (va_eqt (hs _ sl_WAY_BACK.1)) (fun j hj => va_eqt (hs _ (sg_WAY_BACK j hj))) hA
  have Z2 := va_Zref (C := RX1) (n := "WAY_BACK") (d := "[I") (hts _ (List.mem_of_getElem? (i := 124) (by decide +kernel))) (hts (Cond.initialized RX1) (List.mem_of_getElem? (i := 26) (by decide +kernel))) e2 hA
  refine ⟨fun i => match i with | 0 => t0 | 1 => t1 | 2 => t2 | 3 => b | 4 => n | i + 5 => (xs i).toBitVec.toNat, rfl, rfl, fun j => by rw [Nat.add_comm], fun l D ad cs => ⟨Z0, T0, Z1, T1, Z2, T2, ⟨?_, hA b (x_lt hX), hn⟩, s_nest hts⟩⟩
  have e : (fun j => nI ((fun i => match i with | 0 => t0 | 1 => t1 | 2 => t2 | 3 => b | 4 => n | i + 5 => (xs i).toBitVec.toNat : Nat → Nat) (5 + j))) = xs := funext fun j => by
    rw [Nat.add_comm]
    show nI (xs j).toBitVec.toNat = xs j
    exact xs_back (xs j)
  show va_X b n (fun j => nI ((fun i => match i with | 0 => t0 | 1 => t1 | 2 => t2 | 3 => b | 4 => n | i + 5 => (xs i).toBitVec.toNat : Nat → Nat) (5 + j))) s s.heap
  rw [e]
  exact hX
