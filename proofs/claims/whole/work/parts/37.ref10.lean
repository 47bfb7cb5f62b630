/-! THE REFERENCE over the same state: tapes, judging -/
theorem so_m1 {x : Int32} (h : inB x (-1) 4 = true) (h0 : x < 0) : x = -1 := by
  rw [ltI, Int32.toInt_zero] at h0
  simp only [inB, decide_eq_true_eq] at h
  rw [← Int32.toInt_inj, show (-1 : Int32).toInt = -1 from by decide]
  omega
theorem so_ge {x : Int32} (h0 : ¬ x < 0) : ¬ x = -1 := fun e => h0 (by rw [e]; decide)
theorem so_04 {x : Int32} (h : inB x (-1) 4 = true) (h0 : ¬ x < 0) : inB x 0 4 = true := by
  rw [ltI, Int32.toInt_zero] at h0
  simp only [inB, decide_eq_true_eq] at h ⊢
  omega
theorem so_out {x : Int32} (h : inB x (-1) 4 = false) : ¬ x = -1 ∧ inB x 0 4 = false := by
  simp only [inB, decide_eq_false_iff_not] at h ⊢
  refine ⟨fun e => h (by rw [e, show (-1 : Int32).toInt = -1 from by decide]; omega), fun q => h (by omega)⟩
theorem so_in {x : Int32} (h : inB x 0 4 = true) : inB x (-1) 4 = true := by
  simp only [inB, decide_eq_true_eq] at h ⊢
  omega
theorem n60 {n : Int32} (h0 : ¬ n < 0) (h : n ≤ nI 60) : ∃ m, m ≤ 60 ∧ n = nI m := in_n (k := 60) (in_le_t (k := 60) (by decide) h0 h)
def zf (g : Nat → Int64) (a i : Nat) : Nat → Int64 := fun q => if a ≤ q ∧ q < a + i then 0 else g q
theorem zf_0 {g : Nat → Int64} {a : Nat} : zf g a 0 = g := by funext q; unfold zf; rw [if_neg (by omega)]
theorem zf_s {g : Nat → Int64} {a i : Nat} : vp_updL (zf g a i) (a + i) 0 = zf g a (i + 1) := by
  funext q
  by_cases e : q = a + i
  · subst e; rw [upL_i]; unfold zf; rw [if_pos (by omega)]
  · rw [upL_n e]; unfold zf
    by_cases c : a ≤ q ∧ q < a + i
    · rw [if_pos c, if_pos (by omega)]
    · rw [if_neg c, if_neg (by omega)]
theorem sL_sL {σ : St} {c : Nat} {f g : Nat → Int64} : sL (sL σ c f) c g = sL σ c g := by
  unfold sL
  congr 1
  funext q
  by_cases e : q = c
  · simp [e]
  · simp [e]
theorem sL_id {σ : St} {c : Nat} : sL σ c (σ.2 c) = σ := by
  unfold sL
  rw [show (fun q => if q = c then σ.2 c else σ.2 q) = σ.2 from by funext q; by_cases e : q = c; subst e; rw [if_pos rfl]; rw [if_neg e]]
theorem RfIs.tp {σ σ' : St} {s : Ms} {j n : Nat} {so : Int32} {V : Nat → Int64} (hs : RfIs σ s) (hF : Fk [] [76, 77, 78] σ σ') (h1 : σ'.1 76 j = so) (h2 : σ'.1 77 j = nI n) (h3 : n ≤ 60) (h4 : inB so (-1) 4 = true) (h5 : so = -1 → n = 0) (h6 : ∀ i, i < n → σ'.2 78 (60 * j + i) = V i)
    (hq : ∀ k, k < 6 → k ≠ j → σ'.1 76 k = σ.1 76 k ∧ σ'.1 77 k = σ.1 77 k ∧ ∀ i, i < 60 → σ'.2 78 (60 * k + i) = σ.2 78 (60 * k + i)) : RfIs σ' (sTp s j (so, n, V)) := by
  obtain ⟨a1, a2, a3, a4⟩ := hs
  refine ⟨by rw [(hF.1 65 (by simp)).1]; exact a1, a2.go (hF.2 3 (by simp)) (hF.1 67 (by simp)).1, a3.go (hF.2 14 (by simp)) (hF.1 74 (by simp)).1, fun k hk => ?_⟩
  show σ'.1 76 k = (if k = j then (so, n, V) else s.2.2.2 k).1 ∧ σ'.1 77 k = nI (if k = j then (so, n, V) else s.2.2.2 k).2.1 ∧ (if k = j then (so, n, V) else s.2.2.2 k).2.1 ≤ 60 ∧ inB (if k = j then (so, n, V) else s.2.2.2 k).1 (-1) 4 = true ∧ ((if k = j then (so, n, V) else s.2.2.2 k).1 = -1 → (if k = j then (so, n, V) else s.2.2.2 k).2.1 = 0) ∧ ∀ i, i < (if k = j then (so, n, V) else s.2.2.2 k).2.1 → σ'.2 78 (60 * k + i) = (if k = j then (so, n, V) else s.2.2.2 k).2.2 i
  by_cases e : k = j
  · subst e
    rw [if_pos rfl]
    exact ⟨h1, h2, h3, h4, h5, h6⟩
  · rw [if_neg e]
    obtain ⟨b1, b2, b3, b4, b5, b6⟩ := a4 k hk
    obtain ⟨c1, c2, c3⟩ := hq k hk e
    exact ⟨c1.trans b1, c2.trans b2, b3, b4, b5, fun i hi => (c3 i (by omega)).trans (b6 i hi)⟩

set_option maxHeartbeats 4000000 in
set_option maxRecDepth 100000 in
theorem c_X8_isTape {E : Ev} {d : Nat} {σ : St} {x : Int32} : Con E (d + 1) yX8_isTape cX8_isTape 1 ((Option.some FieldType.boolean)) [.int x] σ (Det (some (.int (bI (inB x 0 5)))) σ) := by
  refine con_of (by decide) (Nat.le_of_ble_eq_true rfl) (fun X hX C => ?_)
  have C : Cx E X cX8_isTape RX8 1 ((Option.some FieldType.boolean)) := C
  show G E _ X _ _ _ 0 [(0, .int x)] []
  refine g_iload_n C dX8_isTape_0 rfl ?_
  refine g_i2l C _ dX8_isTape_1 rfl ?_
  refine g_lc (v := 0) C dX8_isTape_2 (by decide) ?_
  refine g_ldc2 C (5) dX8_isTape_3 (List.mem_of_getElem? (i := 1048) (by decide +kernel)) ?_
  refine g_callSp C (c_X8_in (d := d) (0) (5) (by decide) (by decide)) dX8_isTape_6 km_RX8_56 kn_RX8 kc_yX8_in ks_yX8_in (by omega) (by decide) ⟨by decide, by decide, rfl⟩ rfl (Nat.le_of_ble_eq_true rfl) ?_
  refine g_zret C (by first | exact bI_01 _ | exact Or.inl rfl | exact Or.inr rfl) dX8_isTape_9 ?_
  exact ⟨rfl, rfl⟩

set_option maxHeartbeats 4000000 in
set_option maxRecDepth 100000 in
theorem c_X8_narrowed {E : Ev} {d : Nat} {σ : St} {so : Int32} {v : Int64} : Con E (d) yX8_narrowed cX8_narrowed 3 ((Option.some FieldType.long)) [.int so, .long v] σ (Det (some (.long (asI so v))) σ) := by
  refine con_of (by decide) (Nat.le_of_ble_eq_true rfl) (fun X hX C => ?_)
  have C : Cx E X cX8_narrowed RX8 3 ((Option.some FieldType.long)) := C
  show G E _ X _ _ _ 0 [(0, .int so), (1, .long v)] []
  refine g_iload_n C dX8_narrowed_0 rfl ?_
  refine g_ifne C 11 dX8_narrowed_1 (by decide) (fun h1 => ?_) (fun h1 => ?_)
  · refine g_iload_n C dX8_narrowed_11 rfl ?_
    refine g_ic (n := 1) C dX8_narrowed_12 (by decide) ?_
    refine g_icne C 23 dX8_narrowed_13 (by decide) (fun h13 => ?_) (fun h13 => ?_)
    · refine g_iload_n C dX8_narrowed_23 rfl ?_
      refine g_ic (n := 2) C dX8_narrowed_24 (by decide) ?_
      refine g_icne C 34 dX8_narrowed_25 (by decide) (fun h25 => ?_) (fun h25 => ?_)
      · refine g_iload_n C dX8_narrowed_34 rfl ?_
        refine g_ic (n := 3) C dX8_narrowed_35 (by decide) ?_
        refine g_icne C 43 dX8_narrowed_36 (by decide) (fun h36 => ?_) (fun h36 => ?_)
        · refine g_lload_n C dX8_narrowed_43 rfl ?_
          refine g_lc (v := 0) C dX8_narrowed_44 (by decide) ?_
          refine g_lcmp C dX8_narrowed_45 ?_
          refine g_ifeq C 53 dX8_narrowed_46 (by decide) (fun h46 => ?_) (fun h46 => ?_)
          · have e46 : v = 0 := (lgc _ _).mp h46
            refine g_lc (v := 0) C dX8_narrowed_53 (by decide) ?_
            refine g_lret C dX8_narrowed_54 ?_
            exact ⟨congrArg (fun v => some (Value.long v)) (by unfold asI; first | (rw [if_pos (show so = nI 0 from h1)]; done) | (rw [if_neg (show ¬ so = nI 0 from h1), if_pos h13]; done) | (rw [if_neg (show ¬ so = nI 0 from h1), if_neg h13, if_pos h25]; done) | (rw [if_neg (show ¬ so = nI 0 from h1), if_neg h13, if_neg h25, if_pos h36]; done) | (rw [if_neg (show ¬ so = nI 0 from h1), if_neg h13, if_neg h25, if_neg h36, if_pos e46]; done) | (rw [if_neg (show ¬ so = nI 0 from h1), if_neg h13, if_neg h25, if_neg h36, if_neg e46]; done)), rfl⟩
          · have e46 : ¬ v = 0 := fun q => h46 ((lgc _ _).mpr q)
            refine g_lc (v := 1) C dX8_narrowed_49 (by decide) ?_
            refine g_goto C 54 dX8_narrowed_50 (by decide) ?_
            refine g_lret C dX8_narrowed_54 ?_
            exact ⟨congrArg (fun v => some (Value.long v)) (by unfold asI; first | (rw [if_pos (show so = nI 0 from h1)]; done) | (rw [if_neg (show ¬ so = nI 0 from h1), if_pos h13]; done) | (rw [if_neg (show ¬ so = nI 0 from h1), if_neg h13, if_pos h25]; done) | (rw [if_neg (show ¬ so = nI 0 from h1), if_neg h13, if_neg h25, if_pos h36]; done) | (rw [if_neg (show ¬ so = nI 0 from h1), if_neg h13, if_neg h25, if_neg h36, if_pos e46]; done) | (rw [if_neg (show ¬ so = nI 0 from h1), if_neg h13, if_neg h25, if_neg h36, if_neg e46]; done)), rfl⟩
        · refine g_lload_n C dX8_narrowed_39 rfl ?_
          refine g_goto C 54 dX8_narrowed_40 (by decide) ?_
          refine g_lret C dX8_narrowed_54 ?_
          exact ⟨congrArg (fun v => some (Value.long v)) (by unfold asI; first | (rw [if_pos (show so = nI 0 from h1)]; done) | (rw [if_neg (show ¬ so = nI 0 from h1), if_pos h13]; done) | (rw [if_neg (show ¬ so = nI 0 from h1), if_neg h13, if_pos h25]; done) | (rw [if_neg (show ¬ so = nI 0 from h1), if_neg h13, if_neg h25, if_pos h36]; done) | (rw [if_neg (show ¬ so = nI 0 from h1), if_neg h13, if_neg h25, if_neg h36, if_pos e46]; done) | (rw [if_neg (show ¬ so = nI 0 from h1), if_neg h13, if_neg h25, if_neg h36, if_neg e46]; done)), rfl⟩
      · refine g_lload_n C dX8_narrowed_28 rfl ?_
        refine g_l2i C _ dX8_narrowed_29 rfl ?_
        refine g_i2l C _ dX8_narrowed_30 rfl ?_
        refine g_goto C 54 dX8_narrowed_31 (by decide) ?_
        refine g_lret C dX8_narrowed_54 ?_
        exact ⟨congrArg (fun v => some (Value.long v)) (by unfold asI; first | (rw [if_pos (show so = nI 0 from h1)]; done) | (rw [if_neg (show ¬ so = nI 0 from h1), if_pos h13]; done) | (rw [if_neg (show ¬ so = nI 0 from h1), if_neg h13, if_pos h25]; done) | (rw [if_neg (show ¬ so = nI 0 from h1), if_neg h13, if_neg h25, if_pos h36]; done) | (rw [if_neg (show ¬ so = nI 0 from h1), if_neg h13, if_neg h25, if_neg h36, if_pos e46]; done) | (rw [if_neg (show ¬ so = nI 0 from h1), if_neg h13, if_neg h25, if_neg h36, if_neg e46]; done)), rfl⟩
    · refine g_lload_n C dX8_narrowed_16 rfl ?_
      refine g_l2i C _ dX8_narrowed_17 rfl ?_
      refine g_i2s C _ dX8_narrowed_18 rfl ?_
      refine g_i2l C _ dX8_narrowed_19 rfl ?_
      refine g_goto C 54 dX8_narrowed_20 (by decide) ?_
      refine g_lret C dX8_narrowed_54 ?_
      exact ⟨congrArg (fun v => some (Value.long v)) (by unfold asI; first | (rw [if_pos (show so = nI 0 from h1)]; done) | (rw [if_neg (show ¬ so = nI 0 from h1), if_pos h13]; done) | (rw [if_neg (show ¬ so = nI 0 from h1), if_neg h13, if_pos h25]; done) | (rw [if_neg (show ¬ so = nI 0 from h1), if_neg h13, if_neg h25, if_pos h36]; done) | (rw [if_neg (show ¬ so = nI 0 from h1), if_neg h13, if_neg h25, if_neg h36, if_pos e46]; done) | (rw [if_neg (show ¬ so = nI 0 from h1), if_neg h13, if_neg h25, if_neg h36, if_neg e46]; done)), rfl⟩
  · refine g_lload_n C dX8_narrowed_4 rfl ?_
    refine g_l2i C _ dX8_narrowed_5 rfl ?_
    refine g_i2b C _ dX8_narrowed_6 rfl ?_
    refine g_i2l C _ dX8_narrowed_7 rfl ?_
    refine g_goto C 54 dX8_narrowed_8 (by decide) ?_
    refine g_lret C dX8_narrowed_54 ?_
    exact ⟨congrArg (fun v => some (Value.long v)) (by unfold asI; first | (rw [if_pos (show so = nI 0 from h1)]; done) | (rw [if_neg (show ¬ so = nI 0 from h1), if_pos h13]; done) | (rw [if_neg (show ¬ so = nI 0 from h1), if_neg h13, if_pos h25]; done) | (rw [if_neg (show ¬ so = nI 0 from h1), if_neg h13, if_neg h25, if_pos h36]; done) | (rw [if_neg (show ¬ so = nI 0 from h1), if_neg h13, if_neg h25, if_neg h36, if_pos e46]; done) | (rw [if_neg (show ¬ so = nI 0 from h1), if_neg h13, if_neg h25, if_neg h36, if_neg e46]; done)), rfl⟩

set_option maxHeartbeats 4000000 in
set_option maxRecDepth 100000 in
theorem l_X8_tape {E : Ev} {d : Nat} {X : Mx} (C : Cx E X cX8_tape RX8 5 ((Option.some FieldType.int))) {σ : St} {j : Nat} (hj : j < 6) : ∀ (k : Nat) (i : Nat), 60 = i + k → G E d X 5 (Det (some (.int (nI 1))) (sL σ 78 (zf (σ.2 78) (60 * j) 60))) (sL σ 78 (zf (σ.2 78) (60 * j) i)) 72 ([(0, .ref (ev_a E 64)), (1, .int (nI j)), (4, .int (nI i))]) [] := by
  intro k
  induction k with
  | zero =>
    intro i hi
    refine g_iload C dX8_tape_72 rfl ?_
    refine g_bp C (nI 60) dX8_tape_74 (by decide) ?_
    refine g_icgeN C 98 dX8_tape_76 (by decide) (by omega) (by omega) (fun h76 => ?_) (fun h76 => ?_)
    · refine g_ic (n := 1) C dX8_tape_98 (by decide) ?_
      refine g_iret C dX8_tape_99 ?_
      rw [show i = 60 from by omega]; exact ⟨rfl, rfl⟩
    · omega
  | succ k ih =>
    intro i hi
    refine g_iload C dX8_tape_72 rfl ?_
    refine g_bp C (nI 60) dX8_tape_74 (by decide) ?_
    refine g_icgeN C 98 dX8_tape_76 (by decide) (by omega) (by omega) (fun h76 => ?_) (fun h76 => ?_)
    · omega
    · refine g_aload_n C dX8_tape_79 rfl ?_
      refine gf_X8_items C (by rfl) dX8_tape_80 kf_RX8_52 ?_
      refine g_bp C (nI 60) dX8_tape_83 (by decide) ?_
      refine g_iload_n C dX8_tape_85 rfl ?_
      refine g_imulN C dX8_tape_86 ?_
      refine g_iload C dX8_tape_87 rfl ?_
      refine g_iaddN C dX8_tape_89 ?_
      refine g_lc (v := 0) C dX8_tape_90 (by decide) ?_
      refine g_lastN C (by rfl) (by omega) (by first | decide | omega) dX8_tape_91 ?_
      refine g_iinc1 C dX8_tape_92 rfl (by decide) ?_
      refine g_goto C 72 dX8_tape_95 (by decide) ?_
      refine g_loc ([(0, .ref (ev_a E 64)), (1, .int (nI j)), (4, .int (nI (i + 1)))]) (And.intro rfl (And.intro rfl (And.intro rfl trivial))) ?_
      refine g_eqS (show _ = (sL σ 78 (zf (σ.2 78) (60 * j) (i + 1))) from by rw [sL_self, zf_s, sL_sL]) ?_
      exact ih (i + 1) (by omega)

set_option maxHeartbeats 4000000 in
set_option maxRecDepth 100000 in
theorem c_X8_tape {E : Ev} {d : Nat} {σ : St} {s : Ms} (hs : RfIs σ s) {k so n : Int32} : Con E (d + 2) yX8_tape cX8_tape 5 ((Option.some FieldType.int)) [.ref (ev_a E 64), .int k, .int so, .int n] σ (RfTo (.int (aTape k so n)) σ (tTape s k so n)) := by
  refine con_of (by decide) (Nat.le_of_ble_eq_true rfl) (fun X hX C => ?_)
  have C : Cx E X cX8_tape RX8 5 ((Option.some FieldType.int)) := C
  show G E _ X _ _ _ 0 [(0, .ref (ev_a E 64)), (1, .int k), (2, .int so), (3, .int n)] []
  refine g_iload_n C dX8_tape_0 rfl ?_
  refine g_callSp C (c_X8_isTape (d := d) ) dX8_tape_1 km_RX8_272 kn_RX8 kc_yX8_isTape ks_yX8_isTape (by omega) (by decide) ⟨by decide, by decide, rfl⟩ rfl (Nat.le_of_ble_eq_true rfl) ?_
  refine g_ifneB C 9 dX8_tape_4 (by decide) (fun h4 => ?_) (fun h4 => ?_)
  · obtain ⟨j, hj, rfl⟩ := in_n (k := 5) h4
    have ej : ix (nI j) = j := ix_nI (by omega)
    obtain ⟨t1, t2, t3, t4, t5, t6⟩ := hs.2.2.2 j (by omega)
    refine g_iload_n C dX8_tape_9 rfl ?_
    refine g_i2l C _ dX8_tape_10 rfl ?_
    refine g_ldc2 C (-1) dX8_tape_11 (List.mem_of_getElem? (i := 1148) (by decide +kernel)) ?_
    refine g_ldc2 C (4) dX8_tape_14 (List.mem_of_getElem? (i := 801) (by decide +kernel)) ?_
    refine g_callSp C (c_X8_in (d := d) (-1) (4) (by decide) (by decide)) dX8_tape_17 km_RX8_56 kn_RX8 kc_yX8_in ks_yX8_in (by omega) (by decide) ⟨by decide, by decide, rfl⟩ rfl (Nat.le_of_ble_eq_true rfl) ?_
    refine g_ifeqB C 33 dX8_tape_20 (by decide) (fun h20 => ?_) (fun h20 => ?_)
    · refine g_bp C (-2) dX8_tape_33 (by decide) ?_
      refine g_iret C dX8_tape_35 ?_
      first | (exact ⟨congrArg (fun v => some (Value.int v)) (by unfold aTape; rw [if_neg (by rw [h4]; decide), if_neg (so_out h20).1, if_pos (so_out h20).2]), by rw [show tTape s (nI j) so n = s from by unfold tTape; rw [if_neg (by rw [h4]; decide), if_neg (so_out h20).1, if_pos (so_out h20).2]]; exact hs, Rs.rf⟩) | (exact ⟨congrArg (fun v => some (Value.int v)) (by unfold aTape; rw [if_neg (by rw [h4]; decide), if_neg (so_ge h24), if_neg (by rw [so_04 h20 h24]; decide), if_pos h30]), by rw [show tTape s (nI j) so n = s from by unfold tTape; rw [if_neg (by rw [h4]; decide), if_neg (so_ge h24), if_neg (by rw [so_04 h20 h24]; decide), if_pos h30]]; exact hs, Rs.rf⟩)
    · refine g_iload_n C dX8_tape_23 rfl ?_
      refine g_iflt C 36 dX8_tape_24 (by decide) (fun h24 => ?_) (fun h24 => ?_)
      · have eso := so_m1 h20 h24
        refine g_iload_n C dX8_tape_36 rfl ?_
        refine g_iflt C 47 dX8_tape_37 (by decide) (fun h37 => ?_) (fun h37 => ?_)
        · refine g_aload_n C dX8_tape_47 rfl ?_
          refine gf_X8_sorts C (by rfl) dX8_tape_48 kf_RX8_46 ?_
          refine g_iload_n C dX8_tape_51 rfl ?_
          refine g_iload_n C dX8_tape_52 rfl ?_
          refine g_iastN C (by rfl) (by omega) (by first | decide | omega) dX8_tape_53 ?_
          refine g_aload_n C dX8_tape_54 rfl ?_
          refine gf_X8_sizes C (by rfl) dX8_tape_55 kf_RX8_49 ?_
          refine g_iload_n C dX8_tape_58 rfl ?_
          refine g_iload_n C dX8_tape_59 rfl ?_
          refine g_ifge C 67 dX8_tape_60 (by decide) (fun h60 => ?_) (fun h60 => ?_)
          · first | exact absurd h24 (ge0 h60) | exact absurd (nge0 h60) h24
          · refine g_ic (n := 0) C dX8_tape_63 (by decide) ?_
            refine g_goto C 68 dX8_tape_64 (by decide) ?_
            refine g_iastN C (by rfl) (by omega) (by first | decide | omega) dX8_tape_68 ?_
            refine g_ic (n := 0) C dX8_tape_69 (by decide) ?_
            refine g_istore C dX8_tape_70 (by decide) ?_
            subst eso
            refine g_loc ([(0, .ref (ev_a E 64)), (1, .int (nI j)), (4, .int (nI 0))]) (And.intro rfl (And.intro rfl (And.intro rfl trivial))) ?_
            show G E _ X _ _ (sI (sI σ 76 (upd (σ.1 76) j (-1))) 77 (upd ((sI σ 76 (upd (σ.1 76) j (-1))).1 77) j (nI 0))) _ _ _
            have hF : Fk [] [76, 77, 78] σ (sL (sI (sI σ 76 (upd (σ.1 76) j (-1))) 77 (upd ((sI σ 76 (upd (σ.1 76) j (-1))).1 77) j (nI 0))) 78 (zf ((sI (sI σ 76 (upd (σ.1 76) j (-1))) 77 (upd ((sI σ 76 (upd (σ.1 76) j (-1))).1 77) j (nI 0))).2 78) (60 * j) 60)) := ((Fk.rf.sI (by simp) (by decide)).sI (by simp) (by decide)).sL (by simp)
            refine g_eqS (show (sI (sI σ 76 (upd (σ.1 76) j (-1))) 77 (upd ((sI σ 76 (upd (σ.1 76) j (-1))).1 77) j (nI 0))) = (sL (sI (sI σ 76 (upd (σ.1 76) j (-1))) 77 (upd ((sI σ 76 (upd (σ.1 76) j (-1))).1 77) j (nI 0))) 78 (zf ((sI (sI σ 76 (upd (σ.1 76) j (-1))) 77 (upd ((sI σ 76 (upd (σ.1 76) j (-1))).1 77) j (nI 0))).2 78) (60 * j) 0)) from by rw [zf_0, sL_id]) ?_
            refine g_post (fun r σ2 q => ?_) (l_X8_tape C (by omega) 60 0 (by omega))
            obtain ⟨rfl, rfl⟩ := q
            refine ⟨congrArg (fun v => some (Value.int v)) (by unfold aTape; rw [if_neg (by rw [h4]; decide), if_pos rfl]), ?_, hF.s (by decide)⟩
            rw [show tTape s (nI j) (-1) n = sTp s j ((-1), 0, fun _ => 0) from by unfold tTape; rw [if_neg (by rw [h4]; decide), if_pos rfl, ej]]
            refine hs.tp hF (by rw [sL_1, sI_ne (by decide), sI_self, up_i]) (by rw [sL_1, sI_self, up_i]) (by omega) (by first | decide | exact h20) (fun e => by first | rfl | exact absurd e (so_ge h24)) (fun i hi => ?_) (fun q hq hne => ⟨?_, ?_, fun i hi => ?_⟩)
            · rw [sL_self]; unfold zf; rw [if_pos (by omega)]
            · rw [sL_1, sI_ne (by decide), sI_self, up_n hne]
            · rw [sL_1, sI_self, up_n hne, sI_ne (by decide)]
            · rw [sL_self]; unfold zf; rw [if_neg (by omega)]; rfl
        · first | exact absurd h24 h37 | exact absurd h37 h24
      · refine g_iload_n C dX8_tape_27 rfl ?_
        refine g_bp C (nI 60) dX8_tape_28 (by decide) ?_
        refine g_icle C 36 dX8_tape_30 (by decide) (fun h30 => ?_) (fun h30 => ?_)
        · refine g_iload_n C dX8_tape_36 rfl ?_
          refine g_iflt C 47 dX8_tape_37 (by decide) (fun h37 => ?_) (fun h37 => ?_)
          · first | exact absurd h24 h37 | exact absurd h37 h24
          · refine g_iload_n C dX8_tape_40 rfl ?_
            refine g_ifge C 47 dX8_tape_41 (by decide) (fun h41 => ?_) (fun h41 => ?_)
            · refine g_aload_n C dX8_tape_47 rfl ?_
              refine gf_X8_sorts C (by rfl) dX8_tape_48 kf_RX8_46 ?_
              refine g_iload_n C dX8_tape_51 rfl ?_
              refine g_iload_n C dX8_tape_52 rfl ?_
              refine g_iastN C (by rfl) (by omega) (by first | decide | omega) dX8_tape_53 ?_
              refine g_aload_n C dX8_tape_54 rfl ?_
              refine gf_X8_sizes C (by rfl) dX8_tape_55 kf_RX8_49 ?_
              refine g_iload_n C dX8_tape_58 rfl ?_
              refine g_iload_n C dX8_tape_59 rfl ?_
              refine g_ifge C 67 dX8_tape_60 (by decide) (fun h60 => ?_) (fun h60 => ?_)
              · obtain ⟨m, hm, rfl⟩ := n60 (ge0 h41) h30
                refine g_iload_n C dX8_tape_67 rfl ?_
                refine g_iastN C (by rfl) (by omega) (by first | decide | omega) dX8_tape_68 ?_
                refine g_ic (n := 0) C dX8_tape_69 (by decide) ?_
                refine g_istore C dX8_tape_70 (by decide) ?_
                refine g_loc ([(0, .ref (ev_a E 64)), (1, .int (nI j)), (4, .int (nI 0))]) (And.intro rfl (And.intro rfl (And.intro rfl trivial))) ?_
                show G E _ X _ _ (sI (sI σ 76 (upd (σ.1 76) j so)) 77 (upd ((sI σ 76 (upd (σ.1 76) j so)).1 77) j (nI m))) _ _ _
                have hF : Fk [] [76, 77, 78] σ (sL (sI (sI σ 76 (upd (σ.1 76) j so)) 77 (upd ((sI σ 76 (upd (σ.1 76) j so)).1 77) j (nI m))) 78 (zf ((sI (sI σ 76 (upd (σ.1 76) j so)) 77 (upd ((sI σ 76 (upd (σ.1 76) j so)).1 77) j (nI m))).2 78) (60 * j) 60)) := ((Fk.rf.sI (by simp) (by decide)).sI (by simp) (by decide)).sL (by simp)
                refine g_eqS (show (sI (sI σ 76 (upd (σ.1 76) j so)) 77 (upd ((sI σ 76 (upd (σ.1 76) j so)).1 77) j (nI m))) = (sL (sI (sI σ 76 (upd (σ.1 76) j so)) 77 (upd ((sI σ 76 (upd (σ.1 76) j so)).1 77) j (nI m))) 78 (zf ((sI (sI σ 76 (upd (σ.1 76) j so)) 77 (upd ((sI σ 76 (upd (σ.1 76) j so)).1 77) j (nI m))).2 78) (60 * j) 0)) from by rw [zf_0, sL_id]) ?_
                refine g_post (fun r σ2 q => ?_) (l_X8_tape C (by omega) 60 0 (by omega))
                obtain ⟨rfl, rfl⟩ := q
                refine ⟨congrArg (fun v => some (Value.int v)) (by unfold aTape; rw [if_neg (by rw [h4]; decide), if_neg (so_ge h24), if_neg (by rw [so_04 h20 h24]; decide), if_neg (fun q => q h30), if_neg (ge0 h41)]), ?_, hF.s (by decide)⟩
                rw [show tTape s (nI j) so (nI m) = sTp s j (so, m, fun _ => 0) from by unfold tTape; rw [if_neg (by rw [h4]; decide), if_neg (so_ge h24), if_neg (by rw [so_04 h20 h24]; decide), if_neg (fun q => q h30), if_neg (ge0 h41), ej, ix_nI (show m < 2 ^ 31 by omega)]]
                refine hs.tp hF (by rw [sL_1, sI_ne (by decide), sI_self, up_i]) (by rw [sL_1, sI_self, up_i]) (by omega) (by first | decide | exact h20) (fun e => by first | rfl | exact absurd e (so_ge h24)) (fun i hi => ?_) (fun q hq hne => ⟨?_, ?_, fun i hi => ?_⟩)
                · rw [sL_self]; unfold zf; rw [if_pos (by omega)]
                · rw [sL_1, sI_ne (by decide), sI_self, up_n hne]
                · rw [sL_1, sI_self, up_n hne, sI_ne (by decide)]
                · rw [sL_self]; unfold zf; rw [if_neg (by omega)]; rfl
              · first | exact absurd h24 (ge0 h60) | exact absurd (nge0 h60) h24
            · refine g_bp C (-14) dX8_tape_44 (by decide) ?_
              refine g_iret C dX8_tape_46 ?_
              exact ⟨congrArg (fun v => some (Value.int v)) (by unfold aTape; rw [if_neg (by rw [h4]; decide), if_neg (so_ge h24), if_neg (by rw [so_04 h20 h24]; decide), if_neg (fun q => q h30), if_pos (nge0 h41)]), by rw [show tTape s (nI j) so n = s from by unfold tTape; rw [if_neg (by rw [h4]; decide), if_neg (so_ge h24), if_neg (by rw [so_04 h20 h24]; decide), if_neg (fun q => q h30), if_pos (nge0 h41)]]; exact hs, Rs.rf⟩
        · refine g_bp C (-2) dX8_tape_33 (by decide) ?_
          refine g_iret C dX8_tape_35 ?_
          first | (exact ⟨congrArg (fun v => some (Value.int v)) (by unfold aTape; rw [if_neg (by rw [h4]; decide), if_neg (so_out h20).1, if_pos (so_out h20).2]), by rw [show tTape s (nI j) so n = s from by unfold tTape; rw [if_neg (by rw [h4]; decide), if_neg (so_out h20).1, if_pos (so_out h20).2]]; exact hs, Rs.rf⟩) | (exact ⟨congrArg (fun v => some (Value.int v)) (by unfold aTape; rw [if_neg (by rw [h4]; decide), if_neg (so_ge h24), if_neg (by rw [so_04 h20 h24]; decide), if_pos h30]), by rw [show tTape s (nI j) so n = s from by unfold tTape; rw [if_neg (by rw [h4]; decide), if_neg (so_ge h24), if_neg (by rw [so_04 h20 h24]; decide), if_pos h30]]; exact hs, Rs.rf⟩)
  · refine g_icz (v := -1) C dX8_tape_7 (by decide) ?_
    refine g_iret C dX8_tape_8 ?_
    exact ⟨congrArg (fun v => some (Value.int v)) (by unfold aTape; rw [if_pos h4]), by rw [show tTape s k so n = s from by unfold tTape; rw [if_pos h4]]; exact hs, Rs.rf⟩

set_option maxHeartbeats 4000000 in
set_option maxRecDepth 100000 in
theorem c_X8_item {E : Ev} {d : Nat} {σ : St} {s : Ms} (hs : RfIs σ s) {k i : Int32} {v : Int64} : Con E (d + 2) yX8_item cX8_item 5 ((Option.some FieldType.int)) [.ref (ev_a E 64), .int k, .int i, .long v] σ (RfTo (.int (aItem s k i)) σ (tItem s k i v)) := by
  refine con_of (by decide) (Nat.le_of_ble_eq_true rfl) (fun X hX C => ?_)
  have C : Cx E X cX8_item RX8 5 ((Option.some FieldType.int)) := C
  show G E _ X _ _ _ 0 [(0, .ref (ev_a E 64)), (1, .int k), (2, .int i), (3, .long v)] []
  refine g_iload_n C dX8_item_0 rfl ?_
  refine g_callSp C (c_X8_isTape (d := d) ) dX8_item_1 km_RX8_272 kn_RX8 kc_yX8_isTape ks_yX8_isTape (by omega) (by decide) ⟨by decide, by decide, rfl⟩ rfl (Nat.le_of_ble_eq_true rfl) ?_
  refine g_ifneB C 9 dX8_item_4 (by decide) (fun h4 => ?_) (fun h4 => ?_)
  · obtain ⟨j, hj, rfl⟩ := in_n (k := 5) h4
    have ej : ix (nI j) = j := ix_nI (by omega)
    obtain ⟨t1, t2, t3, t4, t5, t6⟩ := hs.2.2.2 j (by omega)
    refine g_aload_n C dX8_item_9 rfl ?_
    refine gf_X8_sorts C (by rfl) dX8_item_10 kf_RX8_46 ?_
    refine g_iload_n C dX8_item_13 rfl ?_
    refine g_ialdN C (by rfl) (by omega) (by first | decide | omega) dX8_item_14 ?_
    rw [t1]
    refine g_ifge C 21 dX8_item_15 (by decide) (fun h15 => ?_) (fun h15 => ?_)
    · have h15 : ¬ (s.2.2.2 j).1 = -1 := so_ge (ge0 h15)
      refine g_iload_n C dX8_item_21 rfl ?_
      refine g_i2l C _ dX8_item_22 rfl ?_
      refine g_lc (v := 0) C dX8_item_23 (by decide) ?_
      refine g_aload_n C dX8_item_24 rfl ?_
      refine gf_X8_sizes C (by rfl) dX8_item_25 kf_RX8_49 ?_
      refine g_iload_n C dX8_item_28 rfl ?_
      refine g_ialdN C (by rfl) (by omega) (by first | decide | omega) dX8_item_29 ?_
      rw [t2]
      refine g_ic (n := 1) C dX8_item_30 (by decide) ?_
      refine g_isub C dX8_item_31 ?_
      refine g_i2l C _ dX8_item_32 rfl ?_
      refine g_callSp C (c_X8_in (d := d) (0) (((s.2.2.2 j).2.1 : Int) - 1) (by decide) (n1_64g (by omega))) dX8_item_33 km_RX8_56 kn_RX8 kc_yX8_in ks_yX8_in (by omega) (by decide) ⟨by decide, by decide, rfl⟩ rfl (Nat.le_of_ble_eq_true rfl) ?_
      refine g_ifneB C 42 dX8_item_36 (by decide) (fun h36 => ?_) (fun h36 => ?_)
      · have h36h : hpB (s.2.2.2 j).2.1 i = true := by rw [hp_in (by omega)]; exact h36
        obtain ⟨i2, hi2, rfl⟩ := in_nZ (by omega) h36
        refine g_aload_n C dX8_item_42 rfl ?_
        refine gf_X8_items C (by rfl) dX8_item_43 kf_RX8_52 ?_
        refine g_bp C (nI 60) dX8_item_46 (by decide) ?_
        refine g_iload_n C dX8_item_48 rfl ?_
        refine g_imulN C dX8_item_49 ?_
        refine g_iload_n C dX8_item_50 rfl ?_
        refine g_iaddN C dX8_item_51 ?_
        refine g_aload_n C dX8_item_52 rfl ?_
        refine gf_X8_sorts C (by rfl) dX8_item_53 kf_RX8_46 ?_
        refine g_iload_n C dX8_item_56 rfl ?_
        refine g_ialdN C (by rfl) (by omega) (by first | decide | omega) dX8_item_57 ?_
        rw [t1]
        refine g_lload_n C dX8_item_58 rfl ?_
        refine g_callSp C (c_X8_narrowed (d := d) ) dX8_item_59 km_RX8_280 kn_RX8 kc_yX8_narrowed ks_yX8_narrowed (by omega) (by decide) ⟨by decide, by decide, rfl⟩ rfl (Nat.le_of_ble_eq_true rfl) ?_
        refine g_lastN C (by rfl) (by omega) (by first | decide | omega) dX8_item_62 ?_
        refine g_ic (n := 1) C dX8_item_63 (by decide) ?_
        refine g_iret C dX8_item_64 ?_
        have hF : Fk [] [76, 77, 78] σ (sL σ 78 (vp_updL (σ.2 78) (60 * j + i2) (asI (s.2.2.2 j).1 v))) := Fk.rf.sL (by simp)
        refine ⟨congrArg (fun v => some (Value.int v)) (by unfold aItem; rw [if_neg (by rw [h4]; decide), ej, if_neg h15, if_neg (by rw [h36h]; decide)]), ?_, hF.s (by decide)⟩
        rw [show tItem s (nI j) (nI i2) v = sTp s j ((s.2.2.2 j).1, (s.2.2.2 j).2.1, fun q => if q = i2 then asI (s.2.2.2 j).1 v else (s.2.2.2 j).2.2 q) from by unfold tItem; rw [if_neg (by rw [h4]; decide), ej, if_neg h15, if_neg (by rw [h36h]; decide), ix_nI (show i2 < 2 ^ 31 by omega)]]
        refine hs.tp hF t1 t2 t3 t4 t5 (fun q hq => ?_) (fun q hq hne => ⟨rfl, rfl, fun i hi => ?_⟩)
        · rw [sL_self]
          by_cases e : q = i2
          · subst e; rw [upL_i]; simp
          · rw [upL_n (by omega), t6 q hq]; simp [e]
        · rw [sL_self, upL_n (by omega)]
      · have h36h : hpB (s.2.2.2 j).2.1 i = false := by rw [hp_in (by omega)]; exact h36
        refine g_bp C (-13) dX8_item_39 (by decide) ?_
        refine g_iret C dX8_item_41 ?_
        exact ⟨congrArg (fun v => some (Value.int v)) (by unfold aItem; rw [if_neg (by rw [h4]; decide), ej, if_neg h15, if_pos h36h]), by rw [show tItem s (nI j) i v = s from by unfold tItem; rw [if_neg (by rw [h4]; decide), ej, if_neg h15, if_pos h36h]]; exact hs, Rs.rf⟩
    · have h15 : (s.2.2.2 j).1 = -1 := so_m1 t4 (nge0 h15)
      refine g_bp C (-11) dX8_item_18 (by decide) ?_
      refine g_iret C dX8_item_20 ?_
      exact ⟨congrArg (fun v => some (Value.int v)) (by unfold aItem; rw [if_neg (by rw [h4]; decide), ej, if_pos h15]), by rw [show tItem s (nI j) i v = s from by unfold tItem; rw [if_neg (by rw [h4]; decide), ej, if_pos h15]]; exact hs, Rs.rf⟩
  · refine g_icz (v := -1) C dX8_item_7 (by decide) ?_
    refine g_iret C dX8_item_8 ?_
    exact ⟨congrArg (fun v => some (Value.int v)) (by unfold aItem; rw [if_pos h4]), by rw [show tItem s k i v = s from by unfold tItem; rw [if_pos h4]]; exact hs, Rs.rf⟩

set_option maxHeartbeats 4000000 in
set_option maxRecDepth 100000 in
theorem c_X8_peek {E : Ev} {d : Nat} {σ : St} {s : Ms} (hs : RfIs σ s) {k i : Int32} : Con E (d + 2) yX8_peek cX8_peek 3 ((Option.some FieldType.long)) [.ref (ev_a E 64), .int k, .int i] σ (fun r σ2 => r = some (.long (aPeek s k i)) ∧ RfIs σ2 (s) ∧ Rs σ σ2) := by
  refine con_of (by decide) (Nat.le_of_ble_eq_true rfl) (fun X hX C => ?_)
  have C : Cx E X cX8_peek RX8 3 ((Option.some FieldType.long)) := C
  show G E _ X _ _ _ 0 [(0, .ref (ev_a E 64)), (1, .int k), (2, .int i)] []
  refine g_iload_n C dX8_peek_0 rfl ?_
  refine g_callSp C (c_X8_isTape (d := d) ) dX8_peek_1 km_RX8_272 kn_RX8 kc_yX8_isTape ks_yX8_isTape (by omega) (by decide) ⟨by decide, by decide, rfl⟩ rfl (Nat.le_of_ble_eq_true rfl) ?_
  refine g_ifeqB C 39 dX8_peek_4 (by decide) (fun h4 => ?_) (fun h4 => ?_)
  · refine g_ldc2 C (-9223372036854775808) dX8_peek_39 (List.mem_of_getElem? (i := 1086) (by decide +kernel)) ?_
    refine g_lret C dX8_peek_42 ?_
    exact ⟨congrArg (fun v => some (Value.long v)) (by unfold aPeek; first | (rw [if_pos h4]; done) | (rw [if_pos h4]; rfl) | (rw [if_neg (by rw [h4]; decide), ej, if_pos h22h]; done) | (rw [if_neg (by rw [h4]; decide), ej, if_pos h22h]; rfl) | (rw [if_neg (by rw [h4]; decide), ej, if_neg (by rw [h22h]; decide), ix_nI (show i2 < 2 ^ 31 by omega)]; done)), hs, Rs.rf⟩
  · obtain ⟨j, hj, rfl⟩ := in_n (k := 5) h4
    have ej : ix (nI j) = j := ix_nI (by omega)
    obtain ⟨t1, t2, t3, t4, t5, t6⟩ := hs.2.2.2 j (by omega)
    refine g_iload_n C dX8_peek_7 rfl ?_
    refine g_i2l C _ dX8_peek_8 rfl ?_
    refine g_lc (v := 0) C dX8_peek_9 (by decide) ?_
    refine g_aload_n C dX8_peek_10 rfl ?_
    refine gf_X8_sizes C (by rfl) dX8_peek_11 kf_RX8_49 ?_
    refine g_iload_n C dX8_peek_14 rfl ?_
    refine g_ialdN C (by rfl) (by omega) (by first | decide | omega) dX8_peek_15 ?_
    rw [t2]
    refine g_ic (n := 1) C dX8_peek_16 (by decide) ?_
    refine g_isub C dX8_peek_17 ?_
    refine g_i2l C _ dX8_peek_18 rfl ?_
    refine g_callSp C (c_X8_in (d := d) (0) (((s.2.2.2 j).2.1 : Int) - 1) (by decide) (n1_64g (by omega))) dX8_peek_19 km_RX8_56 kn_RX8 kc_yX8_in ks_yX8_in (by omega) (by decide) ⟨by decide, by decide, rfl⟩ rfl (Nat.le_of_ble_eq_true rfl) ?_
    refine g_ifeqB C 39 dX8_peek_22 (by decide) (fun h22 => ?_) (fun h22 => ?_)
    · have h22h : hpB (s.2.2.2 j).2.1 i = false := by rw [hp_in (by omega)]; exact h22
      refine g_ldc2 C (-9223372036854775808) dX8_peek_39 (List.mem_of_getElem? (i := 1086) (by decide +kernel)) ?_
      refine g_lret C dX8_peek_42 ?_
      exact ⟨congrArg (fun v => some (Value.long v)) (by unfold aPeek; first | (rw [if_pos h4]; done) | (rw [if_pos h4]; rfl) | (rw [if_neg (by rw [h4]; decide), ej, if_pos h22h]; done) | (rw [if_neg (by rw [h4]; decide), ej, if_pos h22h]; rfl) | (rw [if_neg (by rw [h4]; decide), ej, if_neg (by rw [h22h]; decide), ix_nI (show i2 < 2 ^ 31 by omega)]; done)), hs, Rs.rf⟩
    · have h22h : hpB (s.2.2.2 j).2.1 i = true := by rw [hp_in (by omega)]; exact h22
      obtain ⟨i2, hi2, rfl⟩ := in_nZ (by omega) h22
      refine g_aload_n C dX8_peek_25 rfl ?_
      refine gf_X8_items C (by rfl) dX8_peek_26 kf_RX8_52 ?_
      refine g_bp C (nI 60) dX8_peek_29 (by decide) ?_
      refine g_iload_n C dX8_peek_31 rfl ?_
      refine g_imulN C dX8_peek_32 ?_
      refine g_iload_n C dX8_peek_33 rfl ?_
      refine g_iaddN C dX8_peek_34 ?_
      refine g_laldN C (by rfl) (by omega) (by first | decide | omega) dX8_peek_35 ?_
      rw [t6 i2 hi2]
      refine g_goto C 42 dX8_peek_36 (by decide) ?_
      refine g_lret C dX8_peek_42 ?_
      exact ⟨congrArg (fun v => some (Value.long v)) (by unfold aPeek; first | (rw [if_pos h4]; done) | (rw [if_pos h4]; rfl) | (rw [if_neg (by rw [h4]; decide), ej, if_pos h22h]; done) | (rw [if_neg (by rw [h4]; decide), ej, if_pos h22h]; rfl) | (rw [if_neg (by rw [h4]; decide), ej, if_neg (by rw [h22h]; decide), ix_nI (show i2 < 2 ^ 31 by omega)]; done)), hs, Rs.rf⟩

theorem jg_eq {n r : Nat} {x : Int32} (hn : n ≤ 60) (hr : r < 48) : (hpB n x && hpB n (x + nI r)) = decide (0 ≤ x.toInt ∧ x.toInt + (r : Int) < n) := by
  rw [hp_in (by omega), hp_in (by omega)]
  by_cases h : inB x 0 ((n : Int) - 1) = true
  · obtain ⟨j, hj, rfl⟩ := in_nZ (by omega) h
    rw [h, Bool.true_and, nI_add]
    unfold inB
    rw [nI_toInt (show j + r < 2 ^ 31 by omega), nI_toInt (show j < 2 ^ 31 by omega)]
    rw [Bool.eq_iff_iff]
    simp only [decide_eq_true_eq]
    omega
  · have h2 : inB x 0 ((n : Int) - 1) = false := by simpa using h
    rw [h2, Bool.false_and]
    symm
    simp only [inB, decide_eq_false_iff_not] at h2 ⊢
    omega
theorem ad64 {x : Int32} {r : Nat} (hr : r < 48) : (x.toInt64 + (nI r).toInt64).toInt = x.toInt + (r : Int) := by
  rw [Int64.toInt_add, x64, x64, nI_toInt (by omega)]
  have h1 := x.toInt_lt
  have h2 := x.le_toInt
  rw [Int.bmod_def]
  split <;> omega
theorem lt64 {n r : Nat} {x : Int32} (hn : n ≤ 60) (hr : r < 48) : lg_cmp (x.toInt64 + (nI r).toInt64) (nI n).toInt64 < 0 ↔ x.toInt + (r : Int) < n := by
  rw [lgc_lt, Int64.lt_iff_toInt_lt, ad64 hr, x64, nI_toInt (by omega)]
theorem jg_ix {n r : Nat} {x : Int32} (hn : n ≤ 60) (h0 : ¬ x < 0) (h1 : x.toInt + (r : Int) < n) : ∃ i, i + r < n ∧ x = nI i := by
  rw [ltI, Int32.toInt_zero] at h0
  refine ⟨x.toInt.toNat, by omega, ?_⟩
  rw [← Int32.toInt_inj, nI_toInt (by omega)]
  omega

set_option maxHeartbeats 4000000 in
set_option maxRecDepth 100000 in
theorem l_X8_judge {E : Ev} {d : Nat} {X : Mx} (C : Cx E X cX8_judge RX8 4 ((Option.some FieldType.int))) {σ : St} {L : List Nat} {n t : Nat} {x : Int32} {V : Nat → Int64} (ht : t < 6) (hB : GmB σ L) (a2 : σ.1 77 t = nI n) (a3 : n ≤ 60) (a6 : ∀ i, i < n → σ.2 78 (60 * t + i) = V i) : ∀ (k : Nat) (r : Nat), L.length = r + k → G E (d + 8) X 4 (Det (some (.int (jgL n V L x k r))) σ) σ 28 ([(0, .ref (ev_a E 64)), (1, .int (nI t)), (2, .int x), (3, .int (nI r))]) [] := by
  intro k
  induction k with
  | zero =>
    intro r hi
    obtain ⟨⟨hL1, hL2, hL3⟩, hgs, hgm⟩ := id hB
    refine g_iload_n C dX8_judge_28 rfl ?_
    refine g_aload_n C dX8_judge_29 rfl ?_
    refine gf_X8_size C (by rfl) dX8_judge_30 kf_RX8_97 ?_
    rw [hgs]
    refine g_icgeN C 93 dX8_judge_33 (by decide) (by omega) (by omega) (fun h33 => ?_) (fun h33 => ?_)
    · refine g_bp C (-5) dX8_judge_93 (by decide) ?_
      refine g_iret C dX8_judge_95 ?_
      exact ⟨congrArg (fun v => some (Value.int v)) (rfl), rfl⟩
    · omega
  | succ k ih =>
    intro r hi
    obtain ⟨⟨hL1, hL2, hL3⟩, hgs, hgm⟩ := id hB
    refine g_iload_n C dX8_judge_28 rfl ?_
    refine g_aload_n C dX8_judge_29 rfl ?_
    refine gf_X8_size C (by rfl) dX8_judge_30 kf_RX8_97 ?_
    rw [hgs]
    refine g_icgeN C 93 dX8_judge_33 (by decide) (by omega) (by omega) (fun h33 => ?_) (fun h33 => ?_)
    · omega
    · refine g_iload_n C dX8_judge_36 rfl ?_
      refine g_iflt C 56 dX8_judge_37 (by decide) (fun h37 => ?_) (fun h37 => ?_)
      · have e53 : (hpB n x && hpB n (x + nI r)) = false := by rw [jg_eq a3 (by omega)]; exact decide_eq_false (fun q => by have z := h37; rw [ltI, Int32.toInt_zero] at z; omega)
        refine g_bp C (nI 100) dX8_judge_56 (by decide) ?_
        refine g_iload_n C dX8_judge_58 rfl ?_
        refine g_iaddN C dX8_judge_59 ?_
        refine g_iret C dX8_judge_60 ?_
        exact ⟨congrArg (fun v => some (Value.int v)) (by symm; unfold jgL; rw [if_pos e53]), rfl⟩
      · refine g_iload_n C dX8_judge_40 rfl ?_
        refine g_i2l C _ dX8_judge_41 rfl ?_
        refine g_iload_n C dX8_judge_42 rfl ?_
        refine g_i2l C _ dX8_judge_43 rfl ?_
        refine g_ladd C dX8_judge_44 ?_
        refine g_aload_n C dX8_judge_45 rfl ?_
        refine gf_X8_sizes C (by rfl) dX8_judge_46 kf_RX8_49 ?_
        refine g_iload_n C dX8_judge_49 rfl ?_
        refine g_ialdN C (by rfl) (by omega) (by first | decide | omega) dX8_judge_50 ?_
        rw [a2]
        refine g_i2l C _ dX8_judge_51 rfl ?_
        refine g_lcmp C dX8_judge_52 ?_
        refine g_iflt C 61 dX8_judge_53 (by decide) (fun h53 => ?_) (fun h53 => ?_)
        · have h53i := (lt64 a3 (by omega)).mp h53
          obtain ⟨i2, hi2, rfl⟩ := jg_ix a3 h37 h53i
          have e53 : (hpB n (nI i2) && hpB n (nI i2 + nI r)) = true := by rw [jg_eq a3 (by omega)]; exact decide_eq_true ⟨by rw [nI_toInt (by omega)]; omega, h53i⟩
          refine g_aload_n C dX8_judge_61 rfl ?_
          refine gf_X8_items C (by rfl) dX8_judge_62 kf_RX8_52 ?_
          refine g_bp C (nI 60) dX8_judge_65 (by decide) ?_
          refine g_iload_n C dX8_judge_67 rfl ?_
          refine g_imulN C dX8_judge_68 ?_
          refine g_iload_n C dX8_judge_69 rfl ?_
          refine g_iaddN C dX8_judge_70 ?_
          refine g_iload_n C dX8_judge_71 rfl ?_
          refine g_iaddN C dX8_judge_72 ?_
          refine g_laldN C (by rfl) (by omega) (by first | decide | omega) dX8_judge_73 ?_
          rw [show σ.2 78 (60 * t + i2 + r) = V (i2 + r) from by rw [Nat.add_assoc]; exact a6 _ hi2]
          refine g_aload_n C dX8_judge_74 rfl ?_
          refine gf_X8_group C (by rfl) dX8_judge_75 kf_RX8_21 ?_
          refine g_iload_n C dX8_judge_78 rfl ?_
          refine g_ialdN C (by rfl) (by omega) (by first | decide | omega) dX8_judge_79 ?_
          rw [hgm r (by omega)]
          refine g_i2l C _ dX8_judge_80 rfl ?_
          refine g_lcmp C dX8_judge_81 ?_
          refine g_ifeq C 87 dX8_judge_82 (by decide) (fun h82 => ?_) (fun h82 => ?_)
          · have e82 := (lgc _ _).mp h82
            refine g_iinc1 C dX8_judge_87 rfl (by decide) ?_
            refine g_goto C 28 dX8_judge_90 (by decide) ?_
            refine g_loc ([(0, .ref (ev_a E 64)), (1, .int (nI t)), (2, .int (nI i2)), (3, .int (nI (r + 1)))]) (And.intro rfl (And.intro rfl (And.intro rfl (And.intro rfl trivial)))) ?_
            rw [show jgL n V L (nI i2) (k + 1) r = jgL n V L (nI i2) k (r + 1) from by rw [jgL, if_neg (by rw [e53]; decide), if_pos (by rw [nI_add, ix_nI (show i2 + r < 2 ^ 31 by omega)]; exact e82)]]
            exact ih (r + 1) (by omega)
          · have e82 := fun q => h82 ((lgc _ _).mpr q)
            refine g_iload_n C dX8_judge_85 rfl ?_
            refine g_iret C dX8_judge_86 ?_
            exact ⟨congrArg (fun v => some (Value.int v)) (by symm; unfold jgL; rw [if_neg (by rw [e53]; decide), if_neg (by rw [nI_add, ix_nI (show i2 + r < 2 ^ 31 by omega)]; exact e82)]), rfl⟩
        · have h53i := fun q => h53 ((lt64 a3 (by omega)).mpr q)
          have e53 : (hpB n x && hpB n (x + nI r)) = false := by rw [jg_eq a3 (by omega)]; exact decide_eq_false (fun q => h53i q.2)
          refine g_bp C (nI 100) dX8_judge_56 (by decide) ?_
          refine g_iload_n C dX8_judge_58 rfl ?_
          refine g_iaddN C dX8_judge_59 ?_
          refine g_iret C dX8_judge_60 ?_
          exact ⟨congrArg (fun v => some (Value.int v)) (by symm; unfold jgL; rw [if_pos e53]), rfl⟩

set_option maxHeartbeats 4000000 in
set_option maxRecDepth 100000 in
theorem c_X8_judge {E : Ev} {d : Nat} {σ : St} {s : Ms} (hs : RfIs σ s) {k x : Int32} : Con E (d + 9) yX8_judge cX8_judge 4 ((Option.some FieldType.int)) [.ref (ev_a E 64), .int k, .int x] σ (RfTo (.int (aJudge s k x)) σ (s)) := by
  refine con_of (by decide) (Nat.le_of_ble_eq_true rfl) (fun X hX C => ?_)
  have C : Cx E X cX8_judge RX8 4 ((Option.some FieldType.int)) := C
  have h := hs.P
  have h8 := h.1
  show G E _ X _ _ _ 0 [(0, .ref (ev_a E 64)), (1, .int k), (2, .int x)] []
  refine g_iload_n C dX8_judge_0 rfl ?_
  refine g_callSp C (c_X8_isTape (d := d) ) dX8_judge_1 km_RX8_272 kn_RX8 kc_yX8_isTape ks_yX8_isTape (by omega) (by decide) ⟨by decide, by decide, rfl⟩ rfl (Nat.le_of_ble_eq_true rfl) ?_
  refine g_ifneB C 9 dX8_judge_4 (by decide) (fun h4 => ?_) (fun h4 => ?_)
  · obtain ⟨j, hj, rfl⟩ := in_n (k := 5) h4
    have ej : ix (nI j) = j := ix_nI (by omega)
    obtain ⟨t1, t2, t3, t4, t5, t6⟩ := hs.2.2.2 j (by omega)
    refine g_aload_n C dX8_judge_9 rfl ?_
    refine gf_X8_sorts C (by rfl) dX8_judge_10 kf_RX8_46 ?_
    refine g_iload_n C dX8_judge_13 rfl ?_
    refine g_ialdN C (by rfl) (by omega) (by first | decide | omega) dX8_judge_14 ?_
    rw [t1]
    refine g_ic (n := 1) C dX8_judge_15 (by decide) ?_
    refine g_iclt C 22 dX8_judge_16 (by decide) (fun h16 => ?_) (fun h16 => ?_)
    · have h16n : ¬ (¬ (s.2.2.2 j).1 = -1 ∧ ¬ (s.2.2.2 j).1 = 0) := by
        rintro ⟨q1, q2⟩
        have z := h16
        rw [ltI, nI_toInt (by decide)] at z
        simp only [inB, decide_eq_true_eq] at t4
        rcases (show (s.2.2.2 j).1.toInt = -1 ∨ (s.2.2.2 j).1.toInt = 0 from by omega) with e | e
        · exact q1 (by rw [← Int32.toInt_inj, e]; decide)
        · exact q2 (by rw [← Int32.toInt_inj, e]; decide)
      refine g_aload_n C dX8_judge_22 rfl ?_
      refine g_callV C (ob_X8 (by rfl)) (c_X8_finds (d := d) h) dX8_judge_23 km_RX8_138 kn_RX8 kc_yX8_finds ki_yX8_finds kx_yX8_finds (by omega) (by decide) ⟨by decide, by decide, rfl⟩ rfl (Nat.le_of_ble_eq_true rfl) (fun r1 σ1 q1 => ?_)
      obtain ⟨rfl, hB, hI, f1⟩ := q1
      have hs1 : RfIs σ1 s := hs.go f1 (by decide) (by decide)
      obtain ⟨⟨hL1, hL2, hL3⟩, hgs, hgm⟩ := id hB
      have vLe : (gL s).length ≤ 48 := hL1
      obtain ⟨a1, a2, a3, a4, a5, a6⟩ := hs1.2.2.2 j (by omega)
      refine g_ic (n := 0) C dX8_judge_26 (by decide) ?_
      refine g_istore_n C dX8_judge_27 (by decide) ?_
      refine g_loc ([(0, .ref (ev_a E 64)), (1, .int (nI j)), (2, .int x), (3, .int (nI 0))]) (And.intro rfl (And.intro rfl (And.intro rfl (And.intro rfl trivial)))) ?_
      refine g_post (fun r σ2 q => ?_) (l_X8_judge C (by omega) hB a2 a3 a6 (gL s).length 0 (Nat.zero_add _).symm)
      obtain ⟨rfl, rfl⟩ := q
      exact ⟨congrArg (fun v => some (Value.int v)) (by symm; unfold aJudge; rw [if_neg (by rw [h4]; decide), ej, if_neg h16n]), hs1, f1.s (by decide)⟩
    · have h16n : ¬ (s.2.2.2 j).1 = -1 ∧ ¬ (s.2.2.2 j).1 = 0 := ⟨fun e => h16 (by rw [e]; decide), fun e => h16 (by rw [e]; decide)⟩
      refine g_bp C (-12) dX8_judge_19 (by decide) ?_
      refine g_iret C dX8_judge_21 ?_
      exact ⟨congrArg (fun v => some (Value.int v)) (by unfold aJudge; rw [if_neg (by rw [h4]; decide), ej, if_pos h16n]), hs, Rs.rf⟩
  · refine g_icz (v := -1) C dX8_judge_7 (by decide) ?_
    refine g_iret C dX8_judge_8 ?_
    exact ⟨congrArg (fun v => some (Value.int v)) (by unfold aJudge; rw [if_pos h4]), hs, Rs.rf⟩

theorem hr_eq {s : Nat} (hs : s ≤ 60) {i n : Int32} (hn : ¬ n < 0) (hi : ¬ i < 0) : hrB s i n = !decide (nI s - n < i) := by
  have h1 := n.toInt_lt
  have hn' := hn
  have hi' := hi
  rw [ltI, Int32.toInt_zero] at hn hi
  have e : (nI s - n).toInt = (s : Int) - n.toInt := by
    rw [Int32.toInt_sub, nI_toInt (by omega), Int.bmod_def]
    split <;> omega
  unfold hrB
  rw [decide_eq_false hn', decide_eq_false hi']
  by_cases c : nI s - n < i
  · rw [decide_eq_true c]; simp
  · rw [decide_eq_false c]
    have c2 : ¬ nI s < n := by
      rw [ltI, e] at c
      rw [ltI, nI_toInt (by omega)]
      omega
    rw [decide_eq_false c2]; rfl
theorem hr_n {s : Nat} {i n : Int32} (h : n < 0) : hrB s i n = false := by unfold hrB; rw [decide_eq_true h]; rfl
theorem hr_i {s : Nat} {i n : Int32} (h : i < 0) : hrB s i n = false := by unfold hrB; rw [decide_eq_true h]; simp
/-- k items copied, the first ahead (fw) or the last ahead -/
def shF (g : Nat → Int64) (A B i j n k : Nat) : Nat → Int64 := fun q => if (if i < j then B + j + (n - k) ≤ q ∧ q < B + j + n else B + j ≤ q ∧ q < B + j + k) then g (A + i + (q - (B + j))) else g q
theorem sh_0 {g : Nat → Int64} {A B i j n : Nat} : shF g A B i j n 0 = g := by
  funext q
  unfold shF
  by_cases h : i < j
  · simp only [h, if_true]; rw [if_neg (by omega)]
  · simp only [h, if_false]; rw [if_neg (by omega)]
theorem sh_n {g : Nat → Int64} {A B i j n : Nat} {q : Nat} : shF g A B i j n n q = if B + j ≤ q ∧ q < B + j + n then g (A + i + (q - (B + j))) else g q := by
  unfold shF
  by_cases h : i < j
  · simp only [h, if_true, Nat.sub_self, Nat.add_zero]
  · simp only [h, if_false]
theorem sh_s {g : Nat → Int64} {a b i j n k x : Nat} (hk : k < n) (hi : i + n ≤ 60) (hj : j + n ≤ 60) (hx : x = if i < j then n - 1 - k else k) : vp_updL (shF g (60 * a) (60 * b) i j n k) (60 * b + j + x) (shF g (60 * a) (60 * b) i j n k (60 * a + i + x)) = shF g (60 * a) (60 * b) i j n (k + 1) := by
  funext q
  by_cases h : i < j
  · rw [if_pos h] at hx
    subst hx
    have e1 : shF g (60 * a) (60 * b) i j n k (60 * a + i + (n - 1 - k)) = g (60 * a + i + (n - 1 - k)) := by
      unfold shF
      simp only [h, if_true]
      rw [if_neg (by omega)]
    rw [e1]
    by_cases e : q = 60 * b + j + (n - 1 - k)
    · subst e
      rw [upL_i]
      unfold shF
      simp only [h, if_true]
      rw [if_pos (by omega)]
      congr 1
      omega
    · rw [upL_n e]
      unfold shF
      simp only [h, if_true]
      by_cases c : 60 * b + j + (n - k) ≤ q ∧ q < 60 * b + j + n
      · rw [if_pos c, if_pos (by omega)]
      · rw [if_neg c, if_neg (by omega)]
  · rw [if_neg h] at hx
    subst hx
    have e1 : shF g (60 * a) (60 * b) i j n x (60 * a + i + x) = g (60 * a + i + x) := by
      unfold shF
      simp only [h, if_false]
      rw [if_neg (by omega)]
    rw [e1]
    by_cases e : q = 60 * b + j + x
    · subst e
      rw [upL_i]
      unfold shF
      simp only [h, if_false]
      rw [if_pos (by omega)]
      congr 1
      omega
    · rw [upL_n e]
      unfold shF
      simp only [h, if_false]
      by_cases c : 60 * b + j ≤ q ∧ q < 60 * b + j + x
      · rw [if_pos c, if_pos (by omega)]
      · rw [if_neg c, if_neg (by omega)]

set_option maxHeartbeats 4000000 in
set_option maxRecDepth 100000 in
theorem l_X8_shift {E : Ev} {d : Nat} {X : Mx} (C : Cx E X cX8_shift RX8 8 ((Option.some FieldType.int))) {σ : St} {a b i j n : Nat} (ha : a < 6) (hb : b < 6) (hin : i + n ≤ 60) (hjn : j + n ≤ 60) : ∀ (k : Nat) (q : Nat), n = q + k → G E d X 8 (Det (some (.int (nI n))) (sL σ 78 (shF (σ.2 78) (60 * a) (60 * b) i j n n))) (sL σ 78 (shF (σ.2 78) (60 * a) (60 * b) i j n q)) 102 ([(0, .ref (ev_a E 64)), (1, .int (nI a)), (2, .int (nI i)), (3, .int (nI b)), (4, .int (nI j)), (5, .int (nI n)), (6, .int (nI q))]) [] := by
  intro k
  induction k with
  | zero =>
    intro q hq
    refine g_iload C dX8_shift_102 rfl ?_
    refine g_iload C dX8_shift_104 rfl ?_
    refine g_icgeN C 164 dX8_shift_106 (by decide) (by omega) (by omega) (fun h106 => ?_) (fun h106 => ?_)
    · refine g_iload C dX8_shift_164 rfl ?_
      refine g_iret C dX8_shift_166 ?_
      rw [show q = n from by omega]; exact ⟨rfl, rfl⟩
    · omega
  | succ k ih =>
    intro q hq
    refine g_iload C dX8_shift_102 rfl ?_
    refine g_iload C dX8_shift_104 rfl ?_
    refine g_icgeN C 164 dX8_shift_106 (by decide) (by omega) (by omega) (fun h106 => ?_) (fun h106 => ?_)
    · omega
    · refine g_iload_n C dX8_shift_109 rfl ?_
      refine g_iload C dX8_shift_110 rfl ?_
      refine g_icgeN C 125 dX8_shift_112 (by decide) (by omega) (by omega) (fun h112 => ?_) (fun h112 => ?_)
      · have h112 : ¬ i < j := by omega
        refine g_iload C dX8_shift_125 rfl ?_
        refine g_istore C dX8_shift_127 (by decide) ?_
        refine g_aload_n C dX8_shift_129 rfl ?_
        refine gf_X8_items C (by rfl) dX8_shift_130 kf_RX8_52 ?_
        refine g_bp C (nI 60) dX8_shift_133 (by decide) ?_
        refine g_iload_n C dX8_shift_135 rfl ?_
        refine g_imulN C dX8_shift_136 ?_
        refine g_iload C dX8_shift_137 rfl ?_
        refine g_iaddN C dX8_shift_139 ?_
        refine g_iload C dX8_shift_140 rfl ?_
        refine g_iaddN C dX8_shift_142 ?_
        refine g_aload_n C dX8_shift_143 rfl ?_
        refine gf_X8_items C (by rfl) dX8_shift_144 kf_RX8_52 ?_
        refine g_bp C (nI 60) dX8_shift_147 (by decide) ?_
        refine g_iload_n C dX8_shift_149 rfl ?_
        refine g_imulN C dX8_shift_150 ?_
        refine g_iload_n C dX8_shift_151 rfl ?_
        refine g_iaddN C dX8_shift_152 ?_
        refine g_iload C dX8_shift_153 rfl ?_
        refine g_iaddN C dX8_shift_155 ?_
        refine g_laldN C (by rfl) (by omega) (by first | decide | omega) dX8_shift_156 ?_
        refine g_lastN C (by rfl) (by omega) (by first | decide | omega) dX8_shift_157 ?_
        refine g_iinc1 C dX8_shift_158 rfl (by decide) ?_
        refine g_goto C 102 dX8_shift_161 (by decide) ?_
        refine g_loc ([(0, .ref (ev_a E 64)), (1, .int (nI a)), (2, .int (nI i)), (3, .int (nI b)), (4, .int (nI j)), (5, .int (nI n)), (6, .int (nI (q + 1)))]) (And.intro rfl (And.intro rfl (And.intro rfl (And.intro rfl (And.intro rfl (And.intro rfl (And.intro rfl trivial))))))) ?_
        refine g_eqS (show _ = (sL σ 78 (shF (σ.2 78) (60 * a) (60 * b) i j n (q + 1))) from by rw [sL_self, sh_s (x := q) (by omega) hin hjn (by rw [if_neg h112]), sL_sL]) ?_
        exact ih (q + 1) (by omega)
      · have h112 : i < j := by omega
        refine g_iload C dX8_shift_115 rfl ?_
        refine g_ic (n := 1) C dX8_shift_117 (by decide) ?_
        first | refine g_isubN C dX8_shift_118 (by omega) ?_ | refine g_isub C dX8_shift_118 ?_
        refine g_iload C dX8_shift_119 rfl ?_
        first | refine g_isubN C dX8_shift_121 (by omega) ?_ | refine g_isub C dX8_shift_121 ?_
        refine g_goto C 127 dX8_shift_122 (by decide) ?_
        refine g_istore C dX8_shift_127 (by decide) ?_
        refine g_aload_n C dX8_shift_129 rfl ?_
        refine gf_X8_items C (by rfl) dX8_shift_130 kf_RX8_52 ?_
        refine g_bp C (nI 60) dX8_shift_133 (by decide) ?_
        refine g_iload_n C dX8_shift_135 rfl ?_
        refine g_imulN C dX8_shift_136 ?_
        refine g_iload C dX8_shift_137 rfl ?_
        refine g_iaddN C dX8_shift_139 ?_
        refine g_iload C dX8_shift_140 rfl ?_
        refine g_iaddN C dX8_shift_142 ?_
        refine g_aload_n C dX8_shift_143 rfl ?_
        refine gf_X8_items C (by rfl) dX8_shift_144 kf_RX8_52 ?_
        refine g_bp C (nI 60) dX8_shift_147 (by decide) ?_
        refine g_iload_n C dX8_shift_149 rfl ?_
        refine g_imulN C dX8_shift_150 ?_
        refine g_iload_n C dX8_shift_151 rfl ?_
        refine g_iaddN C dX8_shift_152 ?_
        refine g_iload C dX8_shift_153 rfl ?_
        refine g_iaddN C dX8_shift_155 ?_
        refine g_laldN C (by rfl) (by omega) (by first | decide | omega) dX8_shift_156 ?_
        refine g_lastN C (by rfl) (by omega) (by first | decide | omega) dX8_shift_157 ?_
        refine g_iinc1 C dX8_shift_158 rfl (by decide) ?_
        refine g_goto C 102 dX8_shift_161 (by decide) ?_
        refine g_loc ([(0, .ref (ev_a E 64)), (1, .int (nI a)), (2, .int (nI i)), (3, .int (nI b)), (4, .int (nI j)), (5, .int (nI n)), (6, .int (nI (q + 1)))]) (And.intro rfl (And.intro rfl (And.intro rfl (And.intro rfl (And.intro rfl (And.intro rfl (And.intro rfl trivial))))))) ?_
        refine g_eqS (show _ = (sL σ 78 (shF (σ.2 78) (60 * a) (60 * b) i j n (q + 1))) from by rw [sL_self, sh_s (x := (n - 1 - q)) (by omega) hin hjn (by rw [if_pos h112]), sL_sL]) ?_
        exact ih (q + 1) (by omega)

set_option maxHeartbeats 4000000 in
set_option maxRecDepth 100000 in
theorem c_X8_shift {E : Ev} {d : Nat} {σ : St} {s : Ms} (hs : RfIs σ s) {a i b j n : Int32} : Con E (d + 2) yX8_shift cX8_shift 8 ((Option.some FieldType.int)) [.ref (ev_a E 64), .int a, .int i, .int b, .int j, .int n] σ (RfTo (.int (aShift s a i b j n)) σ (tShift s a i b j n)) := by
  refine con_of (by decide) (Nat.le_of_ble_eq_true rfl) (fun X hX C => ?_)
  have C : Cx E X cX8_shift RX8 8 ((Option.some FieldType.int)) := C
  show G E _ X _ _ _ 0 [(0, .ref (ev_a E 64)), (1, .int a), (2, .int i), (3, .int b), (4, .int j), (5, .int n)] []
  refine g_iload_n C dX8_shift_0 rfl ?_
  refine g_callSp C (c_X8_isTape (d := d) ) dX8_shift_1 km_RX8_272 kn_RX8 kc_yX8_isTape ks_yX8_isTape (by omega) (by decide) ⟨by decide, by decide, rfl⟩ rfl (Nat.le_of_ble_eq_true rfl) ?_
  refine g_ifeqB C 14 dX8_shift_4 (by decide) (fun h4 => ?_) (fun h4 => ?_)
  · refine g_icz (v := -1) C dX8_shift_14 (by decide) ?_
    refine g_iret C dX8_shift_15 ?_
    first | (exact ⟨congrArg (fun v => some (Value.int v)) (by unfold aShift; rw [if_pos (by rw [h4]; rfl)]), by rw [show tShift s a i b j n = s from by unfold tShift; rw [if_pos (by rw [h4]; rfl)]]; exact hs, Rs.rf⟩) | (exact ⟨congrArg (fun v => some (Value.int v)) (by unfold aShift; rw [if_pos (by rw [h4, h11]; rfl)]), by rw [show tShift s (nI a2) i b j n = s from by unfold tShift; rw [if_pos (by rw [h4, h11]; rfl)]]; exact hs, Rs.rf⟩)
  · obtain ⟨a2, ha2, rfl⟩ := in_n (k := 5) h4
    have ea : ix (nI a2) = a2 := ix_nI (by omega)
    obtain ⟨a_1, a_2, a_3, a_4, a_5, a_6⟩ := hs.2.2.2 a2 (by omega)
    refine g_iload_n C dX8_shift_7 rfl ?_
    refine g_callSp C (c_X8_isTape (d := d) ) dX8_shift_8 km_RX8_272 kn_RX8 kc_yX8_isTape ks_yX8_isTape (by omega) (by decide) ⟨by decide, by decide, rfl⟩ rfl (Nat.le_of_ble_eq_true rfl) ?_
    refine g_ifneB C 16 dX8_shift_11 (by decide) (fun h11 => ?_) (fun h11 => ?_)
    · obtain ⟨b2, hb2, rfl⟩ := in_n (k := 5) h11
      have eb : ix (nI b2) = b2 := ix_nI (by omega)
      obtain ⟨b_1, b_2, b_3, b_4, b_5, b_6⟩ := hs.2.2.2 b2 (by omega)
      refine g_aload_n C dX8_shift_16 rfl ?_
      refine gf_X8_sorts C (by rfl) dX8_shift_17 kf_RX8_46 ?_
      refine g_iload_n C dX8_shift_20 rfl ?_
      refine g_ialdN C (by rfl) (by omega) (by first | decide | omega) dX8_shift_21 ?_
      rw [a_1]
      refine g_iflt C 34 dX8_shift_22 (by decide) (fun h22 => ?_) (fun h22 => ?_)
      · have h22 : (s.2.2.2 a2).1 = -1 := so_m1 a_4 h22
        refine g_bp C (-11) dX8_shift_34 (by decide) ?_
        refine g_iret C dX8_shift_36 ?_
        first | (exact ⟨congrArg (fun v => some (Value.int v)) (by unfold aShift; rw [if_neg (by rw [h4, h11]; decide), ea, eb, if_pos (Or.inl h22)]), by rw [show tShift s (nI a2) i (nI b2) j n = s from by unfold tShift; rw [if_neg (by rw [h4, h11]; decide), ea, eb, if_pos (Or.inl h22)]]; exact hs, Rs.rf⟩) | (exact ⟨congrArg (fun v => some (Value.int v)) (by unfold aShift; rw [if_neg (by rw [h4, h11]; decide), ea, eb, if_pos (Or.inr h31)]), by rw [show tShift s (nI a2) i (nI b2) j n = s from by unfold tShift; rw [if_neg (by rw [h4, h11]; decide), ea, eb, if_pos (Or.inr h31)]]; exact hs, Rs.rf⟩)
      · have h22 : ¬ (s.2.2.2 a2).1 = -1 := so_ge h22
        refine g_aload_n C dX8_shift_25 rfl ?_
        refine gf_X8_sorts C (by rfl) dX8_shift_26 kf_RX8_46 ?_
        refine g_iload_n C dX8_shift_29 rfl ?_
        refine g_ialdN C (by rfl) (by omega) (by first | decide | omega) dX8_shift_30 ?_
        rw [b_1]
        refine g_ifge C 37 dX8_shift_31 (by decide) (fun h31 => ?_) (fun h31 => ?_)
        · have h31 : ¬ (s.2.2.2 b2).1 = -1 := so_ge (ge0 h31)
          refine g_aload_n C dX8_shift_37 rfl ?_
          refine gf_X8_sorts C (by rfl) dX8_shift_38 kf_RX8_46 ?_
          refine g_iload_n C dX8_shift_41 rfl ?_
          refine g_ialdN C (by rfl) (by omega) (by first | decide | omega) dX8_shift_42 ?_
          rw [a_1]
          refine g_aload_n C dX8_shift_43 rfl ?_
          refine gf_X8_sorts C (by rfl) dX8_shift_44 kf_RX8_46 ?_
          refine g_iload_n C dX8_shift_47 rfl ?_
          refine g_ialdN C (by rfl) (by omega) (by first | decide | omega) dX8_shift_48 ?_
          rw [b_1]
          refine g_iceq C 55 dX8_shift_49 (by decide) (fun h49 => ?_) (fun h49 => ?_)
          · refine g_iload C dX8_shift_55 rfl ?_
            refine g_iflt C 96 dX8_shift_57 (by decide) (fun h57 => ?_) (fun h57 => ?_)
            · have hbad : (hrB (s.2.2.2 a2).2.1 i n && hrB (s.2.2.2 b2).2.1 j n) = false := by rw [hr_n h57]; rfl
              refine g_bp C (-13) dX8_shift_96 (by decide) ?_
              refine g_iret C dX8_shift_98 ?_
              exact ⟨congrArg (fun v => some (Value.int v)) (by unfold aShift; rw [if_neg (by rw [h4, h11]; decide), ea, eb, if_neg (by rintro (q | q); exact h22 q; exact h31 q), if_neg (fun q => q h49), if_pos hbad]), by rw [show tShift s (nI a2) i (nI b2) j n = s from by unfold tShift; rw [if_neg (by rw [h4, h11]; decide), ea, eb, if_neg (by rintro (q | q); exact h22 q; exact h31 q), if_neg (fun q => q h49), if_pos hbad]]; exact hs, Rs.rf⟩
            · refine g_iload_n C dX8_shift_60 rfl ?_
              refine g_iflt C 96 dX8_shift_61 (by decide) (fun h61 => ?_) (fun h61 => ?_)
              · have hbad : (hrB (s.2.2.2 a2).2.1 i n && hrB (s.2.2.2 b2).2.1 j n) = false := by rw [hr_i h61]; rfl
                refine g_bp C (-13) dX8_shift_96 (by decide) ?_
                refine g_iret C dX8_shift_98 ?_
                exact ⟨congrArg (fun v => some (Value.int v)) (by unfold aShift; rw [if_neg (by rw [h4, h11]; decide), ea, eb, if_neg (by rintro (q | q); exact h22 q; exact h31 q), if_neg (fun q => q h49), if_pos hbad]), by rw [show tShift s (nI a2) i (nI b2) j n = s from by unfold tShift; rw [if_neg (by rw [h4, h11]; decide), ea, eb, if_neg (by rintro (q | q); exact h22 q; exact h31 q), if_neg (fun q => q h49), if_pos hbad]]; exact hs, Rs.rf⟩
              · refine g_iload C dX8_shift_64 rfl ?_
                refine g_iflt C 96 dX8_shift_66 (by decide) (fun h66 => ?_) (fun h66 => ?_)
                · have hbad : (hrB (s.2.2.2 a2).2.1 i n && hrB (s.2.2.2 b2).2.1 j n) = false := by rw [hr_i (s := (s.2.2.2 b2).2.1) h66, Bool.and_false]
                  refine g_bp C (-13) dX8_shift_96 (by decide) ?_
                  refine g_iret C dX8_shift_98 ?_
                  exact ⟨congrArg (fun v => some (Value.int v)) (by unfold aShift; rw [if_neg (by rw [h4, h11]; decide), ea, eb, if_neg (by rintro (q | q); exact h22 q; exact h31 q), if_neg (fun q => q h49), if_pos hbad]), by rw [show tShift s (nI a2) i (nI b2) j n = s from by unfold tShift; rw [if_neg (by rw [h4, h11]; decide), ea, eb, if_neg (by rintro (q | q); exact h22 q; exact h31 q), if_neg (fun q => q h49), if_pos hbad]]; exact hs, Rs.rf⟩
                · refine g_iload_n C dX8_shift_69 rfl ?_
                  refine g_aload_n C dX8_shift_70 rfl ?_
                  refine gf_X8_sizes C (by rfl) dX8_shift_71 kf_RX8_49 ?_
                  refine g_iload_n C dX8_shift_74 rfl ?_
                  refine g_ialdN C (by rfl) (by omega) (by first | decide | omega) dX8_shift_75 ?_
                  rw [a_2]
                  refine g_iload C dX8_shift_76 rfl ?_
                  refine g_isub C dX8_shift_78 ?_
                  refine g_icgt C 96 dX8_shift_79 (by decide) (fun h79 => ?_) (fun h79 => ?_)
                  · have hbad : (hrB (s.2.2.2 a2).2.1 i n && hrB (s.2.2.2 b2).2.1 j n) = false := by rw [hr_eq a_3 h57 h61, decide_eq_true h79]; rfl
                    refine g_bp C (-13) dX8_shift_96 (by decide) ?_
                    refine g_iret C dX8_shift_98 ?_
                    exact ⟨congrArg (fun v => some (Value.int v)) (by unfold aShift; rw [if_neg (by rw [h4, h11]; decide), ea, eb, if_neg (by rintro (q | q); exact h22 q; exact h31 q), if_neg (fun q => q h49), if_pos hbad]), by rw [show tShift s (nI a2) i (nI b2) j n = s from by unfold tShift; rw [if_neg (by rw [h4, h11]; decide), ea, eb, if_neg (by rintro (q | q); exact h22 q; exact h31 q), if_neg (fun q => q h49), if_pos hbad]]; exact hs, Rs.rf⟩
                  · refine g_iload C dX8_shift_82 rfl ?_
                    refine g_aload_n C dX8_shift_84 rfl ?_
                    refine gf_X8_sizes C (by rfl) dX8_shift_85 kf_RX8_49 ?_
                    refine g_iload_n C dX8_shift_88 rfl ?_
                    refine g_ialdN C (by rfl) (by omega) (by first | decide | omega) dX8_shift_89 ?_
                    rw [b_2]
                    refine g_iload C dX8_shift_90 rfl ?_
                    refine g_isub C dX8_shift_92 ?_
                    refine g_icle C 99 dX8_shift_93 (by decide) (fun h93 => ?_) (fun h93 => ?_)
                    · have e1 : hrB (s.2.2.2 a2).2.1 i n = true := by rw [hr_eq a_3 h57 h61, decide_eq_false h79]; rfl
                      have e2 : hrB (s.2.2.2 b2).2.1 j n = true := by rw [hr_eq b_3 h57 h66, decide_eq_false (show ¬ nI (s.2.2.2 b2).2.1 - n < j from by have z := h93; rw [leI] at z; rw [ltI]; omega)]; rfl
                      obtain ⟨i2, n2, rfl, rfl, hin⟩ := hrB_t a_3 e1
                      obtain ⟨j2, n3, rfl, en, hjn⟩ := hrB_t b_3 e2
                      have en2 : n3 = n2 := (nI_inj (by omega) (by omega) en).symm
                      subst en2
                      refine g_ic (n := 0) C dX8_shift_99 (by decide) ?_
                      refine g_istore C dX8_shift_100 (by decide) ?_
                      refine g_loc ([(0, .ref (ev_a E 64)), (1, .int (nI a2)), (2, .int (nI i2)), (3, .int (nI b2)), (4, .int (nI j2)), (5, .int (nI n3)), (6, .int (nI 0))]) (And.intro rfl (And.intro rfl (And.intro rfl (And.intro rfl (And.intro rfl (And.intro rfl (And.intro rfl trivial))))))) ?_
                      refine g_eqS (show σ = (sL σ 78 (shF (σ.2 78) (60 * a2) (60 * b2) i2 j2 n3 0)) from by rw [sh_0, sL_id]) ?_
                      refine g_post (fun r σ2 q => ?_) (l_X8_shift C (by omega) (by omega) (by omega) (by omega) n3 0 (Nat.zero_add _).symm)
                      obtain ⟨rfl, rfl⟩ := q
                      have hF : Fk [] [76, 77, 78] σ (sL σ 78 (shF (σ.2 78) (60 * a2) (60 * b2) i2 j2 n3 n3)) := Fk.rf.sL (by simp)
                      refine ⟨congrArg (fun v => some (Value.int v)) (by unfold aShift; rw [if_neg (by rw [h4, h11]; decide), ea, eb, if_neg (by rintro (q | q); exact h22 q; exact h31 q), if_neg (fun q => q h49), if_neg (by rw [e1, e2]; decide)]), ?_, hF.s (by decide)⟩
                      rw [show tShift s (nI a2) (nI i2) (nI b2) (nI j2) (nI n3) = sTp s b2 ((s.2.2.2 b2).1, (s.2.2.2 b2).2.1, va_cpy (s.2.2.2 a2).2.2 (s.2.2.2 b2).2.2 i2 j2 n3) from by unfold tShift; rw [if_neg (by rw [h4, h11]; decide), ea, eb, if_neg (by rintro (q | q); exact h22 q; exact h31 q), if_neg (fun q => q h49), if_neg (by rw [e1, e2]; decide), ix_nI (show i2 < 2 ^ 31 by omega), ix_nI (show j2 < 2 ^ 31 by omega), ix_nI (show n3 < 2 ^ 31 by omega)]]
                      refine hs.tp hF b_1 b_2 b_3 b_4 b_5 (fun q hq => ?_) (fun q hq hne => ⟨rfl, rfl, fun i hi => ?_⟩)
                      · rw [sL_self, sh_n]
                        unfold va_cpy
                        by_cases c : j2 ≤ q ∧ q < j2 + n3
                        · rw [if_pos c, if_pos (by omega), show 60 * a2 + i2 + (60 * b2 + q - (60 * b2 + j2)) = 60 * a2 + (i2 + (q - j2)) from by omega]; exact a_6 _ (by omega)
                        · rw [if_neg c, if_neg (by omega)]; exact b_6 q hq
                      · rw [sL_self, sh_n, if_neg (by omega)]
                    · have hbad : (hrB (s.2.2.2 a2).2.1 i n && hrB (s.2.2.2 b2).2.1 j n) = false := by rw [hr_eq b_3 h57 h66, decide_eq_true (show nI (s.2.2.2 b2).2.1 - n < j from by have z := h93; rw [leI] at z; rw [ltI]; omega), Bool.not_true, Bool.and_false]
                      refine g_bp C (-13) dX8_shift_96 (by decide) ?_
                      refine g_iret C dX8_shift_98 ?_
                      exact ⟨congrArg (fun v => some (Value.int v)) (by unfold aShift; rw [if_neg (by rw [h4, h11]; decide), ea, eb, if_neg (by rintro (q | q); exact h22 q; exact h31 q), if_neg (fun q => q h49), if_pos hbad]), by rw [show tShift s (nI a2) i (nI b2) j n = s from by unfold tShift; rw [if_neg (by rw [h4, h11]; decide), ea, eb, if_neg (by rintro (q | q); exact h22 q; exact h31 q), if_neg (fun q => q h49), if_pos hbad]]; exact hs, Rs.rf⟩
          · refine g_bp C (-12) dX8_shift_52 (by decide) ?_
            refine g_iret C dX8_shift_54 ?_
            exact ⟨congrArg (fun v => some (Value.int v)) (by unfold aShift; rw [if_neg (by rw [h4, h11]; decide), ea, eb, if_neg (by rintro (q | q); exact h22 q; exact h31 q), if_pos h49]), by rw [show tShift s (nI a2) i (nI b2) j n = s from by unfold tShift; rw [if_neg (by rw [h4, h11]; decide), ea, eb, if_neg (by rintro (q | q); exact h22 q; exact h31 q), if_pos h49]]; exact hs, Rs.rf⟩
        · have h31 : (s.2.2.2 b2).1 = -1 := so_m1 b_4 (nge0 h31)
          refine g_bp C (-11) dX8_shift_34 (by decide) ?_
          refine g_iret C dX8_shift_36 ?_
          first | (exact ⟨congrArg (fun v => some (Value.int v)) (by unfold aShift; rw [if_neg (by rw [h4, h11]; decide), ea, eb, if_pos (Or.inl h22)]), by rw [show tShift s (nI a2) i (nI b2) j n = s from by unfold tShift; rw [if_neg (by rw [h4, h11]; decide), ea, eb, if_pos (Or.inl h22)]]; exact hs, Rs.rf⟩) | (exact ⟨congrArg (fun v => some (Value.int v)) (by unfold aShift; rw [if_neg (by rw [h4, h11]; decide), ea, eb, if_pos (Or.inr h31)]), by rw [show tShift s (nI a2) i (nI b2) j n = s from by unfold tShift; rw [if_neg (by rw [h4, h11]; decide), ea, eb, if_pos (Or.inr h31)]]; exact hs, Rs.rf⟩)
    · refine g_icz (v := -1) C dX8_shift_14 (by decide) ?_
      refine g_iret C dX8_shift_15 ?_
      first | (exact ⟨congrArg (fun v => some (Value.int v)) (by unfold aShift; rw [if_pos (by rw [h4]; rfl)]), by rw [show tShift s a i b j n = s from by unfold tShift; rw [if_pos (by rw [h4]; rfl)]]; exact hs, Rs.rf⟩) | (exact ⟨congrArg (fun v => some (Value.int v)) (by unfold aShift; rw [if_pos (by rw [h4, h11]; rfl)]), by rw [show tShift s (nI a2) i b j n = s from by unfold tShift; rw [if_pos (by rw [h4, h11]; rfl)]]; exact hs, Rs.rf⟩)

