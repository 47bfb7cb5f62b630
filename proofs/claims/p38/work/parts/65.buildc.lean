/-! THE BUILDER'S CONTRACT (wip/p38/gen/buildc38.py) -/
def frB (sz : Nat) : Nat → Prop := fun q => sz ≤ q
def PBu (l : Launch) (D : va_G) (cs : Nat → ClassId) (sA : Nat → Nat) (sz : Nat) (U : State) : Prop := U.heap.size = sz ∧ va_K D vwCl (ty5 cs) U ∧ nestOk U ∧ va_AO "ShapeMoves$Tape" U ∧ Sta (l, D, (fun _ => 0), cs, frB sz, sA) U U.heap
def QBu (l : Launch) (D : va_G) (cs : Nat → ClassId) (sA : Nat → Nat) (sz : Nat) : Array Value → State → Outcome → State → Prop := va_Qr (fun u : (Nat → Nat) × St × Ms => SyIs u.2.1 u.2.2 ∧ BuOk u.2.2 ∧ 1 ≤ u.2.2.1.1.1) (fun u a t => a = u.1 0 ∧ va_P D vwCl (wd (l, D, u.1, cs, frB sz, sA) u.2.1) t.heap ∧ OkE (l, D, u.1, cs, frB sz, sA)) (frB sz)
set_option maxHeartbeats 16000000 in
set_option maxRecDepth 100000 in
theorem bu_8 {E : Ev} {Q : State → Prop} {X : Mx} (C : CZ E (rmB 4 64 1487, 64, 1487, Q) X cL_build RL 11) (kE : ∀ {n0 mo : Nat} {c : Int32} (σ : St) (s : Ms) (p : Nat), SyIs σ s → BuOk s → 1 ≤ s.1.1.1 → GZ E (rmB 4 64 1487, 64, 1487, Q) X 11 σ 230 [(0, .ref (ev_s E 3)), (1, .ref (ev_a E 0)), (2, .int (nI n0)), (3, .int (nI mo)), (4, .int c), (5, .int (nI p))] []) : GZ E (rmB 4 64 1487, 64, 1487, Q) X 11 sg0 8 [(0, .ref (ev_s E 3)), (1, .ref (ev_a E 0))] [] := by
  refine z_aload_n C dL_build_8 rfl ?_
  refine z_ic (n := 0) C dL_build_9 (by decide) ?_
  refine z_at C (k := 0) (by omega) dL_build_10 km_RL_10 (Nat.le_of_ble_eq_true rfl) (Nat.le_of_ble_eq_true rfl) (Nat.le_of_ble_eq_true rfl) ?_
  refine z_bp C (nI 7) dL_build_13 (by decide) ?_
  refine z_iand C dL_build_15 ?_
  obtain ⟨m7, hm7, em7⟩ := and_le (x := scV E 0) (k := 7) (by decide)
  rw [em7]
  refine z_ic (n := 1) C dL_build_16 (by decide) ?_
  refine z_iaddN C dL_build_17 ?_
  refine z_istore_n C dL_build_18 (by decide) ?_
  refine z_aload_n C dL_build_19 rfl ?_
  refine z_ic (n := 0) C dL_build_20 (by decide) ?_
  refine z_at C (k := 0) (by omega) dL_build_21 km_RL_10 (Nat.le_of_ble_eq_true rfl) (Nat.le_of_ble_eq_true rfl) (Nat.le_of_ble_eq_true rfl) ?_
  refine z_ic (n := 3) C dL_build_24 (by decide) ?_
  refine z_ishr C dL_build_25 ?_
  refine z_ic (n := 3) C dL_build_26 (by decide) ?_
  refine z_iand C dL_build_27 ?_
  obtain ⟨m3, hm3, em3⟩ := and_le (x := scV E 0 >>> (nI 3 &&& 31)) (k := 3) (by decide)
  rw [em3]
  refine z_istore_n C dL_build_28 (by decide) ?_
  refine z_aload_n C dL_build_29 rfl ?_
  refine z_ic (n := 1) C dL_build_30 (by decide) ?_
  refine z_at C (k := 1) (by omega) dL_build_31 km_RL_10 (Nat.le_of_ble_eq_true rfl) (Nat.le_of_ble_eq_true rfl) (Nat.le_of_ble_eq_true rfl) ?_
  refine z_istore C dL_build_34 (by decide) ?_
  refine z_ic (n := 0) C dL_build_36 (by decide) ?_
  refine z_istore C dL_build_37 (by decide) ?_
  refine z_loc [(0, .ref (ev_s E 3)), (1, .ref (ev_a E 0)), (2, .int (nI (m7 + 1))), (3, .int (nI m3)), (4, .int (scV E 1)), (5, .int (nI 0))] ⟨rfl, rfl, rfl, rfl, rfl, rfl, trivial⟩ ?_
  exact bu_loop C (Nat.le_of_ble_eq_true rfl) (Nat.le_of_ble_eq_true rfl) (by omega) (by omega) hm3 kE (m7 + 2) 0 sg0 msZ (by omega) (by omega) sy0 bu0 (fun h => absurd h (Nat.lt_irrefl 0))
set_option maxHeartbeats 16000000 in
set_option maxRecDepth 100000 in
theorem c_L_build {l : Launch} {D : va_G} {cs : Nat → ClassId} {sA : Nat → Nat} {sz : Nat} : Met l yL_build (Cond.code yL_build cL_build 11 (Option.some (FieldType.object "ShapeMoves")) :: lw_g) (rmB 4 64 1487) (va_Pc [.ref (sA 3)] (PBu l D cs sA sz)) (QBu l D cs sA sz) 64 1487 (frB sz) := by
  refine Met.ofW (cc := cL_build) (maxL := 11) (ret := some (.object "ShapeMoves")) (by decide) rfl ?_
  intro p e s m args below meth c s₁ B hml hv
  obtain ⟨rfl, hsz, hK, hN, hAO, hSta⟩ := hv
  subst hsz
  have hts := atoms_spec (ws := Cond.code yL_build cL_build 11 (Option.some (FieldType.object "ShapeMoves")) :: lw_g) B.pre
  have hown : s.vm.findClass RL = some m.cls := findClass_of_methodNamed B.named
  have hret := B.returns
  have hnos := B.notSynchronized
  have C : CY (l, rmB 4 64 1487, D, cs, frB s.heap.size, MQ below (QBu l D cs sA s.heap.size) #[.ref (sA 3)] s 64 1487 (frB s.heap.size)) (p, e, s, m, #[.ref (sA 3)], below, meth, c) cL_build RL 11 := ⟨B.exec, B.bytes, hml, hown, fun w hw => hts w (List.mem_cons_of_mem _ hw), hK, hN, hAO, fun q hq => hq⟩
  have go : GY (l, rmB 4 64 1487, D, cs, frB s.heap.size, MQ below (QBu l D cs sA s.heap.size) #[.ref (sA 3)] s 64 1487 (frB s.heap.size)) (p, e, s, m, #[.ref (sA 3)], below, meth, c) 11 0 0 [] 0 [(0, .ref (sA 3))] [] := by
    refine y_new7 C (fs := [.null, .null, .int 0, .null, .int 0, .null, .null, .null, .null]) (List.mem_of_getElem? (i := 342) (by decide +kernel)) (List.mem_of_getElem? (i := 37) (by decide +kernel)) kn_RX7 (fun j hj => by rcases (show j = 0 ∨ j = 1 ∨ j = 2 ∨ j = 3 ∨ j = 4 ∨ j = 5 ∨ j = 6 ∨ j = 7 ∨ j = 8 from by omega) with rfl | rfl | rfl | rfl | rfl | rfl | rfl | rfl | rfl <;> rfl) (Nat.le_of_ble_eq_true rfl) (Nat.le_of_ble_eq_true rfl) dL_build_0 (fun q0 => ?_)
    show GY _ _ _ 1 9 [(q0, .inr (6, [.null, .null, .int 0, .null, .int 0, .null, .null, .null, .null]))] 3 [(0, .ref (sA 3))] [.ref q0]
    refine y_dup C dL_build_3 rfl ?_
    refine y_callI (wr := []) C 0 [] rfl rfl rfl rfl (by decide) (c_X7_init (h0 := q0)) dL_build_4 km_RL_9 ki_yX7_init kn_RX7 kc_yX7_init rfl ⟨by decide, by decide, rfl⟩ (Nat.le_of_ble_eq_true rfl) (Nat.le_of_ble_eq_true rfl) (Nat.le_of_ble_eq_true rfl) (Nat.le_of_ble_eq_true rfl) rfl (Nat.le_of_ble_eq_true rfl) (fun a => ?_)
    show GY _ _ _ 64 1487 (PWX7 cs q0 a) 7 [(0, .ref (sA 3))] [.ref q0]
    refine y_astore_n C dL_build_7 (by decide) ?_
    refine y_loc ([(0, .ref (sA 3)), (1, .ref q0)]) ⟨rfl, rfl, trivial⟩ ?_
    intro H locs ls hP hD hS hl
    obtain ⟨hP2, hOk⟩ := w_start (l := l) (sA := sA) hP hD
    have hSx : Sx (l, D, ad0 q0 a, cs, frB s.heap.size, sA) s := ⟨hK, hSta, hOk⟩
    have CC : CZ (l, D, ad0 q0 a, cs, frB s.heap.size, sA) (rmB 4 64 1487, 64, 1487, MQ below (QBu l D cs sA s.heap.size) #[.ref (sA 3)] s 64 1487 (frB s.heap.size)) (p, e, s, m, #[.ref (sA 3)], below, meth, c) cL_build RL 11 := ⟨C.1, C.2.1, C.2.2.1, C.2.2.2.1, C.2.2.2.2.1, hSx, Nat.le_refl _, Nat.le_refl _⟩
    refine bu_8 CC (fun {n0 mo c0} σ s2 p2 hs hb h1 => ?_) H locs ls hP2 hS hl
    refine z_aload_n CC dL_build_230 rfl ?_
    intro H2 locs2 ls2 hP3 hS2 hl2
    exact W.aret C.1 C.2.1 hret (Or.inl ⟨_, rfl⟩) (Or.inr ⟨_, rfl⟩) (fun t ht _ => ⟨⟨(ad0 q0 a, σ, s2), _, rfl, ⟨hs, hb, h1⟩, rfl, by rw [ht]; exact hP3, hOk⟩, hS2.F ht⟩) hS2.2.2 dL_build_231 hnos
  have hlv := lv_entry [Value.ref (sA 3)] (n := 11) (Nat.le_of_ble_eq_true rfl)
  rw [lg_entry_eq]
  exact go s.heap [] _ (fun k q hq => by simp at hq) ⟨fun i j x y hx2 => by simp at hx2, fun k q hq => by simp at hq⟩ va_S.rf hlv
