/-! RULES IN THE LAW: script loads, calls by Con, the end (wip/whole/gen/lawrules.py) -/
theorem ob0 : obj 0 RX7 := ⟨by decide, 6, TX7, 9, rfl, fun E f g => ⟨_, rfl⟩⟩
theorem ob64 : obj 64 RX8 := ⟨by decide, 7, TX8, 22, rfl, fun E f g => ⟨_, rfl⟩⟩
section YL
variable {l : Launch} {Rm : Room} {D : va_G} {ad : Nat → Nat} {cs : Nat → ClassId} {A : Nat → Prop} {sA : Nat → Nat} {Q : State → Prop} {X : Mx} {cc : ByteArray} {own : String} {nL k n pc : Nat} {σ : St} {ws : va_W} {L : List (Nat × Value)} {st : List Value} {b Ln : Nat} {xs : Nat → Int32}
theorem y_slen {B : Bx} (C : CY B X cc own nL) (hX : va_X b Ln xs X.2.2.1 X.2.2.1.heap) (hbl : b < X.2.2.1.heap.size) (hbA : ¬ B.2.2.2.2.1 b) (hdg : decode cc pc = .ok (.arraylength, 1)) (kk : GY B X nL k n ws (pc + 1) L (.int (nI Ln) :: st)) : GY B X nL k n ws pc L (.ref b :: st) :=
  fun H locs ls hP hD hS hl => va_slen C.1 C.2.1 hX hbl hbA hS hdg (kk H locs ls hP hD hS hl)
theorem y_sld {B : Bx} (C : CY B X cc own nL) (hX : va_X b Ln xs X.2.2.1 X.2.2.1.heap) (hbl : b < X.2.2.1.heap.size) (hbA : ¬ B.2.2.2.2.1 b) {i : Nat} (hi : i < Ln) (hLn : Ln ≤ 3072) (hdg : decode cc pc = .ok (.iaload, 1)) (kk : GY B X nL k n ws (pc + 1) L (.int (xs i) :: st)) : GY B X nL k n ws pc L (.int (nI i) :: .ref b :: st) :=
  fun H locs ls hP hD hS hl => va_sld C.1 C.2.1 hX hbl hbA hS (nI_in hi (by omega)) hdg (by rw [nI_clamp (show i < 2 ^ 31 by omega)]; exact kk H locs ls hP hD hS hl)
theorem y_sc {B : Bx} (C : CY B X cc own nL) (hX : va_X b Ln xs X.2.2.1 X.2.2.1.heap) (hbl : b < X.2.2.1.heap.size) (hbA : ¬ B.2.2.2.2.1 b) {j : Nat} (i : Nat) (hi6 : i < 6) (hj : j + 6 ≤ Ln) (hLn : Ln ≤ 3072) (h0 : L.lookup 0 = some (.ref b)) (h3 : L.lookup 3 = some (.int (nI j)))
    (d1 : decode cc pc = .ok (.aload_n 0, 1)) (d2 : decode cc (pc + 1) = .ok (.iload_n 3, 1)) (d3 : decode cc (pc + 2) = .ok (.iconst (i : Int), 1)) (d4 : decode cc (pc + 3) = .ok (.iadd, 1)) (d5 : decode cc (pc + 4) = .ok (.iaload, 1)) (kk : GY B X nL k n ws (pc + 5) L (.int (xs (j + i)) :: st)) : GY B X nL k n ws pc L st := by
  refine y_aload_n C d1 h0 ?_
  refine y_iload_n C d2 h3 ?_
  refine y_ic C d3 hi6 ?_
  refine y_iadd C d4 ?_
  rw [nI_add]
  exact y_sld C hX hbl hbA (by omega) hLn d5 kk
set_option maxHeartbeats 4000000 in
theorem y_callK (C : CY (l, Rm, D, cs, A, Q) X cc own nL) (hSx : Sx (l, D, ad, cs, A, sA) X.2.2.1) {y : MethodName} {bytes : ByteArray} {maxL d1 ix : Nat} {ret1 : Option FieldType} {av stk : List Value} {R1 : Option Value → St → Prop} {ob : Nat} (ho : obj ob y.cls) (hM : Con (l, D, ad, cs, A, sA) d1 y bytes maxL ret1 (.ref (ad ob) :: av) σ R1) (hdg : decode cc pc = .ok (.invokevirtual ix, 3)) (hl : Cond.methodLink own ix y ∈ lw_tbl) (hn : Cond.initialized y.cls ∈ lw_tbl) (hc : Cond.code y bytes maxL ret1 ∈ lw_tbl) (hi : Cond.instanceMethod y ∈ lw_tbl) (hx : Cond.selects y.cls y y ∈ lw_tbl) (hkR : k ≤ Rm.cells) (hnR : n ≤ Rm.slots) (hd : d1 + 1 ≤ Rm.frames) (hm : 8 + (maxL + 11) + 38 * d1 ≤ Rm.locals) (hy : y.cls ≠ "java/lang/invoke/MethodHandle" ∧ y.cls ≠ "java/lang/invoke/VarHandle" ∧ (parseMethodDescriptor y.desc).map (fun d => d.parameters.length) = some av.length) (hst : stk = av.reverse ++ (.ref (ad ob) :: st)) (hr : (st.map fun v => v.category).sum ≤ 8)
    (kk : ∀ r σ1, R1 r σ1 → GY (l, Rm, D, cs, A, Q) X nL k n (wd (l, D, ad, cs, A, sA) σ1) (pc + 3) L (r.toList ++ st)) : GY (l, Rm, D, cs, A, Q) X nL k n (wd (l, D, ad, cs, A, sA) σ) pc L stk := by
  obtain ⟨hb, ci, T, N, hci, hf⟩ := ho
  intro H locs ls hP hD hS hlv
  obtain ⟨fs, hcell⟩ := hf (l, D, ad, cs, A, sA) (σ.1 ob) (σ.2 ob)
  have hr2 : va_Run X.1 l X.2.1 Rm X.2.2.1 X.2.2.2.1 X.2.2.2.2.1 X.2.2.2.2.2.1 X.2.2.2.2.2.2.1 X.2.2.2.2.2.2.2 H locs k n 0 0 (F0 X.2.2.2.1 pc ls stk) st (Qg (l, D, ad, cs, A, sA) R1 (Value.ref (ad ob) :: av).toArray) A :=
    va_runV (C := y.cls) ⟨C.1, C.2.1, C.2.2.1, C.2.2.2.1, C.2.2.2.2.1⟩ hM ⟨callB_of av.length C.2.2.2.2.1 (ws_in hc) rfl rfl rfl (C.2.2.2.2.1 _ (mg hn rfl)) (C.2.2.2.2.1 _ (mg hl rfl)) hy ⟨hd, hm⟩, C.2.2.2.2.1 _ (mg hi rfl), C.2.2.2.2.1 _ (mg hx rfl)⟩ ⟨pc_blind, va_recv C.2.2.2.2.2.1 hP hci (show (wd (l, D, ad, cs, A, sA) σ)[ob]? = some (ad ob, .inr (ci, fs)) by rw [wd_get hb, hcell]), fun U hU hW => ⟨rfl, by rw [hU]; exact hP, Sx.go hSx hS hW hU⟩⟩ rfl rfl hlv.1 hst (lv_room hr) hdg ⟨hkR, hnR⟩
  intro T hT XX
  obtain ⟨v, st₀, t, T', Lc, h0, X', hL, e1, e2, ⟨⟨r, σ', hv, hp, hP'⟩, hz, hk⟩, go⟩ := hr2 T hT XX
  cases hv
  rw [h0] at hz hk
  have hS' : va_S A X.2.2.1.heap T'.heap (locs ++ Lc) := ⟨Nat.le_trans hS.1 (by rw [e1]; exact hz), fun q h1 h2 => by rw [e1, hk q (Nat.lt_of_lt_of_le h1 hS.1) h2]; exact hS.2.1 q h1 h2, fun q hq => by
    rcases List.mem_append.mp hq with h | h
    · exact hS.2.2 q h
    · exact hL q h⟩
  obtain ⟨t2, a1, b1⟩ := kk v σ' hp T'.heap (locs ++ Lc) ls (by rw [e1]; exact hP') (OkE.D (E := (l, D, ad, cs, A, sA)) hSx.2.2 σ') hS' hlv T' rfl X'
  exact ⟨t2, go t2 a1, b1⟩
end YL
