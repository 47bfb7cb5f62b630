/-! THE ENVIRONMENT (launch; classes; addresses of the world's cells; array classes; which cells may be written; addresses of what stands still), THE STATE (ints and longs, by cell and place), THE WORLD (64 cells: the system's 0 .. 63, the reference's 64 .. 78) -/
/-- the words that stay whatever is called -/
def lw_g : List Cond := lw_tbl.filter goodWord
theorem mg {w : Cond} (h : w ∈ lw_tbl) (hg : goodWord w = true) : w ∈ lw_g := List.mem_filter.mpr ⟨h, hg⟩
theorem lw_g_good : ∀ w ∈ lw_g, goodWord w = true := fun w h => (List.mem_filter.mp h).2
abbrev St : Type := (Nat → Nat → Int32) × (Nat → Nat → Int64)
abbrev Ev : Type := Launch × va_G × (Nat → Nat) × (Nat → ClassId) × (Nat → Prop) × (Nat → Nat)
abbrev ev_l (E : Ev) : Launch := E.1
abbrev ev_D (E : Ev) : va_G := E.2.1
abbrev ev_a (E : Ev) : Nat → Nat := E.2.2.1
abbrev ev_c (E : Ev) : Nat → ClassId := E.2.2.2.1
abbrev ev_A (E : Ev) : Nat → Prop := E.2.2.2.2.1
abbrev ev_s (E : Ev) : Nat → Nat := E.2.2.2.2.2
def kdL : List (Nat × Nat) := [(0,0), (1,0), (1,0), (2,0), (12,24), (12,8), (2,0), (12,24), (12,8), (2,0), (12,24), (12,8),
  (3,0), (12,5), (12,5), (3,0), (12,8), (12,8), (3,0), (12,8), (12,8), (3,0), (12,5), (12,5), (3,0), (12,8), (12,8), (3,0), (12,8), (12,8),
  (4,0), (10,48), (12,48), (12,48), (12,8), (12,48), (12,48), (12,48), (12,48), (4,0), (10,48), (12,48), (12,48), (12,8), (12,48), (12,48), (12,48), (12,48),
  (5,0), (11,100), (12,60), (14,6), (7,0), (13,60), (7,0), (13,60), (7,0), (13,60), (7,0), (13,60), (7,0), (13,60), (7,0), (13,60)]
def kd (c : Nat) : Nat × Nat := kdL.getD c (99, 0)
def cellE (E : Ev) (k n c : Nat) (f : Nat → Int32) (g : Nat → Int64) : va_E := match k with
  | 0 => .inr (6, [.ref (ev_a E 1), .ref (ev_a E 2), .int (f 2), .ref (ev_a E 30), .int (f 4), .ref (ev_a E 9), .ref (ev_a E 39), .ref (ev_a E 48), .ref (ev_a E 51)])
  | 1 => .inr (2, [.ref (ev_a E (3 * c)), .ref (ev_a E (9 * c + 3)), .ref (ev_a E (9 * c + 6)), .ref (ev_a E (9 * c + 9))])
  | 2 => .inr (3, [.ref (ev_a E (c + 1)), .ref (ev_a E (c + 2)), .int (f 2)])
  | 3 => .inr (1, [.ref (ev_a E (c + 1)), .ref (ev_a E (c + 2)), .int (f 2)])
  | 4 => .inr (0, [.ref (ev_a E (c + 1)), .ref (ev_a E (c + 2)), .int (f 2), .ref (ev_a E (c + 3)), .ref (ev_a E (c + 4)), .int (f 5), .ref (ev_a E (c + 5)), .ref (ev_a E (c + 6)), .int (f 8), .ref (ev_a E (c + 7)), .ref (ev_a E (c + 8)), .int (f 11), .int (f 12)])
  | 5 => .inr (5, [.ref (ev_a E 49), .int (f 1), .int (f 2), .ref (ev_a E 50), .int (f 4)])
  | 7 => .inr (4, [.ref (ev_a E (c + 1)), .int (f 1), .int (f 2)])
  | 10 => .inl (ev_c E 0, n, .inl f)
  | 11 => .inl (ev_c E 1, n, .inl f)
  | 12 => .inl (ev_c E 2, n, .inl f)
  | 13 => .inl (ev_c E 3, n, .inr (.inl g))
  | _ => .inl (ev_c E 4, n, .inr (.inr (.inr (.inr (fun i => some (ev_a E (52 + 2 * i)))))))
def wd (E : Ev) (σ : St) : va_W := (List.range 64).map (fun c => (ev_a E c, cellE E (kd c).1 (kd c).2 c (σ.1 c) (σ.2 c)))
theorem kd_lt {c : Nat} (h : (kd c).1 ≠ 99) : c < 64 := by
  rcases Nat.lt_or_ge c 64 with q | q
  · exact q
  · exact absurd (by unfold kd; rw [List.getD_eq_getElem?_getD, List.getElem?_eq_none (show kdL.length ≤ c from q)]; rfl) h
theorem wd_get {E : Ev} {σ : St} {c : Nat} (h : c < 64) : (wd E σ)[c]? = some (ev_a E c, cellE E (kd c).1 (kd c).2 c (σ.1 c) (σ.2 c)) := by
  simp [wd, h]
def sI (σ : St) (c : Nat) (f : Nat → Int32) : St := (fun q => if q = c then f else σ.1 q, σ.2)
def sL (σ : St) (c : Nat) (g : Nat → Int64) : St := (σ.1, fun q => if q = c then g else σ.2 q)
theorem wd_set {E : Ev} {σ σ' : St} {c : Nat} (h : c < 64) (h1 : ∀ q, q ≠ c → σ'.1 q = σ.1 q ∧ σ'.2 q = σ.2 q) {y : va_E} (hy : y = cellE E (kd c).1 (kd c).2 c (σ'.1 c) (σ'.2 c)) : (wd E σ).set c (ev_a E c, y) = wd E σ' := by
  subst hy
  apply List.ext_getElem?
  intro i
  by_cases hi : i = c
  · subst hi
    simp [wd, h, List.getElem?_set]
  · rw [List.getElem?_set_ne (fun e => hi e.symm)]
    simp only [wd, List.getElem?_map]
    cases hq : (List.range 64)[i]? with
    | none => rfl
    | some j =>
      have e : j = i := by
        have := List.getElem?_eq_some_iff.mp hq
        obtain ⟨w1, w2⟩ := this
        simpa using w2.symm
      subst e
      simp [h1 j hi]
theorem sI_self {σ : St} {c : Nat} {f : Nat → Int32} : (sI σ c f).1 c = f := by simp [sI]
theorem sI_ne {σ : St} {c q : Nat} {f : Nat → Int32} (h : q ≠ c) : (sI σ c f).1 q = σ.1 q := by simp [sI, h]
theorem sI_2 {σ : St} {c : Nat} {f : Nat → Int32} : (sI σ c f).2 = σ.2 := rfl
theorem sL_self {σ : St} {c : Nat} {g : Nat → Int64} : (sL σ c g).2 c = g := by simp [sL]
theorem sL_ne {σ : St} {c q : Nat} {g : Nat → Int64} (h : q ≠ c) : (sL σ c g).2 q = σ.2 q := by simp [sL, h]
theorem sL_1 {σ : St} {c : Nat} {g : Nat → Int64} : (sL σ c g).1 = σ.1 := rfl
abbrev tyE (E : Ev) : List (ClassId × FieldType) := [(ev_c E 0, .boolean), (ev_c E 1, .byte), (ev_c E 2, .int), (ev_c E 3, .long), (ev_c E 4, .object "ShapeMoves$Tape")]
/-- what links to nest mates' own members -/
def nestW : List Cond := [Cond.fieldLinkNest RX7 100 "ShapeMoves$Shape" "places" "[I" "ShapeMoves", Cond.fieldLinkNest RX7 85 "ShapeMoves$Shape" "marks" "[I" "ShapeMoves", Cond.fieldLinkNest RX7 74 "ShapeMoves$Shape" "size" "I" "ShapeMoves", Cond.fieldLinkNest RX0 66 "ShapeMoves$Shape" "size" "I" "ShapeMoves", Cond.fieldLinkNest RX7 235 "ShapeMoves$Rows" "first" "[I" "ShapeMoves", Cond.fieldLinkNest RX7 232 "ShapeMoves$Rows" "second" "[I" "ShapeMoves", Cond.fieldLinkNest RX7 231 "ShapeMoves$Rows" "size" "I" "ShapeMoves", Cond.fieldLinkNest RX7 67 "ShapeMoves$Setup" "shape" "LShapeMoves$Shape;" "ShapeMoves", Cond.fieldLinkNest RX7 209 "ShapeMoves$Setup" "seen" "LShapeMoves$Rows;" "ShapeMoves", Cond.fieldLinkNest RX7 252 "ShapeMoves$Setup" "events" "LShapeMoves$Rows;" "ShapeMoves", Cond.fieldLinkNest RX7 266 "ShapeMoves$Setup" "book" "LShapeMoves$Rows;" "ShapeMoves", Cond.fieldLinkNest RX7 170 "ShapeMoves$Group" "members" "[Z" "ShapeMoves", Cond.fieldLinkNest RX7 181 "ShapeMoves$Group" "byNumber" "[I" "ShapeMoves", Cond.fieldLinkNest RX7 159 "ShapeMoves$Group" "size" "I" "ShapeMoves", Cond.fieldLinkNest RX7 97 "ShapeMoves$Group" "orbits" "[I" "ShapeMoves", Cond.fieldLinkNest RX7 163 "ShapeMoves$Group" "orbitsInAll" "I" "ShapeMoves", Cond.fieldLinkNest RX7 160 "ShapeMoves$Group" "classes" "I" "ShapeMoves", Cond.fieldLinkNest RX7 103 "ShapeMoves$Text" "size" "I" "ShapeMoves", Cond.fieldLinkNest RX7 278 "ShapeMoves$Tape" "items" "[J" "ShapeMoves", Cond.fieldLinkNest RX7 272 "ShapeMoves$Tape" "sort" "I" "ShapeMoves", Cond.methodLinkNest RX7 11 yX3_init "ShapeMoves", Cond.methodLinkNest RX3 9 yX4_init "ShapeMoves", Cond.methodLinkNest RX7 27 yX0_init "ShapeMoves", Cond.methodLinkNest RX7 37 yX4_init "ShapeMoves", Cond.methodLinkNest RX7 47 yX6_init "ShapeMoves", Cond.methodLinkNest RX7 58 yX5_init "ShapeMoves"]
def nestOk (U : State) : Prop := ∀ w ∈ nestW, va_Nw w U
def jw_WAYS : List Int32 := [0, 1, 2, 0, 2, 1, 1, 0, 2, 1, 2, 0, 2, 0, 1, 2, 1, 0]
def jw_TURN : List Int32 := [1, -1, -1, 1, 1, -1]
def jw_BACK : List Int32 := [0, 1, 2, 4, 3, 5]
/-- what stands still: statics, their arrays, the script -/
def Sta (E : Ev) (U : State) (H : Heap) : Prop :=
  va_Z RX1 "WAYS" "[I" (.ref (ev_s E 0)) (ev_A E) U H ∧ va_T .int (ev_s E 0) 18 (fun j => .int (jw_WAYS.getD j 0)) (ev_A E) U H ∧
  va_Z RX1 "TURN_OF_WAY" "[I" (.ref (ev_s E 1)) (ev_A E) U H ∧ va_T .int (ev_s E 1) 6 (fun j => .int (jw_TURN.getD j 0)) (ev_A E) U H ∧
  va_Z RX1 "WAY_BACK" "[I" (.ref (ev_s E 2)) (ev_A E) U H ∧ va_T .int (ev_s E 2) 6 (fun j => .int (jw_BACK.getD j 0)) (ev_A E) U H ∧
  (va_X (ev_s E 3) (ev_s E 4) (fun j => nI (ev_s E (5 + j))) U H ∧ ¬ ev_A E (ev_s E 3) ∧ ev_s E 4 ≤ 260) ∧ nestOk U
theorem x_lt {b n : Nat} {xs : Nat → Int32} {U : State} {H : Heap} (h : va_X b n xs U H) : b < H.size := by
  obtain ⟨c, h1, -⟩ := h
  exact (Array.getElem?_eq_some_iff.mp h1).1
theorem nest_warm {s U : State} (hW : s.WarmedH U.vm) (h : nestOk s) : nestOk U := by
  intro w hw
  have h1 := h w hw
  simp only [nestW, List.mem_cons, List.not_mem_nil, or_false] at hw
  rcases hw with rfl | rfl | rfl | rfl | rfl | rfl | rfl | rfl | rfl | rfl | rfl | rfl | rfl | rfl | rfl | rfl | rfl | rfl | rfl | rfl | rfl | rfl | rfl | rfl | rfl | rfl <;> first | exact va_Nw.warmF hW h1 | exact va_Nw.warmM hW h1
theorem Sta.go {E : Ev} {s U : State} {H : Heap} {locs : List Loc} (h : Sta E s s.heap) (hS : va_S (ev_A E) s.heap H locs) (hW : s.WarmedH U.vm) : Sta E U H := by
  obtain ⟨h1, h2, h3, h4, h5, h6, ⟨h7, h8, h9⟩, h10⟩ := h
  have hv := hW.alike
  exact ⟨(h1.moved hv).kept hS.2.1, (h2.moved hv).kept hS.2.1, (h3.moved hv).kept hS.2.1, (h4.moved hv).kept hS.2.1, (h5.moved hv).kept hS.2.1, (h6.moved hv).kept hS.2.1, ⟨(h7.moved hv).kept (hS.2.1 _ (x_lt h7) h8), h8, h9⟩, nest_warm hW h10⟩
def OkE (E : Ev) : Prop := (∀ i j, i < 64 → j < 64 → ev_a E i = ev_a E j → i = j) ∧ ∀ c, c < 64 → ev_A E (ev_a E c)
theorem wd_len {E : Ev} {σ : St} : (wd E σ).length = 64 := by simp [wd]
theorem wd_fst {E : Ev} {σ : St} {i : Nat} {q : Nat × va_E} (h : (wd E σ)[i]? = some q) : i < 64 ∧ q.1 = ev_a E i := by
  have hi : i < 64 := by
    have := (List.getElem?_eq_some_iff.mp h).1
    rwa [wd_len] at this
  rw [wd_get hi] at h
  exact ⟨hi, by rw [← Option.some.inj h]⟩
theorem OkE.D {E : Ev} (h : OkE E) (σ : St) : va_D (ev_A E) (wd E σ) := by
  refine ⟨fun i j x y hx hy e => ?_, fun k q hq => ?_⟩
  · obtain ⟨a1, a2⟩ := wd_fst hx
    obtain ⟨b1, b2⟩ := wd_fst hy
    exact h.1 i j a1 b1 (by rw [← a2, ← b2, e])
  · obtain ⟨a1, a2⟩ := wd_fst hq
    rw [a2]
    exact h.2 k a1
/-- what a state's tables and still cells say -/
def Sx (E : Ev) (U : State) : Prop := va_K (ev_D E) vwCl (tyE E) U ∧ Sta E U U.heap ∧ OkE E
def Pic (E : Ev) (σ : St) (U : State) : Prop := va_P (ev_D E) vwCl (wd E σ) U.heap ∧ Sx E U
def Qg (E : Ev) (R : Option Value → St → Prop) : Array Value → State → Outcome → State → Prop := fun _ st oc t => (∃ (r : Option Value) (σ' : St), oc = .returned r ∧ R r σ' ∧ va_P (ev_D E) vwCl (wd E σ') t.heap) ∧ va_F (ev_A E) st t
def rmD (d : Nat) : Room := { frames := d, cells := 0, slots := 0, locals := 38 * d }
/-- A METHOD'S CONTRACT: from the world of σ, with the arguments av, it returns, and R holds of the answer and the world behind it -/
def Con (E : Ev) (d : Nat) (y : MethodName) (cc : ByteArray) (nL : Nat) (ret : Option FieldType) (av : List Value) (σ : St) (R : Option Value → St → Prop) : Prop :=
  Met (ev_l E) y (Cond.code y cc nL ret :: lw_g) (rmD d) (va_Pc av (Pic E σ)) (Qg E R) 0 0 (ev_A E)
abbrev Mx : Type := Program × Env × State × MethodId × Array Value × List Frame × Method × Code
def Cx (E : Ev) (X : Mx) (cc : ByteArray) (own : String) (nL : Nat) (ret : Option FieldType) : Prop :=
  X.1.tables.exec = Jvm.exec ∧ X.2.2.2.2.2.2.2.code = cc ∧ X.2.2.2.2.2.2.1.sig.returnType = ret ∧ X.2.2.2.2.2.2.1.locks = false ∧ X.2.2.2.2.2.2.2.maxLocals = nL ∧ X.2.2.1.vm.findClass own = some X.2.2.2.1.cls ∧ (∀ w ∈ lw_g, w.before X.2.2.2.2.1 X.2.2.1 = true) ∧ Sx E X.2.2.1
/-- inside a method: at pc, with locals L, stack st and the world of σ, it comes to an end with R -/
def G (E : Ev) (d : Nat) (X : Mx) (nL : Nat) (R : Option Value → St → Prop) (σ : St) (pc : Nat) (L : List (Nat × Value)) (st : List Value) : Prop :=
  ∀ (H : Heap) (locs : List Loc) (ls : Array Slot), va_P (ev_D E) vwCl (wd E σ) H → va_S (ev_A E) X.2.2.1.heap H locs → lv_has ls nL L →
    W X.1 (ev_l E) X.2.1 (rmD d) X.2.2.1 X.2.2.2.1 X.2.2.2.2.1 X.2.2.2.2.2.1 X.2.2.2.2.2.2.1 X.2.2.2.2.2.2.2 H locs 0 0 (MQ X.2.2.2.2.2.1 (Qg E R) X.2.2.2.2.1 X.2.2.1 0 0 (ev_A E)) (F0 X.2.2.2.1 pc ls st)
theorem Sx.blind {E : Ev} {U V : State} (hv : U.vm.Alike V.vm) (hh : V.heap = U.heap) (h10 : nestOk U → nestOk V) (h : Sx E U) : Sx E V := by
  obtain ⟨hK, ⟨a1, a2, a3, a4, a5, a6, ⟨a7, a8, a9⟩, a10⟩, hO⟩ := h
  refine ⟨va_K.moved hv hK, ?_, hO⟩
  rw [hh]
  exact ⟨a1.moved hv, a2.moved hv, a3.moved hv, a4.moved hv, a5.moved hv, a6.moved hv, ⟨a7.moved hv, a8, a9⟩, h10 a10⟩
theorem pc_blind {E : Ev} {av : List Value} {σ : St} : FrameBlind (va_Pc av (Pic E σ)) := by
  intro a U g mk q
  obtain ⟨q1, q2, q3⟩ := q
  refine ⟨q1, q2, Sx.blind (U := U) (V := U.calling g mk a) (Vm.Alike.refl U.vm) rfl (fun h w hw => ?_) q3⟩
  have h1 := h w hw
  simp only [nestW, List.mem_cons, List.not_mem_nil, or_false] at hw
  rcases hw with rfl | rfl | rfl | rfl | rfl | rfl | rfl | rfl | rfl | rfl | rfl | rfl | rfl | rfl | rfl | rfl | rfl | rfl | rfl | rfl | rfl | rfl | rfl | rfl | rfl | rfl <;> exact va_Nw.same (u := U) (U := U.calling g mk a) rfl rfl h1
theorem Sx.go {E : Ev} {s U : State} {H : Heap} {locs : List Loc} (h : Sx E s) (hS : va_S (ev_A E) s.heap H locs) (hW : s.WarmedH U.vm) (hU : U.heap = H) : Sx E U :=
  ⟨va_K.moved hW.alike h.1, by rw [hU]; exact h.2.1.go hS hW, h.2.2⟩
def L0 (av : List Value) : List (Nat × Value) := lv_args 0 av
set_option maxHeartbeats 4000000 in
theorem con_of {E : Ev} {d : Nat} {y : MethodName} {cc : ByteArray} {nL : Nat} {ret : Option FieldType} {av : List Value} {σ : St} {R : Option Value → St → Prop} (hy : plainName y.cls = true) (hl : (lg_sl av).length ≤ nL)
    (body : ∀ X : Mx, X.2.2.2.2.2.2.1.name = y.name → Cx E X cc y.cls nL ret → G E d X nL R σ 0 (L0 av) []) : Con E d y cc nL ret av σ R := by
  refine Met.ofW (cc := cc) (maxL := nL) (ret := ret) hy rfl ?_
  intro p e s m args below meth c s₁ B hml hv
  obtain ⟨rfl, hP, hSx⟩ := hv
  have hts := atoms_spec (ws := Cond.code y cc nL ret :: lw_g) B.pre
  have hown : s.vm.findClass y.cls = some m.cls := findClass_of_methodNamed B.named
  have C : Cx E (p, e, s, m, av.toArray, below, meth, c) cc y.cls nL ret := ⟨B.exec, B.bytes, B.returns, B.notSynchronized, hml, hown, fun w hw => hts w (List.mem_cons_of_mem _ hw), hSx⟩
  have h := body (p, e, s, m, av.toArray, below, meth, c) (name_of_methodNamed B.named B.method).1 C
  have hl := lv_entry av (n := nL) hl
  rw [lg_entry_eq]
  exact h s.heap [] _ hP va_S.rf hl
