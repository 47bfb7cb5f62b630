/-! THE REFERENCE over the same mathematical state: what stands where; points, moves -/
def PF (f : Nat → Int32) (n : Nat) (P : Nat → Nat → Int32) : Prop := n ≤ 8 ∧ f 0 = nI n ∧ ∀ p, p < n → ∀ i, i < 4 → f (1 + 4 * p + i) = P p i
def RB (f : Nat → Int32) (b cap : Nat) (w : Rw) : Prop := w.1 ≤ cap ∧ f b = nI w.1 ∧ ∀ j, j < w.1 → f (b + 1 + 2 * j) = nI (w.2.1 j) ∧ f (b + 2 + 2 * j) = nI (w.2.2 j)
def WI (f : Nat → Int32) (u : Su) : Prop := PF f u.1.1 u.1.2 ∧ RB f 33 5 u.2.1 ∧ RB f 44 8 u.2.2.1 ∧ RB f 61 8 u.2.2.2
def IR (σ : St) : Option Su → Prop
  | none => σ.1 64 3 = bI false
  | some u => σ.1 64 3 = bI true ∧ WI (σ.1 67) u
def TR (σ : St) (n : Nat) (T : Nat → Nat) : Prop := σ.1 64 14 = nI n ∧ n ≤ 100 ∧ ∀ j, j < n → σ.1 74 j = nI (T j) ∧ T j < 128
def AtR (σ : St) (t : Nat → Tp) : Prop := ∀ k, k < 6 → σ.1 76 k = (t k).1 ∧ σ.1 77 k = nI (t k).2.1 ∧ (t k).2.1 ≤ 60 ∧ inB (t k).1 (-1) 4 = true ∧ ((t k).1 = -1 → (t k).2.1 = 0) ∧ ∀ j, j < (t k).2.1 → σ.2 78 (60 * k + j) = (t k).2.2 j
def RfIs (σ : St) (s : Ms) : Prop := WI (σ.1 65) s.1 ∧ IR σ s.2.1 ∧ TR σ s.2.2.1.1 s.2.2.1.2 ∧ AtR σ s.2.2.2
/-- the system's cells are as they were -/
def Rs (σ σ' : St) : Prop := ∀ c, c < 64 → σ'.1 c = σ.1 c ∧ σ'.2 c = σ.2 c
theorem Rs.rf {σ : St} : Rs σ σ := fun _ _ => ⟨rfl, rfl⟩
theorem Rs.tr {σ σ1 σ2 : St} (h : Rs σ σ1) (h2 : Rs σ1 σ2) : Rs σ σ2 := fun c hc => ⟨(h2 c hc).1.trans (h c hc).1, (h2 c hc).2.trans (h c hc).2⟩
theorem Fk.s {fs l : List Nat} {σ σ' : St} (h : Fk fs l σ σ') (hl : l.all (fun c => decide (64 ≤ c)) = true) : Rs σ σ' := fun c hc => h.1 c (fun q => by
  rcases List.mem_cons.mp q with e | e
  · omega
  · have := List.all_eq_true.mp hl c e
    simp at this
    omega)
theorem Fk.sL {fs l : List Nat} {σ σ1 : St} {c : Nat} {f : Nat → Int64} (h : Fk fs l σ σ1) (hc : c ∈ l) : Fk fs l σ (sL σ1 c f) := ⟨h.1.sL (List.mem_cons_of_mem _ hc), fun q hq => h.2 q hq⟩
def RfTo (v : Value) (σ : St) (s : Ms) : Option Value → St → Prop := fun r σ' => r = some v ∧ RfIs σ' s ∧ Rs σ σ'
def RfK (v : Value) (σ : St) (s : Ms) : Option Value → St → Prop := fun r σ' => r = some v ∧ RfIs σ' s ∧ Fk [] [65] σ σ'
theorem RfK.to {v : Value} {σ : St} {s : Ms} {r : Option Value} {σ' : St} (h : RfK v σ s r σ') : RfTo v σ s r σ' := ⟨h.1, h.2.1, h.2.2.s (by decide)⟩
theorem IR.go {σ σ' : St} {i : Option Su} (h : IR σ i) (h3 : σ'.1 64 3 = σ.1 64 3) (h67 : σ'.1 67 = σ.1 67) : IR σ' i := by
  cases i with
  | none => exact h3.trans h
  | some u => exact ⟨h3.trans h.1, by rw [h67]; exact h.2⟩
theorem TR.go {σ σ' : St} {n : Nat} {T : Nat → Nat} (h : TR σ n T) (h3 : σ'.1 64 14 = σ.1 64 14) (h67 : σ'.1 74 = σ.1 74) : TR σ' n T := ⟨h3.trans h.1, h.2.1, fun j hj => by rw [h67]; exact h.2.2 j hj⟩
theorem AtR.go {σ σ' : St} {t : Nat → Tp} (h : AtR σ t) (h6 : σ'.1 76 = σ.1 76) (h7 : σ'.1 77 = σ.1 77) (h8 : σ'.2 78 = σ.2 78) : AtR σ' t := fun k hk => by
  rw [h6, h7, h8]
  exact h k hk
theorem RfIs.go {σ σ' : St} {s : Ms} {fs l : List Nat} (h : RfIs σ s) (hF : Fk fs l σ σ') (hl : l.all (fun c => decide (c ≠ 65 ∧ c ≠ 67 ∧ c ≠ 74 ∧ c ≠ 76 ∧ c ≠ 77 ∧ c ≠ 78)) = true) (hf : fs.all (fun c => decide (c ≠ 3 ∧ c ≠ 14)) = true) : RfIs σ' s := by
  have n1 : ∀ c, (c = 65 ∨ c = 67 ∨ c = 74 ∨ c = 76 ∨ c = 77 ∨ c = 78) → c ∉ 64 :: l := fun c hc q => by
    rcases List.mem_cons.mp q with e | e
    · omega
    · have := List.all_eq_true.mp hl c e
      simp at this
      omega
  have n2 : ∀ c, (c = 3 ∨ c = 14) → c ∉ fs := fun c hc e => by
    have := List.all_eq_true.mp hf c e
    simp at this
    omega
  obtain ⟨h1, h2, h3, h4⟩ := h
  exact ⟨by rw [(hF.1 65 (n1 65 (by omega))).1]; exact h1, h2.go (hF.2 3 (n2 3 (by omega))) (hF.1 67 (n1 67 (by omega))).1, h3.go (hF.2 14 (n2 14 (by omega))) (hF.1 74 (n1 74 (by omega))).1, h4.go (hF.1 76 (n1 76 (by omega))).1 (hF.1 77 (n1 77 (by omega))).1 (hF.1 78 (n1 78 (by omega))).2⟩
theorem RfIs.w {σ σ' : St} {s : Ms} {u : Su} (h : RfIs σ s) (hF : Fk [] [65] σ σ') (hW : WI (σ'.1 65) u) : RfIs σ' (u, s.2) := by
  obtain ⟨h1, h2, h3, h4⟩ := h
  exact ⟨hW, h2.go (hF.2 3 (by simp)) (hF.1 67 (by simp)).1, h3.go (hF.2 14 (by simp)) (hF.1 74 (by simp)).1, h4.go (hF.1 76 (by simp)).1 (hF.1 77 (by simp)).1 (hF.1 78 (by simp)).2⟩
theorem RB.go {f f' : Nat → Int32} {b cap : Nat} {w : Rw} (h : RB f b cap w) (e : ∀ q, b ≤ q → q < b + 1 + 2 * cap → f' q = f q) : RB f' b cap w := by
  obtain ⟨h1, h2, h3⟩ := h
  refine ⟨h1, by rw [e b (by omega) (by omega)]; exact h2, fun j hj => ?_⟩
  rw [e _ (by omega) (by omega), e _ (by omega) (by omega)]
  exact h3 j hj
theorem WI.p {f f' : Nat → Int32} {u : Su} {p : Pts} (h : WI f u) (e : ∀ q, 33 ≤ q → f' q = f q) (hp : PF f' p.1 p.2) : WI f' (p, u.2) :=
  ⟨hp, h.2.1.go (fun q a _ => e q (by omega)), h.2.2.1.go (fun q a _ => e q (by omega)), h.2.2.2.go (fun q a _ => e q (by omega))⟩
theorem RfIs.P {σ : St} {s : Ms} (h : RfIs σ s) : PIs σ s.1.1.1 s.1.1.2 := h.1.1
theorem nI_inj {a b : Nat} (ha : a < 2 ^ 31) (hb : b < 2 ^ 31) (h : nI a = nI b) : a = b := by
  have := congrArg Int32.toInt h
  rw [nI_toInt ha, nI_toInt hb] at this
  omega
theorem PF.add {f : Nat → Int32} {n : Nat} {P : Nat → Nat → Int32} {x y z v : Int32} (h : PF f n P) (hn : n < 8) : PF (upd (upd (upd (upd (upd f (1 + 4 * n) x) (1 + 4 * n + 1) y) (1 + 4 * n + 2) z) (1 + 4 * n + 3) v) 0 (nI (n + 1))) (n + 1) (pAdd P n x y z v) := by
  obtain ⟨h1, h2, h3⟩ := h
  refine ⟨by omega, up_i, fun p hp i hi => ?_⟩
  rw [up_n (by omega)]
  by_cases e : p = n
  · subst e
    rcases (show i = 0 ∨ i = 1 ∨ i = 2 ∨ i = 3 from by omega) with rfl | rfl | rfl | rfl
    · rw [up_n (by omega), up_n (by omega), up_n (by omega)]; simp [upd, pAdd]
    · rw [up_n (by omega), up_n (by omega), up_i]; simp [pAdd]
    · rw [up_n (by omega), up_i]; simp [pAdd]
    · rw [up_i]; simp [pAdd]
  · rw [up_n (by omega), up_n (by omega), up_n (by omega), up_n (by omega), h3 p (by omega) i hi]
    simp [pAdd, e]
theorem PF.mark {f : Nat → Int32} {n j : Nat} {P : Nat → Nat → Int32} {v : Int32} (h : PF f n P) (hj : j < n) : PF (upd f (1 + 4 * j + 3) v) n (pMark P j v) := by
  obtain ⟨h1, h2, h3⟩ := h
  refine ⟨h1, by rw [up_n (by omega)]; exact h2, fun p hp i hi => ?_⟩
  by_cases e : p = j ∧ i = 3
  · obtain ⟨rfl, rfl⟩ := e
    rw [up_i]; simp [pMark]
  · rw [up_n (by omega), h3 p hp i hi]
    simp only [pMark, e, if_false]
def dpF (f : Nat → Int32) (a q : Nat) : Nat → Int32 := fun i => if a ≤ i ∧ i < q then f (i + 4) else f i
theorem dp_s {f : Nat → Int32} {a q : Nat} (h : a ≤ q) : upd (dpF f a q) q (dpF f a q (q + 4)) = dpF f a (q + 1) := by
  funext i
  by_cases e : i = q
  · subst e; rw [up_i]; unfold dpF; rw [if_neg (by omega), if_pos (by omega)]
  · rw [up_n e]; unfold dpF
    by_cases c : a ≤ i ∧ i < q
    · rw [if_pos c, if_pos (by omega)]
    · rw [if_neg c, if_neg (by omega)]
theorem PF.drop {f : Nat → Int32} {n j : Nat} {P : Nat → Nat → Int32} (h : PF f n P) (hj : j < n) : PF (upd (dpF f (1 + 4 * j) (1 + 4 * (n - 1))) 0 (nI (n - 1))) (n - 1) (pDrop P j) := by
  obtain ⟨h1, h2, h3⟩ := h
  refine ⟨by omega, up_i, fun p hp i hi => ?_⟩
  rw [up_n (by omega)]
  unfold dpF pDrop
  by_cases c : p < j
  · rw [if_neg (by omega), if_pos c]; exact h3 p (by omega) i hi
  · rw [if_pos (by omega), if_neg c, show 1 + 4 * p + i + 4 = 1 + 4 * (p + 1) + i from by omega]; exact h3 (p + 1) (by omega) i hi

set_option maxHeartbeats 4000000 in
set_option maxRecDepth 100000 in
theorem c_X8_comes {E : Ev} {d : Nat} {σ : St} {s : Ms} (hs : RfIs σ s) {x y z v : Int32} : Con E (d + 2) yX8_comes cX8_comes 6 ((Option.some FieldType.int)) [.ref (ev_a E 64), .int x, .int y, .int z, .int v] σ (RfK (.int (aPoint s x y z v)) σ (tPoint s x y z v)) := by
  refine con_of (by decide) (Nat.le_of_ble_eq_true rfl) (fun X hX C => ?_)
  have C : Cx E X cX8_comes RX8 6 ((Option.some FieldType.int)) := C
  have h := hs.P
  have h8 := h.1
  show G E _ X _ _ _ 0 [(0, .ref (ev_a E 64)), (1, .int x), (2, .int y), (3, .int z), (4, .int v)] []
  refine g_iload_n C dX8_comes_0 rfl ?_
  refine g_i2l C _ dX8_comes_1 rfl ?_
  refine g_ldc2 C (-3) dX8_comes_2 (List.mem_of_getElem? (i := 796) (by decide +kernel)) ?_
  refine g_ldc2 C (3) dX8_comes_5 (List.mem_of_getElem? (i := 797) (by decide +kernel)) ?_
  refine g_callSp C (c_X8_in (d := d) (-3) (3) (by decide) (by decide)) dX8_comes_8 km_RX8_56 kn_RX8 kc_yX8_in ks_yX8_in (by omega) (by decide) ⟨by decide, by decide, rfl⟩ rfl (Nat.le_of_ble_eq_true rfl) ?_
  refine g_ifeqB C 55 dX8_comes_11 (by decide) (fun h11 => ?_) (fun h11 => ?_)
  · refine g_bp C (-2) dX8_comes_55 (by decide) ?_
    refine g_iret C dX8_comes_57 ?_
    exact ⟨congrArg (fun v => some (Value.int v)) (by simp [aPoint, plB, h11]), by rw [show tPoint s x y z v = s from by simp [tPoint, plB, h11]]; exact hs, Fk.rf⟩
  · refine g_iload_n C dX8_comes_14 rfl ?_
    refine g_i2l C _ dX8_comes_15 rfl ?_
    refine g_ldc2 C (-3) dX8_comes_16 (List.mem_of_getElem? (i := 796) (by decide +kernel)) ?_
    refine g_ldc2 C (3) dX8_comes_19 (List.mem_of_getElem? (i := 797) (by decide +kernel)) ?_
    refine g_callSp C (c_X8_in (d := d) (-3) (3) (by decide) (by decide)) dX8_comes_22 km_RX8_56 kn_RX8 kc_yX8_in ks_yX8_in (by omega) (by decide) ⟨by decide, by decide, rfl⟩ rfl (Nat.le_of_ble_eq_true rfl) ?_
    refine g_ifeqB C 55 dX8_comes_25 (by decide) (fun h25 => ?_) (fun h25 => ?_)
    · refine g_bp C (-2) dX8_comes_55 (by decide) ?_
      refine g_iret C dX8_comes_57 ?_
      exact ⟨congrArg (fun v => some (Value.int v)) (by simp [aPoint, plB, h11, h25]), by rw [show tPoint s x y z v = s from by simp [tPoint, plB, h11, h25]]; exact hs, Fk.rf⟩
    · refine g_iload_n C dX8_comes_28 rfl ?_
      refine g_i2l C _ dX8_comes_29 rfl ?_
      refine g_ldc2 C (-3) dX8_comes_30 (List.mem_of_getElem? (i := 796) (by decide +kernel)) ?_
      refine g_ldc2 C (3) dX8_comes_33 (List.mem_of_getElem? (i := 797) (by decide +kernel)) ?_
      refine g_callSp C (c_X8_in (d := d) (-3) (3) (by decide) (by decide)) dX8_comes_36 km_RX8_56 kn_RX8 kc_yX8_in ks_yX8_in (by omega) (by decide) ⟨by decide, by decide, rfl⟩ rfl (Nat.le_of_ble_eq_true rfl) ?_
      refine g_ifeqB C 55 dX8_comes_39 (by decide) (fun h39 => ?_) (fun h39 => ?_)
      · refine g_bp C (-2) dX8_comes_55 (by decide) ?_
        refine g_iret C dX8_comes_57 ?_
        exact ⟨congrArg (fun v => some (Value.int v)) (by simp [aPoint, plB, h11, h25, h39]), by rw [show tPoint s x y z v = s from by simp [tPoint, plB, h11, h25, h39]]; exact hs, Fk.rf⟩
      · refine g_iload C dX8_comes_42 rfl ?_
        refine g_i2l C _ dX8_comes_44 rfl ?_
        refine g_lc (v := 0) C dX8_comes_45 (by decide) ?_
        refine g_ldc2 C (4) dX8_comes_46 (List.mem_of_getElem? (i := 801) (by decide +kernel)) ?_
        refine g_callSp C (c_X8_in (d := d) (0) (4) (by decide) (by decide)) dX8_comes_49 km_RX8_56 kn_RX8 kc_yX8_in ks_yX8_in (by omega) (by decide) ⟨by decide, by decide, rfl⟩ rfl (Nat.le_of_ble_eq_true rfl) ?_
        refine g_ifneB C 58 dX8_comes_52 (by decide) (fun h52 => ?_) (fun h52 => ?_)
        · refine g_aload_n C dX8_comes_58 rfl ?_
          refine g_iload_n C dX8_comes_59 rfl ?_
          refine g_iload_n C dX8_comes_60 rfl ?_
          refine g_iload_n C dX8_comes_61 rfl ?_
          refine g_callVp C (ob_X8 (by rfl)) (c_X8_pointAt (d := d) h) dX8_comes_62 km_RX8_87 kn_RX8 kc_yX8_pointAt ki_yX8_pointAt kx_yX8_pointAt (by omega) (by decide) ⟨by decide, by decide, rfl⟩ rfl (Nat.le_of_ble_eq_true rfl) ?_
          refine g_bp C (-5) dX8_comes_65 (by decide) ?_
          refine g_iceq C 73 dX8_comes_67 (by decide) (fun h67 => ?_) (fun h67 => ?_)
          · have e67 := (oI_m5 h8).mp h67
            refine g_aload_n C dX8_comes_73 rfl ?_
            refine gf_X8_w C (by rfl) dX8_comes_74 kf_RX8_11 ?_
            refine g_ic (n := 0) C dX8_comes_77 (by decide) ?_
            refine g_ialdN C (by rfl) (by omega) (by first | decide | omega) dX8_comes_78 ?_
            rw [h.2.1]
            refine g_bp C (nI 8) dX8_comes_79 (by decide) ?_
            refine g_icneN C 87 dX8_comes_81 (by decide) (by omega) (by omega) (fun h81 => ?_) (fun h81 => ?_)
            · refine g_ic (n := 1) C dX8_comes_87 (by decide) ?_
              refine g_ic (n := 4) C dX8_comes_88 (by decide) ?_
              refine g_aload_n C dX8_comes_89 rfl ?_
              refine gf_X8_w C (by rfl) dX8_comes_90 kf_RX8_11 ?_
              refine g_ic (n := 0) C dX8_comes_93 (by decide) ?_
              refine g_ialdN C (by rfl) (by omega) (by first | decide | omega) dX8_comes_94 ?_
              rw [h.2.1]
              refine g_imulN C dX8_comes_95 ?_
              refine g_iaddN C dX8_comes_96 ?_
              refine g_istore C dX8_comes_97 (by decide) ?_
              refine g_aload_n C dX8_comes_99 rfl ?_
              refine gf_X8_w C (by rfl) dX8_comes_100 kf_RX8_11 ?_
              refine g_iload C dX8_comes_103 rfl ?_
              refine g_iload_n C dX8_comes_105 rfl ?_
              refine g_iastN C (by rfl) (by omega) (by first | decide | omega) dX8_comes_106 ?_
              refine g_aload_n C dX8_comes_107 rfl ?_
              refine gf_X8_w C (by rfl) dX8_comes_108 kf_RX8_11 ?_
              refine g_iload C dX8_comes_111 rfl ?_
              refine g_ic (n := 1) C dX8_comes_113 (by decide) ?_
              refine g_iaddN C dX8_comes_114 ?_
              refine g_iload_n C dX8_comes_115 rfl ?_
              refine g_iastN C (by rfl) (by omega) (by first | decide | omega) dX8_comes_116 ?_
              refine g_aload_n C dX8_comes_117 rfl ?_
              refine gf_X8_w C (by rfl) dX8_comes_118 kf_RX8_11 ?_
              refine g_iload C dX8_comes_121 rfl ?_
              refine g_ic (n := 2) C dX8_comes_123 (by decide) ?_
              refine g_iaddN C dX8_comes_124 ?_
              refine g_iload_n C dX8_comes_125 rfl ?_
              refine g_iastN C (by rfl) (by omega) (by first | decide | omega) dX8_comes_126 ?_
              refine g_aload_n C dX8_comes_127 rfl ?_
              refine gf_X8_w C (by rfl) dX8_comes_128 kf_RX8_11 ?_
              refine g_iload C dX8_comes_131 rfl ?_
              refine g_ic (n := 3) C dX8_comes_133 (by decide) ?_
              refine g_iaddN C dX8_comes_134 ?_
              refine g_iload C dX8_comes_135 rfl ?_
              refine g_iastN C (by rfl) (by omega) (by first | decide | omega) dX8_comes_137 ?_
              refine g_aload_n C dX8_comes_138 rfl ?_
              refine gf_X8_w C (by rfl) dX8_comes_139 kf_RX8_11 ?_
              refine g_ic (n := 0) C dX8_comes_142 (by decide) ?_
              refine g_dup2 C dX8_comes_143 rfl rfl ?_
              refine g_ialdN C (by rfl) (by omega) (by first | decide | omega) dX8_comes_144 ?_
              refine g_eq (st' := [.int (nI s.1.1.1), .int (nI 0), .ref (ev_a E 65)]) (by simp only [sI_self]; rw [up_n (by omega), up_n (by omega), up_n (by omega), up_n (by omega), h.2.1]) ?_
              refine g_ic (n := 1) C dX8_comes_145 (by decide) ?_
              refine g_iaddN C dX8_comes_146 ?_
              refine g_iastN C (by rfl) (by omega) (by first | decide | omega) dX8_comes_147 ?_
              refine g_aload_n C dX8_comes_148 rfl ?_
              refine gf_X8_w C (by rfl) dX8_comes_149 kf_RX8_11 ?_
              refine g_ic (n := 0) C dX8_comes_152 (by decide) ?_
              refine g_ialdN C (by rfl) (by omega) (by first | decide | omega) dX8_comes_153 ?_
              refine g_eq (st' := [.int (nI (s.1.1.1 + 1))]) (by simp only [sI_self]; rw [up_i]) ?_
              refine g_ic (n := 1) C dX8_comes_154 (by decide) ?_
              first | refine g_isubN C dX8_comes_155 (by omega) ?_ | refine g_isub C dX8_comes_155 ?_
              refine g_iret C dX8_comes_156 ?_
              have e3 : tPoint s x y z v = sPts s (s.1.1.1 + 1, pAdd s.1.1.2 s.1.1.1 x y z v) := by unfold tPoint; rw [if_neg (by simp [plB, h11, h25, h39, h52]), if_neg (by rw [e67]; decide), if_neg h81]
              have hF : Fk [] [65] σ (sI σ 65 (upd (upd (upd (upd (upd (σ.1 65) (1 + 4 * s.1.1.1) x) (1 + 4 * s.1.1.1 + 1) y) (1 + 4 * s.1.1.1 + 2) z) (1 + 4 * s.1.1.1 + 3) v) 0 (nI (s.1.1.1 + 1)))) := Fk.rf.sI (by simp) (by decide)
              simp only [sI_sI, sI_self]
              rw [e3]
              exact ⟨congrArg (fun v => some (Value.int v)) (by unfold aPoint; rw [if_neg (by simp [plB, h11, h25, h39, h52]), if_neg (by rw [e67]; decide), if_neg h81]; rfl), hs.w hF (by rw [sI_self]; exact hs.1.p (fun q hq => by rw [up_n (by omega), up_n (by omega), up_n (by omega), up_n (by omega), up_n (by omega)]) (PF.add h (by omega))), hF⟩
            · refine g_bp C (-4) dX8_comes_84 (by decide) ?_
              refine g_iret C dX8_comes_86 ?_
              exact ⟨congrArg (fun v => some (Value.int v)) (by unfold aPoint; rw [if_neg (by simp [plB, h11, h25, h39, h52]), if_neg (by rw [e67]; decide), if_pos h81]), by rw [show tPoint s x y z v = s from by unfold tPoint; rw [if_neg (by simp [plB, h11, h25, h39, h52]), if_neg (by rw [e67]; decide), if_pos h81]]; exact hs, Fk.rf⟩
          · have e67 : (ptL s.1.1.2 x y z s.1.1.1 0).isSome = true := by cases hq : (ptL s.1.1.2 x y z s.1.1.1 0).isSome with | true => rfl | false => exact absurd ((oI_m5 h8).mpr hq) h67
            refine g_bp C (-3) dX8_comes_70 (by decide) ?_
            refine g_iret C dX8_comes_72 ?_
            exact ⟨congrArg (fun v => some (Value.int v)) (by unfold aPoint; rw [if_neg (by simp [plB, h11, h25, h39, h52]), if_pos e67]), by rw [show tPoint s x y z v = s from by unfold tPoint; rw [if_neg (by simp [plB, h11, h25, h39, h52]), if_pos e67]]; exact hs, Fk.rf⟩
        · refine g_bp C (-2) dX8_comes_55 (by decide) ?_
          refine g_iret C dX8_comes_57 ?_
          exact ⟨congrArg (fun v => some (Value.int v)) (by simp [aPoint, plB, h11, h25, h39, h52]), by rw [show tPoint s x y z v = s from by simp [tPoint, plB, h11, h25, h39, h52]]; exact hs, Fk.rf⟩

set_option maxHeartbeats 4000000 in
set_option maxRecDepth 100000 in
theorem c_X8_point {E : Ev} {d : Nat} {σ : St} {s : Ms} (hs : RfIs σ s) {x y z v : Int32} : Con E (d + 3) yX8_point cX8_point 5 ((Option.some FieldType.int)) [.ref (ev_a E 64), .int x, .int y, .int z, .int v] σ (RfTo (.int (aPoint s x y z v)) σ (tPoint s x y z v)) := by
  refine con_of (by decide) (Nat.le_of_ble_eq_true rfl) (fun X hX C => ?_)
  have C : Cx E X cX8_point RX8 5 ((Option.some FieldType.int)) := C
  show G E _ X _ _ _ 0 [(0, .ref (ev_a E 64)), (1, .int x), (2, .int y), (3, .int z), (4, .int v)] []
  refine g_aload_n C dX8_point_0 rfl ?_
  refine g_iload_n C dX8_point_1 rfl ?_
  refine g_iload_n C dX8_point_2 rfl ?_
  refine g_iload_n C dX8_point_3 rfl ?_
  refine g_iload C dX8_point_4 rfl ?_
  refine g_callV C (ob_X8 (by rfl)) (c_X8_comes (d := d) hs) dX8_point_6 km_RX8_162 kn_RX8 kc_yX8_comes ki_yX8_comes kx_yX8_comes (by omega) (by decide) ⟨by decide, by decide, rfl⟩ rfl (Nat.le_of_ble_eq_true rfl) (fun r1 σ1 q1 => ?_)
  obtain ⟨rfl, u1, u2⟩ := q1
  refine g_iret C dX8_point_9 ?_
  exact ⟨rfl, u1, u2.s (by decide)⟩

set_option maxHeartbeats 4000000 in
set_option maxRecDepth 100000 in
theorem c_X8_markK {E : Ev} {d : Nat} {σ : St} {s : Ms} (hs : RfIs σ s) {p v : Int32} : Con E (d + 2) yX8_mark cX8_mark 4 ((Option.some FieldType.int)) [.ref (ev_a E 64), .int p, .int v] σ (RfK (.int (aMark s p v)) σ (tMark s p v)) := by
  refine con_of (by decide) (Nat.le_of_ble_eq_true rfl) (fun X hX C => ?_)
  have C : Cx E X cX8_mark RX8 4 ((Option.some FieldType.int)) := C
  have h := hs.P
  have h8 := h.1
  show G E _ X _ _ _ 0 [(0, .ref (ev_a E 64)), (1, .int p), (2, .int v)] []
  refine g_aload_n C dX8_mark_0 rfl ?_
  refine g_iload_n C dX8_mark_1 rfl ?_
  refine g_callVp C (ob_X8 (by rfl)) (c_X8_isPoint (d := d) h) dX8_mark_2 km_RX8_166 kn_RX8 kc_yX8_isPoint ki_yX8_isPoint kx_yX8_isPoint (by omega) (by decide) ⟨by decide, by decide, rfl⟩ rfl (Nat.le_of_ble_eq_true rfl) ?_
  refine g_ifneB C 10 dX8_mark_5 (by decide) (fun h5 => ?_) (fun h5 => ?_)
  · obtain ⟨j, hj, rfl⟩ := hpB_t (by omega) h5
    have hj8 : j < 2 ^ 31 := by omega
    refine g_iload_n C dX8_mark_10 rfl ?_
    refine g_i2l C _ dX8_mark_11 rfl ?_
    refine g_lc (v := 0) C dX8_mark_12 (by decide) ?_
    refine g_ldc2 C (4) dX8_mark_13 (List.mem_of_getElem? (i := 801) (by decide +kernel)) ?_
    refine g_callSp C (c_X8_in (d := d) (0) (4) (by decide) (by decide)) dX8_mark_16 km_RX8_56 kn_RX8 kc_yX8_in ks_yX8_in (by omega) (by decide) ⟨by decide, by decide, rfl⟩ rfl (Nat.le_of_ble_eq_true rfl) ?_
    refine g_ifneB C 25 dX8_mark_19 (by decide) (fun h19 => ?_) (fun h19 => ?_)
    · refine g_aload_n C dX8_mark_25 rfl ?_
      refine g_iload_n C dX8_mark_26 rfl ?_
      refine g_callVp C (ob_X8 (by rfl)) (c_X8_markOf (d := d) h hj) dX8_mark_27 km_RX8_93 kn_RX8 kc_yX8_markOf ki_yX8_markOf kx_yX8_markOf (by omega) (by decide) ⟨by decide, by decide, rfl⟩ rfl (Nat.le_of_ble_eq_true rfl) ?_
      refine g_istore_n C dX8_mark_30 (by decide) ?_
      refine g_aload_n C dX8_mark_31 rfl ?_
      refine gf_X8_w C (by rfl) dX8_mark_32 kf_RX8_11 ?_
      refine g_ic (n := 1) C dX8_mark_35 (by decide) ?_
      refine g_ic (n := 4) C dX8_mark_36 (by decide) ?_
      refine g_iload_n C dX8_mark_37 rfl ?_
      refine g_imulN C dX8_mark_38 ?_
      refine g_iaddN C dX8_mark_39 ?_
      refine g_ic (n := 3) C dX8_mark_40 (by decide) ?_
      refine g_iaddN C dX8_mark_41 ?_
      refine g_iload_n C dX8_mark_42 rfl ?_
      refine g_iastN C (by rfl) (by omega) (by first | decide | omega) dX8_mark_43 ?_
      refine g_iload_n C dX8_mark_44 rfl ?_
      refine g_iret C dX8_mark_45 ?_
      have hF : Fk [] [65] σ (sI σ 65 (upd (σ.1 65) (1 + 4 * j + 3) v)) := Fk.rf.sI (by simp) (by decide)
      exact ⟨congrArg (fun v => some (Value.int v)) (by simp [aMark, h5, h19, ix_nI hj8]), by rw [show tMark s (nI j) v = sPts s (s.1.1.1, pMark s.1.1.2 j v) from by simp [tMark, h5, h19, ix_nI hj8]]; exact hs.w hF (by rw [sI_self]; exact hs.1.p (fun q hq => by rw [up_n (by omega)]) (PF.mark h hj)), hF⟩
    · refine g_bp C (-2) dX8_mark_22 (by decide) ?_
      refine g_iret C dX8_mark_24 ?_
      exact ⟨congrArg (fun v => some (Value.int v)) (by simp [aMark, h5, h19]), by rw [show tMark s (nI j) v = s from by simp [tMark, h5, h19]]; exact hs, Fk.rf⟩
  · refine g_icz (v := -1) C dX8_mark_8 (by decide) ?_
    refine g_iret C dX8_mark_9 ?_
    exact ⟨congrArg (fun v => some (Value.int v)) (by simp [aMark, h5]), by rw [show tMark s p v = s from by simp [tMark, h5]]; exact hs, Fk.rf⟩

theorem c_X8_mark {E : Ev} {d : Nat} {σ : St} {s : Ms} (hs : RfIs σ s) {p v : Int32} : Con E (d + 2) yX8_mark cX8_mark 4 ((Option.some FieldType.int)) [.ref (ev_a E 64), .int p, .int v] σ (RfTo (.int (aMark s p v)) σ (tMark s p v)) := con_post (c_X8_markK hs) (fun r σ2 h => h.to)

set_option maxHeartbeats 4000000 in
set_option maxRecDepth 100000 in
theorem l_X8_drop {E : Ev} {d : Nat} {X : Mx} (C : Cx E X cX8_drop RX8 3 ((Option.some FieldType.int))) {σ : St} {s : Ms} (hs : RfIs σ s) {j : Nat} (hj : j < s.1.1.1) : ∀ (k : Nat) (q : Nat), (1 + 4 * (s.1.1.1 - 1)) = q + k → 1 + 4 * j ≤ q → G E d X 3 (RfK (.int (nI (s.1.1.1 - 1))) σ (sPts s (s.1.1.1 - 1, pDrop s.1.1.2 j))) (sI σ 65 (dpF (σ.1 65) (1 + 4 * j) q)) 16 ([(0, .ref (ev_a E 64)), (1, .int (nI j)), (2, .int (nI q))]) [] := by
  intro k
  induction k with
  | zero =>
    intro q hq ha
    have h := hs.P
    have h8 := h.1
    have e0 : ∀ q, (sI σ 65 (dpF (σ.1 65) (1 + 4 * j) q)).1 65 0 = nI s.1.1.1 := fun q => by rw [sI_self]; unfold dpF; rw [if_neg (by omega)]; exact h.2.1
    refine g_iload_n C dX8_drop_16 rfl ?_
    refine g_ic (n := 1) C dX8_drop_17 (by decide) ?_
    refine g_ic (n := 4) C dX8_drop_18 (by decide) ?_
    refine g_aload_n C dX8_drop_19 rfl ?_
    refine gf_X8_w C (by rfl) dX8_drop_20 kf_RX8_11 ?_
    refine g_ic (n := 0) C dX8_drop_23 (by decide) ?_
    refine g_ialdN C (by rfl) (by omega) (by first | decide | omega) dX8_drop_24 ?_
    rw [e0]
    refine g_ic (n := 1) C dX8_drop_25 (by decide) ?_
    first | refine g_isubN C dX8_drop_26 (by omega) ?_ | refine g_isub C dX8_drop_26 ?_
    refine g_imulN C dX8_drop_27 ?_
    refine g_iaddN C dX8_drop_28 ?_
    refine g_icgeN C 52 dX8_drop_29 (by decide) (by omega) (by omega) (fun h29 => ?_) (fun h29 => ?_)
    · refine g_aload_n C dX8_drop_52 rfl ?_
      refine gf_X8_w C (by rfl) dX8_drop_53 kf_RX8_11 ?_
      refine g_ic (n := 0) C dX8_drop_56 (by decide) ?_
      refine g_dup2 C dX8_drop_57 rfl rfl ?_
      refine g_ialdN C (by rfl) (by omega) (by first | decide | omega) dX8_drop_58 ?_
      rw [e0]
      refine g_ic (n := 1) C dX8_drop_59 (by decide) ?_
      first | refine g_isubN C dX8_drop_60 (by omega) ?_ | refine g_isub C dX8_drop_60 ?_
      refine g_iastN C (by rfl) (by omega) (by first | decide | omega) dX8_drop_61 ?_
      refine g_aload_n C dX8_drop_62 rfl ?_
      refine gf_X8_w C (by rfl) dX8_drop_63 kf_RX8_11 ?_
      refine g_ic (n := 0) C dX8_drop_66 (by decide) ?_
      refine g_ialdN C (by rfl) (by decide) (by decide) dX8_drop_67 ?_
      refine g_eq (st' := [.int (nI (s.1.1.1 - 1))]) (by simp only [sI_self]; rw [up_i]) ?_
      refine g_iret C dX8_drop_68 ?_
      have hF : Fk [] [65] σ (sI σ 65 (upd (dpF (σ.1 65) (1 + 4 * j) (1 + 4 * (s.1.1.1 - 1))) 0 (nI (s.1.1.1 - 1)))) := Fk.rf.sI (by simp) (by decide)
      simp only [sI_sI, sI_self]
      rw [show q = (1 + 4 * (s.1.1.1 - 1)) from by omega]
      exact ⟨rfl, hs.w hF (by rw [sI_self]; exact hs.1.p (fun i hi => by rw [up_n (by omega)]; unfold dpF; rw [if_neg (by omega)]) (PF.drop h hj)), hF⟩
    · omega
  | succ k ih =>
    intro q hq ha
    have h := hs.P
    have h8 := h.1
    have e0 : ∀ q, (sI σ 65 (dpF (σ.1 65) (1 + 4 * j) q)).1 65 0 = nI s.1.1.1 := fun q => by rw [sI_self]; unfold dpF; rw [if_neg (by omega)]; exact h.2.1
    refine g_iload_n C dX8_drop_16 rfl ?_
    refine g_ic (n := 1) C dX8_drop_17 (by decide) ?_
    refine g_ic (n := 4) C dX8_drop_18 (by decide) ?_
    refine g_aload_n C dX8_drop_19 rfl ?_
    refine gf_X8_w C (by rfl) dX8_drop_20 kf_RX8_11 ?_
    refine g_ic (n := 0) C dX8_drop_23 (by decide) ?_
    refine g_ialdN C (by rfl) (by omega) (by first | decide | omega) dX8_drop_24 ?_
    rw [e0]
    refine g_ic (n := 1) C dX8_drop_25 (by decide) ?_
    first | refine g_isubN C dX8_drop_26 (by omega) ?_ | refine g_isub C dX8_drop_26 ?_
    refine g_imulN C dX8_drop_27 ?_
    refine g_iaddN C dX8_drop_28 ?_
    refine g_icgeN C 52 dX8_drop_29 (by decide) (by omega) (by omega) (fun h29 => ?_) (fun h29 => ?_)
    · omega
    · refine g_aload_n C dX8_drop_32 rfl ?_
      refine gf_X8_w C (by rfl) dX8_drop_33 kf_RX8_11 ?_
      refine g_iload_n C dX8_drop_36 rfl ?_
      refine g_aload_n C dX8_drop_37 rfl ?_
      refine gf_X8_w C (by rfl) dX8_drop_38 kf_RX8_11 ?_
      refine g_iload_n C dX8_drop_41 rfl ?_
      refine g_ic (n := 4) C dX8_drop_42 (by decide) ?_
      refine g_iaddN C dX8_drop_43 ?_
      refine g_ialdN C (by rfl) (by omega) (by first | decide | omega) dX8_drop_44 ?_
      rw [sI_self]
      refine g_iastN C (by rfl) (by omega) (by first | decide | omega) dX8_drop_45 ?_
      refine g_iinc1 C dX8_drop_46 rfl (by decide) ?_
      refine g_goto C 16 dX8_drop_49 (by decide) ?_
      refine g_loc ([(0, .ref (ev_a E 64)), (1, .int (nI j)), (2, .int (nI (q + 1)))]) (And.intro rfl (And.intro rfl (And.intro rfl trivial))) ?_
      refine g_eqS (show _ = sI σ 65 (dpF (σ.1 65) (1 + 4 * j) (q + 1)) from by rw [sI_self, dp_s (by omega), sI_sI]) ?_
      exact ih (q + 1) (by omega) (by omega)

set_option maxHeartbeats 4000000 in
set_option maxRecDepth 100000 in
theorem c_X8_dropK {E : Ev} {d : Nat} {σ : St} {s : Ms} (hs : RfIs σ s) {p : Int32} : Con E (d + 2) yX8_drop cX8_drop 3 ((Option.some FieldType.int)) [.ref (ev_a E 64), .int p] σ (RfK (.int (aDrop s p)) σ (tDrop s p)) := by
  refine con_of (by decide) (Nat.le_of_ble_eq_true rfl) (fun X hX C => ?_)
  have C : Cx E X cX8_drop RX8 3 ((Option.some FieldType.int)) := C
  have h := hs.P
  have h8 := h.1
  show G E _ X _ _ _ 0 [(0, .ref (ev_a E 64)), (1, .int p)] []
  refine g_aload_n C dX8_drop_0 rfl ?_
  refine g_iload_n C dX8_drop_1 rfl ?_
  refine g_callVp C (ob_X8 (by rfl)) (c_X8_isPoint (d := d) h) dX8_drop_2 km_RX8_166 kn_RX8 kc_yX8_isPoint ki_yX8_isPoint kx_yX8_isPoint (by omega) (by decide) ⟨by decide, by decide, rfl⟩ rfl (Nat.le_of_ble_eq_true rfl) ?_
  refine g_ifneB C 10 dX8_drop_5 (by decide) (fun h5 => ?_) (fun h5 => ?_)
  · obtain ⟨j, hj, rfl⟩ := hpB_t (by omega) h5
    have hj8 : j < 2 ^ 31 := by omega
    refine g_ic (n := 1) C dX8_drop_10 (by decide) ?_
    refine g_ic (n := 4) C dX8_drop_11 (by decide) ?_
    refine g_iload_n C dX8_drop_12 rfl ?_
    refine g_imulN C dX8_drop_13 ?_
    refine g_iaddN C dX8_drop_14 ?_
    refine g_istore_n C dX8_drop_15 (by decide) ?_
    refine g_loc ([(0, .ref (ev_a E 64)), (1, .int (nI j)), (2, .int (nI (1 + 4 * j)))]) (And.intro rfl (And.intro rfl (And.intro rfl trivial))) ?_
    refine g_eqS (show _ = sI σ 65 (dpF (σ.1 65) (1 + 4 * j) (1 + 4 * j)) from by rw [show dpF (σ.1 65) (1 + 4 * j) (1 + 4 * j) = σ.1 65 from by funext i; unfold dpF; rw [if_neg (by omega)], sI_id]) ?_
    rw [show aDrop s (nI j) = nI (s.1.1.1 - 1) from by simp [aDrop, h5], show tDrop s (nI j) = sPts s (s.1.1.1 - 1, pDrop s.1.1.2 j) from by simp [tDrop, h5, ix_nI hj8]]
    exact l_X8_drop C hs hj ((1 + 4 * (s.1.1.1 - 1)) - (1 + 4 * j)) (1 + 4 * j) (by omega) (Nat.le_refl _)
  · refine g_icz (v := -1) C dX8_drop_8 (by decide) ?_
    refine g_iret C dX8_drop_9 ?_
    exact ⟨congrArg (fun v => some (Value.int v)) (by simp [aDrop, h5]), by rw [show tDrop s p = s from by simp [tDrop, h5]]; exact hs, Fk.rf⟩

theorem c_X8_drop {E : Ev} {d : Nat} {σ : St} {s : Ms} (hs : RfIs σ s) {p : Int32} : Con E (d + 2) yX8_drop cX8_drop 3 ((Option.some FieldType.int)) [.ref (ev_a E 64), .int p] σ (RfTo (.int (aDrop s p)) σ (tDrop s p)) := con_post (c_X8_dropK hs) (fun r σ2 h => h.to)

set_option maxHeartbeats 4000000 in
set_option maxRecDepth 100000 in
theorem c_X8_of {E : Ev} {d : Nat} {σ : St} {s : Ms} (hs : RfIs σ s) {p w : Int32} : Con E (d + 9) yX8_of cX8_of 3 ((Option.some FieldType.int)) [.ref (ev_a E 64), .int p, .int w] σ (RfTo (.int (aOf s p w)) σ (s)) := by
  refine con_of (by decide) (Nat.le_of_ble_eq_true rfl) (fun X hX C => ?_)
  have C : Cx E X cX8_of RX8 3 ((Option.some FieldType.int)) := C
  have h := hs.P
  have h8 := h.1
  show G E _ X _ _ _ 0 [(0, .ref (ev_a E 64)), (1, .int p), (2, .int w)] []
  refine g_aload_n C dX8_of_0 rfl ?_
  refine g_iload_n C dX8_of_1 rfl ?_
  refine g_callVp C (ob_X8 (by rfl)) (c_X8_isPoint (d := d) h) dX8_of_2 km_RX8_166 kn_RX8 kc_yX8_isPoint ki_yX8_isPoint kx_yX8_isPoint (by omega) (by decide) ⟨by decide, by decide, rfl⟩ rfl (Nat.le_of_ble_eq_true rfl) ?_
  refine g_ifeqB C 20 dX8_of_5 (by decide) (fun h5 => ?_) (fun h5 => ?_)
  · refine g_bp C (-9) dX8_of_20 (by decide) ?_
    refine g_iret C dX8_of_22 ?_
    exact ⟨congrArg (fun v => some (Value.int v)) (by simp [aOf, h5]), hs, Rs.rf⟩
  · obtain ⟨j, hj, rfl⟩ := hpB_t (by omega) h5
    have hj8 : j < 2 ^ 31 := by omega
    refine g_iload_n C dX8_of_8 rfl ?_
    refine g_i2l C _ dX8_of_9 rfl ?_
    refine g_lc (v := 0) C dX8_of_10 (by decide) ?_
    refine g_ldc2 C (4) dX8_of_11 (List.mem_of_getElem? (i := 801) (by decide +kernel)) ?_
    refine g_callSp C (c_X8_in (d := d) (0) (4) (by decide) (by decide)) dX8_of_14 km_RX8_56 kn_RX8 kc_yX8_in ks_yX8_in (by omega) (by decide) ⟨by decide, by decide, rfl⟩ rfl (Nat.le_of_ble_eq_true rfl) ?_
    refine g_ifneB C 23 dX8_of_17 (by decide) (fun h17 => ?_) (fun h17 => ?_)
    · obtain ⟨w2, hw2, rfl⟩ := in_n (k := 4) h17
      refine g_iload_n C dX8_of_23 rfl ?_
      refine g_ic (n := 4) C dX8_of_24 (by decide) ?_
      refine g_icgeN C 41 dX8_of_25 (by decide) (by omega) (by omega) (fun h25 => ?_) (fun h25 => ?_)
      · refine g_aload_n C dX8_of_41 rfl ?_
        refine g_callV C (ob_X8 (by rfl)) (c_X8_finds (d := d) h) dX8_of_42 km_RX8_138 kn_RX8 kc_yX8_finds ki_yX8_finds kx_yX8_finds (by omega) (by decide) ⟨by decide, by decide, rfl⟩ rfl (Nat.le_of_ble_eq_true rfl) (fun r1 σ1 q1 => ?_)
        obtain ⟨rfl, hB, hI, f1⟩ := q1
        have hs1 : RfIs σ1 s := hs.go f1 (by decide) (by decide)
        refine g_aload_n C dX8_of_45 rfl ?_
        refine g_iload_n C dX8_of_46 rfl ?_
        refine g_callVp C (ob_X8 (by rfl)) (c_X8_orbitOf (d := d) hB hs1.P hj) dX8_of_47 km_RX8_118 kn_RX8 kc_yX8_orbitOf ki_yX8_orbitOf kx_yX8_orbitOf (by omega) (by decide) ⟨by decide, by decide, rfl⟩ rfl (Nat.le_of_ble_eq_true rfl) ?_
        refine g_iret C dX8_of_50 ?_
        have e4 : w2 = 4 := by omega
        exact ⟨congrArg (fun v => some (Value.int v)) (by unfold aOf; rw [if_neg (by simp [h5, h17]), if_pos (by rw [e4]), ix_nI hj8]), hs1, f1.s (by decide)⟩
      · refine g_aload_n C dX8_of_28 rfl ?_
        refine gf_X8_w C (by rfl) dX8_of_29 kf_RX8_11 ?_
        refine g_ic (n := 1) C dX8_of_32 (by decide) ?_
        refine g_ic (n := 4) C dX8_of_33 (by decide) ?_
        refine g_iload_n C dX8_of_34 rfl ?_
        refine g_imulN C dX8_of_35 ?_
        refine g_iaddN C dX8_of_36 ?_
        refine g_iload_n C dX8_of_37 rfl ?_
        refine g_iaddN C dX8_of_38 ?_
        refine g_ialdN C (by rfl) (by omega) (by first | decide | omega) dX8_of_39 ?_
        rw [h.2.2 j hj w2 (by omega)]
        refine g_iret C dX8_of_40 ?_
        exact ⟨congrArg (fun v => some (Value.int v)) (by unfold aOf; rw [if_neg (by simp [h5, h17]), if_neg (by intro q; have := nI_inj (by omega) (by omega) q; omega), ix_nI hj8, ix_nI (by omega)]), hs, Rs.rf⟩
    · refine g_bp C (-9) dX8_of_20 (by decide) ?_
      refine g_iret C dX8_of_22 ?_
      exact ⟨congrArg (fun v => some (Value.int v)) (by simp [aOf, h5, h17]), hs, Rs.rf⟩

set_option maxHeartbeats 4000000 in
set_option maxRecDepth 100000 in
theorem c_X8_at {E : Ev} {d : Nat} {σ : St} {s : Ms} (hs : RfIs σ s) {x y z : Int32} : Con E (d + 1) yX8_at cX8_at 4 ((Option.some FieldType.int)) [.ref (ev_a E 64), .int x, .int y, .int z] σ (RfTo (.int (aAt s x y z)) σ (s)) := by
  refine con_of (by decide) (Nat.le_of_ble_eq_true rfl) (fun X hX C => ?_)
  have C : Cx E X cX8_at RX8 4 ((Option.some FieldType.int)) := C
  have h := hs.P
  have h8 := h.1
  show G E _ X _ _ _ 0 [(0, .ref (ev_a E 64)), (1, .int x), (2, .int y), (3, .int z)] []
  refine g_iload_n C dX8_at_0 rfl ?_
  refine g_i2l C _ dX8_at_1 rfl ?_
  refine g_ldc2 C (-3) dX8_at_2 (List.mem_of_getElem? (i := 796) (by decide +kernel)) ?_
  refine g_ldc2 C (3) dX8_at_5 (List.mem_of_getElem? (i := 797) (by decide +kernel)) ?_
  refine g_callSp C (c_X8_in (d := d) (-3) (3) (by decide) (by decide)) dX8_at_8 km_RX8_56 kn_RX8 kc_yX8_in ks_yX8_in (by omega) (by decide) ⟨by decide, by decide, rfl⟩ rfl (Nat.le_of_ble_eq_true rfl) ?_
  refine g_ifeqB C 52 dX8_at_11 (by decide) (fun h11 => ?_) (fun h11 => ?_)
  · refine g_bp C (-2) dX8_at_52 (by decide) ?_
    refine g_iret C dX8_at_54 ?_
    exact ⟨congrArg (fun v => some (Value.int v)) (by simp [aAt, plB, h11]), hs, Rs.rf⟩
  · refine g_iload_n C dX8_at_14 rfl ?_
    refine g_i2l C _ dX8_at_15 rfl ?_
    refine g_ldc2 C (-3) dX8_at_16 (List.mem_of_getElem? (i := 796) (by decide +kernel)) ?_
    refine g_ldc2 C (3) dX8_at_19 (List.mem_of_getElem? (i := 797) (by decide +kernel)) ?_
    refine g_callSp C (c_X8_in (d := d) (-3) (3) (by decide) (by decide)) dX8_at_22 km_RX8_56 kn_RX8 kc_yX8_in ks_yX8_in (by omega) (by decide) ⟨by decide, by decide, rfl⟩ rfl (Nat.le_of_ble_eq_true rfl) ?_
    refine g_ifeqB C 52 dX8_at_25 (by decide) (fun h25 => ?_) (fun h25 => ?_)
    · refine g_bp C (-2) dX8_at_52 (by decide) ?_
      refine g_iret C dX8_at_54 ?_
      exact ⟨congrArg (fun v => some (Value.int v)) (by simp [aAt, plB, h11, h25]), hs, Rs.rf⟩
    · refine g_iload_n C dX8_at_28 rfl ?_
      refine g_i2l C _ dX8_at_29 rfl ?_
      refine g_ldc2 C (-3) dX8_at_30 (List.mem_of_getElem? (i := 796) (by decide +kernel)) ?_
      refine g_ldc2 C (3) dX8_at_33 (List.mem_of_getElem? (i := 797) (by decide +kernel)) ?_
      refine g_callSp C (c_X8_in (d := d) (-3) (3) (by decide) (by decide)) dX8_at_36 km_RX8_56 kn_RX8 kc_yX8_in ks_yX8_in (by omega) (by decide) ⟨by decide, by decide, rfl⟩ rfl (Nat.le_of_ble_eq_true rfl) ?_
      refine g_ifeqB C 52 dX8_at_39 (by decide) (fun h39 => ?_) (fun h39 => ?_)
      · refine g_bp C (-2) dX8_at_52 (by decide) ?_
        refine g_iret C dX8_at_54 ?_
        exact ⟨congrArg (fun v => some (Value.int v)) (by simp [aAt, plB, h11, h25, h39]), hs, Rs.rf⟩
      · refine g_aload_n C dX8_at_42 rfl ?_
        refine g_iload_n C dX8_at_43 rfl ?_
        refine g_iload_n C dX8_at_44 rfl ?_
        refine g_iload_n C dX8_at_45 rfl ?_
        refine g_callVp C (ob_X8 (by rfl)) (c_X8_pointAt (d := d) h) dX8_at_46 km_RX8_87 kn_RX8 kc_yX8_pointAt ki_yX8_pointAt kx_yX8_pointAt (by omega) (by decide) ⟨by decide, by decide, rfl⟩ rfl (Nat.le_of_ble_eq_true rfl) ?_
        refine g_goto C 54 dX8_at_49 (by decide) ?_
        refine g_iret C dX8_at_54 ?_
        exact ⟨congrArg (fun v => some (Value.int v)) (by simp [aAt, plB, h11, h25, h39]), hs, Rs.rf⟩

set_option maxHeartbeats 4000000 in
set_option maxRecDepth 100000 in
theorem c_X8_feed {E : Ev} {d : Nat} {σ : St} {s : Ms} (hs : RfIs σ s) {g : Int32} : Con E (d + 1) yX8_feed cX8_feed 2 ((Option.some FieldType.int)) [.ref (ev_a E 64), .int g] σ (RfTo (.int (aFeed s g)) σ (tFeed s g)) := by
  refine con_of (by decide) (Nat.le_of_ble_eq_true rfl) (fun X hX C => ?_)
  have C : Cx E X cX8_feed RX8 2 ((Option.some FieldType.int)) := C
  have ht100 := hs.2.2.1.2.1
  show G E _ X _ _ _ 0 [(0, .ref (ev_a E 64)), (1, .int g)] []
  refine g_iload_n C dX8_feed_0 rfl ?_
  refine g_i2l C _ dX8_feed_1 rfl ?_
  refine g_lc (v := 0) C dX8_feed_2 (by decide) ?_
  refine g_ldc2 C (127) dX8_feed_3 (List.mem_of_getElem? (i := 902) (by decide +kernel)) ?_
  refine g_callSp C (c_X8_in (d := d) (0) (127) (by decide) (by decide)) dX8_feed_6 km_RX8_56 kn_RX8 kc_yX8_in ks_yX8_in (by omega) (by decide) ⟨by decide, by decide, rfl⟩ rfl (Nat.le_of_ble_eq_true rfl) ?_
  refine g_ifneB C 15 dX8_feed_9 (by decide) (fun h9 => ?_) (fun h9 => ?_)
  · obtain ⟨j, hj, rfl⟩ := in_n (k := 127) h9
    refine g_aload_n C dX8_feed_15 rfl ?_
    refine gf_X8_length C (by rfl) dX8_feed_16 kf_RX8_171 ?_
    rw [hs.2.2.1.1]
    refine g_bp C (nI 100) dX8_feed_19 (by decide) ?_
    refine g_icneN C 27 dX8_feed_21 (by decide) (by omega) (by omega) (fun h21 => ?_) (fun h21 => ?_)
    · refine g_aload_n C dX8_feed_27 rfl ?_
      refine gf_X8_text C (by rfl) dX8_feed_28 kf_RX8_40 ?_
      refine g_aload_n C dX8_feed_31 rfl ?_
      refine gf_X8_length C (by rfl) dX8_feed_32 kf_RX8_171 ?_
      rw [hs.2.2.1.1]
      refine g_iload_n C dX8_feed_35 rfl ?_
      refine g_iastN C (by rfl) (by omega) (by first | decide | omega) dX8_feed_36 ?_
      refine g_aload_n C dX8_feed_37 rfl ?_
      refine g_dup C dX8_feed_38 rfl ?_
      refine gf_X8_length C (by rfl) dX8_feed_39 kf_RX8_171 ?_
      rw [sI_ne (show 64 ≠ 74 by decide), hs.2.2.1.1]
      refine g_ic (n := 1) C dX8_feed_42 (by decide) ?_
      refine g_iaddN C dX8_feed_43 ?_
      refine gp_X8_length C (by rfl) dX8_feed_44 kf_RX8_171 ?_
      refine g_aload_n C dX8_feed_47 rfl ?_
      refine gf_X8_length C (by rfl) dX8_feed_48 kf_RX8_171 ?_
      refine g_eq (st' := [.int (nI (s.2.2.1.1 + 1))]) (by rw [sI_self, up_i]) ?_
      refine g_iret C dX8_feed_51 ?_
      have hF : Fk [14] [74] σ (setF (sI σ 74 (upd (σ.1 74) s.2.2.1.1 (nI j))) 64 14 (nI (s.2.2.1.1 + 1))) := (Fk.rf.sI (by simp) (by decide)).sF (by simp)
      have e3 : tFeed s (nI j) = (s.1, s.2.1, (s.2.2.1.1 + 1, fun q => if q = s.2.2.1.1 then j else s.2.2.1.2 q), s.2.2.2) := by simp [tFeed, h9, h21, ix_nI (show j < 2 ^ 31 by omega)]
      refine ⟨congrArg (fun v => some (Value.int v)) (by simp [aFeed, h9, h21]), ?_, hF.s (by decide)⟩
      rw [e3]
      show RfIs (setF (sI σ 74 (upd (σ.1 74) s.2.2.1.1 (nI j))) 64 14 (nI (s.2.2.1.1 + 1))) _
      refine ⟨by rw [(hF.1 65 (by simp)).1]; exact hs.1, hs.2.1.go (hF.2 3 (by simp)) (hF.1 67 (by simp)).1, ⟨by unfold setF; rw [sI_self, up_i], by have := hs.2.2.1.2.1; simp only; omega, fun q hq => ?_⟩, hs.2.2.2.go (hF.1 76 (by simp)).1 (hF.1 77 (by simp)).1 (hF.1 78 (by simp)).2⟩
      unfold setF
      rw [sI_ne (by decide), sI_self]
      have hq2 : q < s.2.2.1.1 + 1 := hq
      by_cases e : q = s.2.2.1.1
      · subst e; rw [up_i]; simp; omega
      · rw [up_n e]; simp only [e, if_false]; exact hs.2.2.1.2.2 q (by omega)
    · refine g_bp C (-4) dX8_feed_24 (by decide) ?_
      refine g_iret C dX8_feed_26 ?_
      exact ⟨congrArg (fun v => some (Value.int v)) (by simp [aFeed, h9, h21]), by rw [show tFeed s (nI j) = s from by simp [tFeed, h9, h21]]; exact hs, Rs.rf⟩
  · refine g_bp C (-2) dX8_feed_12 (by decide) ?_
    refine g_iret C dX8_feed_14 ?_
    exact ⟨congrArg (fun v => some (Value.int v)) (by simp [aFeed, h9]), by rw [show tFeed s g = s from by simp [tFeed, h9]]; exact hs, Rs.rf⟩

set_option maxHeartbeats 4000000 in
set_option maxRecDepth 100000 in
theorem c_X8_product {E : Ev} {d : Nat} {σ : St} {s : Ms} (hs : RfIs σ s) {a b : Int32} : Con E (d + 6) yX8_product cX8_product 3 ((Option.some FieldType.int)) [.ref (ev_a E 64), .int a, .int b] σ (RfTo (.int (aProduct a b)) σ (s)) := by
  refine con_of (by decide) (Nat.le_of_ble_eq_true rfl) (fun X hX C => ?_)
  have C : Cx E X cX8_product RX8 3 ((Option.some FieldType.int)) := C
  show G E _ X _ _ _ 0 [(0, .ref (ev_a E 64)), (1, .int a), (2, .int b)] []
  refine g_iload_n C dX8_product_0 rfl ?_
  refine g_callSp C (c_X8_isMove (d := d) ) dX8_product_1 km_RX8_213 kn_RX8 kc_yX8_isMove ks_yX8_isMove (by omega) (by decide) ⟨by decide, by decide, rfl⟩ rfl (Nat.le_of_ble_eq_true rfl) ?_
  refine g_ifeqB C 22 dX8_product_4 (by decide) (fun h4 => ?_) (fun h4 => ?_)
  · refine g_icz (v := -1) C dX8_product_22 (by decide) ?_
    refine g_iret C dX8_product_23 ?_
    exact ⟨congrArg (fun v => some (Value.int v)) (by first | (simp [aProduct, h4]; done) | (simp [aProduct, h4, ix_nI (show m < 2 ^ 31 by omega), ix_nI (show n < 2 ^ 31 by omega)])), hs, Rs.rf⟩
  · obtain ⟨m, hm, rfl⟩ := isMv_t h4
    refine g_iload_n C dX8_product_7 rfl ?_
    refine g_callSp C (c_X8_isMove (d := d) ) dX8_product_8 km_RX8_213 kn_RX8 kc_yX8_isMove ks_yX8_isMove (by omega) (by decide) ⟨by decide, by decide, rfl⟩ rfl (Nat.le_of_ble_eq_true rfl) ?_
    refine g_ifeqB C 22 dX8_product_11 (by decide) (fun h11 => ?_) (fun h11 => ?_)
    · refine g_icz (v := -1) C dX8_product_22 (by decide) ?_
      refine g_iret C dX8_product_23 ?_
      exact ⟨congrArg (fun v => some (Value.int v)) (by first | (simp [aProduct, h4, h11]; done) | (simp [aProduct, h4, h11, ix_nI (show m < 2 ^ 31 by omega), ix_nI (show n < 2 ^ 31 by omega)])), hs, Rs.rf⟩
    · obtain ⟨n, hn, rfl⟩ := isMv_t h11
      refine g_iload_n C dX8_product_14 rfl ?_
      refine g_iload_n C dX8_product_15 rfl ?_
      refine g_callSp C (c_X8_times (d := d) hm hn) dX8_product_16 km_RX8_81 kn_RX8 kc_yX8_times ks_yX8_times (by omega) (by decide) ⟨by decide, by decide, rfl⟩ rfl (Nat.le_of_ble_eq_true rfl) ?_
      refine g_goto C 23 dX8_product_19 (by decide) ?_
      refine g_iret C dX8_product_23 ?_
      exact ⟨congrArg (fun v => some (Value.int v)) (by first | (simp [aProduct, h4, h11]; done) | (simp [aProduct, h4, h11, ix_nI (show m < 2 ^ 31 by omega), ix_nI (show n < 2 ^ 31 by omega)])), hs, Rs.rf⟩

set_option maxHeartbeats 4000000 in
set_option maxRecDepth 100000 in
theorem c_X8_move {E : Ev} {d : Nat} {σ : St} {s : Ms} (hs : RfIs σ s) {x w : Int32} : Con E (d + 8) yX8_move cX8_move 4 ((Option.some FieldType.int)) [.ref (ev_a E 64), .int x, .int w] σ (RfTo (.int (aMove s x w)) σ (s)) := by
  refine con_of (by decide) (Nat.le_of_ble_eq_true rfl) (fun X hX C => ?_)
  have C : Cx E X cX8_move RX8 4 ((Option.some FieldType.int)) := C
  have h := hs.P
  have h8 := h.1
  show G E _ X _ _ _ 0 [(0, .ref (ev_a E 64)), (1, .int x), (2, .int w)] []
  refine g_iload_n C dX8_move_0 rfl ?_
  refine g_callSp C (c_X8_isMove (d := d) ) dX8_move_1 km_RX8_213 kn_RX8 kc_yX8_isMove ks_yX8_isMove (by omega) (by decide) ⟨by decide, by decide, rfl⟩ rfl (Nat.le_of_ble_eq_true rfl) ?_
  refine g_ifeqB C 19 dX8_move_4 (by decide) (fun h4 => ?_) (fun h4 => ?_)
  · refine g_icz (v := -1) C dX8_move_19 (by decide) ?_
    refine g_iret C dX8_move_20 ?_
    exact ⟨congrArg (fun v => some (Value.int v)) (by simp [aMove, h4]), hs, Rs.rf⟩
  · obtain ⟨m, hm, rfl⟩ := isMv_t h4
    refine g_iload_n C dX8_move_7 rfl ?_
    refine g_i2l C _ dX8_move_8 rfl ?_
    refine g_lc (v := 0) C dX8_move_9 (by decide) ?_
    refine g_ldc2 C (3) dX8_move_10 (List.mem_of_getElem? (i := 797) (by decide +kernel)) ?_
    refine g_callSp C (c_X8_in (d := d) (0) (3) (by decide) (by decide)) dX8_move_13 km_RX8_56 kn_RX8 kc_yX8_in ks_yX8_in (by omega) (by decide) ⟨by decide, by decide, rfl⟩ rfl (Nat.le_of_ble_eq_true rfl) ?_
    refine g_ifneB C 21 dX8_move_16 (by decide) (fun h16 => ?_) (fun h16 => ?_)
    · obtain ⟨w2, hw2, rfl⟩ := in_n (k := 3) h16
      refine g_aload_n C dX8_move_21 rfl ?_
      refine g_iload_n C dX8_move_22 rfl ?_
      refine g_callVp C (ob_X8 (by rfl)) (c_X8_movedMany (d := d) h hm) dX8_move_23 km_RX8_101 kn_RX8 kc_yX8_movedMany ki_yX8_movedMany kx_yX8_movedMany (by omega) (by decide) ⟨by decide, by decide, rfl⟩ rfl (Nat.le_of_ble_eq_true rfl) ?_
      have b1 := mvN_le (P := s.1.1.2) (n := s.1.1.1) (m := m)
      refine g_istore_n C dX8_move_26 (by decide) ?_
      refine g_iload_n C dX8_move_27 rfl ?_
      refine g_ifneN C 38 dX8_move_28 (by decide) (by omega) (fun h28 => ?_) (fun h28 => ?_)
      · refine g_iload_n C dX8_move_38 rfl ?_
        refine g_ic (n := 1) C dX8_move_39 (by decide) ?_
        refine g_icneN C 50 dX8_move_40 (by decide) (by omega) (by omega) (fun h40 => ?_) (fun h40 => ?_)
        · refine g_iload_n C dX8_move_50 rfl ?_
          refine g_ic (n := 2) C dX8_move_51 (by decide) ?_
          refine g_icneN C 67 dX8_move_52 (by decide) (by omega) (by omega) (fun h52 => ?_) (fun h52 => ?_)
          · refine g_iload_n C dX8_move_67 rfl ?_
            refine g_iret C dX8_move_68 ?_
            have em : ix (nI m) = m := ix_nI (by omega)
            have hne : ∀ q, q < 4 → w2 ≠ q → ¬ nI w2 = nI q := fun q h1 h2 h3 => h2 (nI_inj (by omega) (by omega) h3)
            have gz : (isMv (nI m) && inB (nI w2) 0 3) = true := by rw [h4, h16]; rfl
            refine ⟨congrArg (fun v => some (Value.int v)) ?_, hs, Rs.rf⟩
            unfold aMove; rw [gz, if_neg (by decide), em, if_neg (hne 0 (by omega) (by omega)), if_neg (hne 1 (by omega) (by omega)), if_neg (hne 2 (by omega) (by omega))]
          · refine g_iload_n C dX8_move_55 rfl ?_
            refine g_ifneN C 63 dX8_move_56 (by decide) (by omega) (fun h56 => ?_) (fun h56 => ?_)
            · refine g_ic (n := 0) C dX8_move_63 (by decide) ?_
              refine g_goto C 68 dX8_move_64 (by decide) ?_
              refine g_iret C dX8_move_68 ?_
              have em : ix (nI m) = m := ix_nI (by omega)
              have hne : ∀ q, q < 4 → w2 ≠ q → ¬ nI w2 = nI q := fun q h1 h2 h3 => h2 (nI_inj (by omega) (by omega) h3)
              have gz : (isMv (nI m) && inB (nI w2) 0 3) = true := by rw [h4, h16]; rfl
              refine ⟨congrArg (fun v => some (Value.int v)) ?_, hs, Rs.rf⟩
              unfold aMove; rw [gz, if_neg (by decide), em, if_neg (hne 0 (by omega) (by omega)), if_neg (hne 1 (by omega) (by omega)), if_pos (by rw [h52]), show kpt s.1.1.2 s.1.1.1 m = false from by cases c : kpt s.1.1.2 s.1.1.1 m with | false => rfl | true => exact absurd (mv_kp.mpr c) h56]; rfl
            · refine g_ic (n := 1) C dX8_move_59 (by decide) ?_
              refine g_goto C 68 dX8_move_60 (by decide) ?_
              refine g_iret C dX8_move_68 ?_
              have em : ix (nI m) = m := ix_nI (by omega)
              have hne : ∀ q, q < 4 → w2 ≠ q → ¬ nI w2 = nI q := fun q h1 h2 h3 => h2 (nI_inj (by omega) (by omega) h3)
              have gz : (isMv (nI m) && inB (nI w2) 0 3) = true := by rw [h4, h16]; rfl
              refine ⟨congrArg (fun v => some (Value.int v)) ?_, hs, Rs.rf⟩
              unfold aMove; rw [gz, if_neg (by decide), em, if_neg (hne 0 (by omega) (by omega)), if_neg (hne 1 (by omega) (by omega)), if_pos (by rw [h52]), mv_kp.mp h56]; rfl
        · refine g_iload_n C dX8_move_43 rfl ?_
          refine g_callSp C (c_X8_orderOf (d := d) hm) dX8_move_44 km_RX8_216 kn_RX8 kc_yX8_orderOf ks_yX8_orderOf (by omega) (by decide) ⟨by decide, by decide, rfl⟩ rfl (Nat.le_of_ble_eq_true rfl) ?_
          refine g_goto C 68 dX8_move_47 (by decide) ?_
          refine g_iret C dX8_move_68 ?_
          have em : ix (nI m) = m := ix_nI (by omega)
          have hne : ∀ q, q < 4 → w2 ≠ q → ¬ nI w2 = nI q := fun q h1 h2 h3 => h2 (nI_inj (by omega) (by omega) h3)
          have gz : (isMv (nI m) && inB (nI w2) 0 3) = true := by rw [h4, h16]; rfl
          refine ⟨congrArg (fun v => some (Value.int v)) ?_, hs, Rs.rf⟩
          unfold aMove; rw [gz, if_neg (by decide), em, if_neg (hne 0 (by omega) (by omega)), if_pos (by rw [h40])]
      · refine g_iload_n C dX8_move_31 rfl ?_
        refine g_callSp C (c_X8_inverse (d := d) hm) dX8_move_32 km_RX8_104 kn_RX8 kc_yX8_inverse ks_yX8_inverse (by omega) (by decide) ⟨by decide, by decide, rfl⟩ rfl (Nat.le_of_ble_eq_true rfl) ?_
        refine g_goto C 68 dX8_move_35 (by decide) ?_
        refine g_iret C dX8_move_68 ?_
        have em : ix (nI m) = m := ix_nI (by omega)
        have hne : ∀ q, q < 4 → w2 ≠ q → ¬ nI w2 = nI q := fun q h1 h2 h3 => h2 (nI_inj (by omega) (by omega) h3)
        have gz : (isMv (nI m) && inB (nI w2) 0 3) = true := by rw [h4, h16]; rfl
        refine ⟨congrArg (fun v => some (Value.int v)) ?_, hs, Rs.rf⟩
        unfold aMove; rw [gz, if_neg (by decide), em, if_pos (by rw [h28])]
    · refine g_icz (v := -1) C dX8_move_19 (by decide) ?_
      refine g_iret C dX8_move_20 ?_
      exact ⟨congrArg (fun v => some (Value.int v)) (by simp [aMove, h4, h16]), hs, Rs.rf⟩

set_option maxHeartbeats 4000000 in
set_option maxRecDepth 100000 in
theorem c_X8_trace {E : Ev} {d : Nat} {σ : St} {s : Ms} (hs : RfIs σ s) {x w : Int32} : Con E (d + 6) yX8_trace cX8_trace 3 ((Option.some FieldType.int)) [.ref (ev_a E 64), .int x, .int w] σ (RfTo (.int (aTrace x w)) σ (s)) := by
  refine con_of (by decide) (Nat.le_of_ble_eq_true rfl) (fun X hX C => ?_)
  have C : Cx E X cX8_trace RX8 3 ((Option.some FieldType.int)) := C
  show G E _ X _ _ _ 0 [(0, .ref (ev_a E 64)), (1, .int x), (2, .int w)] []
  refine g_iload_n C dX8_trace_0 rfl ?_
  refine g_callSp C (c_X8_isMove (d := d) ) dX8_trace_1 km_RX8_213 kn_RX8 kc_yX8_isMove ks_yX8_isMove (by omega) (by decide) ⟨by decide, by decide, rfl⟩ rfl (Nat.le_of_ble_eq_true rfl) ?_
  refine g_ifeqB C 35 dX8_trace_4 (by decide) (fun h4 => ?_) (fun h4 => ?_)
  · refine g_bp C (-9) dX8_trace_35 (by decide) ?_
    refine g_iret C dX8_trace_37 ?_
    exact ⟨congrArg (fun v => some (Value.int v)) (by first | (unfold aTrace; rw [if_pos (by rw [h4]; rfl)]; done) | (unfold aTrace; rw [if_pos (by rw [h4, h14]; rfl)]; done) | (subst h18; unfold aTrace; rw [if_neg (by rw [h4, h14]; decide), if_pos (show nI 0 = 0 from rfl), ix_nI (by omega)]; done) | (unfold aTrace; rw [if_neg (by rw [h4, h14]; decide), if_neg (show ¬ nI w2 = 0 from fun q => h18 (nI_inj (by omega) (by decide) q)), ix_nI (by omega)]; done)), hs, Rs.rf⟩
  · obtain ⟨m, hm, rfl⟩ := isMv_t h4
    refine g_iload_n C dX8_trace_7 rfl ?_
    refine g_i2l C _ dX8_trace_8 rfl ?_
    refine g_lc (v := 0) C dX8_trace_9 (by decide) ?_
    refine g_lc (v := 1) C dX8_trace_10 (by decide) ?_
    refine g_callSp C (c_X8_in (d := d) (0) (1) (by decide) (by decide)) dX8_trace_11 km_RX8_56 kn_RX8 kc_yX8_in ks_yX8_in (by omega) (by decide) ⟨by decide, by decide, rfl⟩ rfl (Nat.le_of_ble_eq_true rfl) ?_
    refine g_ifeqB C 35 dX8_trace_14 (by decide) (fun h14 => ?_) (fun h14 => ?_)
    · refine g_bp C (-9) dX8_trace_35 (by decide) ?_
      refine g_iret C dX8_trace_37 ?_
      exact ⟨congrArg (fun v => some (Value.int v)) (by first | (unfold aTrace; rw [if_pos (by rw [h4]; rfl)]; done) | (unfold aTrace; rw [if_pos (by rw [h4, h14]; rfl)]; done) | (subst h18; unfold aTrace; rw [if_neg (by rw [h4, h14]; decide), if_pos (show nI 0 = 0 from rfl), ix_nI (by omega)]; done) | (unfold aTrace; rw [if_neg (by rw [h4, h14]; decide), if_neg (show ¬ nI w2 = 0 from fun q => h18 (nI_inj (by omega) (by decide) q)), ix_nI (by omega)]; done)), hs, Rs.rf⟩
    · obtain ⟨w2, hw2, rfl⟩ := in_n (k := 1) h14
      refine g_iload_n C dX8_trace_17 rfl ?_
      refine g_ifneN C 28 dX8_trace_18 (by decide) (by omega) (fun h18 => ?_) (fun h18 => ?_)
      · refine g_iload_n C dX8_trace_28 rfl ?_
        refine g_callSp C (c_X8_turnOf (d := d) hm) dX8_trace_29 km_RX8_121 kn_RX8 kc_yX8_turnOf ks_yX8_turnOf (by omega) (by decide) ⟨by decide, by decide, rfl⟩ rfl (Nat.le_of_ble_eq_true rfl) ?_
        refine g_goto C 37 dX8_trace_32 (by decide) ?_
        refine g_iret C dX8_trace_37 ?_
        exact ⟨congrArg (fun v => some (Value.int v)) (by first | (unfold aTrace; rw [if_pos (by rw [h4]; rfl)]; done) | (unfold aTrace; rw [if_pos (by rw [h4, h14]; rfl)]; done) | (subst h18; unfold aTrace; rw [if_neg (by rw [h4, h14]; decide), if_pos (show nI 0 = 0 from rfl), ix_nI (by omega)]; done) | (unfold aTrace; rw [if_neg (by rw [h4, h14]; decide), if_neg (show ¬ nI w2 = 0 from fun q => h18 (nI_inj (by omega) (by decide) q)), ix_nI (by omega)]; done)), hs, Rs.rf⟩
      · refine g_iload_n C dX8_trace_21 rfl ?_
        refine g_callSp C (c_X8_traceOf (d := d) hm) dX8_trace_22 km_RX8_150 kn_RX8 kc_yX8_traceOf ks_yX8_traceOf (by omega) (by decide) ⟨by decide, by decide, rfl⟩ rfl (Nat.le_of_ble_eq_true rfl) ?_
        refine g_goto C 37 dX8_trace_25 (by decide) ?_
        refine g_iret C dX8_trace_37 ?_
        exact ⟨congrArg (fun v => some (Value.int v)) (by first | (unfold aTrace; rw [if_pos (by rw [h4]; rfl)]; done) | (unfold aTrace; rw [if_pos (by rw [h4, h14]; rfl)]; done) | (subst h18; unfold aTrace; rw [if_neg (by rw [h4, h14]; decide), if_pos (show nI 0 = 0 from rfl), ix_nI (by omega)]; done) | (unfold aTrace; rw [if_neg (by rw [h4, h14]; decide), if_neg (show ¬ nI w2 = 0 from fun q => h18 (nI_inj (by omega) (by decide) q)), ix_nI (by omega)]; done)), hs, Rs.rf⟩

set_option maxHeartbeats 4000000 in
set_option maxRecDepth 100000 in
theorem c_X8_takes {E : Ev} {d : Nat} {σ : St} {s : Ms} (hs : RfIs σ s) {x p : Int32} : Con E (d + 7) yX8_takes cX8_takes 3 ((Option.some FieldType.int)) [.ref (ev_a E 64), .int x, .int p] σ (RfTo (.int (aTakes s x p)) σ (s)) := by
  refine con_of (by decide) (Nat.le_of_ble_eq_true rfl) (fun X hX C => ?_)
  have C : Cx E X cX8_takes RX8 3 ((Option.some FieldType.int)) := C
  have h := hs.P
  have h8 := h.1
  show G E _ X _ _ _ 0 [(0, .ref (ev_a E 64)), (1, .int x), (2, .int p)] []
  refine g_iload_n C dX8_takes_0 rfl ?_
  refine g_callSp C (c_X8_isMove (d := d) ) dX8_takes_1 km_RX8_213 kn_RX8 kc_yX8_isMove ks_yX8_isMove (by omega) (by decide) ⟨by decide, by decide, rfl⟩ rfl (Nat.le_of_ble_eq_true rfl) ?_
  refine g_ifeqB C 24 dX8_takes_4 (by decide) (fun h4 => ?_) (fun h4 => ?_)
  · refine g_icz (v := -1) C dX8_takes_24 (by decide) ?_
    refine g_iret C dX8_takes_25 ?_
    exact ⟨congrArg (fun v => some (Value.int v)) (by first | (simp [aTakes, h4]; done) | (simp [aTakes, h4, ix_nI (show m < 2 ^ 31 by omega), ix_nI hj8])), hs, Rs.rf⟩
  · obtain ⟨m, hm, rfl⟩ := isMv_t h4
    refine g_aload_n C dX8_takes_7 rfl ?_
    refine g_iload_n C dX8_takes_8 rfl ?_
    refine g_callVp C (ob_X8 (by rfl)) (c_X8_isPoint (d := d) h) dX8_takes_9 km_RX8_166 kn_RX8 kc_yX8_isPoint ki_yX8_isPoint kx_yX8_isPoint (by omega) (by decide) ⟨by decide, by decide, rfl⟩ rfl (Nat.le_of_ble_eq_true rfl) ?_
    refine g_ifeqB C 24 dX8_takes_12 (by decide) (fun h12 => ?_) (fun h12 => ?_)
    · refine g_icz (v := -1) C dX8_takes_24 (by decide) ?_
      refine g_iret C dX8_takes_25 ?_
      exact ⟨congrArg (fun v => some (Value.int v)) (by first | (simp [aTakes, h4, h12]; done) | (simp [aTakes, h4, h12, ix_nI (show m < 2 ^ 31 by omega), ix_nI hj8])), hs, Rs.rf⟩
    · obtain ⟨j, hj, rfl⟩ := hpB_t (by omega) h12
      have hj8 : j < 2 ^ 31 := by omega
      refine g_aload_n C dX8_takes_15 rfl ?_
      refine g_iload_n C dX8_takes_16 rfl ?_
      refine g_iload_n C dX8_takes_17 rfl ?_
      refine g_callVp C (ob_X8 (by rfl)) (c_X8_goesTo (d := d) h hm hj) dX8_takes_18 km_RX8_90 kn_RX8 kc_yX8_goesTo ki_yX8_goesTo kx_yX8_goesTo (by omega) (by decide) ⟨by decide, by decide, rfl⟩ rfl (Nat.le_of_ble_eq_true rfl) ?_
      refine g_goto C 25 dX8_takes_21 (by decide) ?_
      refine g_iret C dX8_takes_25 ?_
      exact ⟨congrArg (fun v => some (Value.int v)) (by first | (simp [aTakes, h4, h12]; done) | (simp [aTakes, h4, h12, ix_nI (show m < 2 ^ 31 by omega), ix_nI hj8])), hs, Rs.rf⟩

