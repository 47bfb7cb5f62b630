/-! ShapeMoves: fits, odds, mean; events, what is after them; the book, looked at -/
def feB (w : Nat) (t : Int32) : Bool := if w = 0 then inB t 0 7 else if w = 2 then isMv t else inB t 0 4
def sEv (s : Ms) (w : Rw) : Ms := ((s.1.1, s.1.2.1, w, s.1.2.2.2), s.2)
def sBk (s : Ms) (w : Rw) : Ms := ((s.1.1, s.1.2.1, s.1.2.2.1, w), s.2)
def rwAdd (w : Rw) (x y : Nat) : Rw := (w.1 + 1, (fun j => if j = w.1 then x else w.2.1 j), (fun j => if j = w.1 then y else w.2.2 j))
def aEvent (s : Ms) (w t : Int32) : Int32 := if w = -1 then nI 0 else if inB w 0 3 = false then -1 else if feB (ix w) t = false then -2 else if s.1.2.2.1.1 = 8 then -4 else nI (s.1.2.2.1.1 + 1)
def tEvent (s : Ms) (w t : Int32) : Ms := if w = -1 then sEv s (0, s.1.2.2.1.2) else if inB w 0 3 = false then s else if feB (ix w) t = false then s else if s.1.2.2.1.1 = 8 then s else sEv s (rwAdd s.1.2.2.1 (ix w) (ix t))
def aBook (s : Ms) (m r : Int32) : Int32 := if m = -1 then nI 0 else if isMv m = false then -1 else if inB r 1 6 = false then -2 else if s.1.2.2.2.1 = 8 then -4 else nI (s.1.2.2.2.1 + 1)
def tBook (s : Ms) (m r : Int32) : Ms := if m = -1 then sBk s (0, s.1.2.2.2.2) else if isMv m = false then s else if inB r 1 6 = false then s else if s.1.2.2.2.1 = 8 then s else sBk s (rwAdd s.1.2.2.2 (ix m) (ix r))
def loL (P : Nat → Nat → Int32) (n : Nat) (A B : Nat → Nat) : Nat → Nat → Option Nat
  | 0, _ => none
  | k + 1, r => if kpt P n (A r) = true ∧ ordN (A r) = B r then loL P n A B k (r + 1) else some r
def aLooked (s : Ms) : Int32 := oI (loL s.1.1.2 s.1.1.1 s.1.2.2.2.2.1 s.1.2.2.2.2.2 s.1.2.2.2.1 0)
def evL (A B : Nat → Nat) : Nat → Nat → Pts → Pts
  | 0, _, p => p
  | k + 1, r, p => evL A B k (r + 1) (hapN p.1 (A r) (B r), hapP p.2 p.1 (A r) (B r))
def evP (s : Ms) : Pts := evL s.1.2.2.1.2.1 s.1.2.2.1.2.2 s.1.2.2.1.1 0 s.1.1
def aAfter (s : Ms) (w : Int32) : Int32 := if inB w 0 2 = false then -1 else if w = nI 0 then nI (gLst (evP s).2 (evP s).1).length else if w = nI 1 then nI (clC (gLst (evP s).2 (evP s).1)).2.2 else nI (ocL (evP s).2 (evP s).1 (gLst (evP s).2 (evP s).1) (evP s).1 0 0)
theorem Sy.ev {σ σ' : St} {s : Ms} {w : Rw} (h : SyIs σ s) (hF : Fr [15, 16, 17] σ σ') (hR : RwN σ' 15 8 w) : SyIs σ' (sEv s w) := by
  obtain ⟨h1, h2, h3, h4, h5⟩ := h
  exact ⟨⟨h1.1.go hF (by simp) (by simp) (by simp), h1.2.1.go hF (by simp) (by simp) (by simp), hR, h1.2.2.2.go hF (by simp) (by simp) (by simp)⟩, h2.go (by rw [(hF 0 (by simp)).1]) hF (by decide), h3.go (by rw [(hF 0 (by simp)).1]) hF (by decide), h4.go hF (by simp) (by simp), h5.go hF (by decide)⟩
theorem Sy.bk {σ σ' : St} {s : Ms} {w : Rw} (h : SyIs σ s) (hF : Fr [18, 19, 20] σ σ') (hR : RwN σ' 18 8 w) : SyIs σ' (sBk s w) := by
  obtain ⟨h1, h2, h3, h4, h5⟩ := h
  exact ⟨⟨h1.1.go hF (by simp) (by simp) (by simp), h1.2.1.go hF (by simp) (by simp) (by simp), h1.2.2.1.go hF (by simp) (by simp) (by simp), hR⟩, h2.go (by rw [(hF 0 (by simp)).1]) hF (by decide), h3.go (by rw [(hF 0 (by simp)).1]) hF (by decide), h4.go hF (by simp) (by simp), h5.go hF (by decide)⟩
theorem Sy.tg {σ σ' : St} {s : Ms} {l : List Nat} (h : SyIs σ s) (hF : Fr l σ σ') (hl : l.all (fun q => (decide (9 ≤ q) && decide (q ≤ 11)) || (decide (39 ≤ q) && decide (q ≤ 47))) = true) : SyIs σ' s := by
  obtain ⟨h1, h2, h3, h4, h5⟩ := h
  have hF' : Fr [9, 10, 11, 39, 40, 41, 42, 43, 44, 45, 46, 47] σ σ' := hF.mono (fun c hc => by
    have := List.all_eq_true.mp hl c hc
    simp only [Bool.or_eq_true, Bool.and_eq_true, decide_eq_true_eq] at this
    simp only [List.mem_cons, List.not_mem_nil, or_false]
    omega)
  exact ⟨h1.go hF' (by decide), h2.go (by rw [(hF' 0 (by simp)).1]) hF' (by decide), h3.go (by rw [(hF' 0 (by simp)).1]) hF' (by decide), h4.go hF' (by simp) (by simp), h5.go hF' (by decide)⟩
theorem in1_6 {x : Int32} (h1 : ¬ x < nI 1) (h2 : x ≤ nI 6) : inB x 1 6 = true := by
  rw [ltI, nI_toInt (by decide)] at h1
  rw [leI, nI_toInt (by decide)] at h2
  simp only [inB, decide_eq_true_eq]
  omega
theorem in1_lo {x : Int32} (h1 : x < nI 1) : inB x 1 6 = false := by
  rw [ltI, nI_toInt (by decide)] at h1
  simp only [inB, decide_eq_false_iff_not]
  omega
theorem in1_hi {x : Int32} (h2 : ¬ x ≤ nI 6) : inB x 1 6 = false := by
  rw [leI, nI_toInt (by decide)] at h2
  simp only [inB, decide_eq_false_iff_not]
  omega
theorem in1_n {x : Int32} (h : inB x 1 6 = true) : ∃ j : Nat, j ≤ 6 ∧ x = nI j := by
  have h2 : inB x 0 6 = true := by simp only [inB, decide_eq_true_eq] at h ⊢; omega
  exact in_n (k := 6) h2
set_option maxHeartbeats 4000000 in
set_option maxRecDepth 100000 in
theorem l_X7_isAllAsSeen {E : Ev} {d : Nat} {X : Mx} (C : Cx E X cX7_isAllAsSeen RX7 4 ((Option.some FieldType.boolean))) {σ : St} {sh n : Nat} {P : Nat → Nat → Int32} {w : Rw} (hsh : ShIs σ sh n P) (hR : RwN σ 12 5 w) (hok : ∀ j, j < w.1 → w.2.1 j < 48 ∧ w.2.2 j < 2) : ∀ (k : Nat) (r : Nat), w.1 = r + k → G E (d + 5) X 4 (Det (some (.int (bI (asL P n w.2.1 w.2.2 k r)))) σ) σ 2 ([(0, .ref (ev_a E 0)), (1, .ref (ev_a E sh)), (2, .int (nI r))]) [] := by
  intro k
  induction k with
  | zero =>
    intro r hr
    have hc5 : w.1 ≤ 5 := hR.2.2.2.1
    refine g_iload_n C dX7_isAllAsSeen_2 rfl ?_
    refine g_aload_n C dX7_isAllAsSeen_3 rfl ?_
    refine gf_X7_now C (by rfl) dX7_isAllAsSeen_4 kf_RX7_12 ?_
    refine gn_X3_seen C (by rfl) dX7_isAllAsSeen_7 nw_X7_209 ?_
    refine gn_X2_size C (by rfl) dX7_isAllAsSeen_10 nw_X7_231 ?_
    rw [show σ.1 (9 * 1 + 3) 2 = nI w.1 from hR.2.2.2.2.2.1]
    first | refine g_icgeN C 66 dX7_isAllAsSeen_13 (by decide) (by omega) (by omega) (fun h13 => ?_) (fun h13 => ?_) | refine g_icge C 66 dX7_isAllAsSeen_13 (by decide) (fun h13 => ?_) (fun h13 => ?_)
    · refine g_ic (n := 1) C dX7_isAllAsSeen_66 (by decide) ?_
      refine g_zret C (by first | exact bI_01 _ | exact Or.inl rfl | exact Or.inr rfl) dX7_isAllAsSeen_67 ?_
      exact ⟨congrArg (fun v => some (Value.int v)) (rfl), rfl⟩
    · omega
  | succ k ih =>
    intro r hr
    have hc5 : w.1 ≤ 5 := hR.2.2.2.1
    refine g_iload_n C dX7_isAllAsSeen_2 rfl ?_
    refine g_aload_n C dX7_isAllAsSeen_3 rfl ?_
    refine gf_X7_now C (by rfl) dX7_isAllAsSeen_4 kf_RX7_12 ?_
    refine gn_X3_seen C (by rfl) dX7_isAllAsSeen_7 nw_X7_209 ?_
    refine gn_X2_size C (by rfl) dX7_isAllAsSeen_10 nw_X7_231 ?_
    rw [show σ.1 (9 * 1 + 3) 2 = nI w.1 from hR.2.2.2.2.2.1]
    first | refine g_icgeN C 66 dX7_isAllAsSeen_13 (by decide) (by omega) (by omega) (fun h13 => ?_) (fun h13 => ?_) | refine g_icge C 66 dX7_isAllAsSeen_13 (by decide) (fun h13 => ?_) (fun h13 => ?_)
    · omega
    · refine g_aload_n C dX7_isAllAsSeen_16 rfl ?_
      refine gf_X7_now C (by rfl) dX7_isAllAsSeen_17 kf_RX7_12 ?_
      refine gn_X3_seen C (by rfl) dX7_isAllAsSeen_20 nw_X7_209 ?_
      refine gn_X2_second C (by rfl) dX7_isAllAsSeen_23 nw_X7_232 ?_
      refine g_iload_n C dX7_isAllAsSeen_26 rfl ?_
      refine g_ialdN C (by rfl) (by have := hR.2.2.2.1; omega) (by first | decide | omega) dX7_isAllAsSeen_27 ?_
      rw [show σ.1 (9 * 1 + 3 + 2) r = nI (w.2.2 r) from (hR.2.2.2.2.2.2 r (by omega)).2]
      have hb2 := (hok r (by omega)).2
      refine g_ic (n := 1) C dX7_isAllAsSeen_28 (by decide) ?_
      refine g_icneN C 36 dX7_isAllAsSeen_29 (by decide) (by omega) (by omega) (fun h29 => ?_) (fun h29 => ?_)
      · refine g_ic (n := 0) C dX7_isAllAsSeen_36 (by decide) ?_
        refine g_istore_n C dX7_isAllAsSeen_37 (by decide) ?_
        refine g_aload_n C dX7_isAllAsSeen_38 rfl ?_
        refine g_aload_n C dX7_isAllAsSeen_39 rfl ?_
        refine gf_X7_now C (by rfl) dX7_isAllAsSeen_40 kf_RX7_12 ?_
        refine gn_X3_seen C (by rfl) dX7_isAllAsSeen_43 nw_X7_209 ?_
        refine gn_X2_first C (by rfl) dX7_isAllAsSeen_46 nw_X7_235 ?_
        refine g_iload_n C dX7_isAllAsSeen_49 rfl ?_
        refine g_ialdN C (by rfl) (by have := hR.2.2.2.1; omega) (by first | decide | omega) dX7_isAllAsSeen_50 ?_
        rw [show σ.1 (9 * 1 + 3 + 1) r = nI (w.2.1 r) from (hR.2.2.2.2.2.2 r (by omega)).1]
        refine g_callVp C (ob_X4 hsh.1) (c_X4_isKeptBy (d := d) hsh (hok r (by omega)).1) dX7_isAllAsSeen_51 km_RX7_144 kn_RX4 kc_yX4_isKeptBy ki_yX4_isKeptBy kx_yX4_isKeptBy (by omega) (by decide) ⟨by decide, by decide, rfl⟩ rfl (Nat.le_of_ble_eq_true rfl) ?_
        refine g_iload_n C dX7_isAllAsSeen_54 rfl ?_
        refine g_iceq C 60 dX7_isAllAsSeen_55 (by decide) (fun h55 => ?_) (fun h55 => ?_)
        · refine g_iinc1 C dX7_isAllAsSeen_60 rfl (by decide) ?_
          refine g_goto C 2 dX7_isAllAsSeen_63 (by decide) ?_
          refine g_loc ([(0, .ref (ev_a E 0)), (1, .ref (ev_a E sh)), (2, .int (nI (r + 1)))]) (And.intro rfl (And.intro rfl (And.intro rfl trivial))) ?_
          rw [show asL P n w.2.1 w.2.2 (k + 1) r = asL P n w.2.1 w.2.2 k (r + 1) from by first | (rw [asL, decide_eq_true h29, if_pos (bI_1.mp h55)]; done) | (rw [asL, decide_eq_false h29, if_pos (bI_0.mp h55)]; done)]
          exact ih (r + 1) (by omega)
        · refine g_ic (n := 0) C dX7_isAllAsSeen_58 (by decide) ?_
          refine g_zret C (by first | exact bI_01 _ | exact Or.inl rfl | exact Or.inr rfl) dX7_isAllAsSeen_59 ?_
          exact ⟨congrArg (fun v => some (Value.int v)) (by rw [show asL P n w.2.1 w.2.2 (k + 1) r = false from by first | (rw [asL, decide_eq_true h29, if_neg (fun q => h55 (bI_1.mpr q))]; done) | (rw [asL, decide_eq_false h29, if_neg (fun q => h55 (bI_0.mpr q))]; done)]; rfl), rfl⟩
      · refine g_ic (n := 1) C dX7_isAllAsSeen_32 (by decide) ?_
        refine g_goto C 37 dX7_isAllAsSeen_33 (by decide) ?_
        refine g_istore_n C dX7_isAllAsSeen_37 (by decide) ?_
        refine g_aload_n C dX7_isAllAsSeen_38 rfl ?_
        refine g_aload_n C dX7_isAllAsSeen_39 rfl ?_
        refine gf_X7_now C (by rfl) dX7_isAllAsSeen_40 kf_RX7_12 ?_
        refine gn_X3_seen C (by rfl) dX7_isAllAsSeen_43 nw_X7_209 ?_
        refine gn_X2_first C (by rfl) dX7_isAllAsSeen_46 nw_X7_235 ?_
        refine g_iload_n C dX7_isAllAsSeen_49 rfl ?_
        refine g_ialdN C (by rfl) (by have := hR.2.2.2.1; omega) (by first | decide | omega) dX7_isAllAsSeen_50 ?_
        rw [show σ.1 (9 * 1 + 3 + 1) r = nI (w.2.1 r) from (hR.2.2.2.2.2.2 r (by omega)).1]
        refine g_callVp C (ob_X4 hsh.1) (c_X4_isKeptBy (d := d) hsh (hok r (by omega)).1) dX7_isAllAsSeen_51 km_RX7_144 kn_RX4 kc_yX4_isKeptBy ki_yX4_isKeptBy kx_yX4_isKeptBy (by omega) (by decide) ⟨by decide, by decide, rfl⟩ rfl (Nat.le_of_ble_eq_true rfl) ?_
        refine g_iload_n C dX7_isAllAsSeen_54 rfl ?_
        refine g_iceq C 60 dX7_isAllAsSeen_55 (by decide) (fun h55 => ?_) (fun h55 => ?_)
        · refine g_iinc1 C dX7_isAllAsSeen_60 rfl (by decide) ?_
          refine g_goto C 2 dX7_isAllAsSeen_63 (by decide) ?_
          refine g_loc ([(0, .ref (ev_a E 0)), (1, .ref (ev_a E sh)), (2, .int (nI (r + 1)))]) (And.intro rfl (And.intro rfl (And.intro rfl trivial))) ?_
          rw [show asL P n w.2.1 w.2.2 (k + 1) r = asL P n w.2.1 w.2.2 k (r + 1) from by first | (rw [asL, decide_eq_true h29, if_pos (bI_1.mp h55)]; done) | (rw [asL, decide_eq_false h29, if_pos (bI_0.mp h55)]; done)]
          exact ih (r + 1) (by omega)
        · refine g_ic (n := 0) C dX7_isAllAsSeen_58 (by decide) ?_
          refine g_zret C (by first | exact bI_01 _ | exact Or.inl rfl | exact Or.inr rfl) dX7_isAllAsSeen_59 ?_
          exact ⟨congrArg (fun v => some (Value.int v)) (by rw [show asL P n w.2.1 w.2.2 (k + 1) r = false from by first | (rw [asL, decide_eq_true h29, if_neg (fun q => h55 (bI_1.mpr q))]; done) | (rw [asL, decide_eq_false h29, if_neg (fun q => h55 (bI_0.mpr q))]; done)]; rfl), rfl⟩
set_option maxHeartbeats 4000000 in
set_option maxRecDepth 100000 in
theorem c_X7_isAllAsSeen {E : Ev} {d : Nat} {σ : St} {sh n : Nat} {P : Nat → Nat → Int32} {w : Rw} (hsh : ShIs σ sh n P) (hR : RwN σ 12 5 w) (hok : ∀ j, j < w.1 → w.2.1 j < 48 ∧ w.2.2 j < 2) : Con E (d + 5) yX7_isAllAsSeen cX7_isAllAsSeen 4 ((Option.some FieldType.boolean)) [.ref (ev_a E 0), .ref (ev_a E sh)] σ (Det (some (.int (bI (asW P n w)))) σ) := by
  refine con_of (by decide) (Nat.le_of_ble_eq_true rfl) (fun X hX C => ?_)
  have C : Cx E X cX7_isAllAsSeen RX7 4 ((Option.some FieldType.boolean)) := C
  show G E _ X _ _ _ 0 [(0, .ref (ev_a E 0)), (1, .ref (ev_a E sh))] []
  refine g_ic (n := 0) C dX7_isAllAsSeen_0 (by decide) ?_
  refine g_istore_n C dX7_isAllAsSeen_1 (by decide) ?_
  refine g_loc ([(0, .ref (ev_a E 0)), (1, .ref (ev_a E sh)), (2, .int (nI 0))]) (And.intro rfl (And.intro rfl (And.intro rfl trivial))) ?_
  exact l_X7_isAllAsSeen C hsh hR hok w.1 0 (by omega)
set_option maxHeartbeats 4000000 in
set_option maxRecDepth 100000 in
theorem l_X7_fits {E : Ev} {d : Nat} {X : Mx} (C : Cx E X cX7_fits RX7 6 ((Option.some FieldType.int))) {n j t : Nat} {P : Nat → Nat → Int32} {w : Rw} (hj : j < n) (ht : t < 2) (hok : ∀ j, j < w.1 → w.2.1 j < 48 ∧ w.2.2 j < 2) : ∀ (k : Nat) (c : Nat) (b : Option Nat) (v0 : Int32) (σ : St), k ≤ 5 → ShIs σ 9 n (pMark P j v0) → RwN σ 12 5 w → G E (d + 6) X 6 (fun r σ2 => r = some (.int (if t = 0 then nI (ftL P n j w k c b).1 else oI (ftL P n j w k c b).2)) ∧ Fr [9, 10, 11] σ σ2) σ 42 ([(0, .ref (ev_a E 0)), (1, .int (nI j)), (2, .int (nI t)), (3, .int (nI c)), (4, .int (oI b)), (5, .int (vI k))]) [] := by
  intro k
  induction k with
  | zero =>
    intro c b v0 σ hk5 h hR
    refine g_iload C dX7_fits_42 rfl ?_
    refine g_iflt C 82 dX7_fits_44 (by decide) (fun h44 => ?_) (fun h44 => ?_)
    · refine g_iload_n C dX7_fits_82 rfl ?_
      refine g_ifneN C 90 dX7_fits_83 (by decide) (by omega) (fun h83 => ?_) (fun h83 => ?_)
      · refine g_iload C dX7_fits_90 rfl ?_
        refine g_iret C dX7_fits_92 ?_
        first | exact ⟨congrArg (fun v => some (Value.int v)) (by rw [if_pos h83]; rfl), Fr.rf⟩ | exact ⟨congrArg (fun v => some (Value.int v)) (by rw [if_neg h83]; rfl), Fr.rf⟩
      · refine g_iload_n C dX7_fits_86 rfl ?_
        refine g_goto C 92 dX7_fits_87 (by decide) ?_
        refine g_iret C dX7_fits_92 ?_
        first | exact ⟨congrArg (fun v => some (Value.int v)) (by rw [if_pos h83]; rfl), Fr.rf⟩ | exact ⟨congrArg (fun v => some (Value.int v)) (by rw [if_neg h83]; rfl), Fr.rf⟩
    · exact absurd (show vI 0 < 0 by decide) h44
  | succ k ih =>
    intro c b v0 σ hk5 h hR
    refine g_iload C dX7_fits_42 rfl ?_
    refine g_iflt C 82 dX7_fits_44 (by decide) (fun h44 => ?_) (fun h44 => ?_)
    · exact absurd h44 (show ¬ nI k < 0 from nI_pos (by omega))
    · have hkk : k < 2 ^ 31 := by omega
      refine g_aload_n C dX7_fits_47 rfl ?_
      refine gf_X7_trial C (by rfl) dX7_fits_48 kf_RX7_38 ?_
      refine gn_X4_marks C (by rfl) dX7_fits_51 nw_X7_85 ?_
      refine g_iload_n C dX7_fits_54 rfl ?_
      refine g_iload C dX7_fits_55 rfl ?_
      refine g_iastN C (by rfl) (by have := h.2.1; omega) (by first | decide | omega) dX7_fits_57 ?_
      have h9 : ShIs (sI σ 11 (upd (σ.1 11) j (nI k))) 9 n (pMark P j (nI k)) := sh_mk9 h hj
      have hF : Fr [11] σ (sI σ 11 (upd (σ.1 11) j (nI k))) := Fr.rf.sI (by simp)
      refine g_aload_n C dX7_fits_58 rfl ?_
      refine g_aload_n C dX7_fits_59 rfl ?_
      refine gf_X7_trial C (by rfl) dX7_fits_60 kf_RX7_38 ?_
      refine g_callVp C (ob_X7 (by rfl)) (c_X7_isAllAsSeen (d := d) h9 (hR.go hF (by simp) (by simp) (by simp)) hok) dX7_fits_63 km_RX7_227 kn_RX7 kc_yX7_isAllAsSeen ki_yX7_isAllAsSeen kx_yX7_isAllAsSeen (by omega) (by decide) ⟨by decide, by decide, rfl⟩ rfl (Nat.le_of_ble_eq_true rfl) ?_
      refine g_ifeqB C 76 dX7_fits_66 (by decide) (fun h66 => ?_) (fun h66 => ?_)
      · refine g_iinc C (vI k) dX7_fits_76 rfl (vI_m k) (by decide) ?_
        refine g_goto C 42 dX7_fits_79 (by decide) ?_
        first | (refine g_loc ([(0, .ref (ev_a E 0)), (1, .int (nI j)), (2, .int (nI t)), (3, .int (nI (c + 1))), (4, .int (oI (some k))), (5, .int (vI k))]) (And.intro rfl (And.intro rfl (And.intro rfl (And.intro rfl (And.intro rfl (And.intro rfl trivial)))))) ?_; rw [show ftL P n j w (k + 1) c b = ftL P n j w k (c + 1) (some k) from by rw [ftL, if_pos h66]]; exact g_post (fun r σ2 q => ⟨q.1, (Fr.rf.sI (by simp)).tr q.2⟩) (ih (c + 1) (some k) (nI k) (sI σ 11 (upd (σ.1 11) j (nI k))) (by omega) h9 (hR.go hF (by simp) (by simp) (by simp)))) | (refine g_loc ([(0, .ref (ev_a E 0)), (1, .int (nI j)), (2, .int (nI t)), (3, .int (nI c)), (4, .int (oI b)), (5, .int (vI k))]) (And.intro rfl (And.intro rfl (And.intro rfl (And.intro rfl (And.intro rfl (And.intro rfl trivial)))))) ?_; rw [show ftL P n j w (k + 1) c b = ftL P n j w k c b from by rw [ftL, if_neg (by rw [h66]; decide)]]; exact g_post (fun r σ2 q => ⟨q.1, (Fr.rf.sI (by simp)).tr q.2⟩) (ih c b (nI k) (sI σ 11 (upd (σ.1 11) j (nI k))) (by omega) h9 (hR.go hF (by simp) (by simp) (by simp))))
      · refine g_iinc1 C dX7_fits_69 rfl (by decide) ?_
        refine g_iload C dX7_fits_72 rfl ?_
        refine g_istore C dX7_fits_74 (by decide) ?_
        refine g_iinc C (vI k) dX7_fits_76 rfl (vI_m k) (by decide) ?_
        refine g_goto C 42 dX7_fits_79 (by decide) ?_
        first | (refine g_loc ([(0, .ref (ev_a E 0)), (1, .int (nI j)), (2, .int (nI t)), (3, .int (nI (c + 1))), (4, .int (oI (some k))), (5, .int (vI k))]) (And.intro rfl (And.intro rfl (And.intro rfl (And.intro rfl (And.intro rfl (And.intro rfl trivial)))))) ?_; rw [show ftL P n j w (k + 1) c b = ftL P n j w k (c + 1) (some k) from by rw [ftL, if_pos h66]]; exact g_post (fun r σ2 q => ⟨q.1, (Fr.rf.sI (by simp)).tr q.2⟩) (ih (c + 1) (some k) (nI k) (sI σ 11 (upd (σ.1 11) j (nI k))) (by omega) h9 (hR.go hF (by simp) (by simp) (by simp)))) | (refine g_loc ([(0, .ref (ev_a E 0)), (1, .int (nI j)), (2, .int (nI t)), (3, .int (nI c)), (4, .int (oI b)), (5, .int (vI k))]) (And.intro rfl (And.intro rfl (And.intro rfl (And.intro rfl (And.intro rfl (And.intro rfl trivial)))))) ?_; rw [show ftL P n j w (k + 1) c b = ftL P n j w k c b from by rw [ftL, if_neg (by rw [h66]; decide)]]; exact g_post (fun r σ2 q => ⟨q.1, (Fr.rf.sI (by simp)).tr q.2⟩) (ih c b (nI k) (sI σ 11 (upd (σ.1 11) j (nI k))) (by omega) h9 (hR.go hF (by simp) (by simp) (by simp))))
set_option maxHeartbeats 4000000 in
set_option maxRecDepth 100000 in
theorem c_X7_fits {E : Ev} {d : Nat} {σ : St} {s : Ms} (hs : SyIs σ s) (hok : SuOk s.1) {p w : Int32} : Con E (d + 7) yX7_fits cX7_fits 6 ((Option.some FieldType.int)) [.ref (ev_a E 0), .int p, .int w] σ (SyTo (.int (aFits s p w)) σ (s)) := by
  refine con_of (by decide) (Nat.le_of_ble_eq_true rfl) (fun X hX C => ?_)
  have C : Cx E X cX7_fits RX7 6 ((Option.some FieldType.int)) := C
  obtain ⟨hS, hI, hO, hT, hA⟩ := id hs
  have hn8 : s.1.1.1 ≤ 8 := hS.1.2.1
  show G E _ X _ _ _ 0 [(0, .ref (ev_a E 0)), (1, .int p), (2, .int w)] []
  refine g_aload_n C dX7_fits_0 rfl ?_
  refine g_iload_n C dX7_fits_1 rfl ?_
  refine g_callVp C (ob_X7 (by rfl)) (c_X7_isPoint (d := d) hS.1) dX7_fits_2 km_RX7_82 kn_RX7 kc_yX7_isPoint ki_yX7_isPoint kx_yX7_isPoint (by omega) (by decide) ⟨by decide, by decide, rfl⟩ rfl (Nat.le_of_ble_eq_true rfl) ?_
  refine g_ifeqB C 17 dX7_fits_5 (by decide) (fun h5 => ?_) (fun h5 => ?_)
  · refine g_icz (v := -1) C dX7_fits_17 (by decide) ?_
    refine g_iret C dX7_fits_18 ?_
    exact ⟨congrArg (fun v => some (Value.int v)) (by first | (simp [aFits, h5]; done) | (simp [aFits, e9]; done) | (simp [aFits, e14]; done)), hs, Fs.rf⟩
  · obtain ⟨j, hj, rfl⟩ := hpB_t (n := s.1.1.1) (by omega) h5
    refine g_iload_n C dX7_fits_8 rfl ?_
    refine g_iflt C 17 dX7_fits_9 (by decide) (fun h9 => ?_) (fun h9 => ?_)
    · have e9 : inB w 0 1 = false := in_lo h9
      refine g_icz (v := -1) C dX7_fits_17 (by decide) ?_
      refine g_iret C dX7_fits_18 ?_
      exact ⟨congrArg (fun v => some (Value.int v)) (by first | (simp [aFits, h5]; done) | (simp [aFits, e9]; done) | (simp [aFits, e14]; done)), hs, Fs.rf⟩
    · refine g_iload_n C dX7_fits_12 rfl ?_
      refine g_ic (n := 1) C dX7_fits_13 (by decide) ?_
      refine g_icle C 19 dX7_fits_14 (by decide) (fun h14 => ?_) (fun h14 => ?_)
      · have e14 : inB w 0 1 = true := in_le_t (k := 1) (by decide) h9 h14
        refine g_ic (n := 0) C dX7_fits_19 (by decide) ?_
        refine g_istore_n C dX7_fits_20 (by decide) ?_
        refine g_bp C (-5) dX7_fits_21 (by decide) ?_
        refine g_istore C dX7_fits_23 (by decide) ?_
        refine g_aload_n C dX7_fits_25 rfl ?_
        refine gf_X7_trial C (by rfl) dX7_fits_26 kf_RX7_38 ?_
        refine g_aload_n C dX7_fits_29 rfl ?_
        refine gf_X7_now C (by rfl) dX7_fits_30 kf_RX7_12 ?_
        refine gn_X3_shape C (by rfl) dX7_fits_33 nw_X7_67 ?_
        refine g_callV C (ob_X4 (by rfl)) (c_X4_become (d := d) hS.1 rfl rfl rfl (by omega)) dX7_fits_36 km_RX7_223 kn_RX4 kc_yX4_become ki_yX4_become kx_yX4_become (by omega) (by decide) ⟨by decide, by decide, rfl⟩ rfl (Nat.le_of_ble_eq_true rfl) (fun r1 σ1 q1 => ?_)
        obtain ⟨rfl, u1, u2⟩ := q1
        have u4 : Fr [9, 10, 11] σ σ1 := u2
        have hs1 := Sy.tr9 hs u4
        refine g_ic (n := 4) C dX7_fits_39 (by decide) ?_
        refine g_istore C dX7_fits_40 (by decide) ?_
        obtain ⟨t, ht, rfl⟩ := in_n (k := 1) e14
        refine g_loc ([(0, .ref (ev_a E 0)), (1, .int (nI j)), (2, .int (nI t)), (3, .int (nI 0)), (4, .int (oI none)), (5, .int (vI 5))]) (And.intro rfl (And.intro rfl (And.intro rfl (And.intro rfl (And.intro rfl (And.intro rfl trivial)))))) ?_
        refine g_post (fun r σ2 q => ?_) (l_X7_fits C (t := t) (P := s.1.1.2) hj (by omega) (fun q hq => hok.2.1 q hq) 5 0 none (s.1.1.2 j 3) σ1 (by omega) (by rw [pMark0]; exact u1) (hs1.1.2.1))
        refine ⟨q.1.trans (congrArg (fun v => some (Value.int v)) ?_), Sy.tr9 hs1 q.2, (u4.tr q.2).s (by decide)⟩
        have ht2 : t = 0 ∨ t = 1 := by omega
        rcases ht2 with rfl | rfl
        · show nI _ = _
          unfold aFits
          rw [if_neg (by simp [h5, e14]), ix_nI (show j < 2 ^ 31 by omega), if_pos (by decide)]
        · show oI _ = _
          unfold aFits
          rw [if_neg (by simp [h5, e14]), ix_nI (show j < 2 ^ 31 by omega), if_neg (by decide)]
      · have e14 : inB w 0 1 = false := in_le_f (k := 1) (by decide) h14
        refine g_icz (v := -1) C dX7_fits_17 (by decide) ?_
        refine g_iret C dX7_fits_18 ?_
        exact ⟨congrArg (fun v => some (Value.int v)) (by first | (simp [aFits, h5]; done) | (simp [aFits, e9]; done) | (simp [aFits, e14]; done)), hs, Fs.rf⟩
theorem ksL_le {P : Nat → Nat → Int32} {n : Nat} : ∀ (k i c : Nat), ksL P n k i c ≤ c + k := by
  intro k
  induction k with
  | zero => intro i c; exact Nat.le_refl _
  | succ k ih => intro i c; unfold ksL; exact Nat.le_trans (ih _ _) (by split <;> omega)
set_option maxHeartbeats 4000000 in
set_option maxRecDepth 100000 in
theorem l_X7_odds {E : Ev} {d : Nat} {X : Mx} (C : Cx E X cX7_odds RX7 6 ((Option.some FieldType.long))) {n j m t : Nat} {P : Nat → Nat → Int32} (hj : j < n) (hm : m ≤ 48) (ht : t < 2) : ∀ (k : Nat) (v c : Nat) (v0 : Int32) (σ : St), 5 = v + k → c ≤ v → ShIs σ 9 n (pMark P j v0) → G E (d + 6) X 6 (fun r σ2 => r = some (.long (nI (pfL (odL P n j m k v c) 5 (if t = 0 then (odL P n j m k v c) else 5) 5)).toInt64) ∧ Fr [9, 10, 11] σ σ2) σ 49 ([(0, .ref (ev_a E 0)), (1, .int (nI j)), (2, .int (nI m)), (3, .int (nI t)), (4, .int (nI c)), (5, .int (nI v))]) [] := by
  intro k
  induction k with
  | zero =>
    intro v c v0 σ hv hc h
    refine g_iload C dX7_odds_49 rfl ?_
    refine g_ic (n := 5) C dX7_odds_51 (by decide) ?_
    first | refine g_icgeN C 86 dX7_odds_52 (by decide) (by omega) (by omega) (fun h52 => ?_) (fun h52 => ?_) | refine g_icge C 86 dX7_odds_52 (by decide) (fun h52 => ?_) (fun h52 => ?_)
    · refine g_iload C dX7_odds_86 rfl ?_
      refine g_ic (n := 5) C dX7_odds_88 (by decide) ?_
      refine g_iload_n C dX7_odds_89 rfl ?_
      refine g_callSp C (c_X7_partOfFraction (d := d) (by omega) (by omega) ht) dX7_odds_90 km_RX7_246 kn_RX7 kc_yX7_partOfFraction ks_yX7_partOfFraction (by omega) (by decide) ⟨by decide, by decide, rfl⟩ rfl (Nat.le_of_ble_eq_true rfl) ?_
      refine g_i2l C _ dX7_odds_93 rfl ?_
      refine g_lret C dX7_odds_94 ?_
      exact ⟨rfl, Fr.rf⟩
    · omega
  | succ k ih =>
    intro v c v0 σ hv hc h
    refine g_iload C dX7_odds_49 rfl ?_
    refine g_ic (n := 5) C dX7_odds_51 (by decide) ?_
    first | refine g_icgeN C 86 dX7_odds_52 (by decide) (by omega) (by omega) (fun h52 => ?_) (fun h52 => ?_) | refine g_icge C 86 dX7_odds_52 (by decide) (fun h52 => ?_) (fun h52 => ?_)
    · omega
    · refine g_aload_n C dX7_odds_55 rfl ?_
      refine gf_X7_trial C (by rfl) dX7_odds_56 kf_RX7_38 ?_
      refine gn_X4_marks C (by rfl) dX7_odds_59 nw_X7_85 ?_
      refine g_iload_n C dX7_odds_62 rfl ?_
      refine g_iload C dX7_odds_63 rfl ?_
      refine g_iastN C (by rfl) (by have := h.2.1; omega) (by first | decide | omega) dX7_odds_65 ?_
      have h9 : ShIs (sI σ 11 (upd (σ.1 11) j (nI v))) 9 n (pMark P j (nI v)) := sh_mk9 h hj
      refine g_aload_n C dX7_odds_66 rfl ?_
      refine gf_X7_trial C (by rfl) dX7_odds_67 kf_RX7_38 ?_
      refine g_callVp C (ob_X4 (by rfl)) (c_X4_keepers (d := d) h9) dX7_odds_70 km_RX7_243 kn_RX4 kc_yX4_keepers ki_yX4_keepers kx_yX4_keepers (by omega) (by decide) ⟨by decide, by decide, rfl⟩ rfl (Nat.le_of_ble_eq_true rfl) ?_
      have hk48 := ksL_le (P := pMark P j (nI v)) (n := n) 48 0 0
      refine g_iload_n C dX7_odds_73 rfl ?_
      first | refine g_icltN C 80 dX7_odds_74 (by decide) (by omega) (by omega) (fun h74 => ?_) (fun h74 => ?_) | refine g_iclt C 80 dX7_odds_74 (by decide) (fun h74 => ?_) (fun h74 => ?_)
      · refine g_iinc1 C dX7_odds_80 rfl (by decide) ?_
        refine g_goto C 49 dX7_odds_83 (by decide) ?_
        first | (refine g_loc ([(0, .ref (ev_a E 0)), (1, .int (nI j)), (2, .int (nI m)), (3, .int (nI t)), (4, .int (nI (c + 1))), (5, .int (nI (v + 1)))]) (And.intro rfl (And.intro rfl (And.intro rfl (And.intro rfl (And.intro rfl (And.intro rfl trivial)))))) ?_; rw [show odL P n j m (k + 1) v c = odL P n j m k (v + 1) (c + 1) from by rw [odL, if_pos (by omega)]]; exact g_post (fun r σ2 q => ⟨q.1, (Fr.rf.sI (by simp)).tr q.2⟩) (ih (v + 1) (c + 1) (nI v) (sI σ 11 (upd (σ.1 11) j (nI v))) (by omega) (by omega) h9)) | (refine g_loc ([(0, .ref (ev_a E 0)), (1, .int (nI j)), (2, .int (nI m)), (3, .int (nI t)), (4, .int (nI c)), (5, .int (nI (v + 1)))]) (And.intro rfl (And.intro rfl (And.intro rfl (And.intro rfl (And.intro rfl (And.intro rfl trivial)))))) ?_; rw [show odL P n j m (k + 1) v c = odL P n j m k (v + 1) c from by rw [odL, if_neg (by omega)]]; exact g_post (fun r σ2 q => ⟨q.1, (Fr.rf.sI (by simp)).tr q.2⟩) (ih (v + 1) c (nI v) (sI σ 11 (upd (σ.1 11) j (nI v))) (by omega) (by omega) h9))
      · refine g_iinc1 C dX7_odds_77 rfl (by decide) ?_
        refine g_iinc1 C dX7_odds_80 rfl (by decide) ?_
        refine g_goto C 49 dX7_odds_83 (by decide) ?_
        first | (refine g_loc ([(0, .ref (ev_a E 0)), (1, .int (nI j)), (2, .int (nI m)), (3, .int (nI t)), (4, .int (nI (c + 1))), (5, .int (nI (v + 1)))]) (And.intro rfl (And.intro rfl (And.intro rfl (And.intro rfl (And.intro rfl (And.intro rfl trivial)))))) ?_; rw [show odL P n j m (k + 1) v c = odL P n j m k (v + 1) (c + 1) from by rw [odL, if_pos (by omega)]]; exact g_post (fun r σ2 q => ⟨q.1, (Fr.rf.sI (by simp)).tr q.2⟩) (ih (v + 1) (c + 1) (nI v) (sI σ 11 (upd (σ.1 11) j (nI v))) (by omega) (by omega) h9)) | (refine g_loc ([(0, .ref (ev_a E 0)), (1, .int (nI j)), (2, .int (nI m)), (3, .int (nI t)), (4, .int (nI c)), (5, .int (nI (v + 1)))]) (And.intro rfl (And.intro rfl (And.intro rfl (And.intro rfl (And.intro rfl (And.intro rfl trivial)))))) ?_; rw [show odL P n j m (k + 1) v c = odL P n j m k (v + 1) c from by rw [odL, if_neg (by omega)]]; exact g_post (fun r σ2 q => ⟨q.1, (Fr.rf.sI (by simp)).tr q.2⟩) (ih (v + 1) c (nI v) (sI σ 11 (upd (σ.1 11) j (nI v))) (by omega) (by omega) h9))
set_option maxHeartbeats 4000000 in
set_option maxRecDepth 100000 in
theorem c_X7_odds {E : Ev} {d : Nat} {σ : St} {s : Ms} (hs : SyIs σ s) {p m t : Int32} : Con E (d + 7) yX7_odds cX7_odds 6 ((Option.some FieldType.long)) [.ref (ev_a E 0), .int p, .int m, .int t] σ (SyTo (.long (aOdds s p m t)) σ (s)) := by
  refine con_of (by decide) (Nat.le_of_ble_eq_true rfl) (fun X hX C => ?_)
  have C : Cx E X cX7_odds RX7 6 ((Option.some FieldType.long)) := C
  obtain ⟨hS, hI, hO, hT, hA⟩ := id hs
  have hn8 : s.1.1.1 ≤ 8 := hS.1.2.1
  show G E _ X _ _ _ 0 [(0, .ref (ev_a E 0)), (1, .int p), (2, .int m), (3, .int t)] []
  refine g_aload_n C dX7_odds_0 rfl ?_
  refine g_iload_n C dX7_odds_1 rfl ?_
  refine g_callVp C (ob_X7 (by rfl)) (c_X7_isPoint (d := d) hS.1) dX7_odds_2 km_RX7_82 kn_RX7 kc_yX7_isPoint ki_yX7_isPoint kx_yX7_isPoint (by omega) (by decide) ⟨by decide, by decide, rfl⟩ rfl (Nat.le_of_ble_eq_true rfl) ?_
  refine g_ifeqB C 25 dX7_odds_5 (by decide) (fun h5 => ?_) (fun h5 => ?_)
  · refine g_ldc2 C (-9223372036854775808) dX7_odds_25 (List.mem_of_getElem? (i := 229) (by decide +kernel)) ?_
    refine g_lret C dX7_odds_28 ?_
    exact ⟨congrArg (fun v => some (Value.long v)) (by first | (simp [aOdds, h5]; rfl) | (simp [aOdds, e9]; rfl) | (simp [aOdds, e15]; rfl) | (simp [aOdds, h22]; rfl)), hs, Fs.rf⟩
  · obtain ⟨j, hj, rfl⟩ := hpB_t (n := s.1.1.1) (by omega) h5
    refine g_iload_n C dX7_odds_8 rfl ?_
    refine g_iflt C 25 dX7_odds_9 (by decide) (fun h9 => ?_) (fun h9 => ?_)
    · have e9 : inB m 0 48 = false := in_lo h9
      refine g_ldc2 C (-9223372036854775808) dX7_odds_25 (List.mem_of_getElem? (i := 229) (by decide +kernel)) ?_
      refine g_lret C dX7_odds_28 ?_
      exact ⟨congrArg (fun v => some (Value.long v)) (by first | (simp [aOdds, h5]; rfl) | (simp [aOdds, e9]; rfl) | (simp [aOdds, e15]; rfl) | (simp [aOdds, h22]; rfl)), hs, Fs.rf⟩
    · refine g_iload_n C dX7_odds_12 rfl ?_
      refine g_bp C (nI 48) dX7_odds_13 (by decide) ?_
      refine g_icgt C 25 dX7_odds_15 (by decide) (fun h15 => ?_) (fun h15 => ?_)
      · have e15 : inB m 0 48 = false := in_gt_t (k := 48) (by decide) h15
        refine g_ldc2 C (-9223372036854775808) dX7_odds_25 (List.mem_of_getElem? (i := 229) (by decide +kernel)) ?_
        refine g_lret C dX7_odds_28 ?_
        exact ⟨congrArg (fun v => some (Value.long v)) (by first | (simp [aOdds, h5]; rfl) | (simp [aOdds, e9]; rfl) | (simp [aOdds, e15]; rfl) | (simp [aOdds, h22]; rfl)), hs, Fs.rf⟩
      · have e15 : inB m 0 48 = true := in_gt_f (k := 48) (by decide) h9 h15
        obtain ⟨m2, hm2, rfl⟩ := in_n (k := 48) e15
        refine g_iload_n C dX7_odds_18 rfl ?_
        refine g_callSp C (c_X7_isPart (d := d) ) dX7_odds_19 km_RX7_238 kn_RX7 kc_yX7_isPart ks_yX7_isPart (by omega) (by decide) ⟨by decide, by decide, rfl⟩ rfl (Nat.le_of_ble_eq_true rfl) ?_
        refine g_ifneB C 29 dX7_odds_22 (by decide) (fun h22 => ?_) (fun h22 => ?_)
        · obtain ⟨t2, ht2, rfl⟩ := in_n (k := 1) h22
          refine g_ic (n := 0) C dX7_odds_29 (by decide) ?_
          refine g_istore C dX7_odds_30 (by decide) ?_
          refine g_aload_n C dX7_odds_32 rfl ?_
          refine gf_X7_trial C (by rfl) dX7_odds_33 kf_RX7_38 ?_
          refine g_aload_n C dX7_odds_36 rfl ?_
          refine gf_X7_now C (by rfl) dX7_odds_37 kf_RX7_12 ?_
          refine gn_X3_shape C (by rfl) dX7_odds_40 nw_X7_67 ?_
          refine g_callV C (ob_X4 (by rfl)) (c_X4_become (d := d) hS.1 rfl rfl rfl (by omega)) dX7_odds_43 km_RX7_223 kn_RX4 kc_yX4_become ki_yX4_become kx_yX4_become (by omega) (by decide) ⟨by decide, by decide, rfl⟩ rfl (Nat.le_of_ble_eq_true rfl) (fun r1 σ1 q1 => ?_)
          obtain ⟨rfl, u1, u2⟩ := q1
          have u4 : Fr [9, 10, 11] σ σ1 := u2
          have hs1 := Sy.tr9 hs u4
          refine g_ic (n := 0) C dX7_odds_46 (by decide) ?_
          refine g_istore C dX7_odds_47 (by decide) ?_
          refine g_loc ([(0, .ref (ev_a E 0)), (1, .int (nI j)), (2, .int (nI m2)), (3, .int (nI t2)), (4, .int (nI 0)), (5, .int (nI 0))]) (And.intro rfl (And.intro rfl (And.intro rfl (And.intro rfl (And.intro rfl (And.intro rfl trivial)))))) ?_
          refine g_post (fun r σ2 q => ?_) (l_X7_odds C (t := t2) (m := m2) (P := s.1.1.2) hj hm2 (by omega) 5 0 0 (s.1.1.2 j 3) σ1 (by omega) (by omega) (by rw [pMark0]; exact u1))
          refine ⟨q.1.trans (congrArg (fun v => some (Value.long v)) ?_), Sy.tr9 hs1 q.2, (u4.tr q.2).s (by decide)⟩
          symm
          unfold aOdds
          rw [if_neg (by simp [h5, e15, h22]), ix_nI (show j < 2 ^ 31 by omega), ix_nI (show m2 < 2 ^ 31 by omega), ix_nI (show t2 < 2 ^ 31 by omega)]
        · refine g_ldc2 C (-9223372036854775808) dX7_odds_25 (List.mem_of_getElem? (i := 229) (by decide +kernel)) ?_
          refine g_lret C dX7_odds_28 ?_
          exact ⟨congrArg (fun v => some (Value.long v)) (by first | (simp [aOdds, h5]; rfl) | (simp [aOdds, e9]; rfl) | (simp [aOdds, e15]; rfl) | (simp [aOdds, h22]; rfl)), hs, Fs.rf⟩
set_option maxHeartbeats 4000000 in
set_option maxRecDepth 100000 in
theorem c_X7_mean {E : Ev} {d : Nat} {σ : St} {s : Ms} (hs : SyIs σ s) {t : Int32} : Con E (d + 7) yX7_mean cX7_mean 3 ((Option.some FieldType.long)) [.ref (ev_a E 0), .int t] σ (SyTo (.long (aMean s t)) σ (s)) := by
  refine con_of (by decide) (Nat.le_of_ble_eq_true rfl) (fun X hX C => ?_)
  have C : Cx E X cX7_mean RX7 3 ((Option.some FieldType.long)) := C
  obtain ⟨hS, hI, hO, hT, hA⟩ := id hs
  have hn8 : s.1.1.1 ≤ 8 := hS.1.2.1
  show G E _ X _ _ _ 0 [(0, .ref (ev_a E 0)), (1, .int t)] []
  refine g_iload_n C dX7_mean_0 rfl ?_
  refine g_callSp C (c_X7_isPart (d := d) ) dX7_mean_1 km_RX7_238 kn_RX7 kc_yX7_isPart ks_yX7_isPart (by omega) (by decide) ⟨by decide, by decide, rfl⟩ rfl (Nat.le_of_ble_eq_true rfl) ?_
  refine g_ifneB C 11 dX7_mean_4 (by decide) (fun h4 => ?_) (fun h4 => ?_)
  · obtain ⟨t2, ht2, rfl⟩ := in_n (k := 1) h4
    refine g_aload_n C dX7_mean_11 rfl ?_
    refine g_callV C (ob_X7 (by rfl)) (c_X7_groupNow (d := d) hs) dX7_mean_12 km_RX7_93 kn_RX7 kc_yX7_groupNow ki_yX7_groupNow kx_yX7_groupNow (by omega) (by decide) ⟨by decide, by decide, rfl⟩ rfl (Nat.le_of_ble_eq_true rfl) (fun r1 σ1 q1 => ?_)
    obtain ⟨rfl, u1, u2, u3⟩ := q1
    obtain ⟨v0, ⟨vB, vM, vO, v5, vS, f0, f1, vC, vD, v8⟩, v12⟩ := id u2
    have vLe : (gL s).length ≤ 48 := vB.2.1.1
    have hb := otL_le (L := gLst s.1.1.2 s.1.1.1) vB.2.1.2.1 (gLst s.1.1.2 s.1.1.1).length 0 0 (by omega)
    have vLe2 : (gLst s.1.1.2 s.1.1.1).length ≤ 48 := vB.2.1.1
    refine g_astore_n C dX7_mean_15 (by decide) ?_
    refine g_aload_n C dX7_mean_16 rfl ?_
    refine g_callVp C (ob_X0 (by rfl)) (c_X0_ordersTogether (d := d) vB) dX7_mean_17 km_RX7_249 kn_RX0 kc_yX0_ordersTogether ki_yX0_ordersTogether kx_yX0_ordersTogether (by omega) (by decide) ⟨by decide, by decide, rfl⟩ rfl (Nat.le_of_ble_eq_true rfl) ?_
    refine g_aload_n C dX7_mean_20 rfl ?_
    refine gn_X0_size C (by rfl) dX7_mean_21 nw_X7_159 ?_
    rw [vB.2.2.1]
    refine g_iload_n C dX7_mean_24 rfl ?_
    refine g_callSp C (c_X7_partOfFraction (d := d) (by omega) (by omega) (by omega)) dX7_mean_25 km_RX7_246 kn_RX7 kc_yX7_partOfFraction ks_yX7_partOfFraction (by omega) (by decide) ⟨by decide, by decide, rfl⟩ rfl (Nat.le_of_ble_eq_true rfl) ?_
    refine g_i2l C _ dX7_mean_28 rfl ?_
    refine g_lret C dX7_mean_29 ?_
    exact ⟨congrArg (fun v => some (Value.long v)) (by symm; unfold aMean; rw [if_neg (by rw [h4]; decide), ix_nI (show t2 < 2 ^ 31 by omega)]), u1, u3⟩
  · refine g_ldc2 C (-9223372036854775808) dX7_mean_7 (List.mem_of_getElem? (i := 229) (by decide +kernel)) ?_
    refine g_lret C dX7_mean_10 ?_
    exact ⟨congrArg (fun v => some (Value.long v)) (by simp [aMean, h4]; rfl), hs, Fs.rf⟩
