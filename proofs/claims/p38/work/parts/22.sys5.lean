/-! ShapeMoves: which signs are active; seen, fits, odds, mean -/
theorem bI_1 {b : Bool} : bI b = nI 1 ↔ b = true := by cases b <;> decide
theorem bI_0 {b : Bool} : bI b = nI 0 ↔ b = false := by cases b <;> decide
def PtOk (p : Pts) : Prop := p.1 ≤ 8 ∧ ∀ i j, i < p.1 → j < p.1 → p.2 i 0 = p.2 j 0 → p.2 i 1 = p.2 j 1 → p.2 i 2 = p.2 j 2 → i = j
/-- a set-up as calls make it -/
def SuOk (u : Su) : Prop := PtOk u.1 ∧ (∀ j, j < u.2.1.1 → u.2.1.2.1 j < 48 ∧ u.2.1.2.2 j < 2) ∧ (∀ j, j < u.2.2.1.1 → u.2.2.1.2.1 j < 4 ∧ u.2.2.1.2.2 j < 48) ∧ ∀ j, j < u.2.2.2.1 → u.2.2.2.2.1 j < 48 ∧ u.2.2.2.2.2 j ≤ 6
def asL (P : Nat → Nat → Int32) (n : Nat) (A B : Nat → Nat) : Nat → Nat → Bool
  | 0, _ => true
  | k + 1, r => if kpt P n (A r) = decide (B r = 1) then asL P n A B k (r + 1) else false
def asW (P : Nat → Nat → Int32) (n : Nat) (w : Rw) : Bool := asL P n w.2.1 w.2.2 w.1 0
def ftL (P : Nat → Nat → Int32) (n j : Nat) (w : Rw) : Nat → Nat → Option Nat → Nat × Option Nat
  | 0, c, b => (c, b)
  | k + 1, c, b => if asW (pMark P j (nI k)) n w = true then ftL P n j w k (c + 1) (some k) else ftL P n j w k c b
def aFits (s : Ms) (p w : Int32) : Int32 := if (hpB s.1.1.1 p && inB w 0 1) = false then -1 else if w = 0 then nI (ftL s.1.1.2 s.1.1.1 (ix p) s.1.2.1 5 0 none).1 else oI (ftL s.1.1.2 s.1.1.1 (ix p) s.1.2.1 5 0 none).2
def vI : Nat → Int32
  | 0 => -1
  | k + 1 => nI k
theorem vI_m (k : Nat) : nI k + Int32.ofInt (-1) = vI k := by
  cases k with
  | zero => decide
  | succ k => exact pk_m1 k
def odL (P : Nat → Nat → Int32) (n j m : Nat) : Nat → Nat → Nat → Nat
  | 0, _, c => c
  | k + 1, v, c => odL P n j m k (v + 1) (if m ≤ ksL (pMark P j (nI v)) n 48 0 0 then c + 1 else c)
def NOv : Int64 := -9223372036854775808
def aOdds (s : Ms) (p m t : Int32) : Int64 := if (hpB s.1.1.1 p && (inB m 0 48 && inB t 0 1)) = false then NOv else (nI (pfL (odL s.1.1.2 s.1.1.1 (ix p) (ix m) 5 0 0) 5 (if ix t = 0 then odL s.1.1.2 s.1.1.1 (ix p) (ix m) 5 0 0 else 5) 5)).toInt64
def aMean (s : Ms) (t : Int32) : Int64 := if inB t 0 1 = false then NOv else (nI (pfL (otL (gL s) (gL s).length 0 0) (gL s).length (if ix t = 0 then otL (gL s) (gL s).length 0 0 else (gL s).length) (gL s).length)).toInt64
def sSeen (s : Ms) (w : Rw) : Ms := ((s.1.1, w, s.1.2.2), s.2)
def aSee (s : Ms) (m : Int32) : Int32 := if m = -1 then nI 0 else if isMv m = false then -1 else if s.1.2.1.1 = 5 then -4 else nI (s.1.2.1.1 + 1)
def tSee (s : Ms) (m z : Int32) : Ms := if m = -1 then sSeen s (0, s.1.2.1.2) else if isMv m = false then s else if s.1.2.1.1 = 5 then s else sSeen s (s.1.2.1.1 + 1, (fun j => if j = s.1.2.1.1 then ix m else s.1.2.1.2.1 j), (fun j => if j = s.1.2.1.1 then (if z = 0 then 0 else 1) else s.1.2.1.2.2 j))
theorem ordN_le : ∀ a, a < 48 → ordN a ≤ 6 ∧ 1 ≤ ordN a := by decide +kernel
theorem otL_le {L : List Nat} (hL : ∀ j, j < L.length → lg L j < 48) : ∀ (k i s : Nat), L.length = i + k → otL L k i s ≤ s + 6 * k := by
  intro k
  induction k with
  | zero => intro i s _; exact Nat.le_refl _
  | succ k ih =>
    intro i s hi
    unfold otL
    have := ih (i + 1) (s + ordN (lg L i)) (by omega)
    have := (ordN_le _ (hL i (by omega))).1
    omega
theorem pMark0 {P : Nat → Nat → Int32} {j : Nat} : pMark P j (P j 3) = P := by
  funext p i
  simp only [pMark]
  split
  · rename_i h; rw [h.1, h.2]
  · rfl
theorem sh_mk9 {σ : St} {n j : Nat} {P : Nat → Nat → Int32} {a v : Int32} (h : ShIs σ 9 n (pMark P j a)) (hj : j < n) : ShIs (sI σ 11 (upd (σ.1 11) j v)) 9 n (pMark P j v) := by
  obtain ⟨hk, h8, hsz, hk1, hk2, hP⟩ := h
  refine ⟨hk, h8, by rw [sI_ne (by decide)]; exact hsz, hk1, hk2, fun p hp => ?_⟩
  rw [sI_ne (show 9 + 1 ≠ 11 by decide)]
  obtain ⟨a1, a2, a3, a4⟩ := hP p hp
  refine ⟨by rw [a1]; simp [pMark], by rw [a2]; simp [pMark], by rw [a3]; simp [pMark], ?_⟩
  show (sI σ 11 (upd (σ.1 11) j v)).1 11 p = _
  rw [sI_self]
  by_cases e : p = j
  · subst e; rw [up_i]; simp [pMark]
  · rw [up_n e, show σ.1 11 p = _ from a4]; simp [pMark, e]
theorem Sy.tr9 {σ σ' : St} {s : Ms} (h : SyIs σ s) (hF : Fr [9, 10, 11] σ σ') : SyIs σ' s := by
  obtain ⟨h1, h2, h3, h4, h5⟩ := h
  exact ⟨h1.go hF (by decide), h2.go (by rw [(hF 0 (by simp)).1]) hF (by decide), h3.go (by rw [(hF 0 (by simp)).1]) hF (by decide), h4.go hF (by simp) (by simp), h5.go hF (by decide)⟩
theorem Sy.seen {σ σ' : St} {s : Ms} {w : Rw} (h : SyIs σ s) (hF : Fr [12, 13, 14] σ σ') (hR : RwN σ' 12 5 w) : SyIs σ' (sSeen s w) := by
  obtain ⟨h1, h2, h3, h4, h5⟩ := h
  exact ⟨⟨h1.1.go hF (by simp) (by simp) (by simp), hR, h1.2.2.1.go hF (by simp) (by simp) (by simp), h1.2.2.2.go hF (by simp) (by simp) (by simp)⟩, h2.go (by rw [(hF 0 (by simp)).1]) hF (by decide), h3.go (by rw [(hF 0 (by simp)).1]) hF (by decide), h4.go hF (by simp) (by simp), h5.go hF (by decide)⟩
theorem RwN.add {σ : St} {r cap : Nat} {w : Rw} {x y : Nat} {X Y : Int32} (h : RwIs σ r cap (w.1 + 1) (upd (fun j => nI (w.2.1 j)) w.1 X) (upd (fun j => nI (w.2.2 j)) w.1 Y)) (hx : X = nI x) (hy : Y = nI y) : RwN σ r cap (w.1 + 1, (fun j => if j = w.1 then x else w.2.1 j), (fun j => if j = w.1 then y else w.2.2 j)) := by
  subst hx; subst hy
  obtain ⟨a1, a2, a3, a4, a5, a6, a7⟩ := h
  refine ⟨a1, a2, a3, a4, a5, a6, fun j hj => ?_⟩
  obtain ⟨b1, b2⟩ := a7 j hj
  rw [b1, b2]
  by_cases e : j = w.1
  · subst e; simp [upd]
  · simp [upd, e]
set_option maxHeartbeats 4000000 in
set_option maxRecDepth 100000 in
theorem c_X7_see {E : Ev} {d : Nat} {σ : St} {s : Ms} (hs : SyIs σ s) {m z : Int32} : Con E (d + 1) yX7_see cX7_see 3 ((Option.some FieldType.int)) [.ref (ev_a E 0), .int m, .int z] σ (SyTo (.int (aSee s m)) σ (tSee s m z)) := by
  refine con_of (by decide) (Nat.le_of_ble_eq_true rfl) (fun X hX C => ?_)
  have C : Cx E X cX7_see RX7 3 ((Option.some FieldType.int)) := C
  obtain ⟨hS, hI, hO, hT, hA⟩ := id hs
  have hn8 : s.1.1.1 ≤ 8 := hS.1.2.1
  show G E _ X _ _ _ 0 [(0, .ref (ev_a E 0)), (1, .int m), (2, .int z)] []
  refine g_iload_n C dX7_see_0 rfl ?_
  refine g_icz (v := -1) C dX7_see_1 (by decide) ?_
  refine g_icne C 16 dX7_see_2 (by decide) (fun h2 => ?_) (fun h2 => ?_)
  · refine g_iload_n C dX7_see_16 rfl ?_
    refine g_callSp C (c_X1_isMove (d := d) ) dX7_see_17 km_RX7_130 kn_RX1 kc_yX1_isMove ks_yX1_isMove (by omega) (by decide) ⟨by decide, by decide, rfl⟩ rfl (Nat.le_of_ble_eq_true rfl) ?_
    refine g_ifneB C 25 dX7_see_20 (by decide) (fun h20 => ?_) (fun h20 => ?_)
    · obtain ⟨j, hj, rfl⟩ := isMv_t h20
      refine g_aload_n C dX7_see_25 rfl ?_
      refine gf_X7_now C (by rfl) dX7_see_26 kf_RX7_12 ?_
      refine gn_X3_seen C (by rfl) dX7_see_29 nw_X7_209 ?_
      refine g_callVp C (ob_X2 (by rfl)) (c_X2_isFull (d := d) hS.2.1) dX7_see_32 km_RX7_218 kn_RX2 kc_yX2_isFull ki_yX2_isFull kx_yX2_isFull (by omega) (by decide) ⟨by decide, by decide, rfl⟩ rfl (Nat.le_of_ble_eq_true rfl) ?_
      refine g_ifeqB C 43 dX7_see_35 (by decide) (fun h35 => ?_) (fun h35 => ?_)
      · refine g_aload_n C dX7_see_43 rfl ?_
        refine gf_X7_now C (by rfl) dX7_see_44 kf_RX7_12 ?_
        refine gn_X3_seen C (by rfl) dX7_see_47 nw_X7_209 ?_
        refine g_iload_n C dX7_see_50 rfl ?_
        refine g_iload_n C dX7_see_51 rfl ?_
        refine g_ifeq C 59 dX7_see_52 (by decide) (fun h52 => ?_) (fun h52 => ?_)
        · refine g_ic (n := 0) C dX7_see_59 (by decide) ?_
          refine g_callV C (ob_X2 (by rfl)) (c_X2_add (d := d) hS.2.1 (by have := hS.2.1.2.2.2.1; have := of_decide_eq_false h35; omega)) dX7_see_60 km_RX7_221 kn_RX2 kc_yX2_add ki_yX2_add kx_yX2_add (by omega) (by decide) ⟨by decide, by decide, rfl⟩ rfl (Nat.le_of_ble_eq_true rfl) (fun r1 σ1 q1 => ?_)
          obtain ⟨rfl, u1, u2⟩ := q1
          refine g_iret C dX7_see_63 ?_
          first | exact ⟨congrArg (fun v => some (Value.int v)) (by unfold aSee; rw [if_neg h2, if_neg (by rw [h20]; decide), if_pos (of_decide_eq_true h35)]), by rw [show tSee s (nI j) z = s from by unfold tSee; rw [if_neg h2, if_neg (by rw [h20]; decide), if_pos (of_decide_eq_true h35)]]; exact hs, Fs.rf⟩ | exact ⟨congrArg (fun v => some (Value.int v)) (by unfold aSee; rw [if_neg h2, if_neg (by rw [h20]; decide), if_neg (of_decide_eq_false h35)]), by rw [show tSee s (nI j) z = sSeen s (s.1.2.1.1 + 1, (fun i => if i = s.1.2.1.1 then j else s.1.2.1.2.1 i), (fun i => if i = s.1.2.1.1 then (if z = 0 then 0 else 1) else s.1.2.1.2.2 i)) from by unfold tSee; rw [if_neg h2, if_neg (by rw [h20]; decide), if_neg (of_decide_eq_false h35), ix_nI (show j < 2 ^ 31 by omega)]]; exact Sy.seen hs u2 (RwN.add u1 rfl (by first | rw [if_pos h52] | rw [if_neg h52])), u2.s (by decide)⟩
        · refine g_ic (n := 1) C dX7_see_55 (by decide) ?_
          refine g_goto C 60 dX7_see_56 (by decide) ?_
          refine g_callV C (ob_X2 (by rfl)) (c_X2_add (d := d) hS.2.1 (by have := hS.2.1.2.2.2.1; have := of_decide_eq_false h35; omega)) dX7_see_60 km_RX7_221 kn_RX2 kc_yX2_add ki_yX2_add kx_yX2_add (by omega) (by decide) ⟨by decide, by decide, rfl⟩ rfl (Nat.le_of_ble_eq_true rfl) (fun r1 σ1 q1 => ?_)
          obtain ⟨rfl, u1, u2⟩ := q1
          refine g_iret C dX7_see_63 ?_
          first | exact ⟨congrArg (fun v => some (Value.int v)) (by unfold aSee; rw [if_neg h2, if_neg (by rw [h20]; decide), if_pos (of_decide_eq_true h35)]), by rw [show tSee s (nI j) z = s from by unfold tSee; rw [if_neg h2, if_neg (by rw [h20]; decide), if_pos (of_decide_eq_true h35)]]; exact hs, Fs.rf⟩ | exact ⟨congrArg (fun v => some (Value.int v)) (by unfold aSee; rw [if_neg h2, if_neg (by rw [h20]; decide), if_neg (of_decide_eq_false h35)]), by rw [show tSee s (nI j) z = sSeen s (s.1.2.1.1 + 1, (fun i => if i = s.1.2.1.1 then j else s.1.2.1.2.1 i), (fun i => if i = s.1.2.1.1 then (if z = 0 then 0 else 1) else s.1.2.1.2.2 i)) from by unfold tSee; rw [if_neg h2, if_neg (by rw [h20]; decide), if_neg (of_decide_eq_false h35), ix_nI (show j < 2 ^ 31 by omega)]]; exact Sy.seen hs u2 (RwN.add u1 rfl (by first | rw [if_pos h52] | rw [if_neg h52])), u2.s (by decide)⟩
      · refine g_bp C (-4) dX7_see_38 (by decide) ?_
        refine g_goto C 63 dX7_see_40 (by decide) ?_
        refine g_iret C dX7_see_63 ?_
        first | exact ⟨congrArg (fun v => some (Value.int v)) (by unfold aSee; rw [if_neg h2, if_neg (by rw [h20]; decide), if_pos (of_decide_eq_true h35)]), by rw [show tSee s (nI j) z = s from by unfold tSee; rw [if_neg h2, if_neg (by rw [h20]; decide), if_pos (of_decide_eq_true h35)]]; exact hs, Fs.rf⟩ | exact ⟨congrArg (fun v => some (Value.int v)) (by unfold aSee; rw [if_neg h2, if_neg (by rw [h20]; decide), if_neg (of_decide_eq_false h35)]), by rw [show tSee s (nI j) z = sSeen s (s.1.2.1.1 + 1, (fun i => if i = s.1.2.1.1 then j else s.1.2.1.2.1 i), (fun i => if i = s.1.2.1.1 then (if z = 0 then 0 else 1) else s.1.2.1.2.2 i)) from by unfold tSee; rw [if_neg h2, if_neg (by rw [h20]; decide), if_neg (of_decide_eq_false h35), ix_nI (show j < 2 ^ 31 by omega)]]; exact Sy.seen hs u2 (RwN.add u1 rfl (by first | rw [if_pos h52] | rw [if_neg h52])), u2.s (by decide)⟩
    · refine g_icz (v := -1) C dX7_see_23 (by decide) ?_
      refine g_iret C dX7_see_24 ?_
      exact ⟨congrArg (fun v => some (Value.int v)) (by unfold aSee; rw [if_neg h2, if_pos h20]), by rw [show tSee s m z = s from by unfold tSee; rw [if_neg h2, if_pos h20]]; exact hs, Fs.rf⟩
  · refine g_aload_n C dX7_see_5 rfl ?_
    refine gf_X7_now C (by rfl) dX7_see_6 kf_RX7_12 ?_
    refine gn_X3_seen C (by rfl) dX7_see_9 nw_X7_209 ?_
    refine g_callV C (ob_X2 (by rfl)) (c_X2_empty (d := d) hS.2.1) dX7_see_12 km_RX7_213 kn_RX2 kc_yX2_empty ki_yX2_empty kx_yX2_empty (by omega) (by decide) ⟨by decide, by decide, rfl⟩ rfl (Nat.le_of_ble_eq_true rfl) (fun r1 σ1 q1 => ?_)
    obtain ⟨rfl, u1, u2⟩ := q1
    refine g_iret C dX7_see_15 ?_
    exact ⟨congrArg (fun v => some (Value.int v)) (by unfold aSee; rw [if_pos h2]), by rw [show tSee s m z = sSeen s (0, s.1.2.1.2) from by unfold tSee; rw [if_pos h2]]; exact Sy.seen hs u2 u1, u2.s (by decide)⟩
