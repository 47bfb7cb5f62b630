/-! THE LAW: marks that fit, odds (wip/p38/gen/lawD.py) -/
def seenW (r : (Nat → Nat) × (Nat → Nat)) (a : Nat) (x y : Bool) : Rw := rwAdd (rwAdd (0, r) a (if x = true then 1 else 0)) 7 (if y = true then 1 else 0)
theorem bz (b : Bool) : (if bI b = 0 then 0 else 1 : Nat) = if b = true then 1 else 0 := by cases b <;> rfl
theorem bI_inj {x y : Bool} (h : bI x = bI y) : x = y := by cases x <;> cases y <;> first | rfl | exact absurd h (by decide)
theorem e_mv2 {s : Ms} {n m : Nat} {P : Nat → Nat → Int32} (h : s.1.1 = (n, P)) (hm : m < 48) : aMove s (nI m) (nI 2) = bI (kpt P n m) := by
  rw [e_move2 hm, h]
theorem seenW_as {P : Nat → Nat → Int32} {n a : Nat} {r : (Nat → Nat) × (Nat → Nat)} {x y : Bool} : asW P n (seenW r a x y) = (decide (kpt P n a = x) && decide (kpt P n 7 = y)) := as_2 (w := fun _ => (0, 0)) rfl rfl rfl rfl rfl
theorem seenW_ok {s : Ms} (h : MsOk s) {a : Nat} (ha : a < 48) {r : (Nat → Nat) × (Nat → Nat)} {x y : Bool} : MsOk (sSeen s (seenW r a x y)) := by
  refine ⟨⟨h.1.1, fun j hj => ?_, h.1.2.2⟩, h.2⟩
  have hj : j < 2 := hj
  rcases (show j = 0 ∨ j = 1 by omega) with rfl | rfl
  · exact ⟨ha, by show (if x = true then 1 else 0) < 2; split <;> decide⟩
  · exact ⟨(show (7 : Nat) < 48 by decide), by show (if y = true then 1 else 0) < 2; split <;> decide⟩
theorem ft_s {P : Nat → Nat → Int32} {n j k c : Nat} {w : Rw} {b : Option Nat} : ftL P n j w (k + 1) c b = if asW (pMark P j (nI k)) n w = true then ftL P n j w k (c + 1) (some k) else ftL P n j w k c b := rfl
theorem e_od0 {s : Ms} {n p m : Nat} {P : Nat → Nat → Int32} (h : s.1.1 = (n, P)) (hp : p < n) (h8 : n ≤ 8) (hm : m ≤ 48) : aOdds s (nI p) (nI m) (nI 0) = (nI (pfL (odL P n p m 5 0 0) 5 (odL P n p m 5 0 0) 5)).toInt64 := by
  have e := e_odds0 (s := s) (p := p) (m := m) (by rw [h]; exact hp) (by rw [h]; exact h8) hm
  rw [h] at e
  exact e
theorem e_od1 {s : Ms} {n p m : Nat} {P : Nat → Nat → Int32} (h : s.1.1 = (n, P)) (hp : p < n) (h8 : n ≤ 8) (hm : m ≤ 48) : aOdds s (nI p) (nI m) (nI 1) = (nI (pfL (odL P n p m 5 0 0) 5 5 5)).toInt64 := by
  have e := e_odds1 (s := s) (p := p) (m := m) (by rw [h]; exact hp) (by rw [h]; exact h8) hm
  rw [h] at e
  exact e
theorem vI_lt {k : Nat} (hk : k ≤ 5) : (vI k < 0 ↔ k = 0) := by
  rcases (show k = 0 ∨ k = 1 ∨ k = 2 ∨ k = 3 ∨ k = 4 ∨ k = 5 by omega) with rfl | rfl | rfl | rfl | rfl | rfl <;> decide
section LD
variable {E : Ev} {Q : State → Prop} {X : Mx} {s : Ms} {a p bd : Nat} {r : (Nat → Nat) × (Nat → Nat)}

theorem in04 : ∀ k, k ≤ 4 → inB (nI k) 0 4 = true := by decide +kernel
theorem len48 {P : Nat → Nat → Int32} {n : Nat} : (gLst P n).length ≤ 48 := by
  have := List.Nodup.length_le_of_subset (l₂ := List.range 48) (gl_nd (P := P) (n := n)) (fun x hx => List.mem_range.mpr (gl_mem.mp hx).1)
  simpa using this
theorem b_nf {b : Bool} (h : ¬ b = false) : b = true := by cases b; exact absurd rfl h; rfl
theorem od_st {d bd z : Nat} (hb : bd < 2 ^ 31) (hz : z ≤ 48) : nI d + bI (decide (¬ nI z < nI bd)) = nI ((if bd ≤ z then 1 else 0) + d) := by
  have e : decide (¬ nI z < nI bd) = decide (bd ≤ z) := decide_eq_decide.mpr ⟨fun q => by
    rcases Nat.lt_or_ge z bd with c | c
    · exact absurd ((nI_ltI (by omega) hb).mpr c) q
    · exact c, fun q c => by
    have := (nI_ltI (by omega) hb).mp c
    omega⟩
  rw [bI_add, e]
  congr 1
  by_cases h : bd ≤ z
  · rw [if_pos (decide_eq_true h), if_pos h, Nat.add_comm]
  · rw [if_neg (by simpa using h), if_neg h]; omega

set_option maxHeartbeats 4000000 in
set_option maxRecDepth 100000 in
theorem ld_v (C : CZ E (ML Q) X cL_law RL 24) (ho : MsOk s) (ha : a < 48) (hp : p < s.1.1.1) (hbd : bd ≤ 48) (kE : ∀ (v0 : Int32) (σ : St), SyIs σ (sPts (sSeen s (seenW r a (kpt s.1.1.2 s.1.1.1 a) (kpt s.1.1.2 s.1.1.1 7))) (s.1.1.1, pMark s.1.1.2 p v0)) → GZ E (ML Q) X 24 σ 567 [(0, .ref (ev_s E 3)), (1, .ref (ev_a E 0)), (2, .int (nI s.1.1.1)), (3, .int (nI (gL s).length)), (9, .int (nI a)), (10, .int (nI p)), (11, .int (nI (ftL s.1.1.2 s.1.1.1 p (seenW r a (kpt s.1.1.2 s.1.1.1 a) (kpt s.1.1.2 s.1.1.1 7)) 5 0 none).1)), (12, .int (oI (ftL s.1.1.2 s.1.1.1 p (seenW r a (kpt s.1.1.2 s.1.1.1 a) (kpt s.1.1.2 s.1.1.1 7)) 5 0 none).2)), (13, .int (s.1.1.2 p 3)), (14, .int (bI (kpt s.1.1.2 s.1.1.1 a))), (15, .int (bI (kpt s.1.1.2 s.1.1.1 7))), (16, .int (nI (ftL s.1.1.2 s.1.1.1 p (seenW r a (kpt s.1.1.2 s.1.1.1 a) (kpt s.1.1.2 s.1.1.1 7)) 5 0 none).1)), (17, .int (oI (ftL s.1.1.2 s.1.1.1 p (seenW r a (kpt s.1.1.2 s.1.1.1 a) (kpt s.1.1.2 s.1.1.1 7)) 5 0 none).2)), (18, .int (nI (odL s.1.1.2 s.1.1.1 p bd 5 0 0))), (19, .int (nI bd))] []) : ∀ (k c : Nat) (b : Option Nat) (d : Nat) (v0 : Int32) (σ : St), k ≤ 5 → ftL s.1.1.2 s.1.1.1 p (seenW r a (kpt s.1.1.2 s.1.1.1 a) (kpt s.1.1.2 s.1.1.1 7)) k c b = (ftL s.1.1.2 s.1.1.1 p (seenW r a (kpt s.1.1.2 s.1.1.1 a) (kpt s.1.1.2 s.1.1.1 7)) 5 0 none) → d = odL s.1.1.2 s.1.1.1 p bd (5 - k) k 0 → SyIs σ (sPts (sSeen s (seenW r a (kpt s.1.1.2 s.1.1.1 a) (kpt s.1.1.2 s.1.1.1 7))) (s.1.1.1, pMark s.1.1.2 p v0)) → GZ E (ML Q) X 24 σ 467 [(0, .ref (ev_s E 3)), (1, .ref (ev_a E 0)), (2, .int (nI s.1.1.1)), (3, .int (nI (gL s).length)), (9, .int (nI a)), (10, .int (nI p)), (11, .int (nI (ftL s.1.1.2 s.1.1.1 p (seenW r a (kpt s.1.1.2 s.1.1.1 a) (kpt s.1.1.2 s.1.1.1 7)) 5 0 none).1)), (12, .int (oI (ftL s.1.1.2 s.1.1.1 p (seenW r a (kpt s.1.1.2 s.1.1.1 a) (kpt s.1.1.2 s.1.1.1 7)) 5 0 none).2)), (13, .int (s.1.1.2 p 3)), (14, .int (bI (kpt s.1.1.2 s.1.1.1 a))), (15, .int (bI (kpt s.1.1.2 s.1.1.1 7))), (16, .int (nI c)), (17, .int (oI b)), (18, .int (nI d)), (19, .int (nI bd)), (20, .int (vI k))] [] := by
  have h8 : s.1.1.1 ≤ 8 := ho.1.1.1
  intro k
  induction k with
  | zero =>
    intro c b d v0 σ hk hft hd hs
    refine z_iload C dL_law_467 rfl ?_
    refine z_iflt C 567 dL_law_469 (by decide) (fun h469 => ?_) (fun h469 => ?_)
    · refine z_loc ([(0, .ref (ev_s E 3)), (1, .ref (ev_a E 0)), (2, .int (nI s.1.1.1)), (3, .int (nI (gL s).length)), (9, .int (nI a)), (10, .int (nI p)), (11, .int (nI (ftL s.1.1.2 s.1.1.1 p (seenW r a (kpt s.1.1.2 s.1.1.1 a) (kpt s.1.1.2 s.1.1.1 7)) 5 0 none).1)), (12, .int (oI (ftL s.1.1.2 s.1.1.1 p (seenW r a (kpt s.1.1.2 s.1.1.1 a) (kpt s.1.1.2 s.1.1.1 7)) 5 0 none).2)), (13, .int (s.1.1.2 p 3)), (14, .int (bI (kpt s.1.1.2 s.1.1.1 a))), (15, .int (bI (kpt s.1.1.2 s.1.1.1 7))), (16, .int (nI c)), (17, .int (oI b)), (18, .int (nI d)), (19, .int (nI bd))]) ⟨rfl, rfl, rfl, rfl, rfl, rfl, rfl, rfl, rfl, rfl, rfl, rfl, rfl, rfl, rfl, trivial⟩ ?_
      have hc : c = (ftL s.1.1.2 s.1.1.1 p (seenW r a (kpt s.1.1.2 s.1.1.1 a) (kpt s.1.1.2 s.1.1.1 7)) 5 0 none).1 := by rw [← hft]; rfl
      have hb : b = (ftL s.1.1.2 s.1.1.1 p (seenW r a (kpt s.1.1.2 s.1.1.1 a) (kpt s.1.1.2 s.1.1.1 7)) 5 0 none).2 := by rw [← hft]; rfl
      rw [hc, hb, hd]
      exact kE v0 σ hs
    · exact absurd ((vI_lt (by decide)).mpr rfl) h469
  | succ k ih =>
    intro c b d v0 σ hk hft hd hs
    refine z_iload C dL_law_467 rfl ?_
    refine z_iflt C 567 dL_law_469 (by decide) (fun h469 => ?_) (fun h469 => ?_)
    · exact absurd ((vI_lt (k := k + 1) (by omega)).mp h469) (by omega)
    · refine z_loc ([(0, .ref (ev_s E 3)), (1, .ref (ev_a E 0)), (2, .int (nI s.1.1.1)), (3, .int (nI (gL s).length)), (9, .int (nI a)), (10, .int (nI p)), (11, .int (nI (ftL s.1.1.2 s.1.1.1 p (seenW r a (kpt s.1.1.2 s.1.1.1 a) (kpt s.1.1.2 s.1.1.1 7)) 5 0 none).1)), (12, .int (oI (ftL s.1.1.2 s.1.1.1 p (seenW r a (kpt s.1.1.2 s.1.1.1 a) (kpt s.1.1.2 s.1.1.1 7)) 5 0 none).2)), (13, .int (s.1.1.2 p 3)), (14, .int (bI (kpt s.1.1.2 s.1.1.1 a))), (15, .int (bI (kpt s.1.1.2 s.1.1.1 7))), (16, .int (nI c)), (17, .int (oI b)), (18, .int (nI d)), (19, .int (nI bd)), (20, .int (nI k))]) ⟨rfl, rfl, rfl, rfl, rfl, rfl, rfl, rfl, rfl, rfl, rfl, rfl, rfl, rfl, rfl, rfl, trivial⟩ ?_
      have hlen : (gLst (pMark s.1.1.2 p (nI k)) s.1.1.1).length ≤ 48 := len48
      have k541 : ∀ σ : St, SyIs σ (sPts (sSeen s (seenW r a (kpt s.1.1.2 s.1.1.1 a) (kpt s.1.1.2 s.1.1.1 7))) (s.1.1.1, pMark s.1.1.2 p (nI k))) → GZ E (ML Q) X 24 σ 541 [(0, .ref (ev_s E 3)), (1, .ref (ev_a E 0)), (2, .int (nI s.1.1.1)), (3, .int (nI (gL s).length)), (9, .int (nI a)), (10, .int (nI p)), (11, .int (nI (ftL s.1.1.2 s.1.1.1 p (seenW r a (kpt s.1.1.2 s.1.1.1 a) (kpt s.1.1.2 s.1.1.1 7)) 5 0 none).1)), (12, .int (oI (ftL s.1.1.2 s.1.1.1 p (seenW r a (kpt s.1.1.2 s.1.1.1 a) (kpt s.1.1.2 s.1.1.1 7)) 5 0 none).2)), (13, .int (s.1.1.2 p 3)), (14, .int (bI (kpt s.1.1.2 s.1.1.1 a))), (15, .int (bI (kpt s.1.1.2 s.1.1.1 7))), (16, .int (nI (c + if (decide (kpt (pMark s.1.1.2 p (nI k)) s.1.1.1 a = (kpt s.1.1.2 s.1.1.1 a)) && decide (kpt (pMark s.1.1.2 p (nI k)) s.1.1.1 7 = (kpt s.1.1.2 s.1.1.1 7))) = true then 1 else 0))), (17, .int (oI (if (decide (kpt (pMark s.1.1.2 p (nI k)) s.1.1.1 a = (kpt s.1.1.2 s.1.1.1 a)) && decide (kpt (pMark s.1.1.2 p (nI k)) s.1.1.1 7 = (kpt s.1.1.2 s.1.1.1 7))) = true then some k else b))), (18, .int (nI d)), (19, .int (nI bd)), (20, .int (nI k)), (21, .int (bI (decide (kpt (pMark s.1.1.2 p (nI k)) s.1.1.1 a = (kpt s.1.1.2 s.1.1.1 a)) && decide (kpt (pMark s.1.1.2 p (nI k)) s.1.1.1 7 = (kpt s.1.1.2 s.1.1.1 7)))))] [] := by
        intro σ hs
        refine z_iload C dL_law_541 rfl ?_
        refine z_aload_n C dL_law_543 rfl ?_
        refine z_ic (n := 1) C dL_law_544 (by decide) ?_
        refine z_sy C (c_X7_told (d := 0) hs) dL_law_545 km_RL_24 kc_yX7_told ki_yX7_told kx_yX7_told rfl (Nat.le_of_ble_eq_true rfl) (Nat.le_of_ble_eq_true rfl) rfl rfl (Nat.le_of_ble_eq_true rfl) (fun σ hs => ?_)
        rw [e_told1]
        refine z_iload C dL_law_548 rfl ?_
        refine z_m3 C dL_law_550 dL_law_553 dL_law_554 dL_law_557 ?_
        refine z_iadd C dL_law_558 ?_
        rw [show nI d + bI (decide (¬ nI (gL (sPts (sSeen s (seenW r a (kpt s.1.1.2 s.1.1.1 a) (kpt s.1.1.2 s.1.1.1 7))) (s.1.1.1, pMark s.1.1.2 p (nI k)))).length < nI bd)) = nI ((if bd ≤ (gLst (pMark s.1.1.2 p (nI k)) s.1.1.1).length then 1 else 0) + d) from od_st (by omega) hlen]
        refine z_istore C dL_law_559 (by decide) ?_
        refine z_iinc C (vI k) dL_law_561 rfl (vI_m k) (by decide) ?_
        refine z_goto C 467 dL_law_564 (by decide) ?_
        refine z_loc ([(0, .ref (ev_s E 3)), (1, .ref (ev_a E 0)), (2, .int (nI s.1.1.1)), (3, .int (nI (gL s).length)), (9, .int (nI a)), (10, .int (nI p)), (11, .int (nI (ftL s.1.1.2 s.1.1.1 p (seenW r a (kpt s.1.1.2 s.1.1.1 a) (kpt s.1.1.2 s.1.1.1 7)) 5 0 none).1)), (12, .int (oI (ftL s.1.1.2 s.1.1.1 p (seenW r a (kpt s.1.1.2 s.1.1.1 a) (kpt s.1.1.2 s.1.1.1 7)) 5 0 none).2)), (13, .int (s.1.1.2 p 3)), (14, .int (bI (kpt s.1.1.2 s.1.1.1 a))), (15, .int (bI (kpt s.1.1.2 s.1.1.1 7))), (16, .int (nI (c + if (decide (kpt (pMark s.1.1.2 p (nI k)) s.1.1.1 a = (kpt s.1.1.2 s.1.1.1 a)) && decide (kpt (pMark s.1.1.2 p (nI k)) s.1.1.1 7 = (kpt s.1.1.2 s.1.1.1 7))) = true then 1 else 0))), (17, .int (oI (if (decide (kpt (pMark s.1.1.2 p (nI k)) s.1.1.1 a = (kpt s.1.1.2 s.1.1.1 a)) && decide (kpt (pMark s.1.1.2 p (nI k)) s.1.1.1 7 = (kpt s.1.1.2 s.1.1.1 7))) = true then some k else b))), (18, .int (nI ((if bd ≤ (gLst (pMark s.1.1.2 p (nI k)) s.1.1.1).length then 1 else 0) + d))), (19, .int (nI bd)), (20, .int (vI k))]) ⟨rfl, rfl, rfl, rfl, rfl, rfl, rfl, rfl, rfl, rfl, rfl, rfl, rfl, rfl, rfl, rfl, trivial⟩ ?_
        exact ih _ _ _ (nI k) σ (by omega) (by
          rw [← hft, ft_s, seenW_as]
          by_cases q : (decide (kpt (pMark s.1.1.2 p (nI k)) s.1.1.1 a = (kpt s.1.1.2 s.1.1.1 a)) && decide (kpt (pMark s.1.1.2 p (nI k)) s.1.1.1 7 = (kpt s.1.1.2 s.1.1.1 7))) = true
          · rw [if_pos q, if_pos q, if_pos q]
          · rw [if_neg q, if_neg q, if_neg q, Nat.add_zero]) (by
          rw [hd, show 5 - k = (4 - k) + 1 by omega, od_s, show 5 - (k + 1) = 4 - k by omega]) hs
      have k539 : ∀ (x : Int32) (σ : St), SyIs σ (sPts (sSeen s (seenW r a (kpt s.1.1.2 s.1.1.1 a) (kpt s.1.1.2 s.1.1.1 7))) (s.1.1.1, pMark s.1.1.2 p (nI k))) → x = oI (if (decide (kpt (pMark s.1.1.2 p (nI k)) s.1.1.1 a = (kpt s.1.1.2 s.1.1.1 a)) && decide (kpt (pMark s.1.1.2 p (nI k)) s.1.1.1 7 = (kpt s.1.1.2 s.1.1.1 7))) = true then some k else b) → GZ E (ML Q) X 24 σ 539 [(0, .ref (ev_s E 3)), (1, .ref (ev_a E 0)), (2, .int (nI s.1.1.1)), (3, .int (nI (gL s).length)), (9, .int (nI a)), (10, .int (nI p)), (11, .int (nI (ftL s.1.1.2 s.1.1.1 p (seenW r a (kpt s.1.1.2 s.1.1.1 a) (kpt s.1.1.2 s.1.1.1 7)) 5 0 none).1)), (12, .int (oI (ftL s.1.1.2 s.1.1.1 p (seenW r a (kpt s.1.1.2 s.1.1.1 a) (kpt s.1.1.2 s.1.1.1 7)) 5 0 none).2)), (13, .int (s.1.1.2 p 3)), (14, .int (bI (kpt s.1.1.2 s.1.1.1 a))), (15, .int (bI (kpt s.1.1.2 s.1.1.1 7))), (16, .int (nI (c + if (decide (kpt (pMark s.1.1.2 p (nI k)) s.1.1.1 a = (kpt s.1.1.2 s.1.1.1 a)) && decide (kpt (pMark s.1.1.2 p (nI k)) s.1.1.1 7 = (kpt s.1.1.2 s.1.1.1 7))) = true then 1 else 0))), (17, .int (oI b)), (18, .int (nI d)), (19, .int (nI bd)), (20, .int (nI k)), (21, .int (bI (decide (kpt (pMark s.1.1.2 p (nI k)) s.1.1.1 a = (kpt s.1.1.2 s.1.1.1 a)) && decide (kpt (pMark s.1.1.2 p (nI k)) s.1.1.1 7 = (kpt s.1.1.2 s.1.1.1 7)))))] [.int (x)] := by
        intro x σ hs hx
        subst hx
        refine z_istore C dL_law_539 (by decide) ?_
        refine z_loc ([(0, .ref (ev_s E 3)), (1, .ref (ev_a E 0)), (2, .int (nI s.1.1.1)), (3, .int (nI (gL s).length)), (9, .int (nI a)), (10, .int (nI p)), (11, .int (nI (ftL s.1.1.2 s.1.1.1 p (seenW r a (kpt s.1.1.2 s.1.1.1 a) (kpt s.1.1.2 s.1.1.1 7)) 5 0 none).1)), (12, .int (oI (ftL s.1.1.2 s.1.1.1 p (seenW r a (kpt s.1.1.2 s.1.1.1 a) (kpt s.1.1.2 s.1.1.1 7)) 5 0 none).2)), (13, .int (s.1.1.2 p 3)), (14, .int (bI (kpt s.1.1.2 s.1.1.1 a))), (15, .int (bI (kpt s.1.1.2 s.1.1.1 7))), (16, .int (nI (c + if (decide (kpt (pMark s.1.1.2 p (nI k)) s.1.1.1 a = (kpt s.1.1.2 s.1.1.1 a)) && decide (kpt (pMark s.1.1.2 p (nI k)) s.1.1.1 7 = (kpt s.1.1.2 s.1.1.1 7))) = true then 1 else 0))), (17, .int (oI (if (decide (kpt (pMark s.1.1.2 p (nI k)) s.1.1.1 a = (kpt s.1.1.2 s.1.1.1 a)) && decide (kpt (pMark s.1.1.2 p (nI k)) s.1.1.1 7 = (kpt s.1.1.2 s.1.1.1 7))) = true then some k else b))), (18, .int (nI d)), (19, .int (nI bd)), (20, .int (nI k)), (21, .int (bI (decide (kpt (pMark s.1.1.2 p (nI k)) s.1.1.1 a = (kpt s.1.1.2 s.1.1.1 a)) && decide (kpt (pMark s.1.1.2 p (nI k)) s.1.1.1 7 = (kpt s.1.1.2 s.1.1.1 7)))))]) ⟨rfl, rfl, rfl, rfl, rfl, rfl, rfl, rfl, rfl, rfl, rfl, rfl, rfl, rfl, rfl, rfl, rfl, trivial⟩ ?_
        exact k541 σ hs
      have k510 : ∀ (x : Int32) (σ : St), SyIs σ (sPts (sSeen s (seenW r a (kpt s.1.1.2 s.1.1.1 a) (kpt s.1.1.2 s.1.1.1 7))) (s.1.1.1, pMark s.1.1.2 p (nI k))) → x = bI (decide (kpt (pMark s.1.1.2 p (nI k)) s.1.1.1 a = (kpt s.1.1.2 s.1.1.1 a)) && decide (kpt (pMark s.1.1.2 p (nI k)) s.1.1.1 7 = (kpt s.1.1.2 s.1.1.1 7))) → GZ E (ML Q) X 24 σ 510 [(0, .ref (ev_s E 3)), (1, .ref (ev_a E 0)), (2, .int (nI s.1.1.1)), (3, .int (nI (gL s).length)), (9, .int (nI a)), (10, .int (nI p)), (11, .int (nI (ftL s.1.1.2 s.1.1.1 p (seenW r a (kpt s.1.1.2 s.1.1.1 a) (kpt s.1.1.2 s.1.1.1 7)) 5 0 none).1)), (12, .int (oI (ftL s.1.1.2 s.1.1.1 p (seenW r a (kpt s.1.1.2 s.1.1.1 a) (kpt s.1.1.2 s.1.1.1 7)) 5 0 none).2)), (13, .int (s.1.1.2 p 3)), (14, .int (bI (kpt s.1.1.2 s.1.1.1 a))), (15, .int (bI (kpt s.1.1.2 s.1.1.1 7))), (16, .int (nI c)), (17, .int (oI b)), (18, .int (nI d)), (19, .int (nI bd)), (20, .int (nI k))] [.int (x)] := by
        intro x σ hs hx
        subst hx
        refine z_istore C dL_law_510 (by decide) ?_
        refine z_loc ([(0, .ref (ev_s E 3)), (1, .ref (ev_a E 0)), (2, .int (nI s.1.1.1)), (3, .int (nI (gL s).length)), (9, .int (nI a)), (10, .int (nI p)), (11, .int (nI (ftL s.1.1.2 s.1.1.1 p (seenW r a (kpt s.1.1.2 s.1.1.1 a) (kpt s.1.1.2 s.1.1.1 7)) 5 0 none).1)), (12, .int (oI (ftL s.1.1.2 s.1.1.1 p (seenW r a (kpt s.1.1.2 s.1.1.1 a) (kpt s.1.1.2 s.1.1.1 7)) 5 0 none).2)), (13, .int (s.1.1.2 p 3)), (14, .int (bI (kpt s.1.1.2 s.1.1.1 a))), (15, .int (bI (kpt s.1.1.2 s.1.1.1 7))), (16, .int (nI c)), (17, .int (oI b)), (18, .int (nI d)), (19, .int (nI bd)), (20, .int (nI k)), (21, .int (bI (decide (kpt (pMark s.1.1.2 p (nI k)) s.1.1.1 a = (kpt s.1.1.2 s.1.1.1 a)) && decide (kpt (pMark s.1.1.2 p (nI k)) s.1.1.1 7 = (kpt s.1.1.2 s.1.1.1 7)))))]) ⟨rfl, rfl, rfl, rfl, rfl, rfl, rfl, rfl, rfl, rfl, rfl, rfl, rfl, rfl, rfl, rfl, rfl, trivial⟩ ?_
        refine z_iload C dL_law_512 rfl ?_
        refine z_iload C dL_law_514 rfl ?_
        refine z_m4 C dL_law_516 dL_law_519 dL_law_520 dL_law_523 ?_
        refine z_iadd C dL_law_524 ?_
        rw [bI_add]
        refine z_istore C dL_law_525 (by decide) ?_
        refine z_loc ([(0, .ref (ev_s E 3)), (1, .ref (ev_a E 0)), (2, .int (nI s.1.1.1)), (3, .int (nI (gL s).length)), (9, .int (nI a)), (10, .int (nI p)), (11, .int (nI (ftL s.1.1.2 s.1.1.1 p (seenW r a (kpt s.1.1.2 s.1.1.1 a) (kpt s.1.1.2 s.1.1.1 7)) 5 0 none).1)), (12, .int (oI (ftL s.1.1.2 s.1.1.1 p (seenW r a (kpt s.1.1.2 s.1.1.1 a) (kpt s.1.1.2 s.1.1.1 7)) 5 0 none).2)), (13, .int (s.1.1.2 p 3)), (14, .int (bI (kpt s.1.1.2 s.1.1.1 a))), (15, .int (bI (kpt s.1.1.2 s.1.1.1 7))), (16, .int (nI (c + if (decide (kpt (pMark s.1.1.2 p (nI k)) s.1.1.1 a = (kpt s.1.1.2 s.1.1.1 a)) && decide (kpt (pMark s.1.1.2 p (nI k)) s.1.1.1 7 = (kpt s.1.1.2 s.1.1.1 7))) = true then 1 else 0))), (17, .int (oI b)), (18, .int (nI d)), (19, .int (nI bd)), (20, .int (nI k)), (21, .int (bI (decide (kpt (pMark s.1.1.2 p (nI k)) s.1.1.1 a = (kpt s.1.1.2 s.1.1.1 a)) && decide (kpt (pMark s.1.1.2 p (nI k)) s.1.1.1 7 = (kpt s.1.1.2 s.1.1.1 7)))))]) ⟨rfl, rfl, rfl, rfl, rfl, rfl, rfl, rfl, rfl, rfl, rfl, rfl, rfl, rfl, rfl, rfl, rfl, trivial⟩ ?_
        refine z_iload C dL_law_527 rfl ?_
        refine z_ifeq C 537 dL_law_529 (by decide) (fun h529 => ?_) (fun h529 => ?_)
        · refine z_iload C dL_law_537 rfl ?_
          first | exact k539 _ σ hs (by rw [bI_eq0.mp h529]; rfl) | exact k539 _ σ hs (by rw [b_nf (fun q => h529 (bI_eq0.mpr q))]; rfl)
        · refine z_iload C dL_law_532 rfl ?_
          refine z_goto C 539 dL_law_534 (by decide) ?_
          first | exact k539 _ σ hs (by rw [bI_eq0.mp h529]; rfl) | exact k539 _ σ hs (by rw [b_nf (fun q => h529 (bI_eq0.mpr q))]; rfl)
      refine z_aload_n C dL_law_472 rfl ?_
      refine z_iload C dL_law_473 rfl ?_
      refine z_iload C dL_law_475 rfl ?_
      refine z_sy C (c_X7_mark (d := 0) hs) dL_law_477 km_RL_65 kc_yX7_mark ki_yX7_mark kx_yX7_mark rfl (Nat.le_of_ble_eq_true rfl) (Nat.le_of_ble_eq_true rfl) rfl rfl (Nat.le_of_ble_eq_true rfl) (fun σ hs => ?_)
      rw [e_mark (s := (sPts (sSeen s (seenW r a (kpt s.1.1.2 s.1.1.1 a) (kpt s.1.1.2 s.1.1.1 7))) (s.1.1.1, pMark s.1.1.2 p v0))) hp h8 (in04 k (by omega))] at hs
      replace hs : SyIs σ (sPts (sSeen s (seenW r a (kpt s.1.1.2 s.1.1.1 a) (kpt s.1.1.2 s.1.1.1 7))) (s.1.1.1, pMark (pMark s.1.1.2 p v0) p (nI k))) := hs
      rw [pMark_2] at hs
      refine z_pop1 C dL_law_480 ?_
      refine z_aload_n C dL_law_481 rfl ?_
      refine z_iload C dL_law_482 rfl ?_
      refine z_ic (n := 2) C dL_law_484 (by decide) ?_
      refine z_sy C (c_X7_move (d := 0) hs) dL_law_485 km_RL_42 kc_yX7_move ki_yX7_move kx_yX7_move rfl (Nat.le_of_ble_eq_true rfl) (Nat.le_of_ble_eq_true rfl) rfl rfl (Nat.le_of_ble_eq_true rfl) (fun σ hs => ?_)
      rw [e_mv2 (s := (sPts (sSeen s (seenW r a (kpt s.1.1.2 s.1.1.1 a) (kpt s.1.1.2 s.1.1.1 7))) (s.1.1.1, pMark s.1.1.2 p (nI k)))) (n := s.1.1.1) (P := (pMark s.1.1.2 p (nI k))) rfl ha]
      refine z_iload C dL_law_488 rfl ?_
      refine z_icne C 509 dL_law_490 (by decide) (fun h490 => ?_) (fun h490 => ?_)
      · refine z_ic (n := 0) C dL_law_509 (by decide) ?_
        first
          | exact k510 _ σ hs (by rw [decide_eq_true (bI_inj h490), decide_eq_true (bI_inj h502)]; rfl)
          | exact k510 _ σ hs (by rw [decide_eq_false (fun q => h502 (congrArg bI q)), Bool.and_false]; rfl)
          | exact k510 _ σ hs (by rw [decide_eq_false (fun q => h490 (congrArg bI q)), Bool.false_and]; rfl)
      · refine z_aload_n C dL_law_493 rfl ?_
        refine z_bp C (nI 7) dL_law_494 (by decide) ?_
        refine z_ic (n := 2) C dL_law_496 (by decide) ?_
        refine z_sy C (c_X7_move (d := 0) hs) dL_law_497 km_RL_42 kc_yX7_move ki_yX7_move kx_yX7_move rfl (Nat.le_of_ble_eq_true rfl) (Nat.le_of_ble_eq_true rfl) rfl rfl (Nat.le_of_ble_eq_true rfl) (fun σ hs => ?_)
        rw [e_mv2 (s := (sPts (sSeen s (seenW r a (kpt s.1.1.2 s.1.1.1 a) (kpt s.1.1.2 s.1.1.1 7))) (s.1.1.1, pMark s.1.1.2 p (nI k)))) (n := s.1.1.1) (P := (pMark s.1.1.2 p (nI k))) rfl (by decide)]
        refine z_iload C dL_law_500 rfl ?_
        refine z_icne C 509 dL_law_502 (by decide) (fun h502 => ?_) (fun h502 => ?_)
        · refine z_ic (n := 0) C dL_law_509 (by decide) ?_
          first
            | exact k510 _ σ hs (by rw [decide_eq_true (bI_inj h490), decide_eq_true (bI_inj h502)]; rfl)
            | exact k510 _ σ hs (by rw [decide_eq_false (fun q => h502 (congrArg bI q)), Bool.and_false]; rfl)
            | exact k510 _ σ hs (by rw [decide_eq_false (fun q => h490 (congrArg bI q)), Bool.false_and]; rfl)
        · refine z_ic (n := 1) C dL_law_505 (by decide) ?_
          refine z_goto C 510 dL_law_506 (by decide) ?_
          first
            | exact k510 _ σ hs (by rw [decide_eq_true (bI_inj h490), decide_eq_true (bI_inj h502)]; rfl)
            | exact k510 _ σ hs (by rw [decide_eq_false (fun q => h502 (congrArg bI q)), Bool.and_false]; rfl)
            | exact k510 _ σ hs (by rw [decide_eq_false (fun q => h490 (congrArg bI q)), Bool.false_and]; rfl)
set_option maxHeartbeats 4000000 in
set_option maxRecDepth 100000 in
theorem ld_e (C : CZ E (ML Q) X cL_law RL 24) (ho : MsOk s) (ha : a < 48) (hp : p < s.1.1.1) (hbd : bd ≤ 48) (hm : inB (s.1.1.2 p 3) 0 4 = true) (kE : ∀ σ : St, SyIs σ (sSeen s (seenW r a (kpt s.1.1.2 s.1.1.1 a) (kpt s.1.1.2 s.1.1.1 7))) → GZ E (ML Q) X 24 σ 630 [(0, .ref (ev_s E 3)), (1, .ref (ev_a E 0)), (2, .int (nI s.1.1.1)), (3, .int (nI (gL s).length)), (9, .int (nI a)), (10, .int (nI p)), (13, .int (s.1.1.2 p 3))] []) (v0 : Int32) (σ : St) (hs : SyIs σ (sPts (sSeen s (seenW r a (kpt s.1.1.2 s.1.1.1 a) (kpt s.1.1.2 s.1.1.1 7))) (s.1.1.1, pMark s.1.1.2 p v0))) : GZ E (ML Q) X 24 σ 567 [(0, .ref (ev_s E 3)), (1, .ref (ev_a E 0)), (2, .int (nI s.1.1.1)), (3, .int (nI (gL s).length)), (9, .int (nI a)), (10, .int (nI p)), (11, .int (nI (ftL s.1.1.2 s.1.1.1 p (seenW r a (kpt s.1.1.2 s.1.1.1 a) (kpt s.1.1.2 s.1.1.1 7)) 5 0 none).1)), (12, .int (oI (ftL s.1.1.2 s.1.1.1 p (seenW r a (kpt s.1.1.2 s.1.1.1 a) (kpt s.1.1.2 s.1.1.1 7)) 5 0 none).2)), (13, .int (s.1.1.2 p 3)), (14, .int (bI (kpt s.1.1.2 s.1.1.1 a))), (15, .int (bI (kpt s.1.1.2 s.1.1.1 7))), (16, .int (nI (ftL s.1.1.2 s.1.1.1 p (seenW r a (kpt s.1.1.2 s.1.1.1 a) (kpt s.1.1.2 s.1.1.1 7)) 5 0 none).1)), (17, .int (oI (ftL s.1.1.2 s.1.1.1 p (seenW r a (kpt s.1.1.2 s.1.1.1 a) (kpt s.1.1.2 s.1.1.1 7)) 5 0 none).2)), (18, .int (nI (odL s.1.1.2 s.1.1.1 p bd 5 0 0))), (19, .int (nI bd))] [] := by
  have h8 : s.1.1.1 ≤ 8 := ho.1.1.1
  have hF1 : 1 ≤ (ftL s.1.1.2 s.1.1.1 p (seenW r a (kpt s.1.1.2 s.1.1.1 a) (kpt s.1.1.2 s.1.1.1 7)) 5 0 none).1 := by
    obtain ⟨v, hv, ev⟩ := in_n (k := 4) hm
    refine ft_one (v := v) ?_ 5 0 none (by omega)
    rw [← ev, pMark_0, seenW_as, decide_eq_true rfl, decide_eq_true rfl]
    rfl
  have hF2 := ft_le (P := s.1.1.2) (n := s.1.1.1) (j := p) (w := (seenW r a (kpt s.1.1.2 s.1.1.1 a) (kpt s.1.1.2 s.1.1.1 7))) 5 0 none
  have hO5 := od_le (P := s.1.1.2) (n := s.1.1.1) (j := p) (m := bd) 5 0
  refine z_aload_n C dL_law_567 rfl ?_
  refine z_iload C dL_law_568 rfl ?_
  refine z_iload C dL_law_570 rfl ?_
  refine z_sy C (c_X7_mark (d := 0) hs) dL_law_572 km_RL_65 kc_yX7_mark ki_yX7_mark kx_yX7_mark rfl (Nat.le_of_ble_eq_true rfl) (Nat.le_of_ble_eq_true rfl) rfl rfl (Nat.le_of_ble_eq_true rfl) (fun σ hs => ?_)
  rw [e_mark (s := (sPts (sSeen s (seenW r a (kpt s.1.1.2 s.1.1.1 a) (kpt s.1.1.2 s.1.1.1 7))) (s.1.1.1, pMark s.1.1.2 p v0))) hp h8 hm] at hs
  replace hs : SyIs σ (sPts (sSeen s (seenW r a (kpt s.1.1.2 s.1.1.1 a) (kpt s.1.1.2 s.1.1.1 7))) (s.1.1.1, pMark (pMark s.1.1.2 p v0) p (s.1.1.2 p 3))) := hs
  rw [pMark_2, pMark_0] at hs
  replace hs : SyIs σ (sSeen s (seenW r a (kpt s.1.1.2 s.1.1.1 a) (kpt s.1.1.2 s.1.1.1 7))) := hs
  refine z_pop1 C dL_law_575 ?_
  refine z_iload C dL_law_576 rfl ?_
  refine z_iload C dL_law_578 rfl ?_
  refine z_icne C 596 dL_law_580 (by decide) (fun h580 => ?_) (fun h580 => ?_)
  · exact absurd rfl h580
  · refine z_iload C dL_law_583 rfl ?_
    refine z_iload C dL_law_585 rfl ?_
    refine z_icne C 596 dL_law_587 (by decide) (fun h587 => ?_) (fun h587 => ?_)
    · exact absurd rfl h587
    · refine z_iload C dL_law_590 rfl ?_
      refine z_ic (n := 1) C dL_law_592 (by decide) ?_
      refine z_icgeN C 598 dL_law_593 (by decide) (by omega) (by omega) (fun h593 => ?_) (fun h593 => ?_)
      · refine z_aload_n C dL_law_598 rfl ?_
        refine z_iload C dL_law_599 rfl ?_
        refine z_iload C dL_law_601 rfl ?_
        refine z_ic (n := 0) C dL_law_603 (by decide) ?_
        refine z_sy C (c_X7_odds (d := 0) hs) dL_law_604 km_RL_68 kc_yX7_odds ki_yX7_odds kx_yX7_odds rfl (Nat.le_of_ble_eq_true rfl) (Nat.le_of_ble_eq_true rfl) rfl rfl (Nat.le_of_ble_eq_true rfl) (fun σ hs => ?_)
        rw [e_od0 (s := sSeen s (seenW r a (kpt s.1.1.2 s.1.1.1 a) (kpt s.1.1.2 s.1.1.1 7))) (n := s.1.1.1) (P := s.1.1.2) rfl hp h8 hbd]
        refine z_ldc2 C (5) dL_law_607 (List.mem_of_getElem? (i := 553) (by decide +kernel)) ?_
        refine z_lmul C dL_law_610 ?_
        refine z_aload_n C dL_law_611 rfl ?_
        refine z_iload C dL_law_612 rfl ?_
        refine z_iload C dL_law_614 rfl ?_
        refine z_ic (n := 1) C dL_law_616 (by decide) ?_
        refine z_sy C (c_X7_odds (d := 0) hs) dL_law_617 km_RL_68 kc_yX7_odds ki_yX7_odds kx_yX7_odds rfl (Nat.le_of_ble_eq_true rfl) (Nat.le_of_ble_eq_true rfl) rfl rfl (Nat.le_of_ble_eq_true rfl) (fun σ hs => ?_)
        rw [e_od1 (s := sSeen s (seenW r a (kpt s.1.1.2 s.1.1.1 a) (kpt s.1.1.2 s.1.1.1 7))) (n := s.1.1.1) (P := s.1.1.2) rfl hp h8 hbd]
        refine z_iload C dL_law_620 rfl ?_
        refine z_i2l C _ dL_law_622 rfl ?_
        refine z_lmul C dL_law_623 ?_
        rw [show (nI (pfL (odL s.1.1.2 s.1.1.1 p bd 5 0 0) 5 (odL s.1.1.2 s.1.1.1 p bd 5 0 0) 5)).toInt64 * 5 = (nI (pfL (odL s.1.1.2 s.1.1.1 p bd 5 0 0) 5 5 5)).toInt64 * (nI (odL s.1.1.2 s.1.1.1 p bd 5 0 0)).toInt64 from nL_mul (b := 5) (by have := pf_le (a := (odL s.1.1.2 s.1.1.1 p bd 5 0 0)) (b := 5) (w := (odL s.1.1.2 s.1.1.1 p bd 5 0 0)) (k := 5); omega) (by decide) (by have := pf_le (a := (odL s.1.1.2 s.1.1.1 p bd 5 0 0)) (b := 5) (w := 5) (k := 5); omega) (by omega) pf_eq]
        refine z_lcmp C dL_law_624 ?_
        rw [lg_same]
        refine z_ifeq C 630 dL_law_625 (by decide) (fun _ => ?_) (fun q => absurd rfl q)
        refine z_loc ([(0, .ref (ev_s E 3)), (1, .ref (ev_a E 0)), (2, .int (nI s.1.1.1)), (3, .int (nI (gL s).length)), (9, .int (nI a)), (10, .int (nI p)), (13, .int (s.1.1.2 p 3))]) ⟨rfl, rfl, rfl, rfl, rfl, rfl, rfl, trivial⟩ ?_
        exact kE σ hs
      · omega
set_option maxHeartbeats 4000000 in
set_option maxRecDepth 100000 in
theorem ld_b (C : CZ E (ML Q) X cL_law RL 24) (ho : MsOk s) (ha : a < 48) (hp : p < s.1.1.1) (hm : inB (s.1.1.2 p 3) 0 4 = true) (kE : ∀ (σ : St) (w : Rw), SyIs σ (sSeen s w) → w.1 = 2 → MsOk (sSeen s w) → GZ E (ML Q) X 24 σ 630 [(0, .ref (ev_s E 3)), (1, .ref (ev_a E 0)), (2, .int (nI s.1.1.1)), (3, .int (nI (gL s).length)), (9, .int (nI a)), (10, .int (nI p)), (13, .int (s.1.1.2 p 3))] []) (σ : St) (hs : SyIs σ s) : GZ E (ML Q) X 24 σ 345 [(0, .ref (ev_s E 3)), (1, .ref (ev_a E 0)), (2, .int (nI s.1.1.1)), (3, .int (nI (gL s).length)), (9, .int (nI a)), (10, .int (nI p))] [] := by
  have h8 : s.1.1.1 ≤ 8 := ho.1.1.1
  have hok := seenW_ok ho ha (r := s.1.2.1.2) (x := (kpt s.1.1.2 s.1.1.1 a)) (y := (kpt s.1.1.2 s.1.1.1 7))
  refine z_aload_n C dL_law_345 rfl ?_
  refine z_icz (v := -1) C dL_law_346 (by decide) ?_
  refine z_ic (n := 0) C dL_law_347 (by decide) ?_
  refine z_sy C (c_X7_see (d := 0) hs) dL_law_348 km_RL_58 kc_yX7_see ki_yX7_see kx_yX7_see rfl (Nat.le_of_ble_eq_true rfl) (Nat.le_of_ble_eq_true rfl) rfl rfl (Nat.le_of_ble_eq_true rfl) (fun σ hs => ?_)
  rw [e_see0] at hs
  refine z_pop1 C dL_law_351 ?_
  refine z_aload_n C dL_law_352 rfl ?_
  refine z_iload C dL_law_353 rfl ?_
  refine z_aload_n C dL_law_355 rfl ?_
  refine z_iload C dL_law_356 rfl ?_
  refine z_ic (n := 2) C dL_law_358 (by decide) ?_
  refine z_sy C (c_X7_move (d := 0) hs) dL_law_359 km_RL_42 kc_yX7_move ki_yX7_move kx_yX7_move rfl (Nat.le_of_ble_eq_true rfl) (Nat.le_of_ble_eq_true rfl) rfl rfl (Nat.le_of_ble_eq_true rfl) (fun σ hs => ?_)
  rw [e_mv2 (s := sSeen s (0, s.1.2.1.2)) (n := s.1.1.1) (P := s.1.1.2) rfl ha]
  refine z_m1 C dL_law_362 dL_law_363 dL_law_366 dL_law_367 dL_law_370 ?_
  refine z_sy C (c_X7_see (d := 0) hs) dL_law_371 km_RL_58 kc_yX7_see ki_yX7_see kx_yX7_see rfl (Nat.le_of_ble_eq_true rfl) (Nat.le_of_ble_eq_true rfl) rfl rfl (Nat.le_of_ble_eq_true rfl) (fun σ hs => ?_)
  rw [e_see ha (show (0 : Nat) < 5 by decide), bz] at hs
  refine z_pop1 C dL_law_374 ?_
  refine z_aload_n C dL_law_375 rfl ?_
  refine z_bp C (nI 7) dL_law_376 (by decide) ?_
  refine z_aload_n C dL_law_378 rfl ?_
  refine z_bp C (nI 7) dL_law_379 (by decide) ?_
  refine z_ic (n := 2) C dL_law_381 (by decide) ?_
  refine z_sy C (c_X7_move (d := 0) hs) dL_law_382 km_RL_42 kc_yX7_move ki_yX7_move kx_yX7_move rfl (Nat.le_of_ble_eq_true rfl) (Nat.le_of_ble_eq_true rfl) rfl rfl (Nat.le_of_ble_eq_true rfl) (fun σ hs => ?_)
  rw [e_mv2 (s := sSeen s (rwAdd (0, s.1.2.1.2) a (if kpt s.1.1.2 s.1.1.1 a = true then 1 else 0))) (n := s.1.1.1) (P := s.1.1.2) rfl (by decide)]
  refine z_m1 C dL_law_385 dL_law_386 dL_law_389 dL_law_390 dL_law_393 ?_
  refine z_sy C (c_X7_see (d := 0) hs) dL_law_394 km_RL_58 kc_yX7_see ki_yX7_see kx_yX7_see rfl (Nat.le_of_ble_eq_true rfl) (Nat.le_of_ble_eq_true rfl) rfl rfl (Nat.le_of_ble_eq_true rfl) (fun σ hs => ?_)
  rw [e_see (by decide) (show (1 : Nat) < 5 by decide), bz] at hs
  replace hs : SyIs σ (sSeen s (seenW s.1.2.1.2 a (kpt s.1.1.2 s.1.1.1 a) (kpt s.1.1.2 s.1.1.1 7))) := hs
  refine z_pop1 C dL_law_397 ?_
  refine z_aload_n C dL_law_398 rfl ?_
  refine z_iload C dL_law_399 rfl ?_
  refine z_ic (n := 0) C dL_law_401 (by decide) ?_
  refine z_sy C (c_X7_fits (d := 0) hs hok.1) dL_law_402 km_RL_62 kc_yX7_fits ki_yX7_fits kx_yX7_fits rfl (Nat.le_of_ble_eq_true rfl) (Nat.le_of_ble_eq_true rfl) rfl rfl (Nat.le_of_ble_eq_true rfl) (fun σ hs => ?_)
  rw [e_fits0 (s := sSeen s (seenW s.1.2.1.2 a (kpt s.1.1.2 s.1.1.1 a) (kpt s.1.1.2 s.1.1.1 7))) hp h8]
  refine z_istore C dL_law_405 (by decide) ?_
  refine z_aload_n C dL_law_407 rfl ?_
  refine z_iload C dL_law_408 rfl ?_
  refine z_ic (n := 1) C dL_law_410 (by decide) ?_
  refine z_sy C (c_X7_fits (d := 0) hs hok.1) dL_law_411 km_RL_62 kc_yX7_fits ki_yX7_fits kx_yX7_fits rfl (Nat.le_of_ble_eq_true rfl) (Nat.le_of_ble_eq_true rfl) rfl rfl (Nat.le_of_ble_eq_true rfl) (fun σ hs => ?_)
  rw [e_fits1 (s := sSeen s (seenW s.1.2.1.2 a (kpt s.1.1.2 s.1.1.1 a) (kpt s.1.1.2 s.1.1.1 7))) hp h8]
  refine z_istore C dL_law_414 (by decide) ?_
  refine z_aload_n C dL_law_416 rfl ?_
  refine z_iload C dL_law_417 rfl ?_
  refine z_ic (n := 3) C dL_law_419 (by decide) ?_
  refine z_sy C (c_X7_of (d := 0) hs) dL_law_420 km_RL_35 kc_yX7_of ki_yX7_of kx_yX7_of rfl (Nat.le_of_ble_eq_true rfl) (Nat.le_of_ble_eq_true rfl) rfl rfl (Nat.le_of_ble_eq_true rfl) (fun σ hs => ?_)
  rw [e_of3 (s := sSeen s (seenW s.1.2.1.2 a (kpt s.1.1.2 s.1.1.1 a) (kpt s.1.1.2 s.1.1.1 7))) hp h8]
  refine z_istore C dL_law_423 (by decide) ?_
  refine z_aload_n C dL_law_425 rfl ?_
  refine z_iload C dL_law_426 rfl ?_
  refine z_ic (n := 2) C dL_law_428 (by decide) ?_
  refine z_sy C (c_X7_move (d := 0) hs) dL_law_429 km_RL_42 kc_yX7_move ki_yX7_move kx_yX7_move rfl (Nat.le_of_ble_eq_true rfl) (Nat.le_of_ble_eq_true rfl) rfl rfl (Nat.le_of_ble_eq_true rfl) (fun σ hs => ?_)
  rw [e_mv2 (s := sSeen s (seenW s.1.2.1.2 a (kpt s.1.1.2 s.1.1.1 a) (kpt s.1.1.2 s.1.1.1 7))) (n := s.1.1.1) (P := s.1.1.2) rfl ha]
  refine z_istore C dL_law_432 (by decide) ?_
  refine z_aload_n C dL_law_434 rfl ?_
  refine z_bp C (nI 7) dL_law_435 (by decide) ?_
  refine z_ic (n := 2) C dL_law_437 (by decide) ?_
  refine z_sy C (c_X7_move (d := 0) hs) dL_law_438 km_RL_42 kc_yX7_move ki_yX7_move kx_yX7_move rfl (Nat.le_of_ble_eq_true rfl) (Nat.le_of_ble_eq_true rfl) rfl rfl (Nat.le_of_ble_eq_true rfl) (fun σ hs => ?_)
  rw [e_mv2 (s := sSeen s (seenW s.1.2.1.2 a (kpt s.1.1.2 s.1.1.1 a) (kpt s.1.1.2 s.1.1.1 7))) (n := s.1.1.1) (P := s.1.1.2) rfl (by decide)]
  refine z_istore C dL_law_441 (by decide) ?_
  refine z_ic (n := 0) C dL_law_443 (by decide) ?_
  refine z_istore C dL_law_444 (by decide) ?_
  refine z_bp C (-5) dL_law_446 (by decide) ?_
  refine z_istore C dL_law_448 (by decide) ?_
  refine z_ic (n := 0) C dL_law_450 (by decide) ?_
  refine z_istore C dL_law_451 (by decide) ?_
  refine z_aload_n C dL_law_453 rfl ?_
  refine z_bp C (nI 6) dL_law_454 (by decide) ?_
  refine z_at C (k := 6) (by omega) dL_law_456 km_RL_10 (Nat.le_of_ble_eq_true rfl) (Nat.le_of_ble_eq_true rfl) (Nat.le_of_ble_eq_true rfl) ?_
  refine z_bp C (nI 15) dL_law_459 (by decide) ?_
  refine z_iand C dL_law_461 ?_
  obtain ⟨bd, hbd, ebd⟩ := and_le (x := scV E 6) (k := 15) (by decide)
  rw [ebd]
  refine z_istore C dL_law_462 (by decide) ?_
  refine z_ic (n := 4) C dL_law_464 (by decide) ?_
  refine z_istore C dL_law_465 (by decide) ?_
  refine z_loc ([(0, .ref (ev_s E 3)), (1, .ref (ev_a E 0)), (2, .int (nI s.1.1.1)), (3, .int (nI (gL s).length)), (9, .int (nI a)), (10, .int (nI p)), (11, .int (nI (ftL s.1.1.2 s.1.1.1 p (seenW s.1.2.1.2 a (kpt s.1.1.2 s.1.1.1 a) (kpt s.1.1.2 s.1.1.1 7)) 5 0 none).1)), (12, .int (oI (ftL s.1.1.2 s.1.1.1 p (seenW s.1.2.1.2 a (kpt s.1.1.2 s.1.1.1 a) (kpt s.1.1.2 s.1.1.1 7)) 5 0 none).2)), (13, .int (s.1.1.2 p 3)), (14, .int (bI (kpt s.1.1.2 s.1.1.1 a))), (15, .int (bI (kpt s.1.1.2 s.1.1.1 7))), (16, .int (nI 0)), (17, .int (oI none)), (18, .int (nI 0)), (19, .int (nI bd)), (20, .int (vI 5))]) ⟨rfl, rfl, rfl, rfl, rfl, rfl, rfl, rfl, rfl, rfl, rfl, rfl, rfl, rfl, rfl, rfl, trivial⟩ ?_
  refine ld_v C ho ha hp (by omega) (fun v0 σ hs => ld_e C ho ha hp (by omega) hm (fun σ hs => kE σ _ hs rfl hok) v0 σ hs) 5 0 none 0 (s.1.1.2 p 3) σ (Nat.le_refl _) rfl rfl ?_
  rw [pMark_0]
  exact hs
set_option maxHeartbeats 4000000 in
set_option maxRecDepth 100000 in
theorem ld_all (C : CZ E (ML Q) X cL_law RL 24) (ho : MsOk s) (h1 : 1 ≤ s.1.1.1) (hmk : ∀ p, p < s.1.1.1 → inB (s.1.1.2 p 3) 0 4 = true) (kE : ∀ (a p : Nat) (σ : St) (w : Rw), a < 48 → p < s.1.1.1 → SyIs σ (sSeen s w) → w.1 = 2 → MsOk (sSeen s w) → GZ E (ML Q) X 24 σ 630 [(0, .ref (ev_s E 3)), (1, .ref (ev_a E 0)), (2, .int (nI s.1.1.1)), (3, .int (nI (gL s).length)), (9, .int (nI a)), (10, .int (nI p)), (13, .int (s.1.1.2 p 3))] []) (σ : St) (hs : SyIs σ s) : GZ E (ML Q) X 24 σ 317 [(0, .ref (ev_s E 3)), (1, .ref (ev_a E 0)), (2, .int (nI s.1.1.1)), (3, .int (nI (gL s).length))] [] := by
  have h8 : s.1.1.1 ≤ 8 := ho.1.1.1
  refine z_aload_n C dL_law_317 rfl ?_
  refine z_ic (n := 5) C dL_law_318 (by decide) ?_
  refine z_at C (k := 5) (by omega) dL_law_319 km_RL_10 (Nat.le_of_ble_eq_true rfl) (Nat.le_of_ble_eq_true rfl) (Nat.le_of_ble_eq_true rfl) ?_
  refine z_bp C (nI 63) dL_law_322 (by decide) ?_
  refine z_iand C dL_law_324 ?_
  obtain ⟨m6, hm6, em6⟩ := and_le (x := scV E 5) (k := 63) (by decide)
  rw [em6]
  refine z_bp C (nI 48) dL_law_325 (by decide) ?_
  refine z_iremN C dL_law_327 (by omega) (by omega) (by omega) ?_
  refine z_istore C dL_law_328 (by decide) ?_
  refine z_aload_n C dL_law_330 rfl ?_
  refine z_ic (n := 5) C dL_law_331 (by decide) ?_
  refine z_at C (k := 5) (by omega) dL_law_332 km_RL_10 (Nat.le_of_ble_eq_true rfl) (Nat.le_of_ble_eq_true rfl) (Nat.le_of_ble_eq_true rfl) ?_
  refine z_bp C (nI 6) dL_law_335 (by decide) ?_
  refine z_ishr C dL_law_337 ?_
  refine z_bp C (nI 7) dL_law_338 (by decide) ?_
  refine z_iand C dL_law_340 ?_
  obtain ⟨m7, hm7, em7⟩ := and_le (x := scV E 5 >>> (nI 6 &&& 31)) (k := 7) (by decide)
  rw [em7]
  refine z_iload_n C dL_law_341 rfl ?_
  refine z_iremN C dL_law_342 (by omega) (by omega) (by omega) ?_
  refine z_istore C dL_law_343 (by decide) ?_
  refine z_loc ([(0, .ref (ev_s E 3)), (1, .ref (ev_a E 0)), (2, .int (nI s.1.1.1)), (3, .int (nI (gL s).length)), (9, .int (nI (m6 % 48))), (10, .int (nI (m7 % s.1.1.1)))]) ⟨rfl, rfl, rfl, rfl, rfl, rfl, trivial⟩ ?_
  have hpp : m7 % s.1.1.1 < s.1.1.1 := Nat.mod_lt _ h1
  exact ld_b C ho (Nat.mod_lt _ (by decide)) hpp (hmk _ hpp) (fun σ w hs hw hok => kE (m6 % 48) (m7 % s.1.1.1) σ w (Nat.mod_lt _ (by decide)) hpp hs hw hok) σ hs
end LD
