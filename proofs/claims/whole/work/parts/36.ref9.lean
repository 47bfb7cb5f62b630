/-! THE REFERENCE over the same state: what happens, and what is then -/
theorem PF.one {f f' : Nat → Int32} {n i : Nat} {P : Nat → Nat → Int32} {F : (Nat → Int32) → Nat → Int32} (h : PF f n P) (hi : i < n) (e1 : ∀ c, c < 4 → f' (1 + 4 * i + c) = F (P i) c) (e2 : ∀ q, q < 1 + 4 * i ∨ 1 + 4 * i + 4 ≤ q → f' q = f q) : PF f' n (pOne F P i) := by
  obtain ⟨h1, h2, h3⟩ := h
  refine ⟨h1, by rw [e2 _ (by omega)]; exact h2, fun p hp c hc => ?_⟩
  unfold pOne
  by_cases e : p = i
  · subst e; rw [if_pos rfl]; exact e1 c hc
  · rw [if_neg e, e2 _ (by omega)]; exact h3 p hp c hc
theorem PF.of {f : Nat → Int32} {n : Nat} {P P' : Nat → Nat → Int32} (h : PF f n P) (e : ∀ p, p < n → P' p = P p) : PF f n P' := ⟨h.1, h.2.1, fun p hp i hi => by rw [e p hp]; exact h.2.2 p hp i hi⟩
theorem RfIs.pts {σ : St} {s : Ms} {p p' : Pts} (h : RfIs σ (sPts s p)) (hp : PF (σ.1 65) p'.1 p'.2) : RfIs σ (sPts s p') := ⟨⟨hp, h.1.2⟩, h.2⟩

set_option maxHeartbeats 4000000 in
set_option maxRecDepth 100000 in
theorem c_X8_goesBy {E : Ev} {d : Nat} {σ : St} {n : Nat} {P : Nat → Nat → Int32} (h : PIs σ n P) {a p : Nat} (ha : a < 48) (hp : p < n) : Con E (d + 6) yX8_goesBy cX8_goesBy 6 ((Option.none : Option FieldType)) [.ref (ev_a E 64), .int (nI a), .int (nI p)] σ (Det none (sI σ 65 (upd (upd (upd (σ.1 65) (1 + 4 * p) (cxr (P p) a 0)) (1 + 4 * p + 1) (cxr (P p) a 1)) (1 + 4 * p + 2) (cxr (P p) a 2)))) := by
  refine con_of (by decide) (Nat.le_of_ble_eq_true rfl) (fun X hX C => ?_)
  have C : Cx E X cX8_goesBy RX8 6 ((Option.none : Option FieldType)) := C
  have h8 := h.1
  show G E _ X _ _ _ 0 [(0, .ref (ev_a E 64)), (1, .int (nI a)), (2, .int (nI p))] []
  refine g_aload_n C dX8_goesBy_0 rfl ?_
  refine g_iload_n C dX8_goesBy_1 rfl ?_
  refine g_iload_n C dX8_goesBy_2 rfl ?_
  refine g_ic (n := 0) C dX8_goesBy_3 (by decide) ?_
  refine g_callVp C (ob_X8 (by rfl)) (c_X8_moved (d := d) h ha hp (by omega)) dX8_goesBy_4 km_RX8_84 kn_RX8 kc_yX8_moved ki_yX8_moved kx_yX8_moved (by omega) (by decide) ⟨by decide, by decide, rfl⟩ rfl (Nat.le_of_ble_eq_true rfl) ?_
  refine g_istore_n C dX8_goesBy_7 (by decide) ?_
  refine g_aload_n C dX8_goesBy_8 rfl ?_
  refine g_iload_n C dX8_goesBy_9 rfl ?_
  refine g_iload_n C dX8_goesBy_10 rfl ?_
  refine g_ic (n := 1) C dX8_goesBy_11 (by decide) ?_
  refine g_callVp C (ob_X8 (by rfl)) (c_X8_moved (d := d) h ha hp (by omega)) dX8_goesBy_12 km_RX8_84 kn_RX8 kc_yX8_moved ki_yX8_moved kx_yX8_moved (by omega) (by decide) ⟨by decide, by decide, rfl⟩ rfl (Nat.le_of_ble_eq_true rfl) ?_
  refine g_istore C dX8_goesBy_15 (by decide) ?_
  refine g_aload_n C dX8_goesBy_17 rfl ?_
  refine g_iload_n C dX8_goesBy_18 rfl ?_
  refine g_iload_n C dX8_goesBy_19 rfl ?_
  refine g_ic (n := 2) C dX8_goesBy_20 (by decide) ?_
  refine g_callVp C (ob_X8 (by rfl)) (c_X8_moved (d := d) h ha hp (by omega)) dX8_goesBy_21 km_RX8_84 kn_RX8 kc_yX8_moved ki_yX8_moved kx_yX8_moved (by omega) (by decide) ⟨by decide, by decide, rfl⟩ rfl (Nat.le_of_ble_eq_true rfl) ?_
  refine g_istore C dX8_goesBy_24 (by decide) ?_
  refine g_aload_n C dX8_goesBy_26 rfl ?_
  refine gf_X8_w C (by rfl) dX8_goesBy_27 kf_RX8_11 ?_
  refine g_ic (n := 1) C dX8_goesBy_30 (by decide) ?_
  refine g_ic (n := 4) C dX8_goesBy_31 (by decide) ?_
  refine g_iload_n C dX8_goesBy_32 rfl ?_
  refine g_imulN C dX8_goesBy_33 ?_
  refine g_iaddN C dX8_goesBy_34 ?_
  refine g_iload_n C dX8_goesBy_35 rfl ?_
  refine g_iastN C (by rfl) (by omega) (by first | decide | omega) dX8_goesBy_36 ?_
  refine g_aload_n C dX8_goesBy_37 rfl ?_
  refine gf_X8_w C (by rfl) dX8_goesBy_38 kf_RX8_11 ?_
  refine g_ic (n := 1) C dX8_goesBy_41 (by decide) ?_
  refine g_ic (n := 4) C dX8_goesBy_42 (by decide) ?_
  refine g_iload_n C dX8_goesBy_43 rfl ?_
  refine g_imulN C dX8_goesBy_44 ?_
  refine g_iaddN C dX8_goesBy_45 ?_
  refine g_ic (n := 1) C dX8_goesBy_46 (by decide) ?_
  refine g_iaddN C dX8_goesBy_47 ?_
  refine g_iload C dX8_goesBy_48 rfl ?_
  refine g_iastN C (by rfl) (by omega) (by first | decide | omega) dX8_goesBy_50 ?_
  refine g_aload_n C dX8_goesBy_51 rfl ?_
  refine gf_X8_w C (by rfl) dX8_goesBy_52 kf_RX8_11 ?_
  refine g_ic (n := 1) C dX8_goesBy_55 (by decide) ?_
  refine g_ic (n := 4) C dX8_goesBy_56 (by decide) ?_
  refine g_iload_n C dX8_goesBy_57 rfl ?_
  refine g_imulN C dX8_goesBy_58 ?_
  refine g_iaddN C dX8_goesBy_59 ?_
  refine g_ic (n := 2) C dX8_goesBy_60 (by decide) ?_
  refine g_iaddN C dX8_goesBy_61 ?_
  refine g_iload C dX8_goesBy_62 rfl ?_
  refine g_iastN C (by rfl) (by omega) (by first | decide | omega) dX8_goesBy_64 ?_
  refine g_vret C dX8_goesBy_65 ?_
  exact ⟨rfl, by simp only [sI_self, sI_sI]⟩

set_option maxHeartbeats 4000000 in
set_option maxRecDepth 100000 in
theorem l1_X8_happens {E : Ev} {d : Nat} {X : Mx} (C : Cx E X cX8_happens RX8 5 ((Option.none : Option FieldType))) {s : Ms} {n t : Nat} : ∀ (k : Nat) (i : Nat) (P : Nat → Nat → Int32) (σ : St), n = i + k → RfIs σ (sPts s (n, P)) → G E (d + 7) X 5 (fun r σ2 => r = none ∧ RfIs σ2 (sPts s (n, pFrom (rwGone (nI t)) P i)) ∧ Fk [] [65] σ σ2) σ 13 ([(0, .ref (ev_a E 64)), (1, .int (nI 1)), (2, .int (nI t)), (3, .int (nI i))]) [] := by
  intro k
  induction k with
  | zero =>
    intro i P σ hi hs
    have h : PIs σ n P := hs.P
    have h8 := h.1
    refine g_iload_n C dX8_happens_13 rfl ?_
    refine g_aload_n C dX8_happens_14 rfl ?_
    refine gf_X8_w C (by rfl) dX8_happens_15 kf_RX8_11 ?_
    refine g_ic (n := 0) C dX8_happens_18 (by decide) ?_
    refine g_ialdN C (by rfl) (by omega) (by first | decide | omega) dX8_happens_19 ?_
    rw [h.2.1]
    refine g_icgeN C 97 dX8_happens_20 (by decide) (by omega) (by omega) (fun h20 => ?_) (fun h20 => ?_)
    · refine g_vret C dX8_happens_97 ?_
      exact ⟨rfl, hs.pts (p' := (n, pFrom (rwGone (nI t)) P i)) (PF.of (P := P) h (fun p hp => pFrom_end (by omega))), Fk.rf⟩
    · omega
  | succ k ih =>
    intro i P σ hi hs
    have h : PIs σ n P := hs.P
    have h8 := h.1
    refine g_iload_n C dX8_happens_13 rfl ?_
    refine g_aload_n C dX8_happens_14 rfl ?_
    refine gf_X8_w C (by rfl) dX8_happens_15 kf_RX8_11 ?_
    refine g_ic (n := 0) C dX8_happens_18 (by decide) ?_
    refine g_ialdN C (by rfl) (by omega) (by first | decide | omega) dX8_happens_19 ?_
    rw [h.2.1]
    refine g_icgeN C 97 dX8_happens_20 (by decide) (by omega) (by omega) (fun h20 => ?_) (fun h20 => ?_)
    · omega
    · refine g_ic (n := 1) C dX8_happens_23 (by decide) ?_
      refine g_ic (n := 4) C dX8_happens_24 (by decide) ?_
      refine g_iload_n C dX8_happens_25 rfl ?_
      refine g_imulN C dX8_happens_26 ?_
      refine g_iaddN C dX8_happens_27 ?_
      refine g_ic (n := 3) C dX8_happens_28 (by decide) ?_
      refine g_iaddN C dX8_happens_29 ?_
      refine g_istore C dX8_happens_30 (by decide) ?_
      refine g_iload_n C dX8_happens_32 rfl ?_
      refine g_ic (n := 2) C dX8_happens_33 (by decide) ?_
      refine g_icneN C 46 dX8_happens_34 (by decide) (by omega) (by omega) (fun h34 => ?_) (fun h34 => ?_)
      · refine g_iload_n C dX8_happens_46 rfl ?_
        refine g_ic (n := 1) C dX8_happens_47 (by decide) ?_
        refine g_icneN C 83 dX8_happens_48 (by decide) (by omega) (by omega) (fun h48 => ?_) (fun h48 => ?_)
        · exact absurd rfl h48
        · refine g_aload_n C dX8_happens_51 rfl ?_
          refine gf_X8_w C (by rfl) dX8_happens_52 kf_RX8_11 ?_
          refine g_iload C dX8_happens_55 rfl ?_
          refine g_aload_n C dX8_happens_57 rfl ?_
          refine gf_X8_w C (by rfl) dX8_happens_58 kf_RX8_11 ?_
          refine g_iload C dX8_happens_61 rfl ?_
          refine g_ialdN C (by rfl) (by omega) (by first | decide | omega) dX8_happens_63 ?_
          rw [h.2.2 i (by omega) 3 (by decide)]
          refine g_iload_n C dX8_happens_64 rfl ?_
          refine g_icne C 72 dX8_happens_65 (by decide) (fun h65 => ?_) (fun h65 => ?_)
          · refine g_aload_n C dX8_happens_72 rfl ?_
            refine gf_X8_w C (by rfl) dX8_happens_73 kf_RX8_11 ?_
            refine g_iload C dX8_happens_76 rfl ?_
            refine g_ialdN C (by rfl) (by omega) (by first | decide | omega) dX8_happens_78 ?_
            first | rw [h.2.2 i (by omega) 3 (by decide)] | skip
            refine g_iastN C (by rfl) (by omega) (by first | decide | omega) dX8_happens_79 ?_
            refine g_goto C 91 dX8_happens_80 (by decide) ?_
            refine g_iinc1 C dX8_happens_91 rfl (by decide) ?_
            refine g_goto C 13 dX8_happens_94 (by decide) ?_
            refine g_loc ([(0, .ref (ev_a E 64)), (1, .int (nI 1)), (2, .int (nI t)), (3, .int (nI (i + 1)))]) (And.intro rfl (And.intro rfl (And.intro rfl (And.intro rfl trivial)))) ?_
            refine g_eqS (show _ = (sI σ 65 (upd (σ.1 65) (1 + 4 * i + 3) (if P i 3 = nI t then 0 else P i 3))) from by first | (rw [if_pos h65]; rfl) | rw [if_neg h65]) ?_
            have hF : Fk [] [65] σ (sI σ 65 (upd (σ.1 65) (1 + 4 * i + 3) (if P i 3 = nI t then 0 else P i 3))) := Fk.rf.sI (by simp) (by decide)
            have hP : PF ((sI σ 65 (upd (σ.1 65) (1 + 4 * i + 3) (if P i 3 = nI t then 0 else P i 3))).1 65) n (pOne (rwGone (nI t)) P i) := by
              rw [sI_self]
              refine PF.one hs.1.1 (by omega) (fun c hc => ?_) (fun q hq => by rw [up_n (by omega)])
              · rcases (show c = 0 ∨ c = 1 ∨ c = 2 ∨ c = 3 from by omega) with rfl | rfl | rfl | rfl
                · rw [up_n (by omega), h.2.2 i (by omega) 0 (by decide)]; unfold rwGone; rw [if_neg (by simp)]
                · rw [up_n (by omega), h.2.2 i (by omega) 1 (by decide)]; unfold rwGone; rw [if_neg (by simp)]
                · rw [up_n (by omega), h.2.2 i (by omega) 2 (by decide)]; unfold rwGone; rw [if_neg (by simp)]
                · rw [up_i]; unfold rwGone; by_cases e : P i 3 = nI t; rw [if_pos e, if_pos ⟨rfl, e⟩]; rw [if_neg e, if_neg (fun q => e q.2)]
            have hs2 : RfIs (sI σ 65 (upd (σ.1 65) (1 + 4 * i + 3) (if P i 3 = nI t then 0 else P i 3))) (sPts s (n, pOne (rwGone (nI t)) P i)) := RfIs.w (s := sPts s (n, P)) hs hF (u := ((n, pOne (rwGone (nI t)) P i), s.1.2)) (hs.1.p (p := (n, pOne (rwGone (nI t)) P i)) (fun q hq => by rw [sI_self, up_n (by omega)]) hP)
            refine g_post (fun r σ2 q => ?_) (ih (i + 1) (pOne (rwGone (nI t)) P i) (sI σ 65 (upd (σ.1 65) (1 + 4 * i + 3) (if P i 3 = nI t then 0 else P i 3))) (by omega) hs2)
            obtain ⟨q1, q2, q3⟩ := q
            rw [pFrom_one] at q2
            exact ⟨q1, q2, hF.tr q3⟩
          · refine g_ic (n := 0) C dX8_happens_68 (by decide) ?_
            refine g_goto C 79 dX8_happens_69 (by decide) ?_
            first | rw [h.2.2 i (by omega) 3 (by decide)] | skip
            refine g_iastN C (by rfl) (by omega) (by first | decide | omega) dX8_happens_79 ?_
            refine g_goto C 91 dX8_happens_80 (by decide) ?_
            refine g_iinc1 C dX8_happens_91 rfl (by decide) ?_
            refine g_goto C 13 dX8_happens_94 (by decide) ?_
            refine g_loc ([(0, .ref (ev_a E 64)), (1, .int (nI 1)), (2, .int (nI t)), (3, .int (nI (i + 1)))]) (And.intro rfl (And.intro rfl (And.intro rfl (And.intro rfl trivial)))) ?_
            refine g_eqS (show _ = (sI σ 65 (upd (σ.1 65) (1 + 4 * i + 3) (if P i 3 = nI t then 0 else P i 3))) from by first | (rw [if_pos h65]; rfl) | rw [if_neg h65]) ?_
            have hF : Fk [] [65] σ (sI σ 65 (upd (σ.1 65) (1 + 4 * i + 3) (if P i 3 = nI t then 0 else P i 3))) := Fk.rf.sI (by simp) (by decide)
            have hP : PF ((sI σ 65 (upd (σ.1 65) (1 + 4 * i + 3) (if P i 3 = nI t then 0 else P i 3))).1 65) n (pOne (rwGone (nI t)) P i) := by
              rw [sI_self]
              refine PF.one hs.1.1 (by omega) (fun c hc => ?_) (fun q hq => by rw [up_n (by omega)])
              · rcases (show c = 0 ∨ c = 1 ∨ c = 2 ∨ c = 3 from by omega) with rfl | rfl | rfl | rfl
                · rw [up_n (by omega), h.2.2 i (by omega) 0 (by decide)]; unfold rwGone; rw [if_neg (by simp)]
                · rw [up_n (by omega), h.2.2 i (by omega) 1 (by decide)]; unfold rwGone; rw [if_neg (by simp)]
                · rw [up_n (by omega), h.2.2 i (by omega) 2 (by decide)]; unfold rwGone; rw [if_neg (by simp)]
                · rw [up_i]; unfold rwGone; by_cases e : P i 3 = nI t; rw [if_pos e, if_pos ⟨rfl, e⟩]; rw [if_neg e, if_neg (fun q => e q.2)]
            have hs2 : RfIs (sI σ 65 (upd (σ.1 65) (1 + 4 * i + 3) (if P i 3 = nI t then 0 else P i 3))) (sPts s (n, pOne (rwGone (nI t)) P i)) := RfIs.w (s := sPts s (n, P)) hs hF (u := ((n, pOne (rwGone (nI t)) P i), s.1.2)) (hs.1.p (p := (n, pOne (rwGone (nI t)) P i)) (fun q hq => by rw [sI_self, up_n (by omega)]) hP)
            refine g_post (fun r σ2 q => ?_) (ih (i + 1) (pOne (rwGone (nI t)) P i) (sI σ 65 (upd (σ.1 65) (1 + 4 * i + 3) (if P i 3 = nI t then 0 else P i 3))) (by omega) hs2)
            obtain ⟨q1, q2, q3⟩ := q
            rw [pFrom_one] at q2
            exact ⟨q1, q2, hF.tr q3⟩
      · exact absurd h34 (by decide)

set_option maxHeartbeats 4000000 in
set_option maxRecDepth 100000 in
theorem l2_X8_happens {E : Ev} {d : Nat} {X : Mx} (C : Cx E X cX8_happens RX8 5 ((Option.none : Option FieldType))) {s : Ms} {n t : Nat} (ht : t < 48) : ∀ (k : Nat) (i : Nat) (P : Nat → Nat → Int32) (σ : St), n = i + k → RfIs σ (sPts s (n, P)) → G E (d + 7) X 5 (fun r σ2 => r = none ∧ RfIs σ2 (sPts s (n, pFrom (rwTake t) P i)) ∧ Fk [] [65] σ σ2) σ 13 ([(0, .ref (ev_a E 64)), (1, .int (nI 2)), (2, .int (nI t)), (3, .int (nI i))]) [] := by
  intro k
  induction k with
  | zero =>
    intro i P σ hi hs
    have h : PIs σ n P := hs.P
    have h8 := h.1
    refine g_iload_n C dX8_happens_13 rfl ?_
    refine g_aload_n C dX8_happens_14 rfl ?_
    refine gf_X8_w C (by rfl) dX8_happens_15 kf_RX8_11 ?_
    refine g_ic (n := 0) C dX8_happens_18 (by decide) ?_
    refine g_ialdN C (by rfl) (by omega) (by first | decide | omega) dX8_happens_19 ?_
    rw [h.2.1]
    refine g_icgeN C 97 dX8_happens_20 (by decide) (by omega) (by omega) (fun h20 => ?_) (fun h20 => ?_)
    · refine g_vret C dX8_happens_97 ?_
      exact ⟨rfl, hs.pts (p' := (n, pFrom (rwTake t) P i)) (PF.of (P := P) h (fun p hp => pFrom_end (by omega))), Fk.rf⟩
    · omega
  | succ k ih =>
    intro i P σ hi hs
    have h : PIs σ n P := hs.P
    have h8 := h.1
    refine g_iload_n C dX8_happens_13 rfl ?_
    refine g_aload_n C dX8_happens_14 rfl ?_
    refine gf_X8_w C (by rfl) dX8_happens_15 kf_RX8_11 ?_
    refine g_ic (n := 0) C dX8_happens_18 (by decide) ?_
    refine g_ialdN C (by rfl) (by omega) (by first | decide | omega) dX8_happens_19 ?_
    rw [h.2.1]
    refine g_icgeN C 97 dX8_happens_20 (by decide) (by omega) (by omega) (fun h20 => ?_) (fun h20 => ?_)
    · omega
    · refine g_ic (n := 1) C dX8_happens_23 (by decide) ?_
      refine g_ic (n := 4) C dX8_happens_24 (by decide) ?_
      refine g_iload_n C dX8_happens_25 rfl ?_
      refine g_imulN C dX8_happens_26 ?_
      refine g_iaddN C dX8_happens_27 ?_
      refine g_ic (n := 3) C dX8_happens_28 (by decide) ?_
      refine g_iaddN C dX8_happens_29 ?_
      refine g_istore C dX8_happens_30 (by decide) ?_
      refine g_iload_n C dX8_happens_32 rfl ?_
      refine g_ic (n := 2) C dX8_happens_33 (by decide) ?_
      refine g_icneN C 46 dX8_happens_34 (by decide) (by omega) (by omega) (fun h34 => ?_) (fun h34 => ?_)
      · exact absurd rfl h34
      · refine g_aload_n C dX8_happens_37 rfl ?_
        refine g_iload_n C dX8_happens_38 rfl ?_
        refine g_iload_n C dX8_happens_39 rfl ?_
        refine g_callVu C (ob_X8 (by rfl)) (c_X8_goesBy (d := d) h ht (by omega)) dX8_happens_40 km_RX8_259 kn_RX8 kc_yX8_goesBy ki_yX8_goesBy kx_yX8_goesBy (by omega) (by decide) ⟨by decide, by decide, rfl⟩ rfl (Nat.le_of_ble_eq_true rfl) ?_
        refine g_goto C 91 dX8_happens_43 (by decide) ?_
        refine g_iinc1 C dX8_happens_91 rfl (by decide) ?_
        refine g_goto C 13 dX8_happens_94 (by decide) ?_
        refine g_loc ([(0, .ref (ev_a E 64)), (1, .int (nI 2)), (2, .int (nI t)), (3, .int (nI (i + 1)))]) (And.intro rfl (And.intro rfl (And.intro rfl (And.intro rfl trivial)))) ?_
        refine g_eqS (show _ = (sI σ 65 (upd (upd (upd (σ.1 65) (1 + 4 * i) (cxr (P i) t 0)) (1 + 4 * i + 1) (cxr (P i) t 1)) (1 + 4 * i + 2) (cxr (P i) t 2))) from by first | rfl | simp only [sI_self, sI_sI]) ?_
        have hF : Fk [] [65] σ (sI σ 65 (upd (upd (upd (σ.1 65) (1 + 4 * i) (cxr (P i) t 0)) (1 + 4 * i + 1) (cxr (P i) t 1)) (1 + 4 * i + 2) (cxr (P i) t 2))) := Fk.rf.sI (by simp) (by decide)
        have hP : PF ((sI σ 65 (upd (upd (upd (σ.1 65) (1 + 4 * i) (cxr (P i) t 0)) (1 + 4 * i + 1) (cxr (P i) t 1)) (1 + 4 * i + 2) (cxr (P i) t 2))).1 65) n (pOne (rwTake t) P i) := by
          rw [sI_self]
          refine PF.one hs.1.1 (by omega) (fun c hc => ?_) (fun q hq => by rw [up_n (by omega), up_n (by omega), up_n (by omega)])
          · rcases (show c = 0 ∨ c = 1 ∨ c = 2 ∨ c = 3 from by omega) with rfl | rfl | rfl | rfl
            · rw [up_n (by omega), up_n (by omega), Nat.add_zero, up_i]; unfold rwTake; rw [if_pos (by decide)]
            · rw [up_n (by omega), up_i]; unfold rwTake; rw [if_pos (by decide)]
            · rw [up_i]; unfold rwTake; rw [if_pos (by decide)]
            · rw [up_n (by omega), up_n (by omega), up_n (by omega), h.2.2 i (by omega) 3 (by decide)]; unfold rwTake; rw [if_neg (by decide)]
        have hs2 : RfIs (sI σ 65 (upd (upd (upd (σ.1 65) (1 + 4 * i) (cxr (P i) t 0)) (1 + 4 * i + 1) (cxr (P i) t 1)) (1 + 4 * i + 2) (cxr (P i) t 2))) (sPts s (n, pOne (rwTake t) P i)) := RfIs.w (s := sPts s (n, P)) hs hF (u := ((n, pOne (rwTake t) P i), s.1.2)) (hs.1.p (p := (n, pOne (rwTake t) P i)) (fun q hq => by rw [sI_self, up_n (by omega), up_n (by omega), up_n (by omega)]) hP)
        refine g_post (fun r σ2 q => ?_) (ih (i + 1) (pOne (rwTake t) P i) (sI σ 65 (upd (upd (upd (σ.1 65) (1 + 4 * i) (cxr (P i) t 0)) (1 + 4 * i + 1) (cxr (P i) t 1)) (1 + 4 * i + 2) (cxr (P i) t 2))) (by omega) hs2)
        obtain ⟨q1, q2, q3⟩ := q
        rw [pFrom_one] at q2
        exact ⟨q1, q2, hF.tr q3⟩

set_option maxHeartbeats 4000000 in
set_option maxRecDepth 100000 in
theorem l3_X8_happens {E : Ev} {d : Nat} {X : Mx} (C : Cx E X cX8_happens RX8 5 ((Option.none : Option FieldType))) {s : Ms} {n t : Nat} : ∀ (k : Nat) (i : Nat) (P : Nat → Nat → Int32) (σ : St), n = i + k → RfIs σ (sPts s (n, P)) → G E (d + 7) X 5 (fun r σ2 => r = none ∧ RfIs σ2 (sPts s (n, pFrom (rwAll (nI t)) P i)) ∧ Fk [] [65] σ σ2) σ 13 ([(0, .ref (ev_a E 64)), (1, .int (nI 3)), (2, .int (nI t)), (3, .int (nI i))]) [] := by
  intro k
  induction k with
  | zero =>
    intro i P σ hi hs
    have h : PIs σ n P := hs.P
    have h8 := h.1
    refine g_iload_n C dX8_happens_13 rfl ?_
    refine g_aload_n C dX8_happens_14 rfl ?_
    refine gf_X8_w C (by rfl) dX8_happens_15 kf_RX8_11 ?_
    refine g_ic (n := 0) C dX8_happens_18 (by decide) ?_
    refine g_ialdN C (by rfl) (by omega) (by first | decide | omega) dX8_happens_19 ?_
    rw [h.2.1]
    refine g_icgeN C 97 dX8_happens_20 (by decide) (by omega) (by omega) (fun h20 => ?_) (fun h20 => ?_)
    · refine g_vret C dX8_happens_97 ?_
      exact ⟨rfl, hs.pts (p' := (n, pFrom (rwAll (nI t)) P i)) (PF.of (P := P) h (fun p hp => pFrom_end (by omega))), Fk.rf⟩
    · omega
  | succ k ih =>
    intro i P σ hi hs
    have h : PIs σ n P := hs.P
    have h8 := h.1
    refine g_iload_n C dX8_happens_13 rfl ?_
    refine g_aload_n C dX8_happens_14 rfl ?_
    refine gf_X8_w C (by rfl) dX8_happens_15 kf_RX8_11 ?_
    refine g_ic (n := 0) C dX8_happens_18 (by decide) ?_
    refine g_ialdN C (by rfl) (by omega) (by first | decide | omega) dX8_happens_19 ?_
    rw [h.2.1]
    refine g_icgeN C 97 dX8_happens_20 (by decide) (by omega) (by omega) (fun h20 => ?_) (fun h20 => ?_)
    · omega
    · refine g_ic (n := 1) C dX8_happens_23 (by decide) ?_
      refine g_ic (n := 4) C dX8_happens_24 (by decide) ?_
      refine g_iload_n C dX8_happens_25 rfl ?_
      refine g_imulN C dX8_happens_26 ?_
      refine g_iaddN C dX8_happens_27 ?_
      refine g_ic (n := 3) C dX8_happens_28 (by decide) ?_
      refine g_iaddN C dX8_happens_29 ?_
      refine g_istore C dX8_happens_30 (by decide) ?_
      refine g_iload_n C dX8_happens_32 rfl ?_
      refine g_ic (n := 2) C dX8_happens_33 (by decide) ?_
      refine g_icneN C 46 dX8_happens_34 (by decide) (by omega) (by omega) (fun h34 => ?_) (fun h34 => ?_)
      · refine g_iload_n C dX8_happens_46 rfl ?_
        refine g_ic (n := 1) C dX8_happens_47 (by decide) ?_
        refine g_icneN C 83 dX8_happens_48 (by decide) (by omega) (by omega) (fun h48 => ?_) (fun h48 => ?_)
        · refine g_aload_n C dX8_happens_83 rfl ?_
          refine gf_X8_w C (by rfl) dX8_happens_84 kf_RX8_11 ?_
          refine g_iload C dX8_happens_87 rfl ?_
          refine g_iload_n C dX8_happens_89 rfl ?_
          refine g_iastN C (by rfl) (by omega) (by first | decide | omega) dX8_happens_90 ?_
          refine g_iinc1 C dX8_happens_91 rfl (by decide) ?_
          refine g_goto C 13 dX8_happens_94 (by decide) ?_
          refine g_loc ([(0, .ref (ev_a E 64)), (1, .int (nI 3)), (2, .int (nI t)), (3, .int (nI (i + 1)))]) (And.intro rfl (And.intro rfl (And.intro rfl (And.intro rfl trivial)))) ?_
          refine g_eqS (show _ = (sI σ 65 (upd (σ.1 65) (1 + 4 * i + 3) (nI t))) from by first | rfl | simp only [sI_self, sI_sI]) ?_
          have hF : Fk [] [65] σ (sI σ 65 (upd (σ.1 65) (1 + 4 * i + 3) (nI t))) := Fk.rf.sI (by simp) (by decide)
          have hP : PF ((sI σ 65 (upd (σ.1 65) (1 + 4 * i + 3) (nI t))).1 65) n (pOne (rwAll (nI t)) P i) := by
            rw [sI_self]
            refine PF.one hs.1.1 (by omega) (fun c hc => ?_) (fun q hq => by rw [up_n (by omega)])
            · rcases (show c = 0 ∨ c = 1 ∨ c = 2 ∨ c = 3 from by omega) with rfl | rfl | rfl | rfl
              · rw [up_n (by omega), h.2.2 i (by omega) 0 (by decide)]; unfold rwAll; rw [if_neg (by decide)]
              · rw [up_n (by omega), h.2.2 i (by omega) 1 (by decide)]; unfold rwAll; rw [if_neg (by decide)]
              · rw [up_n (by omega), h.2.2 i (by omega) 2 (by decide)]; unfold rwAll; rw [if_neg (by decide)]
              · rw [up_i]; unfold rwAll; rw [if_pos rfl]
          have hs2 : RfIs (sI σ 65 (upd (σ.1 65) (1 + 4 * i + 3) (nI t))) (sPts s (n, pOne (rwAll (nI t)) P i)) := RfIs.w (s := sPts s (n, P)) hs hF (u := ((n, pOne (rwAll (nI t)) P i), s.1.2)) (hs.1.p (p := (n, pOne (rwAll (nI t)) P i)) (fun q hq => by rw [sI_self, up_n (by omega)]) hP)
          refine g_post (fun r σ2 q => ?_) (ih (i + 1) (pOne (rwAll (nI t)) P i) (sI σ 65 (upd (σ.1 65) (1 + 4 * i + 3) (nI t))) (by omega) hs2)
          obtain ⟨q1, q2, q3⟩ := q
          rw [pFrom_one] at q2
          exact ⟨q1, q2, hF.tr q3⟩
        · exact absurd h48 (by decide)
      · exact absurd h34 (by decide)

theorem in_nI2 {j n : Nat} (h : j < n) (hk : n < 2 ^ 31) : inB (nI j) 0 ((n : Int) - 1) = true := by
  simp only [inB, decide_eq_true_eq, nI_toInt (show j < 2 ^ 31 by omega)]
  omega

set_option maxHeartbeats 4000000 in
set_option maxRecDepth 100000 in
theorem c_X8_happens {E : Ev} {d : Nat} {σ : St} {s : Ms} (hs : RfIs σ s) {w t : Nat} (hw : w < 4) (ht : w = 2 → t < 48) (ht2 : t < 48) : Con E (d + 7) yX8_happens cX8_happens 5 ((Option.none : Option FieldType)) [.ref (ev_a E 64), .int (nI w), .int (nI t)] σ (fun r σ2 => r = none ∧ RfIs σ2 (sPts s (hapN s.1.1.1 w t, hapP s.1.1.2 s.1.1.1 w t)) ∧ Fk [] [65] σ σ2) := by
  refine con_of (by decide) (Nat.le_of_ble_eq_true rfl) (fun X hX C => ?_)
  have C : Cx E X cX8_happens RX8 5 ((Option.none : Option FieldType)) := C
  have h := hs.P
  have h8 := h.1
  show G E _ X _ _ _ 0 [(0, .ref (ev_a E 64)), (1, .int (nI w)), (2, .int (nI t))] []
  rcases (show w = 0 ∨ w = 1 ∨ w = 2 ∨ w = 3 from by omega) with rfl | rfl | rfl | rfl
  · refine g_iload_n C dX8_happens_0 rfl ?_
    refine g_ifneN C 11 dX8_happens_1 (by decide) (by omega) (fun h1 => ?_) (fun h1 => ?_)
    · exact absurd rfl h1
    · refine g_aload_n C dX8_happens_4 rfl ?_
      refine g_iload_n C dX8_happens_5 rfl ?_
      refine g_callV C (ob_X8 (by rfl)) (c_X8_dropK (d := d) hs) dX8_happens_6 km_RX8_204 kn_RX8 kc_yX8_drop ki_yX8_drop kx_yX8_drop (by omega) (by decide) ⟨by decide, by decide, rfl⟩ rfl (Nat.le_of_ble_eq_true rfl) (fun r1 σ1 q1 => ?_)
      obtain ⟨rfl, u1, u2⟩ := q1
      refine g_istore_n C dX8_happens_9 (by decide) ?_
      refine g_vret C dX8_happens_10 ?_
      refine ⟨rfl, ?_, u2⟩
      have e : tDrop s (nI t) = sPts s (hapN s.1.1.1 0 t, hapP s.1.1.2 s.1.1.1 0 t) := by
        unfold tDrop hapN hapP
        by_cases c : t < s.1.1.1
        · rw [if_neg (by rw [hp_in (by omega), in_nI2 c (by omega)]; decide), if_pos ⟨rfl, c⟩, if_pos c, ix_nI (by omega)]; rfl
        · rw [if_pos (by rw [hp_in (by omega)]; simp only [inB, decide_eq_false_iff_not, nI_toInt (show t < 2 ^ 31 by omega)]; omega), if_neg (fun q => c q.2), if_neg c]; rfl
      rw [← e]; exact u1
  · show G E _ X _ (fun r σ2 => r = none ∧ RfIs σ2 (sPts s (s.1.1.1, pMap (rwGone (nI t)) s.1.1.2)) ∧ Fk [] [65] σ σ2) _ _ _ _
    refine g_iload_n C dX8_happens_0 rfl ?_
    refine g_ifneN C 11 dX8_happens_1 (by decide) (by omega) (fun h1 => ?_) (fun h1 => ?_)
    · refine g_ic (n := 0) C dX8_happens_11 (by decide) ?_
      refine g_istore_n C dX8_happens_12 (by decide) ?_
      refine g_loc ([(0, .ref (ev_a E 64)), (1, .int (nI 1)), (2, .int (nI t)), (3, .int (nI 0))]) (And.intro rfl (And.intro rfl (And.intro rfl (And.intro rfl trivial)))) ?_
      exact l1_X8_happens C (s := s) (n := s.1.1.1) s.1.1.1 0 s.1.1.2 σ (by omega) hs
    · exact absurd h1 (by decide)
  · show G E _ X _ (fun r σ2 => r = none ∧ RfIs σ2 (sPts s (s.1.1.1, pMap (rwTake t) s.1.1.2)) ∧ Fk [] [65] σ σ2) _ _ _ _
    refine g_iload_n C dX8_happens_0 rfl ?_
    refine g_ifneN C 11 dX8_happens_1 (by decide) (by omega) (fun h1 => ?_) (fun h1 => ?_)
    · refine g_ic (n := 0) C dX8_happens_11 (by decide) ?_
      refine g_istore_n C dX8_happens_12 (by decide) ?_
      refine g_loc ([(0, .ref (ev_a E 64)), (1, .int (nI 2)), (2, .int (nI t)), (3, .int (nI 0))]) (And.intro rfl (And.intro rfl (And.intro rfl (And.intro rfl trivial)))) ?_
      exact l2_X8_happens C (s := s) (n := s.1.1.1) (ht rfl) s.1.1.1 0 s.1.1.2 σ (by omega) hs
    · exact absurd h1 (by decide)
  · show G E _ X _ (fun r σ2 => r = none ∧ RfIs σ2 (sPts s (s.1.1.1, pMap (rwAll (nI t)) s.1.1.2)) ∧ Fk [] [65] σ σ2) _ _ _ _
    refine g_iload_n C dX8_happens_0 rfl ?_
    refine g_ifneN C 11 dX8_happens_1 (by decide) (by omega) (fun h1 => ?_) (fun h1 => ?_)
    · refine g_ic (n := 0) C dX8_happens_11 (by decide) ?_
      refine g_istore_n C dX8_happens_12 (by decide) ?_
      refine g_loc ([(0, .ref (ev_a E 64)), (1, .int (nI 3)), (2, .int (nI t)), (3, .int (nI 0))]) (And.intro rfl (And.intro rfl (And.intro rfl (And.intro rfl trivial)))) ?_
      exact l3_X8_happens C (s := s) (n := s.1.1.1) s.1.1.1 0 s.1.1.2 σ (by omega) hs
    · exact absurd h1 (by decide)

set_option maxHeartbeats 4000000 in
set_option maxRecDepth 100000 in
theorem l_X8_after {E : Ev} {d : Nat} {X : Mx} (C : Cx E X cX8_after RX8 3 ((Option.some FieldType.int))) {s : Ms} {w : Nat} {σ0 : St} {R : Option Value → St → Prop} (hev : ∀ j, j < s.1.2.2.1.1 → s.1.2.2.1.2.1 j < 4 ∧ s.1.2.2.1.2.2 j < 48) : ∀ (k : Nat) (r : Nat) (p : Pts) (σ : St), s.1.2.2.1.1 = r + k → RfIs σ (sPts s p) → Fk [] [65] σ0 σ → (∀ σ2, RfIs σ2 (sPts s (evL s.1.2.2.1.2.1 s.1.2.2.1.2.2 k r p)) → Fk [] [65] σ0 σ2 → G E (d + 10) X 3 R σ2 72 ([(0, .ref (ev_a E 64)), (1, .int (nI w))]) []) → G E (d + 10) X 3 R σ 27 ([(0, .ref (ev_a E 64)), (1, .int (nI w)), (2, .int (nI r))]) [] := by
  intro k
  induction k with
  | zero =>
    intro r p σ hi hs hF K
    have hr : RB (σ.1 65) 44 8 s.1.2.2.1 := hs.1.2.2.1
    have hc := hr.1
    refine g_iload_n C dX8_after_27 rfl ?_
    refine g_aload_n C dX8_after_28 rfl ?_
    refine gf_X8_w C (by rfl) dX8_after_29 kf_RX8_11 ?_
    refine g_bp C (nI 44) dX8_after_32 (by decide) ?_
    refine g_ialdN C (by rfl) (by omega) (by first | decide | omega) dX8_after_34 ?_
    rw [hr.2.1]
    refine g_icgeN C 72 dX8_after_35 (by decide) (by omega) (by omega) (fun h35 => ?_) (fun h35 => ?_)
    · refine g_loc ([(0, .ref (ev_a E 64)), (1, .int (nI w))]) (And.intro rfl (And.intro rfl trivial)) ?_
      exact K σ hs hF
    · omega
  | succ k ih =>
    intro r p σ hi hs hF K
    have hr : RB (σ.1 65) 44 8 s.1.2.2.1 := hs.1.2.2.1
    have hc := hr.1
    refine g_iload_n C dX8_after_27 rfl ?_
    refine g_aload_n C dX8_after_28 rfl ?_
    refine gf_X8_w C (by rfl) dX8_after_29 kf_RX8_11 ?_
    refine g_bp C (nI 44) dX8_after_32 (by decide) ?_
    refine g_ialdN C (by rfl) (by omega) (by first | decide | omega) dX8_after_34 ?_
    rw [hr.2.1]
    refine g_icgeN C 72 dX8_after_35 (by decide) (by omega) (by omega) (fun h35 => ?_) (fun h35 => ?_)
    · omega
    · refine g_aload_n C dX8_after_38 rfl ?_
      refine g_aload_n C dX8_after_39 rfl ?_
      refine gf_X8_w C (by rfl) dX8_after_40 kf_RX8_11 ?_
      refine g_bp C (nI 45) dX8_after_43 (by decide) ?_
      refine g_ic (n := 2) C dX8_after_45 (by decide) ?_
      refine g_iload_n C dX8_after_46 rfl ?_
      refine g_imulN C dX8_after_47 ?_
      refine g_iaddN C dX8_after_48 ?_
      refine g_ialdN C (by rfl) (by omega) (by first | decide | omega) dX8_after_49 ?_
      rw [show σ.1 65 (45 + 2 * r) = nI (s.1.2.2.1.2.1 r) from (hr.2.2 r (by omega)).1]
      refine g_aload_n C dX8_after_50 rfl ?_
      refine gf_X8_w C (by rfl) dX8_after_51 kf_RX8_11 ?_
      refine g_bp C (nI 45) dX8_after_54 (by decide) ?_
      refine g_ic (n := 2) C dX8_after_56 (by decide) ?_
      refine g_iload_n C dX8_after_57 rfl ?_
      refine g_imulN C dX8_after_58 ?_
      refine g_iaddN C dX8_after_59 ?_
      refine g_ic (n := 1) C dX8_after_60 (by decide) ?_
      refine g_iaddN C dX8_after_61 ?_
      refine g_ialdN C (by rfl) (by omega) (by first | decide | omega) dX8_after_62 ?_
      rw [show σ.1 65 (45 + 2 * r + 1) = nI (s.1.2.2.1.2.2 r) from by have q := (hr.2.2 r (by omega)).2; rw [show 45 + 2 * r + 1 = 44 + 2 + 2 * r from by omega]; exact q]
      refine g_callV C (ob_X8 (by rfl)) (c_X8_happens (d := d) hs (hev r (by omega)).1 (fun _ => (hev r (by omega)).2) (hev r (by omega)).2) dX8_after_63 km_RX8_267 kn_RX8 kc_yX8_happens ki_yX8_happens kx_yX8_happens (by omega) (by decide) ⟨by decide, by decide, rfl⟩ rfl (Nat.le_of_ble_eq_true rfl) (fun r1 σ1 q1 => ?_)
      obtain ⟨rfl, u1, u2⟩ := q1
      refine g_iinc1 C dX8_after_66 rfl (by decide) ?_
      refine g_goto C 27 dX8_after_69 (by decide) ?_
      refine g_loc ([(0, .ref (ev_a E 64)), (1, .int (nI w)), (2, .int (nI (r + 1)))]) (And.intro rfl (And.intro rfl (And.intro rfl trivial))) ?_
      exact ih (r + 1) _ σ1 (by omega) u1 (hF.tr u2) K

set_option maxHeartbeats 4000000 in
set_option maxRecDepth 100000 in
theorem c_X8_after {E : Ev} {d : Nat} {σ : St} {s : Ms} (hs : RfIs σ s) (hok : SuOk s.1) (hCv : BrC (gLst (evP s).2 (evP s).1)) {w : Int32} : Con E (d + 10) yX8_after cX8_after 3 ((Option.some FieldType.int)) [.ref (ev_a E 64), .int w] σ (RfTo (.int (aAfter s w)) σ (s)) := by
  refine con_of (by decide) (Nat.le_of_ble_eq_true rfl) (fun X hX C => ?_)
  have C : Cx E X cX8_after RX8 3 ((Option.some FieldType.int)) := C
  have h := hs.P
  have h8 := h.1
  show G E _ X _ _ _ 0 [(0, .ref (ev_a E 64)), (1, .int w)] []
  refine g_iload_n C dX8_after_0 rfl ?_
  refine g_i2l C _ dX8_after_1 rfl ?_
  refine g_lc (v := 0) C dX8_after_2 (by decide) ?_
  refine g_ldc2 C (2) dX8_after_3 (List.mem_of_getElem? (i := 1069) (by decide +kernel)) ?_
  refine g_callSp C (c_X8_in (d := d) (0) (2) (by decide) (by decide)) dX8_after_6 km_RX8_56 kn_RX8 kc_yX8_in ks_yX8_in (by omega) (by decide) ⟨by decide, by decide, rfl⟩ rfl (Nat.le_of_ble_eq_true rfl) ?_
  refine g_ifneB C 14 dX8_after_9 (by decide) (fun h9 => ?_) (fun h9 => ?_)
  · obtain ⟨w2, hw2, rfl⟩ := in_n (k := 2) h9
    refine g_aload_n C dX8_after_14 rfl ?_
    refine gf_X8_w C (by rfl) dX8_after_15 kf_RX8_11 ?_
    refine g_aload_n C dX8_after_18 rfl ?_
    refine gf_X8_aside C (by rfl) dX8_after_19 kf_RX8_15 ?_
    refine g_callSu C (c_X8_copies (d := d) rfl rfl (by decide)) dX8_after_22 km_RX8_263 kn_RX8 kc_yX8_copies ks_yX8_copies (by omega) (by decide) ⟨by decide, by decide, rfl⟩ rfl (Nat.le_of_ble_eq_true rfl) ?_
    refine g_ic (n := 0) C dX8_after_25 (by decide) ?_
    refine g_istore_n C dX8_after_26 (by decide) ?_
    have hF1 : Fk [6] [65, 66, 68, 69] σ (sI σ 66 (cp78 (σ.1 65) (σ.1 66) 78)) := Fk.rf.sI (by simp) (by decide)
    have hs1 : RfIs (sI σ 66 (cp78 (σ.1 65) (σ.1 66) 78)) (sPts s s.1.1) := hs.go (Fk.rf.sI (l := [66]) (fs := []) (by simp) (by decide)) (by decide) (by decide)
    refine g_loc ([(0, .ref (ev_a E 64)), (1, .int (nI w2)), (2, .int (nI 0))]) (And.intro rfl (And.intro rfl (And.intro rfl trivial))) ?_
    refine l_X8_after C (s := s) (σ0 := (sI σ 66 (cp78 (σ.1 65) (σ.1 66) 78))) hok.2.2.1 s.1.2.2.1.1 0 s.1.1 _ (by omega) hs1 Fk.rf (fun σ2 z1 z2 => ?_)
    have z1 : RfIs σ2 (sPts s (evP s)) := z1
    rcases (show w2 = 0 ∨ w2 = 1 ∨ w2 = 2 from by omega) with rfl | rfl | rfl
    · refine g_aload_n C dX8_after_72 rfl ?_
      refine g_callV C (ob_X8 (by rfl)) (c_X8_finds (d := d) z1.P) dX8_after_73 km_RX8_138 kn_RX8 kc_yX8_finds ki_yX8_finds kx_yX8_finds (by omega) (by decide) ⟨by decide, by decide, rfl⟩ rfl (Nat.le_of_ble_eq_true rfl) (fun r3 σ3 q3 => ?_)
      obtain ⟨rfl, hB, hI, f1⟩ := q3
      have hB : GmB σ3 (gLst (evP s).2 (evP s).1) := hB
      have z3 : RfIs σ3 (sPts s (evP s)) := z1.go f1 (by decide) (by decide)
      refine g_iload_n C dX8_after_76 rfl ?_
      refine g_ifneN C 87 dX8_after_77 (by decide) (by omega) (fun h77 => ?_) (fun h77 => ?_)
      · exact absurd rfl h77
      · refine g_aload_n C dX8_after_80 rfl ?_
        refine gf_X8_size C (by rfl) dX8_after_81 kf_RX8_97 ?_
        rw [hB.2.1]
        refine g_goto C 103 dX8_after_84 (by decide) ?_
        refine g_istore_n C dX8_after_103 (by decide) ?_
        refine g_aload_n C dX8_after_104 rfl ?_
        refine gf_X8_aside C (by rfl) dX8_after_105 kf_RX8_15 ?_
        refine g_aload_n C dX8_after_108 rfl ?_
        refine gf_X8_w C (by rfl) dX8_after_109 kf_RX8_11 ?_
        refine g_callSu C (c_X8_copies (d := d) rfl rfl (by decide)) dX8_after_112 km_RX8_263 kn_RX8 kc_yX8_copies ks_yX8_copies (by omega) (by decide) ⟨by decide, by decide, rfl⟩ rfl (Nat.le_of_ble_eq_true rfl) ?_
        refine g_iload_n C dX8_after_115 rfl ?_
        refine g_iret C dX8_after_116 ?_
        have hF3 : Fk [6] [65, 66, 68, 69] σ (sI σ3 65 (cp78 (σ3.1 66) (σ3.1 65) 78)) := ((hF1.tr (z2.mono (by simp) (by simp))).tr (f1.mono (by simp) (by simp))).sI (by simp) (by decide)
        have e66 : σ3.1 66 = cp78 (σ.1 65) (σ.1 66) 78 := by rw [(f1.1 66 (by simp)).1, (z2.1 66 (by simp)).1, sI_self]
        have e65 : ∀ q, q < 78 → (sI σ3 65 (cp78 (σ3.1 66) (σ3.1 65) 78)).1 65 q = σ.1 65 q := fun q hq => by rw [sI_self, cp_in hq, e66, cp_in hq]
        exact ⟨congrArg (fun v => some (Value.int v)) (by symm; unfold aAfter; rw [if_neg (by rw [h9]; decide), if_pos rfl]; first | done | rfl), hs.same hF3 e65 (fun q => q.ag e65) (by decide) (by decide), hF3.s (by decide)⟩
    · refine g_aload_n C dX8_after_72 rfl ?_
      refine g_callV C (ob_X8 (by rfl)) (c_X8_finds (d := d) z1.P) dX8_after_73 km_RX8_138 kn_RX8 kc_yX8_finds ki_yX8_finds kx_yX8_finds (by omega) (by decide) ⟨by decide, by decide, rfl⟩ rfl (Nat.le_of_ble_eq_true rfl) (fun r3 σ3 q3 => ?_)
      obtain ⟨rfl, hB, hI, f1⟩ := q3
      have hB : GmB σ3 (gLst (evP s).2 (evP s).1) := hB
      have z3 : RfIs σ3 (sPts s (evP s)) := z1.go f1 (by decide) (by decide)
      refine g_iload_n C dX8_after_76 rfl ?_
      refine g_ifneN C 87 dX8_after_77 (by decide) (by omega) (fun h77 => ?_) (fun h77 => ?_)
      · refine g_iload_n C dX8_after_87 rfl ?_
        refine g_ic (n := 1) C dX8_after_88 (by decide) ?_
        refine g_icneN C 99 dX8_after_89 (by decide) (by omega) (by omega) (fun h89 => ?_) (fun h89 => ?_)
        · exact absurd rfl h89
        · refine g_aload_n C dX8_after_92 rfl ?_
          refine g_callVp C (ob_X8 (by rfl)) (c_X8_classes (d := d) hB) dX8_after_93 km_RX8_222 kn_RX8 kc_yX8_classes ki_yX8_classes kx_yX8_classes (by omega) (by decide) ⟨by decide, by decide, rfl⟩ rfl (Nat.le_of_ble_eq_true rfl) ?_
          rw [cn_48 hCv]
          refine g_goto C 103 dX8_after_96 (by decide) ?_
          refine g_istore_n C dX8_after_103 (by decide) ?_
          refine g_aload_n C dX8_after_104 rfl ?_
          refine gf_X8_aside C (by rfl) dX8_after_105 kf_RX8_15 ?_
          refine g_aload_n C dX8_after_108 rfl ?_
          refine gf_X8_w C (by rfl) dX8_after_109 kf_RX8_11 ?_
          refine g_callSu C (c_X8_copies (d := d) rfl rfl (by decide)) dX8_after_112 km_RX8_263 kn_RX8 kc_yX8_copies ks_yX8_copies (by omega) (by decide) ⟨by decide, by decide, rfl⟩ rfl (Nat.le_of_ble_eq_true rfl) ?_
          refine g_iload_n C dX8_after_115 rfl ?_
          refine g_iret C dX8_after_116 ?_
          have hF3 : Fk [6] [65, 66, 68, 69] σ (sI σ3 65 (cp78 (σ3.1 66) (σ3.1 65) 78)) := ((hF1.tr (z2.mono (by simp) (by simp))).tr (f1.mono (by simp) (by simp))).sI (by simp) (by decide)
          have e66 : σ3.1 66 = cp78 (σ.1 65) (σ.1 66) 78 := by rw [(f1.1 66 (by simp)).1, (z2.1 66 (by simp)).1, sI_self]
          have e65 : ∀ q, q < 78 → (sI σ3 65 (cp78 (σ3.1 66) (σ3.1 65) 78)).1 65 q = σ.1 65 q := fun q hq => by rw [sI_self, cp_in hq, e66, cp_in hq]
          exact ⟨congrArg (fun v => some (Value.int v)) (by symm; unfold aAfter; rw [if_neg (by rw [h9]; decide), if_neg (by decide), if_pos rfl]; first | done | rfl), hs.same hF3 e65 (fun q => q.ag e65) (by decide) (by decide), hF3.s (by decide)⟩
      · exact absurd h77 (by decide)
    · refine g_aload_n C dX8_after_72 rfl ?_
      refine g_callV C (ob_X8 (by rfl)) (c_X8_finds (d := d) z1.P) dX8_after_73 km_RX8_138 kn_RX8 kc_yX8_finds ki_yX8_finds kx_yX8_finds (by omega) (by decide) ⟨by decide, by decide, rfl⟩ rfl (Nat.le_of_ble_eq_true rfl) (fun r3 σ3 q3 => ?_)
      obtain ⟨rfl, hB, hI, f1⟩ := q3
      have hB : GmB σ3 (gLst (evP s).2 (evP s).1) := hB
      have z3 : RfIs σ3 (sPts s (evP s)) := z1.go f1 (by decide) (by decide)
      refine g_iload_n C dX8_after_76 rfl ?_
      refine g_ifneN C 87 dX8_after_77 (by decide) (by omega) (fun h77 => ?_) (fun h77 => ?_)
      · refine g_iload_n C dX8_after_87 rfl ?_
        refine g_ic (n := 1) C dX8_after_88 (by decide) ?_
        refine g_icneN C 99 dX8_after_89 (by decide) (by omega) (by omega) (fun h89 => ?_) (fun h89 => ?_)
        · refine g_aload_n C dX8_after_99 rfl ?_
          refine g_callVp C (ob_X8 (by rfl)) (c_X8_orbits (d := d) hB z3.P) dX8_after_100 km_RX8_225 kn_RX8 kc_yX8_orbits ki_yX8_orbits kx_yX8_orbits (by omega) (by decide) ⟨by decide, by decide, rfl⟩ rfl (Nat.le_of_ble_eq_true rfl) ?_
          refine g_istore_n C dX8_after_103 (by decide) ?_
          refine g_aload_n C dX8_after_104 rfl ?_
          refine gf_X8_aside C (by rfl) dX8_after_105 kf_RX8_15 ?_
          refine g_aload_n C dX8_after_108 rfl ?_
          refine gf_X8_w C (by rfl) dX8_after_109 kf_RX8_11 ?_
          refine g_callSu C (c_X8_copies (d := d) rfl rfl (by decide)) dX8_after_112 km_RX8_263 kn_RX8 kc_yX8_copies ks_yX8_copies (by omega) (by decide) ⟨by decide, by decide, rfl⟩ rfl (Nat.le_of_ble_eq_true rfl) ?_
          refine g_iload_n C dX8_after_115 rfl ?_
          refine g_iret C dX8_after_116 ?_
          have hF3 : Fk [6] [65, 66, 68, 69] σ (sI σ3 65 (cp78 (σ3.1 66) (σ3.1 65) 78)) := ((hF1.tr (z2.mono (by simp) (by simp))).tr (f1.mono (by simp) (by simp))).sI (by simp) (by decide)
          have e66 : σ3.1 66 = cp78 (σ.1 65) (σ.1 66) 78 := by rw [(f1.1 66 (by simp)).1, (z2.1 66 (by simp)).1, sI_self]
          have e65 : ∀ q, q < 78 → (sI σ3 65 (cp78 (σ3.1 66) (σ3.1 65) 78)).1 65 q = σ.1 65 q := fun q hq => by rw [sI_self, cp_in hq, e66, cp_in hq]
          exact ⟨congrArg (fun v => some (Value.int v)) (by symm; unfold aAfter; rw [if_neg (by rw [h9]; decide), if_neg (by decide), if_neg (by decide)]; first | done | rfl), hs.same hF3 e65 (fun q => q.ag e65) (by decide) (by decide), hF3.s (by decide)⟩
        · exact absurd h89 (by decide)
      · exact absurd h77 (by decide)
  · refine g_icz (v := -1) C dX8_after_12 (by decide) ?_
    refine g_iret C dX8_after_13 ?_
    exact ⟨congrArg (fun v => some (Value.int v)) (by unfold aAfter; rw [if_pos h9]), hs, Rs.rf⟩

