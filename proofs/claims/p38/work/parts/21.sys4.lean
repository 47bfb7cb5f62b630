/-! ShapeMoves: what is told, motions, signs -/
def aTold (s : Ms) (w : Int32) : Int32 := if inB w 0 7 = false then -1 else if w = nI 0 then nI s.1.1.1 else if w = nI 1 then nI (gL s).length else if w = nI 2 then nI (clC (gL s)).2.2 else if w = nI 3 then nI (ocL s.1.1.2 s.1.1.1 (gL s) s.1.1.1 0 0) else if w = nI 4 then bI (hdL (gL s) (gL s).length 0) else if w = nI 5 then bI (kpt s.1.1.2 s.1.1.1 7) else if w = nI 6 then nI (fsF (gL s)).2 else oI (nrL s.1.1.2 s.1.1.1 48 0 none 9)
theorem GrIs.go2 {σ σ' : St} {g n : Nat} {P : Nat → Nat → Int32} {L : List Nat} (h : GrIs σ g n P L) (h0 : ∀ q, q ≠ 11 → q ≠ 12 → σ'.1 g q = σ.1 g q) (hF : Fr [g, g + 7, g + 8] σ σ') : GrIs σ' g n P L := by
  obtain ⟨a1, a2, a3, a4, a5, f, e, a6, a7, a8⟩ := h
  exact ⟨a1.go2 (h0 2 (by decide) (by decide)) (hF (g + 2) (by simp)).1, fun q hq => by rw [(hF (g + 1) (by simp)).1]; exact a2 q hq, fun q hq => by rw [(hF (g + 4) (by simp)).1]; exact a3 q hq, by rw [h0 5 (by decide) (by decide)]; exact a4, fun j hj => by rw [(hF (g + 3) (by simp)).1]; exact a5 j hj, f, e, by rw [(hF (g + 5) (by simp)).1]; exact a6, by rw [(hF (g + 6) (by simp)).1]; exact a7, by rw [h0 8 (by decide) (by decide)]; exact a8⟩
theorem Sy.sg {σ σ' : St} {s : Ms} (h : SyIs σ s) (hg : GnIs σ s.1.1) (h0 : ∀ q, q ≠ 11 → q ≠ 12 → σ'.1 30 q = σ.1 30 q) (hF : Fr [30, 37, 38] σ σ') (hS : SgIs σ' 30 (gL s)) : SyIs σ' s ∧ GnIs σ' s.1.1 := by
  obtain ⟨h1, h2, h3, h4, h5⟩ := h
  have hg2 : GnIs σ' s.1.1 := ⟨by rw [(hF 0 (by simp)).1]; exact hg.1, hg.2.1.go2 h0 hF, Or.inr hS⟩
  exact ⟨⟨h1.go hF (by decide), h2.go (by rw [(hF 0 (by simp)).1]) hF (by decide), Or.inr hg2, h4.go hF (by simp) (by simp), h5.go hF (by decide)⟩, hg2⟩
set_option maxHeartbeats 4000000 in
set_option maxRecDepth 100000 in
theorem l_X7_nearest {E : Ev} {d : Nat} {X : Mx} (C : Cx E X cX7_nearest RX7 6 ((Option.some FieldType.int))) {σ : St} {n : Nat} {P : Nat → Nat → Int32} (h : ShIs σ 3 n P) (hM : ∀ q, q < 48 → σ.1 31 q = bI (kpt P n q)) : ∀ (k : Nat) (m : Nat) (b : Option Nat) (f : Nat), 48 = m + k → f ≤ 9 → G E (d + 5) X 6 (Det (some (.int (oI (nrL P n k m b f)))) σ) σ 9 ([(0, .ref (ev_a E 0)), (1, .ref (ev_a E 30)), (2, .int (oI b)), (3, .int (nI f)), (4, .int (nI m))]) [] := by
  intro k
  induction k with
  | zero =>
    intro m b f hm hf
    refine g_iload C dX7_nearest_9 rfl ?_
    refine g_bp C (nI 48) dX7_nearest_11 (by decide) ?_
    first | refine g_icgeN C 58 dX7_nearest_13 (by decide) (by omega) (by omega) (fun h13 => ?_) (fun h13 => ?_) | refine g_icge C 58 dX7_nearest_13 (by decide) (fun h13 => ?_) (fun h13 => ?_)
    · refine g_iload_n C dX7_nearest_58 rfl ?_
      refine g_iret C dX7_nearest_59 ?_
      exact ⟨congrArg (fun v => some (Value.int v)) (rfl), rfl⟩
    · omega
  | succ k ih =>
    intro m b f hm hf
    refine g_iload C dX7_nearest_9 rfl ?_
    refine g_bp C (nI 48) dX7_nearest_11 (by decide) ?_
    first | refine g_icgeN C 58 dX7_nearest_13 (by decide) (by omega) (by omega) (fun h13 => ?_) (fun h13 => ?_) | refine g_icge C 58 dX7_nearest_13 (by decide) (fun h13 => ?_) (fun h13 => ?_)
    · omega
    · refine g_aload_n C dX7_nearest_16 rfl ?_
      refine gn_X0_members C (by rfl) dX7_nearest_17 nw_X7_170 ?_
      refine g_iload C dX7_nearest_20 rfl ?_
      refine g_zaldN C (by rfl) (by omega) (by first | decide | omega) dX7_nearest_22 ?_
      rw [show σ.1 (30 + 1) m = _ from hM m (by omega)]
      refine g_ifneB C 52 dX7_nearest_23 (by decide) (fun h23 => ?_) (fun h23 => ?_)
      · refine g_iinc1 C dX7_nearest_52 rfl (by decide) ?_
        refine g_goto C 9 dX7_nearest_55 (by decide) ?_
        first | (refine g_loc ([(0, .ref (ev_a E 0)), (1, .ref (ev_a E 30)), (2, .int (oI (some m))), (3, .int (nI (mvN P n m))), (4, .int (nI (m + 1)))]) (And.intro rfl (And.intro rfl (And.intro rfl (And.intro rfl (And.intro rfl trivial))))) ?_; rw [show nrL P n (k + 1) m b f = nrL P n k (m + 1) (some m) (mvN P n m) from by rw [nrL, if_pos ⟨by assumption, by omega⟩]]; exact ih (m + 1) (some m) (mvN P n m) (by omega) (by omega)) | (refine g_loc ([(0, .ref (ev_a E 0)), (1, .ref (ev_a E 30)), (2, .int (oI b)), (3, .int (nI f)), (4, .int (nI (m + 1)))]) (And.intro rfl (And.intro rfl (And.intro rfl (And.intro rfl (And.intro rfl trivial))))) ?_; rw [show nrL P n (k + 1) m b f = nrL P n k (m + 1) b f from by rw [nrL, if_neg (by first | (intro q; omega) | (intro q; rw [h23] at q; exact absurd q.1 (by decide)))]]; exact ih (m + 1) b f (by omega) (by omega))
      · refine g_aload_n C dX7_nearest_26 rfl ?_
        refine gf_X7_now C (by rfl) dX7_nearest_27 kf_RX7_12 ?_
        refine gn_X3_shape C (by rfl) dX7_nearest_30 nw_X7_67 ?_
        refine g_iload C dX7_nearest_33 rfl ?_
        refine g_callVp C (ob_X4 (by rfl)) (c_X4_movedBy (d := d) h (by omega)) dX7_nearest_35 km_RX7_147 kn_RX4 kc_yX4_movedBy ki_yX4_movedBy kx_yX4_movedBy (by omega) (by decide) ⟨by decide, by decide, rfl⟩ rfl (Nat.le_of_ble_eq_true rfl) ?_
        refine g_istore C dX7_nearest_38 (by decide) ?_
        refine g_iload C dX7_nearest_40 rfl ?_
        refine g_iload_n C dX7_nearest_42 rfl ?_
        have b1 := mvN_le (P := P) (n := n) (m := m)
        have b2 := h.2.1
        first | refine g_icgeN C 52 dX7_nearest_43 (by decide) (by omega) (by omega) (fun h43 => ?_) (fun h43 => ?_) | refine g_icge C 52 dX7_nearest_43 (by decide) (fun h43 => ?_) (fun h43 => ?_)
        · refine g_iinc1 C dX7_nearest_52 rfl (by decide) ?_
          refine g_goto C 9 dX7_nearest_55 (by decide) ?_
          first | (refine g_loc ([(0, .ref (ev_a E 0)), (1, .ref (ev_a E 30)), (2, .int (oI (some m))), (3, .int (nI (mvN P n m))), (4, .int (nI (m + 1)))]) (And.intro rfl (And.intro rfl (And.intro rfl (And.intro rfl (And.intro rfl trivial))))) ?_; rw [show nrL P n (k + 1) m b f = nrL P n k (m + 1) (some m) (mvN P n m) from by rw [nrL, if_pos ⟨by assumption, by omega⟩]]; exact ih (m + 1) (some m) (mvN P n m) (by omega) (by omega)) | (refine g_loc ([(0, .ref (ev_a E 0)), (1, .ref (ev_a E 30)), (2, .int (oI b)), (3, .int (nI f)), (4, .int (nI (m + 1)))]) (And.intro rfl (And.intro rfl (And.intro rfl (And.intro rfl (And.intro rfl trivial))))) ?_; rw [show nrL P n (k + 1) m b f = nrL P n k (m + 1) b f from by rw [nrL, if_neg (by first | (intro q; omega) | (intro q; rw [h23] at q; exact absurd q.1 (by decide)))]]; exact ih (m + 1) b f (by omega) (by omega))
        · refine g_iload C dX7_nearest_46 rfl ?_
          refine g_istore_n C dX7_nearest_48 (by decide) ?_
          refine g_iload C dX7_nearest_49 rfl ?_
          refine g_istore_n C dX7_nearest_51 (by decide) ?_
          refine g_iinc1 C dX7_nearest_52 rfl (by decide) ?_
          refine g_goto C 9 dX7_nearest_55 (by decide) ?_
          first | (refine g_loc ([(0, .ref (ev_a E 0)), (1, .ref (ev_a E 30)), (2, .int (oI (some m))), (3, .int (nI (mvN P n m))), (4, .int (nI (m + 1)))]) (And.intro rfl (And.intro rfl (And.intro rfl (And.intro rfl (And.intro rfl trivial))))) ?_; rw [show nrL P n (k + 1) m b f = nrL P n k (m + 1) (some m) (mvN P n m) from by rw [nrL, if_pos ⟨by assumption, by omega⟩]]; exact ih (m + 1) (some m) (mvN P n m) (by omega) (by omega)) | (refine g_loc ([(0, .ref (ev_a E 0)), (1, .ref (ev_a E 30)), (2, .int (oI b)), (3, .int (nI f)), (4, .int (nI (m + 1)))]) (And.intro rfl (And.intro rfl (And.intro rfl (And.intro rfl (And.intro rfl trivial))))) ?_; rw [show nrL P n (k + 1) m b f = nrL P n k (m + 1) b f from by rw [nrL, if_neg (by first | (intro q; omega) | (intro q; rw [h23] at q; exact absurd q.1 (by decide)))]]; exact ih (m + 1) b f (by omega) (by omega))
set_option maxHeartbeats 4000000 in
set_option maxRecDepth 100000 in
theorem c_X7_nearest {E : Ev} {d : Nat} {σ : St} {n : Nat} {P : Nat → Nat → Int32} (h : ShIs σ 3 n P) (hM : ∀ q, q < 48 → σ.1 31 q = bI (kpt P n q)) : Con E (d + 5) yX7_nearest cX7_nearest 6 ((Option.some FieldType.int)) [.ref (ev_a E 0), .ref (ev_a E 30)] σ (Det (some (.int (oI (nrL P n 48 0 none 9)))) σ) := by
  refine con_of (by decide) (Nat.le_of_ble_eq_true rfl) (fun X hX C => ?_)
  have C : Cx E X cX7_nearest RX7 6 ((Option.some FieldType.int)) := C
  show G E _ X _ _ _ 0 [(0, .ref (ev_a E 0)), (1, .ref (ev_a E 30))] []
  refine g_bp C (-5) dX7_nearest_0 (by decide) ?_
  refine g_istore_n C dX7_nearest_2 (by decide) ?_
  refine g_bp C (nI 9) dX7_nearest_3 (by decide) ?_
  refine g_istore_n C dX7_nearest_5 (by decide) ?_
  refine g_ic (n := 0) C dX7_nearest_6 (by decide) ?_
  refine g_istore C dX7_nearest_7 (by decide) ?_
  refine g_loc ([(0, .ref (ev_a E 0)), (1, .ref (ev_a E 30)), (2, .int (oI none)), (3, .int (nI 9)), (4, .int (nI 0))]) (And.intro rfl (And.intro rfl (And.intro rfl (And.intro rfl (And.intro rfl trivial))))) ?_
  exact l_X7_nearest C h hM 48 0 none 9 (by omega) (by omega)
set_option maxHeartbeats 4000000 in
set_option maxRecDepth 100000 in
theorem c_X7_told {E : Ev} {d : Nat} {σ : St} {s : Ms} (hs : SyIs σ s) {w : Int32} : Con E (d + 7) yX7_told cX7_told 3 ((Option.some FieldType.int)) [.ref (ev_a E 0), .int w] σ (SyTo (.int (aTold s w)) σ (s)) := by
  refine con_of (by decide) (Nat.le_of_ble_eq_true rfl) (fun X hX C => ?_)
  have C : Cx E X cX7_told RX7 3 ((Option.some FieldType.int)) := C
  obtain ⟨hS, hI, hO, hT, hA⟩ := id hs
  have hn8 : s.1.1.1 ≤ 8 := hS.1.2.1
  show G E _ X _ _ _ 0 [(0, .ref (ev_a E 0)), (1, .int w)] []
  refine g_iload_n C dX7_told_0 rfl ?_
  refine g_iflt C 10 dX7_told_1 (by decide) (fun h1 => ?_) (fun h1 => ?_)
  · have e1 : inB w 0 7 = false := in_lo h1
    refine g_icz (v := -1) C dX7_told_10 (by decide) ?_
    refine g_iret C dX7_told_11 ?_
    exact ⟨congrArg (fun v => some (Value.int v)) (by first | (simp [aTold, e1]; done) | (simp [aTold, e7]; done)), hs, Fs.rf⟩
  · refine g_iload_n C dX7_told_4 rfl ?_
    refine g_bp C (nI 7) dX7_told_5 (by decide) ?_
    refine g_icle C 12 dX7_told_7 (by decide) (fun h7 => ?_) (fun h7 => ?_)
    · have e7 : inB w 0 7 = true := in_le_t (k := 7) (by decide) h1 h7
      refine g_aload_n C dX7_told_12 rfl ?_
      refine g_callV C (ob_X7 (by rfl)) (c_X7_groupNow (d := d) hs) dX7_told_13 km_RX7_93 kn_RX7 kc_yX7_groupNow ki_yX7_groupNow kx_yX7_groupNow (by omega) (by decide) ⟨by decide, by decide, rfl⟩ rfl (Nat.le_of_ble_eq_true rfl) (fun r1 σ1 q1 => ?_)
      obtain ⟨rfl, u1, u2, u3⟩ := q1
      obtain ⟨v0, ⟨vB, vM, vO, v5, vS, f0, f1, vC, vD, v8⟩, v12⟩ := id u2
      have vLe : (gL s).length ≤ 48 := vB.2.1.1
      refine g_astore_n C dX7_told_16 (by decide) ?_
      obtain ⟨w2, hw2, rfl⟩ := in_n (k := 7) e7
      have hw4 : w2 = 0 ∨ w2 = 1 ∨ w2 = 2 ∨ w2 = 3 ∨ w2 = 4 ∨ w2 = 5 ∨ w2 = 6 ∨ w2 = 7 := by omega
      rcases hw4 with rfl | rfl | rfl | rfl | rfl | rfl | rfl | rfl
      · refine g_iload_n C dX7_told_17 rfl ?_
        refine g_tsIn C 60 dX7_told_18 (by decide) (by decide) rfl (by decide) ?_
        refine g_aload_n C dX7_told_60 rfl ?_
        refine gf_X7_now C (by rfl) dX7_told_61 kf_RX7_12 ?_
        refine gn_X3_shape C (by rfl) dX7_told_64 nw_X7_67 ?_
        refine gn_X4_size C (by rfl) dX7_told_67 nw_X7_74 ?_
        rw [show σ1.1 (3 * 1) 2 = nI s.1.1.1 from u1.1.1.2.2.1]
        refine g_iret C dX7_told_70 ?_
        exact ⟨congrArg (fun v => some (Value.int v)) (by unfold aTold; rw [if_neg (by rw [e7]; decide), if_pos rfl]), u1, u3⟩
      · refine g_iload_n C dX7_told_17 rfl ?_
        refine g_tsIn C 71 dX7_told_18 (by decide) (by decide) rfl (by decide) ?_
        refine g_aload_n C dX7_told_71 rfl ?_
        refine gn_X0_size C (by rfl) dX7_told_72 nw_X7_159 ?_
        rw [vB.2.2.1]
        refine g_iret C dX7_told_75 ?_
        exact ⟨congrArg (fun v => some (Value.int v)) (by unfold aTold; rw [if_neg (by rw [e7]; decide), if_neg (by decide), if_pos rfl]), u1, u3⟩
      · refine g_iload_n C dX7_told_17 rfl ?_
        refine g_tsIn C 76 dX7_told_18 (by decide) (by decide) rfl (by decide) ?_
        refine g_aload_n C dX7_told_76 rfl ?_
        refine gn_X0_classes C (by rfl) dX7_told_77 nw_X7_160 ?_
        rw [v8, (clF_ag (gL s) f0 f1).1]
        refine g_iret C dX7_told_80 ?_
        exact ⟨congrArg (fun v => some (Value.int v)) (by unfold aTold; rw [if_neg (by rw [e7]; decide), if_neg (by decide), if_neg (by decide), if_pos rfl]), u1, u3⟩
      · refine g_iload_n C dX7_told_17 rfl ?_
        refine g_tsIn C 81 dX7_told_18 (by decide) (by decide) rfl (by decide) ?_
        refine g_aload_n C dX7_told_81 rfl ?_
        refine gn_X0_orbitsInAll C (by rfl) dX7_told_82 nw_X7_163 ?_
        rw [v5]
        refine g_iret C dX7_told_85 ?_
        exact ⟨congrArg (fun v => some (Value.int v)) (by unfold aTold; rw [if_neg (by rw [e7]; decide), if_neg (by decide), if_neg (by decide), if_neg (by decide), if_pos rfl]), u1, u3⟩
      · refine g_iload_n C dX7_told_17 rfl ?_
        refine g_tsIn C 86 dX7_told_18 (by decide) (by decide) rfl (by decide) ?_
        refine g_aload_n C dX7_told_86 rfl ?_
        refine g_callVp C (ob_X0 (by rfl)) (c_X0_isHanded (d := d) vB) dX7_told_87 km_RX7_166 kn_RX0 kc_yX0_isHanded ki_yX0_isHanded kx_yX0_isHanded (by omega) (by decide) ⟨by decide, by decide, rfl⟩ rfl (Nat.le_of_ble_eq_true rfl) ?_
        refine g_ifeqB C 97 dX7_told_90 (by decide) (fun h90 => ?_) (fun h90 => ?_)
        · refine g_ic (n := 0) C dX7_told_97 (by decide) ?_
          refine g_iret C dX7_told_98 ?_
          exact ⟨congrArg (fun v => some (Value.int v)) (by unfold aTold; rw [if_neg (by rw [e7]; decide), if_neg (by decide), if_neg (by decide), if_neg (by decide), if_neg (by decide), if_pos rfl]; rw [h90]; rfl), u1, u3⟩
        · refine g_ic (n := 1) C dX7_told_93 (by decide) ?_
          refine g_goto C 98 dX7_told_94 (by decide) ?_
          refine g_iret C dX7_told_98 ?_
          exact ⟨congrArg (fun v => some (Value.int v)) (by unfold aTold; rw [if_neg (by rw [e7]; decide), if_neg (by decide), if_neg (by decide), if_neg (by decide), if_neg (by decide), if_pos rfl]; rw [h90]; rfl), u1, u3⟩
      · refine g_iload_n C dX7_told_17 rfl ?_
        refine g_tsIn C 99 dX7_told_18 (by decide) (by decide) rfl (by decide) ?_
        refine g_aload_n C dX7_told_99 rfl ?_
        refine gn_X0_members C (by rfl) dX7_told_100 nw_X7_170 ?_
        refine g_bp C (nI 7) dX7_told_103 (by decide) ?_
        refine g_zaldN C (by rfl) (by decide) (by first | decide | omega) dX7_told_105 ?_
        rw [show σ1.1 (30 + 1) 7 = _ from vM 7 (by decide)]
        refine g_ifeqB C 113 dX7_told_106 (by decide) (fun h106 => ?_) (fun h106 => ?_)
        · refine g_ic (n := 0) C dX7_told_113 (by decide) ?_
          refine g_iret C dX7_told_114 ?_
          exact ⟨congrArg (fun v => some (Value.int v)) (by unfold aTold; rw [if_neg (by rw [e7]; decide), if_neg (by decide), if_neg (by decide), if_neg (by decide), if_neg (by decide), if_neg (by decide), if_pos rfl]; rw [h106]; rfl), u1, u3⟩
        · refine g_ic (n := 1) C dX7_told_109 (by decide) ?_
          refine g_goto C 114 dX7_told_110 (by decide) ?_
          refine g_iret C dX7_told_114 ?_
          exact ⟨congrArg (fun v => some (Value.int v)) (by unfold aTold; rw [if_neg (by rw [e7]; decide), if_neg (by decide), if_neg (by decide), if_neg (by decide), if_neg (by decide), if_neg (by decide), if_pos rfl]; rw [h106]; rfl), u1, u3⟩
      · refine g_iload_n C dX7_told_17 rfl ?_
        refine g_tsIn C 115 dX7_told_18 (by decide) (by decide) rfl (by decide) ?_
        refine g_aload_n C dX7_told_115 rfl ?_
        refine g_callV C (ob_X0 (by rfl)) (c_X0_signsInAll (d := d) vB v12) dX7_told_116 km_RX7_174 kn_RX0 kc_yX0_signsInAll ki_yX0_signsInAll kx_yX0_signsInAll (by omega) (by decide) ⟨by decide, by decide, rfl⟩ rfl (Nat.le_of_ble_eq_true rfl) (fun r2 σ2 q2 => ?_)
        obtain ⟨rfl, x1, x2, x3⟩ := q2
        refine g_iret C dX7_told_119 ?_
        obtain ⟨y1, y2⟩ := Sy.sg u1 u2 x2 x3 x1
        exact ⟨congrArg (fun v => some (Value.int v)) (by unfold aTold; rw [if_neg (by rw [e7]; decide), if_neg (by decide), if_neg (by decide), if_neg (by decide), if_neg (by decide), if_neg (by decide), if_neg (by decide), if_pos rfl]), y1, u3.tr (x3.s (by decide))⟩
      · refine g_iload_n C dX7_told_17 rfl ?_
        refine g_tsOut C 120 dX7_told_18 (by decide) (by decide) ?_
        refine g_aload_n C dX7_told_120 rfl ?_
        refine g_aload_n C dX7_told_121 rfl ?_
        refine g_callVp C (ob_X7 (by rfl)) (c_X7_nearest (d := d) u1.1.1 vM) dX7_told_122 km_RX7_177 kn_RX7 kc_yX7_nearest ki_yX7_nearest kx_yX7_nearest (by omega) (by decide) ⟨by decide, by decide, rfl⟩ rfl (Nat.le_of_ble_eq_true rfl) ?_
        refine g_iret C dX7_told_125 ?_
        exact ⟨congrArg (fun v => some (Value.int v)) (by unfold aTold; rw [if_neg (by rw [e7]; decide), if_neg (by decide), if_neg (by decide), if_neg (by decide), if_neg (by decide), if_neg (by decide), if_neg (by decide), if_neg (by decide)]), u1, u3⟩
    · have e7 : inB w 0 7 = false := in_le_f (k := 7) (by decide) h7
      refine g_icz (v := -1) C dX7_told_10 (by decide) ?_
      refine g_iret C dX7_told_11 ?_
      exact ⟨congrArg (fun v => some (Value.int v)) (by first | (simp [aTold, e1]; done) | (simp [aTold, e7]; done)), hs, Fs.rf⟩
