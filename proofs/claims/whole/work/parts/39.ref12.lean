/-! THE REFERENCE over the same state: a clause, the clauses, what is done -/
theorem up_k {f : Nat → Int32} {k j : Nat} {x : Int32} (h : j = k) : upd f k x j = x := by subst h; exact up_i
theorem WC.go {f f' : Nat → Int32} {to : Nat} {v : Cl} (h : WC f to v) (e : ∀ x, to ≤ x → x < to + 5 → f' x = f x) : WC f' to v := by
  unfold WC at h ⊢
  rw [e to (by omega) (by omega), e (to + 1) (by omega) (by omega), e (to + 2) (by omega) (by omega), e (to + 3) (by omega) (by omega), e (to + 4) (by omega) (by omega)]
  exact h

set_option maxHeartbeats 4000000 in
set_option maxRecDepth 100000 in
theorem c_X8_clause {E : Ev} {d : Nat} {σ : St} {n i : Nat} {T : Nat → Nat} (hT : TR σ n T) (hi : i ≤ n) (hp : σ.1 64 15 = nI i) {c : Nat} (hw : σ.1 64 16 = bI false) (hm : σ.1 64 18 = nI c) (hc : c < 12) : Con E (d + 3) yX8_clause cX8_clause 4 ((Option.none : Option FieldType)) [.ref (ev_a E 64)] σ (fun r σ2 => r = none ∧ ClE σ σ2 T n i c) := by
  refine con_of (by decide) (Nat.le_of_ble_eq_true rfl) (fun X hX C => ?_)
  have C : Cx E X cX8_clause RX8 4 ((Option.none : Option FieldType)) := C
  have h100 := hT.2.1
  show G E _ X _ _ _ 0 [(0, .ref (ev_a E 64))] []
  cases g112 : sgA T n 112 i
  · cases g109 : sgA T n 109 i
    · cases g100 : sgA T n 100 i
      · refine g_aload_n C dX8_clause_0 rfl ?_
        refine g_callVp C (ob_X8 (by rfl)) (c_X8_here (d := d) hT hi hp) dX8_clause_1 km_RX8_181 kn_RX8 kc_yX8_here ki_yX8_here kx_yX8_here (by omega) (by decide) ⟨by decide, by decide, rfl⟩ rfl (Nat.le_of_ble_eq_true rfl) ?_
        refine g_istore_n C dX8_clause_4 (by decide) ?_
        refine g_ic (n := 5) C dX8_clause_5 (by decide) ?_
        refine g_aload_n C dX8_clause_6 rfl ?_
        refine gf_X8_toldMany C (by rfl) dX8_clause_7 kf_RX8_192 ?_
        rw [hm]
        refine g_imulN C dX8_clause_10 ?_
        refine g_istore_n C dX8_clause_11 (by decide) ?_
        refine g_aload_n C dX8_clause_12 rfl ?_
        refine gf_X8_told C (by rfl) dX8_clause_13 kf_RX8_43 ?_
        refine g_iload_n C dX8_clause_16 rfl ?_
        refine g_iload_n C dX8_clause_17 rfl ?_
        refine g_iastN C (by rfl) (by omega) (by first | decide | omega) dX8_clause_18 ?_
        refine g_iload_n C dX8_clause_19 rfl ?_
        refine g_bp C (nI 112) dX8_clause_20 (by decide) ?_
        refine g_iceq C 43 dX8_clause_22 (by decide) (fun h22 => ?_) (fun h22 => ?_)
        · exact absurd ((hr_sg hT.lt (by decide)).mp h22) (by rw [g112]; decide)
        · refine g_iload_n C dX8_clause_25 rfl ?_
          refine g_bp C (nI 109) dX8_clause_26 (by decide) ?_
          refine g_iceq C 43 dX8_clause_28 (by decide) (fun h28 => ?_) (fun h28 => ?_)
          · exact absurd ((hr_sg hT.lt (by decide)).mp h28) (by rw [g109]; decide)
          · refine g_iload_n C dX8_clause_31 rfl ?_
            refine g_bp C (nI 100) dX8_clause_32 (by decide) ?_
            refine g_iceq C 43 dX8_clause_34 (by decide) (fun h34 => ?_) (fun h34 => ?_)
            · exact absurd ((hr_sg hT.lt (by decide)).mp h34) (by rw [g100]; decide)
            · refine g_aload_n C dX8_clause_37 rfl ?_
              refine g_ic (n := 1) C dX8_clause_38 (by decide) ?_
              refine gp_X8_isWrong C (by rfl) (by first | exact bI_01 _ | exact Or.inl rfl | exact Or.inr rfl) dX8_clause_39 kf_RX8_177 ?_
              refine g_vret C dX8_clause_42 ?_
              have y := n_way g112 g109 g100
              show _ ∧ ClE σ (setF (sI σ 75 (upd (σ.1 75) (5 * c) (hrI T n i))) 64 16 (nI 1)) T n i c
              refine ⟨rfl, ?_, ?_, fun q => absurd q (by rw [y]; exact Bool.false_ne_true), fun q hq => ?_, (Fk.rf.sI (by simp) (by decide)).sF (by simp)⟩
              · unfold setF; rw [sI_self, up_n (by decide), sI_ne (by decide), hp, y]
              · unfold setF; rw [sI_self, up_i, y]; rfl
              · unfold setF; rw [sI_ne (by decide), sI_self, up_n (by omega)]
      · have hc100 : hrI T n i = nI 100 := (hr_sg hT.lt (by decide)).mpr g100
        refine g_aload_n C dX8_clause_0 rfl ?_
        refine g_callVp C (ob_X8 (by rfl)) (c_X8_here (d := d) hT hi hp) dX8_clause_1 km_RX8_181 kn_RX8 kc_yX8_here ki_yX8_here kx_yX8_here (by omega) (by decide) ⟨by decide, by decide, rfl⟩ rfl (Nat.le_of_ble_eq_true rfl) ?_
        rw [hc100]
        refine g_istore_n C dX8_clause_4 (by decide) ?_
        refine g_ic (n := 5) C dX8_clause_5 (by decide) ?_
        refine g_aload_n C dX8_clause_6 rfl ?_
        refine gf_X8_toldMany C (by rfl) dX8_clause_7 kf_RX8_192 ?_
        rw [hm]
        refine g_imulN C dX8_clause_10 ?_
        refine g_istore_n C dX8_clause_11 (by decide) ?_
        refine g_aload_n C dX8_clause_12 rfl ?_
        refine gf_X8_told C (by rfl) dX8_clause_13 kf_RX8_43 ?_
        refine g_iload_n C dX8_clause_16 rfl ?_
        refine g_iload_n C dX8_clause_17 rfl ?_
        refine g_iastN C (by rfl) (by omega) (by first | decide | omega) dX8_clause_18 ?_
        refine g_iload_n C dX8_clause_19 rfl ?_
        refine g_bp C (nI 112) dX8_clause_20 (by decide) ?_
        refine g_iceqN C 43 dX8_clause_22 (by decide) (by omega) (by omega) (fun h22 => ?_) (fun h22 => ?_)
        · first | exact absurd h22 (by decide) | exact absurd rfl h22
        · refine g_iload_n C dX8_clause_25 rfl ?_
          refine g_bp C (nI 109) dX8_clause_26 (by decide) ?_
          refine g_iceqN C 43 dX8_clause_28 (by decide) (by omega) (by omega) (fun h28 => ?_) (fun h28 => ?_)
          · first | exact absurd h28 (by decide) | exact absurd rfl h28
          · refine g_iload_n C dX8_clause_31 rfl ?_
            refine g_bp C (nI 100) dX8_clause_32 (by decide) ?_
            refine g_iceqN C 43 dX8_clause_34 (by decide) (by omega) (by omega) (fun h34 => ?_) (fun h34 => ?_)
            · refine g_aload_n C dX8_clause_43 rfl ?_
              refine g_dup C dX8_clause_44 rfl ?_
              refine gf_X8_place C (by rfl) dX8_clause_45 kf_RX8_174 ?_
              rw [sI_ne (show 64 ≠ 75 by decide), hp]
              refine g_ic (n := 1) C dX8_clause_48 (by decide) ?_
              refine g_iaddN C dX8_clause_49 ?_
              refine gp_X8_place C (by rfl) dX8_clause_50 kf_RX8_174 ?_
              show G E _ X _ _ (setF (sI σ 75 (upd (σ.1 75) (5 * c) (nI 100))) 64 15 (nI (i + 1))) _ _ _
              have hpB : (setF (sI σ 75 (upd (σ.1 75) (5 * c) (nI 100))) 64 15 (nI (i + 1))).1 64 15 = nI (i + 1) := by unfold setF; rw [sI_self, up_i]
              have hwB : (setF (sI σ 75 (upd (σ.1 75) (5 * c) (nI 100))) 64 15 (nI (i + 1))).1 64 16 = bI false := by unfold setF; rw [sI_self, up_n (by decide), sI_ne (by decide)]; exact hw
              have hmB : (setF (sI σ 75 (upd (σ.1 75) (5 * c) (nI 100))) 64 15 (nI (i + 1))).1 64 18 = nI c := by unfold setF; rw [sI_self, up_n (by decide), sI_ne (by decide)]; exact hm
              have FB : Fk [15, 16, 18] [75] σ (setF (sI σ 75 (upd (σ.1 75) (5 * c) (nI 100))) 64 15 (nI (i + 1))) := (Fk.rf.sI (by simp) (by decide)).sF (by simp)
              have hTB : TR (setF (sI σ 75 (upd (σ.1 75) (5 * c) (nI 100))) 64 15 (nI (i + 1))) n T := hT.fk FB (by simp) (by simp)
              have h75B : (setF (sI σ 75 (upd (σ.1 75) (5 * c) (nI 100))) 64 15 (nI (i + 1))).1 75 = upd (σ.1 75) (5 * c) (nI 100) := by unfold setF; rw [sI_ne (by decide), sI_self]
              generalize hB : (setF (sI σ 75 (upd (σ.1 75) (5 * c) (nI 100))) 64 15 (nI (i + 1))) = τ at hpB hwB hmB FB hTB h75B ⊢
              refine g_iload_n C dX8_clause_53 rfl ?_
              refine g_bp C (nI 112) dX8_clause_54 (by decide) ?_
              refine g_icneN C 105 dX8_clause_56 (by decide) (by omega) (by omega) (fun h56 => ?_) (fun h56 => ?_)
              · refine g_aload_n C dX8_clause_105 rfl ?_
                refine gf_X8_told C (by rfl) dX8_clause_106 kf_RX8_43 ?_
                refine g_iload_n C dX8_clause_109 rfl ?_
                refine g_ic (n := 1) C dX8_clause_110 (by decide) ?_
                refine g_iaddN C dX8_clause_111 ?_
                refine g_aload_n C dX8_clause_112 rfl ?_
                refine g_callV C (ob_X8 (by rfl)) (c_X8_digit (d := d) hTB (sgr_t g100) hpB hwB) dX8_clause_113 km_RX8_189 kn_RX8 kc_yX8_digit ki_yX8_digit kx_yX8_digit (by omega) (by decide) ⟨by decide, by decide, rfl⟩ rfl (Nat.le_of_ble_eq_true rfl) (fun r1 σ1 q1 => ?_)
                obtain ⟨rfl, p1, w1, f1⟩ := q1
                refine g_iastN C (by rfl) (by omega) (by first | decide | omega) dX8_clause_116 ?_
                refine g_aload_n C dX8_clause_117 rfl ?_
                refine gf_X8_told C (by rfl) dX8_clause_118 kf_RX8_43 ?_
                refine g_iload_n C dX8_clause_121 rfl ?_
                refine g_ic (n := 2) C dX8_clause_122 (by decide) ?_
                refine g_iaddN C dX8_clause_123 ?_
                refine g_iload_n C dX8_clause_124 rfl ?_
                refine g_bp C (nI 109) dX8_clause_125 (by decide) ?_
                refine g_icneN C 137 dX8_clause_127 (by decide) (by omega) (by omega) (fun h127 => ?_) (fun h127 => ?_)
                · refine g_ic (n := 0) C dX8_clause_137 (by decide) ?_
                  refine g_iastN C (by rfl) (by omega) (by first | decide | omega) dX8_clause_138 ?_
                  show G E _ X _ _ (sI (sI σ1 75 (upd (σ1.1 75) (5 * c + 1) (dgR T n false (i + 1)).2.2)) 75 (upd ((sI σ1 75 (upd (σ1.1 75) (5 * c + 1) (dgR T n false (i + 1)).2.2)).1 75) (5 * c + 2) (nI 0))) _ _ _
                  have hpz : (sI (sI σ1 75 (upd (σ1.1 75) (5 * c + 1) (dgR T n false (i + 1)).2.2)) 75 (upd ((sI σ1 75 (upd (σ1.1 75) (5 * c + 1) (dgR T n false (i + 1)).2.2)).1 75) (5 * c + 2) (nI 0))).1 64 15 = nI (dgR T n false (i + 1)).2.1 := by rw [sI_ne (by decide), sI_ne (by decide)]; exact p1
                  have hwz : (sI (sI σ1 75 (upd (σ1.1 75) (5 * c + 1) (dgR T n false (i + 1)).2.2)) 75 (upd ((sI σ1 75 (upd (σ1.1 75) (5 * c + 1) (dgR T n false (i + 1)).2.2)).1 75) (5 * c + 2) (nI 0))).1 64 16 = bI (dgR T n false (i + 1)).1 := by rw [sI_ne (by decide), sI_ne (by decide)]; exact w1
                  have hmz : (sI (sI σ1 75 (upd (σ1.1 75) (5 * c + 1) (dgR T n false (i + 1)).2.2)) 75 (upd ((sI σ1 75 (upd (σ1.1 75) (5 * c + 1) (dgR T n false (i + 1)).2.2)).1 75) (5 * c + 2) (nI 0))).1 64 18 = nI c := by rw [sI_ne (by decide), sI_ne (by decide), f1.2 18 (by simp)]; exact hmB
                  have h75z : (sI (sI σ1 75 (upd (σ1.1 75) (5 * c + 1) (dgR T n false (i + 1)).2.2)) 75 (upd ((sI σ1 75 (upd (σ1.1 75) (5 * c + 1) (dgR T n false (i + 1)).2.2)).1 75) (5 * c + 2) (nI 0))).1 75 = upd (upd (upd (σ.1 75) (5 * c) (nI 100)) (5 * c + 1) (dgR T n false (i + 1)).2.2) (5 * c + 2) (nI 0) := by rw [sI_self, sI_self, (f1.1 75 (by simp)).1, h75B]
                  have Fz : Fk [15, 16, 18] [75] σ (sI (sI σ1 75 (upd (σ1.1 75) (5 * c + 1) (dgR T n false (i + 1)).2.2)) 75 (upd ((sI σ1 75 (upd (σ1.1 75) (5 * c + 1) (dgR T n false (i + 1)).2.2)).1 75) (5 * c + 2) (nI 0))) := ((FB.tr (f1.mono (by simp) (by simp))).sI (by simp) (by decide)).sI (by simp) (by decide)
                  generalize hZ : (sI (sI σ1 75 (upd (σ1.1 75) (5 * c + 1) (dgR T n false (i + 1)).2.2)) 75 (upd ((sI σ1 75 (upd (σ1.1 75) (5 * c + 1) (dgR T n false (i + 1)).2.2)).1 75) (5 * c + 2) (nI 0))) = τz at hpz hwz hmz h75z Fz ⊢
                  refine g_aload_n C dX8_clause_139 rfl ?_
                  refine g_dup C dX8_clause_140 rfl ?_
                  refine gf_X8_toldMany C (by rfl) dX8_clause_141 kf_RX8_192 ?_
                  rw [hmz]
                  refine g_ic (n := 1) C dX8_clause_144 (by decide) ?_
                  refine g_iaddN C dX8_clause_145 ?_
                  refine gp_X8_toldMany C (by rfl) dX8_clause_146 kf_RX8_192 ?_
                  refine g_vret C dX8_clause_149 ?_
                  obtain ⟨y1, y2, y3⟩ := d_way g112 g109 g100
                  show _ ∧ ClE σ (setF τz 64 18 (nI (c + 1))) T n i c
                  refine ⟨rfl, ?_, ?_, fun q => ⟨?_, ?_⟩, fun q hq => ?_, Fz.sF (by simp)⟩
                  · unfold setF; rw [sI_self, up_n (by decide), hpz, ← y2]
                  · unfold setF; rw [sI_self, up_n (by decide), hwz, ← y1]
                  · unfold setF; rw [sI_self, up_i]
                  · unfold setF; rw [sI_ne (by decide), h75z, y3 q]
                    exact ⟨by rw [up_n (by omega), up_n (by omega), up_k rfl], Or.inr (Or.inr ⟨rfl, by rw [up_n (by omega), up_k rfl]⟩)⟩
                  · unfold setF; rw [sI_ne (by decide), h75z, up_n (by omega), up_n (by omega), up_n (by omega)]
                · first | exact absurd h127 (by decide) | exact absurd rfl h127
              · first | exact absurd h56 (by decide) | exact absurd rfl h56
            · first | exact absurd h34 (by decide) | exact absurd rfl h34
    · have hc109 : hrI T n i = nI 109 := (hr_sg hT.lt (by decide)).mpr g109
      refine g_aload_n C dX8_clause_0 rfl ?_
      refine g_callVp C (ob_X8 (by rfl)) (c_X8_here (d := d) hT hi hp) dX8_clause_1 km_RX8_181 kn_RX8 kc_yX8_here ki_yX8_here kx_yX8_here (by omega) (by decide) ⟨by decide, by decide, rfl⟩ rfl (Nat.le_of_ble_eq_true rfl) ?_
      rw [hc109]
      refine g_istore_n C dX8_clause_4 (by decide) ?_
      refine g_ic (n := 5) C dX8_clause_5 (by decide) ?_
      refine g_aload_n C dX8_clause_6 rfl ?_
      refine gf_X8_toldMany C (by rfl) dX8_clause_7 kf_RX8_192 ?_
      rw [hm]
      refine g_imulN C dX8_clause_10 ?_
      refine g_istore_n C dX8_clause_11 (by decide) ?_
      refine g_aload_n C dX8_clause_12 rfl ?_
      refine gf_X8_told C (by rfl) dX8_clause_13 kf_RX8_43 ?_
      refine g_iload_n C dX8_clause_16 rfl ?_
      refine g_iload_n C dX8_clause_17 rfl ?_
      refine g_iastN C (by rfl) (by omega) (by first | decide | omega) dX8_clause_18 ?_
      refine g_iload_n C dX8_clause_19 rfl ?_
      refine g_bp C (nI 112) dX8_clause_20 (by decide) ?_
      refine g_iceqN C 43 dX8_clause_22 (by decide) (by omega) (by omega) (fun h22 => ?_) (fun h22 => ?_)
      · first | exact absurd h22 (by decide) | exact absurd rfl h22
      · refine g_iload_n C dX8_clause_25 rfl ?_
        refine g_bp C (nI 109) dX8_clause_26 (by decide) ?_
        refine g_iceqN C 43 dX8_clause_28 (by decide) (by omega) (by omega) (fun h28 => ?_) (fun h28 => ?_)
        · refine g_aload_n C dX8_clause_43 rfl ?_
          refine g_dup C dX8_clause_44 rfl ?_
          refine gf_X8_place C (by rfl) dX8_clause_45 kf_RX8_174 ?_
          rw [sI_ne (show 64 ≠ 75 by decide), hp]
          refine g_ic (n := 1) C dX8_clause_48 (by decide) ?_
          refine g_iaddN C dX8_clause_49 ?_
          refine gp_X8_place C (by rfl) dX8_clause_50 kf_RX8_174 ?_
          show G E _ X _ _ (setF (sI σ 75 (upd (σ.1 75) (5 * c) (nI 109))) 64 15 (nI (i + 1))) _ _ _
          have hpB : (setF (sI σ 75 (upd (σ.1 75) (5 * c) (nI 109))) 64 15 (nI (i + 1))).1 64 15 = nI (i + 1) := by unfold setF; rw [sI_self, up_i]
          have hwB : (setF (sI σ 75 (upd (σ.1 75) (5 * c) (nI 109))) 64 15 (nI (i + 1))).1 64 16 = bI false := by unfold setF; rw [sI_self, up_n (by decide), sI_ne (by decide)]; exact hw
          have hmB : (setF (sI σ 75 (upd (σ.1 75) (5 * c) (nI 109))) 64 15 (nI (i + 1))).1 64 18 = nI c := by unfold setF; rw [sI_self, up_n (by decide), sI_ne (by decide)]; exact hm
          have FB : Fk [15, 16, 18] [75] σ (setF (sI σ 75 (upd (σ.1 75) (5 * c) (nI 109))) 64 15 (nI (i + 1))) := (Fk.rf.sI (by simp) (by decide)).sF (by simp)
          have hTB : TR (setF (sI σ 75 (upd (σ.1 75) (5 * c) (nI 109))) 64 15 (nI (i + 1))) n T := hT.fk FB (by simp) (by simp)
          have h75B : (setF (sI σ 75 (upd (σ.1 75) (5 * c) (nI 109))) 64 15 (nI (i + 1))).1 75 = upd (σ.1 75) (5 * c) (nI 109) := by unfold setF; rw [sI_ne (by decide), sI_self]
          generalize hB : (setF (sI σ 75 (upd (σ.1 75) (5 * c) (nI 109))) 64 15 (nI (i + 1))) = τ at hpB hwB hmB FB hTB h75B ⊢
          refine g_iload_n C dX8_clause_53 rfl ?_
          refine g_bp C (nI 112) dX8_clause_54 (by decide) ?_
          refine g_icneN C 105 dX8_clause_56 (by decide) (by omega) (by omega) (fun h56 => ?_) (fun h56 => ?_)
          · refine g_aload_n C dX8_clause_105 rfl ?_
            refine gf_X8_told C (by rfl) dX8_clause_106 kf_RX8_43 ?_
            refine g_iload_n C dX8_clause_109 rfl ?_
            refine g_ic (n := 1) C dX8_clause_110 (by decide) ?_
            refine g_iaddN C dX8_clause_111 ?_
            refine g_aload_n C dX8_clause_112 rfl ?_
            refine g_callV C (ob_X8 (by rfl)) (c_X8_digit (d := d) hTB (sgr_t g109) hpB hwB) dX8_clause_113 km_RX8_189 kn_RX8 kc_yX8_digit ki_yX8_digit kx_yX8_digit (by omega) (by decide) ⟨by decide, by decide, rfl⟩ rfl (Nat.le_of_ble_eq_true rfl) (fun r1 σ1 q1 => ?_)
            obtain ⟨rfl, p1, w1, f1⟩ := q1
            refine g_iastN C (by rfl) (by omega) (by first | decide | omega) dX8_clause_116 ?_
            refine g_aload_n C dX8_clause_117 rfl ?_
            refine gf_X8_told C (by rfl) dX8_clause_118 kf_RX8_43 ?_
            refine g_iload_n C dX8_clause_121 rfl ?_
            refine g_ic (n := 2) C dX8_clause_122 (by decide) ?_
            refine g_iaddN C dX8_clause_123 ?_
            refine g_iload_n C dX8_clause_124 rfl ?_
            refine g_bp C (nI 109) dX8_clause_125 (by decide) ?_
            refine g_icneN C 137 dX8_clause_127 (by decide) (by omega) (by omega) (fun h127 => ?_) (fun h127 => ?_)
            · first | exact absurd h127 (by decide) | exact absurd rfl h127
            · refine g_aload_n C dX8_clause_130 rfl ?_
              refine g_callV C (ob_X8 (by rfl)) (c_X8_digit (d := d) ((hTB.fk f1 (by simp) (by simp)).fk (Fk.rf.sI (fs := []) (l := [75]) (by simp) (by decide)) (by simp) (by simp)) (dgR_le (sgr_t g109)) ((by rw [sI_ne (by decide)]; exact p1)) ((by rw [sI_ne (by decide)]; exact w1))) dX8_clause_131 km_RX8_189 kn_RX8 kc_yX8_digit ki_yX8_digit kx_yX8_digit (by omega) (by decide) ⟨by decide, by decide, rfl⟩ rfl (Nat.le_of_ble_eq_true rfl) (fun r2 σ2 q2 => ?_)
              obtain ⟨rfl, p2, w2, f2⟩ := q2
              refine g_goto C 138 dX8_clause_134 (by decide) ?_
              refine g_iastN C (by rfl) (by omega) (by first | decide | omega) dX8_clause_138 ?_
              show G E _ X _ _ (sI σ2 75 (upd (σ2.1 75) (5 * c + 2) (dgR T n (dgR T n false (i + 1)).1 (dgR T n false (i + 1)).2.1).2.2)) _ _ _
              have hpz : (sI σ2 75 (upd (σ2.1 75) (5 * c + 2) (dgR T n (dgR T n false (i + 1)).1 (dgR T n false (i + 1)).2.1).2.2)).1 64 15 = nI (dgR T n (dgR T n false (i + 1)).1 (dgR T n false (i + 1)).2.1).2.1 := by rw [sI_ne (by decide)]; exact p2
              have hwz : (sI σ2 75 (upd (σ2.1 75) (5 * c + 2) (dgR T n (dgR T n false (i + 1)).1 (dgR T n false (i + 1)).2.1).2.2)).1 64 16 = bI (dgR T n (dgR T n false (i + 1)).1 (dgR T n false (i + 1)).2.1).1 := by rw [sI_ne (by decide)]; exact w2
              have hmz : (sI σ2 75 (upd (σ2.1 75) (5 * c + 2) (dgR T n (dgR T n false (i + 1)).1 (dgR T n false (i + 1)).2.1).2.2)).1 64 18 = nI c := by rw [sI_ne (by decide), f2.2 18 (by simp), sI_ne (by decide), f1.2 18 (by simp)]; exact hmB
              have h75z : (sI σ2 75 (upd (σ2.1 75) (5 * c + 2) (dgR T n (dgR T n false (i + 1)).1 (dgR T n false (i + 1)).2.1).2.2)).1 75 = upd (upd (upd (σ.1 75) (5 * c) (nI 109)) (5 * c + 1) (dgR T n false (i + 1)).2.2) (5 * c + 2) (dgR T n (dgR T n false (i + 1)).1 (dgR T n false (i + 1)).2.1).2.2 := by rw [sI_self, (f2.1 75 (by simp)).1, sI_self, (f1.1 75 (by simp)).1, h75B]
              have Fz : Fk [15, 16, 18] [75] σ (sI σ2 75 (upd (σ2.1 75) (5 * c + 2) (dgR T n (dgR T n false (i + 1)).1 (dgR T n false (i + 1)).2.1).2.2)) := ((((FB.tr (f1.mono (by simp) (by simp))).sI (by simp) (by decide)).tr (f2.mono (by simp) (by simp)))).sI (by simp) (by decide)
              generalize hZ : (sI σ2 75 (upd (σ2.1 75) (5 * c + 2) (dgR T n (dgR T n false (i + 1)).1 (dgR T n false (i + 1)).2.1).2.2)) = τz at hpz hwz hmz h75z Fz ⊢
              refine g_aload_n C dX8_clause_139 rfl ?_
              refine g_dup C dX8_clause_140 rfl ?_
              refine gf_X8_toldMany C (by rfl) dX8_clause_141 kf_RX8_192 ?_
              rw [hmz]
              refine g_ic (n := 1) C dX8_clause_144 (by decide) ?_
              refine g_iaddN C dX8_clause_145 ?_
              refine gp_X8_toldMany C (by rfl) dX8_clause_146 kf_RX8_192 ?_
              refine g_vret C dX8_clause_149 ?_
              obtain ⟨y1, y2, y3⟩ := m_way g112 g109
              show _ ∧ ClE σ (setF τz 64 18 (nI (c + 1))) T n i c
              refine ⟨rfl, ?_, ?_, fun q => ⟨?_, ?_⟩, fun q hq => ?_, Fz.sF (by simp)⟩
              · unfold setF; rw [sI_self, up_n (by decide), hpz, ← y2]
              · unfold setF; rw [sI_self, up_n (by decide), hwz, ← y1]
              · unfold setF; rw [sI_self, up_i]
              · unfold setF; rw [sI_ne (by decide), h75z, y3 q]
                exact ⟨by rw [up_n (by omega), up_n (by omega), up_k rfl], Or.inr (Or.inl ⟨rfl, by rw [up_n (by omega), up_k rfl], by rw [up_k rfl]⟩)⟩
              · unfold setF; rw [sI_ne (by decide), h75z, up_n (by omega), up_n (by omega), up_n (by omega)]
          · first | exact absurd h56 (by decide) | exact absurd rfl h56
        · first | exact absurd h28 (by decide) | exact absurd rfl h28
  · have hc112 : hrI T n i = nI 112 := (hr_sg hT.lt (by decide)).mpr g112
    refine g_aload_n C dX8_clause_0 rfl ?_
    refine g_callVp C (ob_X8 (by rfl)) (c_X8_here (d := d) hT hi hp) dX8_clause_1 km_RX8_181 kn_RX8 kc_yX8_here ki_yX8_here kx_yX8_here (by omega) (by decide) ⟨by decide, by decide, rfl⟩ rfl (Nat.le_of_ble_eq_true rfl) ?_
    rw [hc112]
    refine g_istore_n C dX8_clause_4 (by decide) ?_
    refine g_ic (n := 5) C dX8_clause_5 (by decide) ?_
    refine g_aload_n C dX8_clause_6 rfl ?_
    refine gf_X8_toldMany C (by rfl) dX8_clause_7 kf_RX8_192 ?_
    rw [hm]
    refine g_imulN C dX8_clause_10 ?_
    refine g_istore_n C dX8_clause_11 (by decide) ?_
    refine g_aload_n C dX8_clause_12 rfl ?_
    refine gf_X8_told C (by rfl) dX8_clause_13 kf_RX8_43 ?_
    refine g_iload_n C dX8_clause_16 rfl ?_
    refine g_iload_n C dX8_clause_17 rfl ?_
    refine g_iastN C (by rfl) (by omega) (by first | decide | omega) dX8_clause_18 ?_
    refine g_iload_n C dX8_clause_19 rfl ?_
    refine g_bp C (nI 112) dX8_clause_20 (by decide) ?_
    refine g_iceqN C 43 dX8_clause_22 (by decide) (by omega) (by omega) (fun h22 => ?_) (fun h22 => ?_)
    · refine g_aload_n C dX8_clause_43 rfl ?_
      refine g_dup C dX8_clause_44 rfl ?_
      refine gf_X8_place C (by rfl) dX8_clause_45 kf_RX8_174 ?_
      rw [sI_ne (show 64 ≠ 75 by decide), hp]
      refine g_ic (n := 1) C dX8_clause_48 (by decide) ?_
      refine g_iaddN C dX8_clause_49 ?_
      refine gp_X8_place C (by rfl) dX8_clause_50 kf_RX8_174 ?_
      show G E _ X _ _ (setF (sI σ 75 (upd (σ.1 75) (5 * c) (nI 112))) 64 15 (nI (i + 1))) _ _ _
      have hpB : (setF (sI σ 75 (upd (σ.1 75) (5 * c) (nI 112))) 64 15 (nI (i + 1))).1 64 15 = nI (i + 1) := by unfold setF; rw [sI_self, up_i]
      have hwB : (setF (sI σ 75 (upd (σ.1 75) (5 * c) (nI 112))) 64 15 (nI (i + 1))).1 64 16 = bI false := by unfold setF; rw [sI_self, up_n (by decide), sI_ne (by decide)]; exact hw
      have hmB : (setF (sI σ 75 (upd (σ.1 75) (5 * c) (nI 112))) 64 15 (nI (i + 1))).1 64 18 = nI c := by unfold setF; rw [sI_self, up_n (by decide), sI_ne (by decide)]; exact hm
      have FB : Fk [15, 16, 18] [75] σ (setF (sI σ 75 (upd (σ.1 75) (5 * c) (nI 112))) 64 15 (nI (i + 1))) := (Fk.rf.sI (by simp) (by decide)).sF (by simp)
      have hTB : TR (setF (sI σ 75 (upd (σ.1 75) (5 * c) (nI 112))) 64 15 (nI (i + 1))) n T := hT.fk FB (by simp) (by simp)
      have h75B : (setF (sI σ 75 (upd (σ.1 75) (5 * c) (nI 112))) 64 15 (nI (i + 1))).1 75 = upd (σ.1 75) (5 * c) (nI 112) := by unfold setF; rw [sI_ne (by decide), sI_self]
      generalize hB : (setF (sI σ 75 (upd (σ.1 75) (5 * c) (nI 112))) 64 15 (nI (i + 1))) = τ at hpB hwB hmB FB hTB h75B ⊢
      refine g_iload_n C dX8_clause_53 rfl ?_
      refine g_bp C (nI 112) dX8_clause_54 (by decide) ?_
      refine g_icneN C 105 dX8_clause_56 (by decide) (by omega) (by omega) (fun h56 => ?_) (fun h56 => ?_)
      · first | exact absurd h56 (by decide) | exact absurd rfl h56
      · refine g_ic (n := 0) C dX8_clause_59 (by decide) ?_
        refine g_istore_n C dX8_clause_60 (by decide) ?_
        refine g_loc ([(0, .ref (ev_a E 64)), (1, .int (nI 112)), (2, .int (nI (5 * c))), (3, .int (nI 0))]) (And.intro rfl (And.intro rfl (And.intro rfl (And.intro rfl trivial)))) ?_
        refine s_X8_clause C hTB (sgr_t g112) hpB hwB hc (k := 0) (by omega) (fun σ1 p1 w1 e1 f1 => ?_)
        have hT1 := hTB.fk f1 (by simp) (by simp)
        refine s_X8_clause C hT1 (xR_le (sgr_t g112)) p1 w1 hc (k := 0 + 1) (by omega) (fun σ2 p2 w2 e2 f2 => ?_)
        have hT2 := hT1.fk f2 (by simp) (by simp)
        refine s_X8_clause C hT2 (xR_le (xR_le (sgr_t g112))) p2 w2 hc (k := 0 + 1 + 1) (by omega) (fun σ3 p3 w3 e3 f3 => ?_)
        have hT3 := hT2.fk f3 (by simp) (by simp)
        refine g_iload_n C dX8_clause_61 rfl ?_
        refine g_ic (n := 3) C dX8_clause_62 (by decide) ?_
        refine g_icgeN C 90 dX8_clause_63 (by decide) (by omega) (by omega) (fun h63 => ?_) (fun h63 => ?_)
        · refine g_aload_n C dX8_clause_90 rfl ?_
          refine gf_X8_told C (by rfl) dX8_clause_91 kf_RX8_43 ?_
          refine g_iload_n C dX8_clause_94 rfl ?_
          refine g_ic (n := 4) C dX8_clause_95 (by decide) ?_
          refine g_iaddN C dX8_clause_96 ?_
          refine g_aload_n C dX8_clause_97 rfl ?_
          refine g_callV C (ob_X8 (by rfl)) (c_X8_digit (d := d) hT3 (xR_le (xR_le (xR_le (sgr_t g112)))) p3 w3) dX8_clause_98 km_RX8_189 kn_RX8 kc_yX8_digit ki_yX8_digit kx_yX8_digit (by omega) (by decide) ⟨by decide, by decide, rfl⟩ rfl (Nat.le_of_ble_eq_true rfl) (fun r4 σ4 q4 => ?_)
          obtain ⟨rfl, p4, w4, f4⟩ := q4
          refine g_iastN C (by rfl) (by omega) (by first | decide | omega) dX8_clause_101 ?_
          refine g_goto C 139 dX8_clause_102 (by decide) ?_
          show G E _ X _ _ (sI σ4 75 (upd (σ4.1 75) (5 * c + 4) (dgR T n (xR T n (xR T n (xR T n false (i + 1)).1 (xR T n false (i + 1)).2).1 (xR T n (xR T n false (i + 1)).1 (xR T n false (i + 1)).2).2).1 (xR T n (xR T n (xR T n false (i + 1)).1 (xR T n false (i + 1)).2).1 (xR T n (xR T n false (i + 1)).1 (xR T n false (i + 1)).2).2).2).2.2)) _ _ _
          have hpz : (sI σ4 75 (upd (σ4.1 75) (5 * c + 4) (dgR T n (xR T n (xR T n (xR T n false (i + 1)).1 (xR T n false (i + 1)).2).1 (xR T n (xR T n false (i + 1)).1 (xR T n false (i + 1)).2).2).1 (xR T n (xR T n (xR T n false (i + 1)).1 (xR T n false (i + 1)).2).1 (xR T n (xR T n false (i + 1)).1 (xR T n false (i + 1)).2).2).2).2.2)).1 64 15 = nI (dgR T n (xR T n (xR T n (xR T n false (i + 1)).1 (xR T n false (i + 1)).2).1 (xR T n (xR T n false (i + 1)).1 (xR T n false (i + 1)).2).2).1 (xR T n (xR T n (xR T n false (i + 1)).1 (xR T n false (i + 1)).2).1 (xR T n (xR T n false (i + 1)).1 (xR T n false (i + 1)).2).2).2).2.1 := by rw [sI_ne (by decide)]; exact p4
          have hwz : (sI σ4 75 (upd (σ4.1 75) (5 * c + 4) (dgR T n (xR T n (xR T n (xR T n false (i + 1)).1 (xR T n false (i + 1)).2).1 (xR T n (xR T n false (i + 1)).1 (xR T n false (i + 1)).2).2).1 (xR T n (xR T n (xR T n false (i + 1)).1 (xR T n false (i + 1)).2).1 (xR T n (xR T n false (i + 1)).1 (xR T n false (i + 1)).2).2).2).2.2)).1 64 16 = bI (dgR T n (xR T n (xR T n (xR T n false (i + 1)).1 (xR T n false (i + 1)).2).1 (xR T n (xR T n false (i + 1)).1 (xR T n false (i + 1)).2).2).1 (xR T n (xR T n (xR T n false (i + 1)).1 (xR T n false (i + 1)).2).1 (xR T n (xR T n false (i + 1)).1 (xR T n false (i + 1)).2).2).2).1 := by rw [sI_ne (by decide)]; exact w4
          have hmz : (sI σ4 75 (upd (σ4.1 75) (5 * c + 4) (dgR T n (xR T n (xR T n (xR T n false (i + 1)).1 (xR T n false (i + 1)).2).1 (xR T n (xR T n false (i + 1)).1 (xR T n false (i + 1)).2).2).1 (xR T n (xR T n (xR T n false (i + 1)).1 (xR T n false (i + 1)).2).1 (xR T n (xR T n false (i + 1)).1 (xR T n false (i + 1)).2).2).2).2.2)).1 64 18 = nI c := by rw [sI_ne (by decide), f4.2 18 (by simp), f3.2 18 (by simp), f2.2 18 (by simp), f1.2 18 (by simp)]; exact hmB
          have h75z : (sI σ4 75 (upd (σ4.1 75) (5 * c + 4) (dgR T n (xR T n (xR T n (xR T n false (i + 1)).1 (xR T n false (i + 1)).2).1 (xR T n (xR T n false (i + 1)).1 (xR T n false (i + 1)).2).2).1 (xR T n (xR T n (xR T n false (i + 1)).1 (xR T n false (i + 1)).2).1 (xR T n (xR T n false (i + 1)).1 (xR T n false (i + 1)).2).2).2).2.2)).1 75 = upd (upd (upd (upd (upd (σ.1 75) (5 * c) (nI 112)) (5 * c + 1 + 0) (nmR T n false (i + 1)).2.2) (5 * c + 1 + (0 + 1)) (nmR T n (xR T n false (i + 1)).1 (xR T n false (i + 1)).2).2.2) (5 * c + 1 + (0 + 1 + 1)) (nmR T n (xR T n (xR T n false (i + 1)).1 (xR T n false (i + 1)).2).1 (xR T n (xR T n false (i + 1)).1 (xR T n false (i + 1)).2).2).2.2) (5 * c + 4) (dgR T n (xR T n (xR T n (xR T n false (i + 1)).1 (xR T n false (i + 1)).2).1 (xR T n (xR T n false (i + 1)).1 (xR T n false (i + 1)).2).2).1 (xR T n (xR T n (xR T n false (i + 1)).1 (xR T n false (i + 1)).2).1 (xR T n (xR T n false (i + 1)).1 (xR T n false (i + 1)).2).2).2).2.2 := by rw [sI_self, (f4.1 75 (by simp)).1, e3, e2, e1, h75B]
          have Fz : Fk [15, 16, 18] [75] σ (sI σ4 75 (upd (σ4.1 75) (5 * c + 4) (dgR T n (xR T n (xR T n (xR T n false (i + 1)).1 (xR T n false (i + 1)).2).1 (xR T n (xR T n false (i + 1)).1 (xR T n false (i + 1)).2).2).1 (xR T n (xR T n (xR T n false (i + 1)).1 (xR T n false (i + 1)).2).1 (xR T n (xR T n false (i + 1)).1 (xR T n false (i + 1)).2).2).2).2.2)) := ((((FB.tr (f1.mono (by simp) (by simp))).tr (f2.mono (by simp) (by simp))).tr (f3.mono (by simp) (by simp))).tr (f4.mono (by simp) (by simp))).sI (by simp) (by decide)
          generalize hZ : (sI σ4 75 (upd (σ4.1 75) (5 * c + 4) (dgR T n (xR T n (xR T n (xR T n false (i + 1)).1 (xR T n false (i + 1)).2).1 (xR T n (xR T n false (i + 1)).1 (xR T n false (i + 1)).2).2).1 (xR T n (xR T n (xR T n false (i + 1)).1 (xR T n false (i + 1)).2).1 (xR T n (xR T n false (i + 1)).1 (xR T n false (i + 1)).2).2).2).2.2)) = τz at hpz hwz hmz h75z Fz ⊢
          refine g_aload_n C dX8_clause_139 rfl ?_
          refine g_dup C dX8_clause_140 rfl ?_
          refine gf_X8_toldMany C (by rfl) dX8_clause_141 kf_RX8_192 ?_
          rw [hmz]
          refine g_ic (n := 1) C dX8_clause_144 (by decide) ?_
          refine g_iaddN C dX8_clause_145 ?_
          refine gp_X8_toldMany C (by rfl) dX8_clause_146 kf_RX8_192 ?_
          refine g_vret C dX8_clause_149 ?_
          obtain ⟨y1, y2, y3⟩ := p_way g112
          show _ ∧ ClE σ (setF τz 64 18 (nI (c + 1))) T n i c
          refine ⟨rfl, ?_, ?_, fun q => ⟨?_, ?_⟩, fun q hq => ?_, Fz.sF (by simp)⟩
          · unfold setF; rw [sI_self, up_n (by decide), hpz, ← y2]
          · unfold setF; rw [sI_self, up_n (by decide), hwz, ← y1]
          · unfold setF; rw [sI_self, up_i]
          · unfold setF; rw [sI_ne (by decide), h75z, y3 q]
            exact ⟨by rw [up_n (by omega), up_n (by omega), up_n (by omega), up_n (by omega), up_k rfl], Or.inl ⟨rfl, by rw [up_n (by omega), up_n (by omega), up_n (by omega), up_k rfl], by rw [up_n (by omega), up_n (by omega), up_k rfl], by rw [up_n (by omega), up_k rfl], by rw [up_k rfl]⟩⟩
          · unfold setF; rw [sI_ne (by decide), h75z, up_n (by omega), up_n (by omega), up_n (by omega), up_n (by omega), up_n (by omega)]
        · omega
    · first | exact absurd h22 (by decide) | exact absurd rfl h22

set_option maxHeartbeats 4000000 in
set_option maxRecDepth 100000 in
theorem c_X8_done {E : Ev} {d : Nat} {σ : St} {s : Ms} (hs : RfIs σ s) {a : Nat} {v : Cl} (ha : a < 12) (hW : WC (σ.1 75) (5 * a) v) : Con E (d + 3) yX8_done cX8_done 2 ((Option.some FieldType.int)) [.ref (ev_a E 64), .int (nI (5 * a))] σ (fun r σ2 => ∃ a, r = some (.int a) ∧ (exC s v).2 = !decide (a < 0) ∧ RfIs σ2 (exC s v).1 ∧ Fk [] [65] σ σ2) := by
  refine con_of (by decide) (Nat.le_of_ble_eq_true rfl) (fun X hX C => ?_)
  have C : Cx E X cX8_done RX8 2 ((Option.some FieldType.int)) := C
  show G E _ X _ _ _ 0 [(0, .ref (ev_a E 64)), (1, .int (nI (5 * a)))] []
  obtain ⟨w0, ⟨wv, w1, w2, w3, w4⟩ | ⟨wv, w1, w2⟩ | ⟨wv, w1⟩⟩ := hW
  · refine g_aload_n C dX8_done_0 rfl ?_
    refine gf_X8_told C (by rfl) dX8_done_1 kf_RX8_43 ?_
    refine g_iload_n C dX8_done_4 rfl ?_
    refine g_ialdN C (by rfl) (by omega) (by first | decide | omega) dX8_done_5 ?_
    rw [w0, wv]
    refine g_lsw C (off := 26) 32 dX8_done_6 (by decide) (by decide) (by decide) ?_
    refine g_aload_n C dX8_done_32 rfl ?_
    refine g_aload_n C dX8_done_33 rfl ?_
    refine gf_X8_told C (by rfl) dX8_done_34 kf_RX8_43 ?_
    refine g_iload_n C dX8_done_37 rfl ?_
    refine g_ic (n := 1) C dX8_done_38 (by decide) ?_
    refine g_iaddN C dX8_done_39 ?_
    refine g_ialdN C (by rfl) (by omega) (by first | decide | omega) dX8_done_40 ?_
    rw [w1]
    refine g_aload_n C dX8_done_41 rfl ?_
    refine gf_X8_told C (by rfl) dX8_done_42 kf_RX8_43 ?_
    refine g_iload_n C dX8_done_45 rfl ?_
    refine g_ic (n := 2) C dX8_done_46 (by decide) ?_
    refine g_iaddN C dX8_done_47 ?_
    refine g_ialdN C (by rfl) (by omega) (by first | decide | omega) dX8_done_48 ?_
    rw [w2]
    refine g_aload_n C dX8_done_49 rfl ?_
    refine gf_X8_told C (by rfl) dX8_done_50 kf_RX8_43 ?_
    refine g_iload_n C dX8_done_53 rfl ?_
    refine g_ic (n := 3) C dX8_done_54 (by decide) ?_
    refine g_iaddN C dX8_done_55 ?_
    refine g_ialdN C (by rfl) (by omega) (by first | decide | omega) dX8_done_56 ?_
    rw [w3]
    refine g_aload_n C dX8_done_57 rfl ?_
    refine gf_X8_told C (by rfl) dX8_done_58 kf_RX8_43 ?_
    refine g_iload_n C dX8_done_61 rfl ?_
    refine g_ic (n := 4) C dX8_done_62 (by decide) ?_
    refine g_iaddN C dX8_done_63 ?_
    refine g_ialdN C (by rfl) (by omega) (by first | decide | omega) dX8_done_64 ?_
    rw [w4]
    refine g_callV C (ob_X8 (by rfl)) (c_X8_comes (d := d) hs) dX8_done_65 km_RX8_162 kn_RX8 kc_yX8_comes ki_yX8_comes kx_yX8_comes (by omega) (by decide) ⟨by decide, by decide, rfl⟩ rfl (Nat.le_of_ble_eq_true rfl) (fun r1 σ1 q1 => ?_)
    obtain ⟨rfl, u1, u2⟩ := q1
    refine g_iret C dX8_done_68 ?_
    exact ⟨_, rfl, by unfold exC; rw [if_pos wv], by unfold exC; rw [if_pos wv]; exact u1, u2⟩
  · refine g_aload_n C dX8_done_0 rfl ?_
    refine gf_X8_told C (by rfl) dX8_done_1 kf_RX8_43 ?_
    refine g_iload_n C dX8_done_4 rfl ?_
    refine g_ialdN C (by rfl) (by omega) (by first | decide | omega) dX8_done_5 ?_
    rw [w0, wv]
    refine g_lsw C (off := 63) 69 dX8_done_6 (by decide) (by decide) (by decide) ?_
    refine g_aload_n C dX8_done_69 rfl ?_
    refine g_aload_n C dX8_done_70 rfl ?_
    refine gf_X8_told C (by rfl) dX8_done_71 kf_RX8_43 ?_
    refine g_iload_n C dX8_done_74 rfl ?_
    refine g_ic (n := 1) C dX8_done_75 (by decide) ?_
    refine g_iaddN C dX8_done_76 ?_
    refine g_ialdN C (by rfl) (by omega) (by first | decide | omega) dX8_done_77 ?_
    rw [w1]
    refine g_aload_n C dX8_done_78 rfl ?_
    refine gf_X8_told C (by rfl) dX8_done_79 kf_RX8_43 ?_
    refine g_iload_n C dX8_done_82 rfl ?_
    refine g_ic (n := 2) C dX8_done_83 (by decide) ?_
    refine g_iaddN C dX8_done_84 ?_
    refine g_ialdN C (by rfl) (by omega) (by first | decide | omega) dX8_done_85 ?_
    rw [w2]
    refine g_callV C (ob_X8 (by rfl)) (c_X8_markK (d := d) hs) dX8_done_86 km_RX8_201 kn_RX8 kc_yX8_mark ki_yX8_mark kx_yX8_mark (by omega) (by decide) ⟨by decide, by decide, rfl⟩ rfl (Nat.le_of_ble_eq_true rfl) (fun r1 σ1 q1 => ?_)
    obtain ⟨rfl, u1, u2⟩ := q1
    refine g_iret C dX8_done_89 ?_
    exact ⟨_, rfl, by unfold exC; rw [if_neg (by rw [wv]; decide), if_pos wv], by unfold exC; rw [if_neg (by rw [wv]; decide), if_pos wv]; exact u1, u2⟩
  · refine g_aload_n C dX8_done_0 rfl ?_
    refine gf_X8_told C (by rfl) dX8_done_1 kf_RX8_43 ?_
    refine g_iload_n C dX8_done_4 rfl ?_
    refine g_ialdN C (by rfl) (by omega) (by first | decide | omega) dX8_done_5 ?_
    rw [w0, wv]
    refine g_lsw C (off := 84) 90 dX8_done_6 (by decide) (by decide) (by decide) ?_
    refine g_aload_n C dX8_done_90 rfl ?_
    refine g_aload_n C dX8_done_91 rfl ?_
    refine gf_X8_told C (by rfl) dX8_done_92 kf_RX8_43 ?_
    refine g_iload_n C dX8_done_95 rfl ?_
    refine g_ic (n := 1) C dX8_done_96 (by decide) ?_
    refine g_iaddN C dX8_done_97 ?_
    refine g_ialdN C (by rfl) (by omega) (by first | decide | omega) dX8_done_98 ?_
    rw [w1]
    refine g_callV C (ob_X8 (by rfl)) (c_X8_dropK (d := d) hs) dX8_done_99 km_RX8_204 kn_RX8 kc_yX8_drop ki_yX8_drop kx_yX8_drop (by omega) (by decide) ⟨by decide, by decide, rfl⟩ rfl (Nat.le_of_ble_eq_true rfl) (fun r1 σ1 q1 => ?_)
    obtain ⟨rfl, u1, u2⟩ := q1
    refine g_iret C dX8_done_102 ?_
    exact ⟨_, rfl, by unfold exC; rw [if_neg (by rw [wv]; decide), if_neg (by rw [wv]; decide)], by unfold exC; rw [if_neg (by rw [wv]; decide), if_neg (by rw [wv]; decide)]; exact u1, u2⟩

set_option maxHeartbeats 4000000 in
set_option maxRecDepth 100000 in
theorem l2_X8_read {E : Ev} {d : Nat} {X : Mx} (C : Cx E X cX8_read RX8 5 ((Option.some FieldType.int))) {V : Nat → Cl} {M : Nat} (hM : M ≤ 12) : ∀ (k : Nat) (q m : Nat) (s : Ms) (σ : St), M = q + k → RfIs σ s → σ.1 64 18 = nI M → (∀ x, x < M → WC (σ.1 75) (5 * x) (V x)) → m ≤ q → G E (d + 4) X 5 (fun r σ2 => r = some (.int (nI (exN V k q s m).2)) ∧ RfIs σ2 (exN V k q s m).1 ∧ Fk [] [65] σ σ2) σ 123 ([(0, .ref (ev_a E 64)), (3, .int (nI m)), (4, .int (nI q))]) [] := by
  intro k
  induction k with
  | zero =>
    intro q m s σ hq hs hm hV hmq
    refine g_iload C dX8_read_123 rfl ?_
    refine g_aload_n C dX8_read_125 rfl ?_
    refine gf_X8_toldMany C (by rfl) dX8_read_126 kf_RX8_192 ?_
    rw [hm]
    refine g_icgeN C 157 dX8_read_129 (by decide) (by omega) (by omega) (fun h129 => ?_) (fun h129 => ?_)
    · refine g_iload_n C dX8_read_157 rfl ?_
      refine g_iret C dX8_read_158 ?_
      exact ⟨rfl, hs, Fk.rf⟩
    · omega
  | succ k ih =>
    intro q m s σ hq hs hm hV hmq
    refine g_iload C dX8_read_123 rfl ?_
    refine g_aload_n C dX8_read_125 rfl ?_
    refine gf_X8_toldMany C (by rfl) dX8_read_126 kf_RX8_192 ?_
    rw [hm]
    refine g_icgeN C 157 dX8_read_129 (by decide) (by omega) (by omega) (fun h129 => ?_) (fun h129 => ?_)
    · omega
    · refine g_iload_n C dX8_read_132 rfl ?_
      refine g_aload_n C dX8_read_133 rfl ?_
      refine g_ic (n := 5) C dX8_read_134 (by decide) ?_
      refine g_iload C dX8_read_135 rfl ?_
      refine g_imulN C dX8_read_137 ?_
      refine g_callV C (ob_X8 (by rfl)) (c_X8_done (d := d) hs (by omega) (hV q (by omega))) dX8_read_138 km_RX8_210 kn_RX8 kc_yX8_done ki_yX8_done kx_yX8_done (by omega) (by decide) ⟨by decide, by decide, rfl⟩ rfl (Nat.le_of_ble_eq_true rfl) (fun r1 σ1 q1 => ?_)
      obtain ⟨a, rfl, u1, u2, u3⟩ := q1
      refine g_iflt C 148 dX8_read_141 (by decide) (fun h141 => ?_) (fun h141 => ?_)
      · refine g_ic (n := 0) C dX8_read_148 (by decide) ?_
        first | refine g_iaddN C dX8_read_149 ?_ | refine g_iadd C dX8_read_149 ?_
        refine g_istore_n C dX8_read_150 (by decide) ?_
        refine g_iinc1 C dX8_read_151 rfl (by decide) ?_
        refine g_goto C 123 dX8_read_154 (by decide) ?_
        refine g_loc ([(0, .ref (ev_a E 64)), (3, .int (nI (m + 0))), (4, .int (nI (q + 1)))]) (And.intro rfl (And.intro rfl (And.intro rfl trivial))) ?_
        rw [show exN V (k + 1) q s m = exN V k (q + 1) (exC s (V q)).1 m from by rw [exN, if_neg (by rw [u1, decide_eq_true h141]; decide)]]
        refine g_post (fun r σ2 z => ?_) (ih (q + 1) m (exC s (V q)).1 σ1 (by omega) u2 (by rw [u3.2 18 (by simp)]; exact hm) (fun x hx => by rw [(u3.1 75 (by simp)).1]; exact hV x hx) (by omega))
        obtain ⟨z1, z2, z3⟩ := z
        exact ⟨z1, z2, u3.tr z3⟩
      · refine g_ic (n := 1) C dX8_read_144 (by decide) ?_
        refine g_goto C 149 dX8_read_145 (by decide) ?_
        first | refine g_iaddN C dX8_read_149 ?_ | refine g_iadd C dX8_read_149 ?_
        refine g_istore_n C dX8_read_150 (by decide) ?_
        refine g_iinc1 C dX8_read_151 rfl (by decide) ?_
        refine g_goto C 123 dX8_read_154 (by decide) ?_
        refine g_loc ([(0, .ref (ev_a E 64)), (3, .int (nI (m + 1))), (4, .int (nI (q + 1)))]) (And.intro rfl (And.intro rfl (And.intro rfl trivial))) ?_
        rw [show exN V (k + 1) q s m = exN V k (q + 1) (exC s (V q)).1 (m + 1) from by rw [exN, if_pos (by rw [u1, decide_eq_false h141]; rfl)]]
        refine g_post (fun r σ2 z => ?_) (ih (q + 1) (m + 1) (exC s (V q)).1 σ1 (by omega) u2 (by rw [u3.2 18 (by simp)]; exact hm) (fun x hx => by rw [(u3.1 75 (by simp)).1]; exact hV x hx) (by omega))
        obtain ⟨z1, z2, z3⟩ := z
        exact ⟨z1, z2, u3.tr z3⟩

def pcM (T : Nat → Nat) (n r c j : Nat) (V : Nat → Cl) : Int32 × (Nat → Cl) × Nat := if (clV T n j).1 = true then (if (clV T n j).2.1 = n then (-1, (fun q => if q = c then (clV T n j).2.2 else V q), c + 1) else pcL T n r (c + 1) (clV T n j).2.1 (fun q => if q = c then (clV T n j).2.2 else V q)) else (nI (clV T n j).2.1, V, c)
theorem pcL_s {T : Nat → Nat} {n r c i : Nat} {V : Nat → Cl} : pcL T n (r + 1) c i V = if 0 < c ∧ sgA T n 59 i = false then (nI i, V, c) else pcM T n r c (if 0 < c then i + 1 else i) V := rfl
/-- the reference's end of the clauses -/
def EdR (σ : St) (n : Nat) (res : Int32 × (Nat → Cl) × Nat) : Prop := ∃ (p : Nat) (b : Bool), σ.1 64 15 = nI p ∧ p ≤ n ∧ σ.1 64 16 = bI b ∧ (res.1 = -1 ∧ b = false ∧ p = n ∧ σ.1 64 18 = nI res.2.2 ∧ res.2.2 ≤ 12 ∧ (∀ q, q < res.2.2 → WC (σ.1 75) (5 * q) (res.2.1 q)) ∨ res.1 = nI p ∧ (b = true ∨ p ≠ n))
theorem clV_le {T : Nat → Nat} {n i : Nat} (h : i ≤ n) : (clV T n i).2.1 ≤ n := by
  cases g112 : sgA T n 112 i
  · cases g109 : sgA T n 109 i
    · cases g100 : sgA T n 100 i
      · rw [n_way g112 g109 g100]; exact h
      · rw [← (d_way g112 g109 g100).2.1]; exact dgR_le (sgr_t g100)
    · rw [← (m_way g112 g109).2.1]; exact dgR_le (dgR_le (sgr_t g109))
  · rw [← (p_way g112).2.1]; exact dgR_le (xR_le (xR_le (xR_le (sgr_t g112))))
theorem sg_n {T : Nat → Nat} {n g : Nat} : sgA T n g n = false := by unfold sgA; rw [decide_eq_false (Nat.lt_irrefl n)]; rfl
theorem pc_stop {T : Nat → Nat} {n r c p : Nat} {V : Nat → Cl} (h : sgA T n 59 p = false ∨ r = 0) : pcL T n r (c + 1) p V = (nI p, V, c + 1) := by
  cases r with
  | zero => rfl
  | succ r =>
    rw [pcL_s, if_pos ⟨Nat.succ_pos c, h.resolve_right (by omega)⟩]

set_option maxHeartbeats 4000000 in
set_option maxRecDepth 100000 in
theorem l_X8_read {E : Ev} {d : Nat} {X : Mx} (C : Cx E X cX8_read RX8 5 ((Option.some FieldType.int))) {R : Option Value → St → Prop} {n : Nat} {T : Nat → Nat} : ∀ (k : Nat) (c j : Nat) (V : Nat → Cl) (σ : St), c + k + 1 = 12 → TR σ n T → j ≤ n → σ.1 64 15 = nI j → σ.1 64 16 = bI false → σ.1 64 18 = nI c → (∀ q, q < c → WC (σ.1 75) (5 * q) (V q)) → (∀ σ2, EdR σ2 n (pcM T n k c j V) → Fk [15, 16, 18] [75] σ σ2 → G E (d + 4) X 5 R σ2 77 [(0, .ref (ev_a E 64))] []) → G E (d + 4) X 5 R σ 17 ([(0, .ref (ev_a E 64)), (1, .int (nI 1))]) [] := by
  intro k
  induction k with
  | zero =>
    intro c j V σ hc hT hj hp hw hm hV KK
    have h100 := hT.2.1
    refine g_iload_n C dX8_read_17 rfl ?_
    refine g_ifeqN C 77 dX8_read_18 (by decide) (by omega) (fun h18 => ?_) (fun h18 => ?_)
    · exact absurd h18 (by decide)
    · refine g_aload_n C dX8_read_21 rfl ?_
      refine g_callV C (ob_X8 (by rfl)) (c_X8_clause (d := d) hT hj hp hw hm (by omega)) dX8_read_22 km_RX8_207 kn_RX8 kc_yX8_clause ki_yX8_clause kx_yX8_clause (by omega) (by decide) ⟨by decide, by decide, rfl⟩ rfl (Nat.le_of_ble_eq_true rfl) (fun r1 σ1 q1 => ?_)
      obtain ⟨rfl, hE⟩ := q1
      obtain ⟨b0, b1, b2, b3, f1⟩ := id hE
      have hTs := hT.fk f1 (by simp) (by simp)
      cases hv : (clV T n j).1
      · refine g_aload_n C dX8_read_25 rfl ?_
        refine gf_X8_isWrong C (by rfl) dX8_read_26 kf_RX8_177 ?_
        rw [b1, hv]
        refine g_ifneB C 54 dX8_read_29 (by decide) (fun h29 => ?_) (fun h29 => ?_)
        · refine g_ic (n := 0) C dX8_read_54 (by decide) ?_
          refine g_istore_n C dX8_read_55 (by decide) ?_
          refine g_aload_n C dX8_read_56 rfl ?_
          refine g_dup C dX8_read_57 rfl ?_
          refine gf_X8_place C (by rfl) dX8_read_58 kf_RX8_174 ?_
          rw [b0]
          refine g_iload_n C dX8_read_61 rfl ?_
          refine g_ifeqN C 69 dX8_read_62 (by decide) (by omega) (fun h62 => ?_) (fun h62 => ?_)
          · refine g_ic (n := 0) C dX8_read_69 (by decide) ?_
            refine g_iaddN C dX8_read_70 ?_
            refine gp_X8_place C (by rfl) dX8_read_71 kf_RX8_174 ?_
            refine g_goto C 17 dX8_read_74 (by decide) ?_
            refine g_loc ([(0, .ref (ev_a E 64)), (1, .int (nI 0))]) (And.intro rfl (And.intro rfl trivial)) ?_
            refine g_iload_n C dX8_read_17 rfl ?_
            refine g_ifeqN C 77 dX8_read_18 (by decide) (by omega) (fun h18 => ?_) (fun h18 => ?_)
            · refine g_loc ([(0, .ref (ev_a E 64))]) (And.intro rfl trivial) ?_
              show G E _ X _ _ (setF σ1 64 15 (nI ((clV T n j).2.1 + 0))) _ _ _
              refine KK _ ?_ (f1.sF (by simp))
              refine ⟨(clV T n j).2.1, true, by unfold setF; rw [sI_self, up_i]; rfl, clV_le hj, by unfold setF; rw [sI_self, up_n (by decide), b1, hv]; rfl, Or.inr ⟨by unfold pcM; rw [if_neg (by rw [hv]; decide)], Or.inl rfl⟩⟩
            · exact absurd rfl h18
          · exact absurd rfl h62
        · exact absurd h29 (by decide)
      · have b2 := b2 hv
        have hV1 : ∀ q, q < c + 1 → WC (σ1.1 75) (5 * q) ((fun q => if q = c then (clV T n j).2.2 else V q) q) := by
          intro q hq
          show WC _ _ (if q = c then _ else _)
          by_cases e : q = c
          · subst e; rw [if_pos rfl]; exact b2.2
          · rw [if_neg e]; exact (hV q (by omega)).go (fun x h1 h2 => b3 x (by omega))
        refine g_aload_n C dX8_read_25 rfl ?_
        refine gf_X8_isWrong C (by rfl) dX8_read_26 kf_RX8_177 ?_
        rw [b1, hv]
        refine g_ifneB C 54 dX8_read_29 (by decide) (fun h29 => ?_) (fun h29 => ?_)
        · exact absurd h29 (by decide)
        · refine g_aload_n C dX8_read_32 rfl ?_
          refine g_callVp C (ob_X8 (by rfl)) (c_X8_here (d := d) hTs (clV_le hj) b0) dX8_read_33 km_RX8_181 kn_RX8 kc_yX8_here ki_yX8_here kx_yX8_here (by omega) (by decide) ⟨by decide, by decide, rfl⟩ rfl (Nat.le_of_ble_eq_true rfl) ?_
          refine g_bp C (nI 59) dX8_read_36 (by decide) ?_
          refine g_icne C 54 dX8_read_38 (by decide) (fun h38 => ?_) (fun h38 => ?_)
          · refine g_ic (n := 0) C dX8_read_54 (by decide) ?_
            refine g_istore_n C dX8_read_55 (by decide) ?_
            refine g_aload_n C dX8_read_56 rfl ?_
            refine g_dup C dX8_read_57 rfl ?_
            refine gf_X8_place C (by rfl) dX8_read_58 kf_RX8_174 ?_
            rw [b0]
            refine g_iload_n C dX8_read_61 rfl ?_
            refine g_ifeqN C 69 dX8_read_62 (by decide) (by omega) (fun h62 => ?_) (fun h62 => ?_)
            · refine g_ic (n := 0) C dX8_read_69 (by decide) ?_
              refine g_iaddN C dX8_read_70 ?_
              refine gp_X8_place C (by rfl) dX8_read_71 kf_RX8_174 ?_
              refine g_goto C 17 dX8_read_74 (by decide) ?_
              refine g_loc ([(0, .ref (ev_a E 64)), (1, .int (nI 0))]) (And.intro rfl (And.intro rfl trivial)) ?_
              refine g_iload_n C dX8_read_17 rfl ?_
              refine g_ifeqN C 77 dX8_read_18 (by decide) (by omega) (fun h18 => ?_) (fun h18 => ?_)
              · refine g_loc ([(0, .ref (ev_a E 64))]) (And.intro rfl trivial) ?_
                show G E _ X _ _ (setF σ1 64 15 (nI ((clV T n j).2.1 + 0))) _ _ _
                refine KK _ ?_ (f1.sF (by simp))
                have e : pcM T n 0 c j V = if (clV T n j).2.1 = n then (-1, (fun q => if q = c then (clV T n j).2.2 else V q), c + 1) else pcL T n 0 (c + 1) (clV T n j).2.1 (fun q => if q = c then (clV T n j).2.2 else V q) := by unfold pcM; rw [if_pos hv]
                refine ⟨(clV T n j).2.1, false, by unfold setF; rw [sI_self, up_i]; rfl, clV_le hj, by unfold setF; rw [sI_self, up_n (by decide), b1, hv]; rfl, ?_⟩
                by_cases en : (clV T n j).2.1 = n
                · rw [e, if_pos en]
                  exact Or.inl ⟨rfl, rfl, en, by unfold setF; rw [sI_self, up_n (by decide)]; exact b2.1, by show c + 1 ≤ 12; omega, fun q hq => by unfold setF; rw [sI_ne (by decide)]; exact hV1 q hq⟩
                · rw [e, if_neg en, pc_stop (Or.inl (b_ne (fun q => h38 ((hr_sg hTs.lt (by decide)).mpr q))))]
                  exact Or.inr ⟨rfl, Or.inr en⟩
              · exact absurd rfl h18
            · first | exact absurd rfl h62 | exact absurd h62 (by decide)
          · refine g_aload_n C dX8_read_41 rfl ?_
            refine gf_X8_toldMany C (by rfl) dX8_read_42 kf_RX8_192 ?_
            refine g_bp C (nI 12) dX8_read_45 (by decide) ?_
            rw [b2.1]
            refine g_icgeN C 54 dX8_read_47 (by decide) (by omega) (by omega) (fun h47 => ?_) (fun h47 => ?_)
            · refine g_ic (n := 0) C dX8_read_54 (by decide) ?_
              refine g_istore_n C dX8_read_55 (by decide) ?_
              refine g_aload_n C dX8_read_56 rfl ?_
              refine g_dup C dX8_read_57 rfl ?_
              refine gf_X8_place C (by rfl) dX8_read_58 kf_RX8_174 ?_
              rw [b0]
              refine g_iload_n C dX8_read_61 rfl ?_
              refine g_ifeqN C 69 dX8_read_62 (by decide) (by omega) (fun h62 => ?_) (fun h62 => ?_)
              · refine g_ic (n := 0) C dX8_read_69 (by decide) ?_
                refine g_iaddN C dX8_read_70 ?_
                refine gp_X8_place C (by rfl) dX8_read_71 kf_RX8_174 ?_
                refine g_goto C 17 dX8_read_74 (by decide) ?_
                refine g_loc ([(0, .ref (ev_a E 64)), (1, .int (nI 0))]) (And.intro rfl (And.intro rfl trivial)) ?_
                refine g_iload_n C dX8_read_17 rfl ?_
                refine g_ifeqN C 77 dX8_read_18 (by decide) (by omega) (fun h18 => ?_) (fun h18 => ?_)
                · refine g_loc ([(0, .ref (ev_a E 64))]) (And.intro rfl trivial) ?_
                  show G E _ X _ _ (setF σ1 64 15 (nI ((clV T n j).2.1 + 0))) _ _ _
                  refine KK _ ?_ (f1.sF (by simp))
                  have e : pcM T n 0 c j V = if (clV T n j).2.1 = n then (-1, (fun q => if q = c then (clV T n j).2.2 else V q), c + 1) else pcL T n 0 (c + 1) (clV T n j).2.1 (fun q => if q = c then (clV T n j).2.2 else V q) := by unfold pcM; rw [if_pos hv]
                  refine ⟨(clV T n j).2.1, false, by unfold setF; rw [sI_self, up_i]; rfl, clV_le hj, by unfold setF; rw [sI_self, up_n (by decide), b1, hv]; rfl, ?_⟩
                  by_cases en : (clV T n j).2.1 = n
                  · rw [e, if_pos en]
                    exact Or.inl ⟨rfl, rfl, en, by unfold setF; rw [sI_self, up_n (by decide)]; exact b2.1, by show c + 1 ≤ 12; omega, fun q hq => by unfold setF; rw [sI_ne (by decide)]; exact hV1 q hq⟩
                  · rw [e, if_neg en, pc_stop (Or.inr (by omega))]
                    exact Or.inr ⟨rfl, Or.inr en⟩
                · exact absurd rfl h18
              · first | exact absurd rfl h62 | exact absurd h62 (by decide)
            · omega
  | succ k ih =>
    intro c j V σ hc hT hj hp hw hm hV KK
    have h100 := hT.2.1
    refine g_iload_n C dX8_read_17 rfl ?_
    refine g_ifeqN C 77 dX8_read_18 (by decide) (by omega) (fun h18 => ?_) (fun h18 => ?_)
    · exact absurd h18 (by decide)
    · refine g_aload_n C dX8_read_21 rfl ?_
      refine g_callV C (ob_X8 (by rfl)) (c_X8_clause (d := d) hT hj hp hw hm (by omega)) dX8_read_22 km_RX8_207 kn_RX8 kc_yX8_clause ki_yX8_clause kx_yX8_clause (by omega) (by decide) ⟨by decide, by decide, rfl⟩ rfl (Nat.le_of_ble_eq_true rfl) (fun r1 σ1 q1 => ?_)
      obtain ⟨rfl, hE⟩ := q1
      obtain ⟨b0, b1, b2, b3, f1⟩ := id hE
      have hTs := hT.fk f1 (by simp) (by simp)
      cases hv : (clV T n j).1
      · refine g_aload_n C dX8_read_25 rfl ?_
        refine gf_X8_isWrong C (by rfl) dX8_read_26 kf_RX8_177 ?_
        rw [b1, hv]
        refine g_ifneB C 54 dX8_read_29 (by decide) (fun h29 => ?_) (fun h29 => ?_)
        · refine g_ic (n := 0) C dX8_read_54 (by decide) ?_
          refine g_istore_n C dX8_read_55 (by decide) ?_
          refine g_aload_n C dX8_read_56 rfl ?_
          refine g_dup C dX8_read_57 rfl ?_
          refine gf_X8_place C (by rfl) dX8_read_58 kf_RX8_174 ?_
          rw [b0]
          refine g_iload_n C dX8_read_61 rfl ?_
          refine g_ifeqN C 69 dX8_read_62 (by decide) (by omega) (fun h62 => ?_) (fun h62 => ?_)
          · refine g_ic (n := 0) C dX8_read_69 (by decide) ?_
            refine g_iaddN C dX8_read_70 ?_
            refine gp_X8_place C (by rfl) dX8_read_71 kf_RX8_174 ?_
            refine g_goto C 17 dX8_read_74 (by decide) ?_
            refine g_loc ([(0, .ref (ev_a E 64)), (1, .int (nI 0))]) (And.intro rfl (And.intro rfl trivial)) ?_
            refine g_iload_n C dX8_read_17 rfl ?_
            refine g_ifeqN C 77 dX8_read_18 (by decide) (by omega) (fun h18 => ?_) (fun h18 => ?_)
            · refine g_loc ([(0, .ref (ev_a E 64))]) (And.intro rfl trivial) ?_
              show G E _ X _ _ (setF σ1 64 15 (nI ((clV T n j).2.1 + 0))) _ _ _
              refine KK _ ?_ (f1.sF (by simp))
              refine ⟨(clV T n j).2.1, true, by unfold setF; rw [sI_self, up_i]; rfl, clV_le hj, by unfold setF; rw [sI_self, up_n (by decide), b1, hv]; rfl, Or.inr ⟨by unfold pcM; rw [if_neg (by rw [hv]; decide)], Or.inl rfl⟩⟩
            · exact absurd rfl h18
          · exact absurd rfl h62
        · exact absurd h29 (by decide)
      · have b2 := b2 hv
        have hV1 : ∀ q, q < c + 1 → WC (σ1.1 75) (5 * q) ((fun q => if q = c then (clV T n j).2.2 else V q) q) := by
          intro q hq
          show WC _ _ (if q = c then _ else _)
          by_cases e : q = c
          · subst e; rw [if_pos rfl]; exact b2.2
          · rw [if_neg e]; exact (hV q (by omega)).go (fun x h1 h2 => b3 x (by omega))
        refine g_aload_n C dX8_read_25 rfl ?_
        refine gf_X8_isWrong C (by rfl) dX8_read_26 kf_RX8_177 ?_
        rw [b1, hv]
        refine g_ifneB C 54 dX8_read_29 (by decide) (fun h29 => ?_) (fun h29 => ?_)
        · exact absurd h29 (by decide)
        · refine g_aload_n C dX8_read_32 rfl ?_
          refine g_callVp C (ob_X8 (by rfl)) (c_X8_here (d := d) hTs (clV_le hj) b0) dX8_read_33 km_RX8_181 kn_RX8 kc_yX8_here ki_yX8_here kx_yX8_here (by omega) (by decide) ⟨by decide, by decide, rfl⟩ rfl (Nat.le_of_ble_eq_true rfl) ?_
          refine g_bp C (nI 59) dX8_read_36 (by decide) ?_
          refine g_icne C 54 dX8_read_38 (by decide) (fun h38 => ?_) (fun h38 => ?_)
          · refine g_ic (n := 0) C dX8_read_54 (by decide) ?_
            refine g_istore_n C dX8_read_55 (by decide) ?_
            refine g_aload_n C dX8_read_56 rfl ?_
            refine g_dup C dX8_read_57 rfl ?_
            refine gf_X8_place C (by rfl) dX8_read_58 kf_RX8_174 ?_
            rw [b0]
            refine g_iload_n C dX8_read_61 rfl ?_
            refine g_ifeqN C 69 dX8_read_62 (by decide) (by omega) (fun h62 => ?_) (fun h62 => ?_)
            · refine g_ic (n := 0) C dX8_read_69 (by decide) ?_
              refine g_iaddN C dX8_read_70 ?_
              refine gp_X8_place C (by rfl) dX8_read_71 kf_RX8_174 ?_
              refine g_goto C 17 dX8_read_74 (by decide) ?_
              refine g_loc ([(0, .ref (ev_a E 64)), (1, .int (nI 0))]) (And.intro rfl (And.intro rfl trivial)) ?_
              refine g_iload_n C dX8_read_17 rfl ?_
              refine g_ifeqN C 77 dX8_read_18 (by decide) (by omega) (fun h18 => ?_) (fun h18 => ?_)
              · refine g_loc ([(0, .ref (ev_a E 64))]) (And.intro rfl trivial) ?_
                show G E _ X _ _ (setF σ1 64 15 (nI ((clV T n j).2.1 + 0))) _ _ _
                refine KK _ ?_ (f1.sF (by simp))
                have e : pcM T n (k + 1) c j V = if (clV T n j).2.1 = n then (-1, (fun q => if q = c then (clV T n j).2.2 else V q), c + 1) else pcL T n (k + 1) (c + 1) (clV T n j).2.1 (fun q => if q = c then (clV T n j).2.2 else V q) := by unfold pcM; rw [if_pos hv]
                refine ⟨(clV T n j).2.1, false, by unfold setF; rw [sI_self, up_i]; rfl, clV_le hj, by unfold setF; rw [sI_self, up_n (by decide), b1, hv]; rfl, ?_⟩
                by_cases en : (clV T n j).2.1 = n
                · rw [e, if_pos en]
                  exact Or.inl ⟨rfl, rfl, en, by unfold setF; rw [sI_self, up_n (by decide)]; exact b2.1, by show c + 1 ≤ 12; omega, fun q hq => by unfold setF; rw [sI_ne (by decide)]; exact hV1 q hq⟩
                · rw [e, if_neg en, pc_stop (Or.inl (b_ne (fun q => h38 ((hr_sg hTs.lt (by decide)).mpr q))))]
                  exact Or.inr ⟨rfl, Or.inr en⟩
              · exact absurd rfl h18
            · first | exact absurd rfl h62 | exact absurd h62 (by decide)
          · refine g_aload_n C dX8_read_41 rfl ?_
            refine gf_X8_toldMany C (by rfl) dX8_read_42 kf_RX8_192 ?_
            refine g_bp C (nI 12) dX8_read_45 (by decide) ?_
            rw [b2.1]
            refine g_icgeN C 54 dX8_read_47 (by decide) (by omega) (by omega) (fun h47 => ?_) (fun h47 => ?_)
            · refine g_ic (n := 0) C dX8_read_54 (by decide) ?_
              refine g_istore_n C dX8_read_55 (by decide) ?_
              refine g_aload_n C dX8_read_56 rfl ?_
              refine g_dup C dX8_read_57 rfl ?_
              refine gf_X8_place C (by rfl) dX8_read_58 kf_RX8_174 ?_
              rw [b0]
              refine g_iload_n C dX8_read_61 rfl ?_
              refine g_ifeqN C 69 dX8_read_62 (by decide) (by omega) (fun h62 => ?_) (fun h62 => ?_)
              · refine g_ic (n := 0) C dX8_read_69 (by decide) ?_
                refine g_iaddN C dX8_read_70 ?_
                refine gp_X8_place C (by rfl) dX8_read_71 kf_RX8_174 ?_
                refine g_goto C 17 dX8_read_74 (by decide) ?_
                refine g_loc ([(0, .ref (ev_a E 64)), (1, .int (nI 0))]) (And.intro rfl (And.intro rfl trivial)) ?_
                refine g_iload_n C dX8_read_17 rfl ?_
                refine g_ifeqN C 77 dX8_read_18 (by decide) (by omega) (fun h18 => ?_) (fun h18 => ?_)
                · refine g_loc ([(0, .ref (ev_a E 64))]) (And.intro rfl trivial) ?_
                  show G E _ X _ _ (setF σ1 64 15 (nI ((clV T n j).2.1 + 0))) _ _ _
                  refine KK _ ?_ (f1.sF (by simp))
                  have e : pcM T n (k + 1) c j V = if (clV T n j).2.1 = n then (-1, (fun q => if q = c then (clV T n j).2.2 else V q), c + 1) else pcL T n (k + 1) (c + 1) (clV T n j).2.1 (fun q => if q = c then (clV T n j).2.2 else V q) := by unfold pcM; rw [if_pos hv]
                  refine ⟨(clV T n j).2.1, false, by unfold setF; rw [sI_self, up_i]; rfl, clV_le hj, by unfold setF; rw [sI_self, up_n (by decide), b1, hv]; rfl, ?_⟩
                  by_cases en : (clV T n j).2.1 = n
                  · rw [e, if_pos en]
                    exact Or.inl ⟨rfl, rfl, en, by unfold setF; rw [sI_self, up_n (by decide)]; exact b2.1, by show c + 1 ≤ 12; omega, fun q hq => by unfold setF; rw [sI_ne (by decide)]; exact hV1 q hq⟩
                  · rw [e, if_neg en, pc_stop (Or.inr (by omega))]
                    exact Or.inr ⟨rfl, Or.inr en⟩
                · exact absurd rfl h18
              · first | exact absurd rfl h62 | exact absurd h62 (by decide)
            · refine g_ic (n := 1) C dX8_read_50 (by decide) ?_
              refine g_goto C 55 dX8_read_51 (by decide) ?_
              refine g_istore_n C dX8_read_55 (by decide) ?_
              refine g_aload_n C dX8_read_56 rfl ?_
              refine g_dup C dX8_read_57 rfl ?_
              refine gf_X8_place C (by rfl) dX8_read_58 kf_RX8_174 ?_
              rw [b0]
              refine g_iload_n C dX8_read_61 rfl ?_
              refine g_ifeqN C 69 dX8_read_62 (by decide) (by omega) (fun h62 => ?_) (fun h62 => ?_)
              · first | exact absurd rfl h62 | exact absurd h62 (by decide)
              · refine g_ic (n := 1) C dX8_read_65 (by decide) ?_
                refine g_goto C 70 dX8_read_66 (by decide) ?_
                refine g_iaddN C dX8_read_70 ?_
                refine gp_X8_place C (by rfl) dX8_read_71 kf_RX8_174 ?_
                refine g_goto C 17 dX8_read_74 (by decide) ?_
                have hlt := sgr_t ((hr_sg hTs.lt (by decide)).mp h38)
                have hsg := (hr_sg hTs.lt (by decide)).mp h38
                refine g_loc ([(0, .ref (ev_a E 64)), (1, .int (nI 1))]) (And.intro rfl (And.intro rfl trivial)) ?_
                have e : pcM T n (k + 1) c j V = pcM T n k (c + 1) ((clV T n j).2.1 + 1) (fun q => if q = c then (clV T n j).2.2 else V q) := by unfold pcM; rw [if_pos hv, if_neg (by omega), pcL_s, if_neg (fun q => by rw [hsg] at q; exact absurd q.2 (by decide)), if_pos (Nat.succ_pos c)]; rfl
                have F1 : Fk [15, 16, 18] [75] σ (setF σ1 64 15 (nI ((clV T n j).2.1 + 1))) := f1.sF (by simp)
                exact ih (c + 1) ((clV T n j).2.1 + 1) (fun q => if q = c then (clV T n j).2.2 else V q) (setF σ1 64 15 (nI ((clV T n j).2.1 + 1))) (by omega) (hT.fk F1 (by simp) (by simp)) (by omega) (by unfold setF; rw [sI_self, up_i]) (by unfold setF; rw [sI_self, up_n (by decide), b1, hv]; rfl) (by unfold setF; rw [sI_self, up_n (by decide)]; exact b2.1) (fun q hq => by unfold setF; rw [sI_ne (by decide)]; exact hV1 q hq) (fun σ2 z1 z2 => KK σ2 (by rw [e]; exact z1) (F1.tr z2))

theorem RfIs.t0 {σ : St} {s : Ms} (h : RfIs σ s) : RfIs (setF σ 64 14 (nI 0)) (sTx0 s) := by
  obtain ⟨h1, h2, h3, h4⟩ := h
  have F : Fk [14] [] σ (setF σ 64 14 (nI 0)) := Fk.rf.sF (by simp)
  exact ⟨by rw [(F.1 65 (by simp)).1]; exact h1, h2.go (F.2 3 (by simp)) (F.1 67 (by simp)).1, ⟨by unfold setF; rw [sI_self, up_i]; rfl, Nat.zero_le _, fun j hj => absurd hj (Nat.not_lt_zero _)⟩, h4.go (F.1 76 (by simp)).1 (F.1 77 (by simp)).1 (F.1 78 (by simp)).2⟩
theorem m1_n {p : Nat} (h : p ≤ 100) : ¬ nI p = -1 := fun e => by
  have := congrArg Int32.toInt e
  rw [nI_toInt (by omega), show (-1 : Int32).toInt = -1 from by decide] at this
  omega

set_option maxHeartbeats 4000000 in
set_option maxRecDepth 100000 in
theorem c_X8_read {E : Ev} {d : Nat} {σ : St} {s : Ms} (hs : RfIs σ s) : Con E (d + 4) yX8_read cX8_read 5 ((Option.some FieldType.int)) [.ref (ev_a E 64)] σ (RfTo (.int (aRead s)) σ (tRead s)) := by
  refine con_of (by decide) (Nat.le_of_ble_eq_true rfl) (fun X hX C => ?_)
  have C : Cx E X cX8_read RX8 5 ((Option.some FieldType.int)) := C
  have h100 := hs.2.2.1.2.1
  show G E _ X _ _ _ 0 [(0, .ref (ev_a E 64))] []
  refine g_aload_n C dX8_read_0 rfl ?_
  refine g_ic (n := 0) C dX8_read_1 (by decide) ?_
  refine gp_X8_place C (by rfl) dX8_read_2 kf_RX8_174 ?_
  refine g_aload_n C dX8_read_5 rfl ?_
  refine g_ic (n := 0) C dX8_read_6 (by decide) ?_
  refine gp_X8_isWrong C (by rfl) (by first | exact bI_01 _ | exact Or.inl rfl | exact Or.inr rfl) dX8_read_7 kf_RX8_177 ?_
  refine g_aload_n C dX8_read_10 rfl ?_
  refine g_ic (n := 0) C dX8_read_11 (by decide) ?_
  refine gp_X8_toldMany C (by rfl) dX8_read_12 kf_RX8_192 ?_
  refine g_ic (n := 1) C dX8_read_15 (by decide) ?_
  refine g_istore_n C dX8_read_16 (by decide) ?_
  refine g_loc ([(0, .ref (ev_a E 64)), (1, .int (nI 1))]) (And.intro rfl (And.intro rfl trivial)) ?_
  show G E _ X _ _ (setF (setF (setF σ 64 15 (nI 0)) 64 16 (nI 0)) 64 18 (nI 0)) _ _ _
  have F0 : Fk [15, 16, 18] [75] σ (setF (setF (setF σ 64 15 (nI 0)) 64 16 (nI 0)) 64 18 (nI 0)) := ((Fk.rf.sF (by simp)).sF (by simp)).sF (by simp)
  have hT0 : TR (setF (setF (setF σ 64 15 (nI 0)) 64 16 (nI 0)) 64 18 (nI 0)) s.2.2.1.1 s.2.2.1.2 := hs.2.2.1.fk F0 (by simp) (by simp)
  have hpc : pcF s = (pcM s.2.2.1.2 s.2.2.1.1 11 0 0 (fun _ => (0, 0, 0, 0, 0))) := by unfold pcF; rw [show (12 : Nat) = 11 + 1 from rfl, pcL_s, if_neg (fun q => absurd q.1 (Nat.lt_irrefl 0)), if_neg (Nat.lt_irrefl 0)]
  refine l_X8_read C 11 0 0 (fun _ => (0, 0, 0, 0, 0)) _ (by omega) hT0 (Nat.zero_le _) (by unfold setF; rw [sI_self, up_n (by decide), sI_self, up_n (by decide), sI_self, up_i]) (by unfold setF; rw [sI_self, up_n (by decide), sI_self, up_i]; rfl) (by unfold setF; rw [sI_self, up_i]) (fun q hq => absurd hq (Nat.not_lt_zero _)) (fun σ2 z1 z2 => ?_)
  have hTr : TR σ2 s.2.2.1.1 s.2.2.1.2 := hT0.fk z2 (by simp) (by simp)
  obtain ⟨p, b, y1, y2, y3, ⟨y4, rfl, rfl, y6, y7, y8⟩ | ⟨y4, y5⟩⟩ := z1
  · refine g_aload_n C dX8_read_77 rfl ?_
    refine gf_X8_isWrong C (by rfl) dX8_read_78 kf_RX8_177 ?_
    rw [y3]
    refine g_ifneB C 99 dX8_read_81 (by decide) (fun h81 => ?_) (fun h81 => ?_)
    · exact absurd h81 (by decide)
    · refine g_aload_n C dX8_read_84 rfl ?_
      refine gf_X8_place C (by rfl) dX8_read_85 kf_RX8_174 ?_
      refine g_aload_n C dX8_read_88 rfl ?_
      refine gf_X8_length C (by rfl) dX8_read_89 kf_RX8_171 ?_
      rw [y1, hTr.1]
      refine g_icneN C 99 dX8_read_92 (by decide) (by omega) (by omega) (fun h92 => ?_) (fun h92 => ?_)
      · exact absurd rfl h92
      · refine g_ic (n := 1) C dX8_read_95 (by decide) ?_
        refine g_goto C 100 dX8_read_96 (by decide) ?_
        refine g_istore_n C dX8_read_100 (by decide) ?_
        refine g_aload_n C dX8_read_101 rfl ?_
        refine g_ic (n := 0) C dX8_read_102 (by decide) ?_
        refine gp_X8_length C (by rfl) dX8_read_103 kf_RX8_171 ?_
        have hF2 : Fk [14, 15, 16, 18] [75] σ (setF σ2 64 14 (nI 0)) := ((F0.mono (by simp) (by simp)).tr (z2.mono (by simp) (by simp))).sF (by simp)
        have hs2 : RfIs (setF σ2 64 14 (nI 0)) (sTx0 s) := (hs.go (F0.tr (z2.mono (by simp) (by simp))) (by decide) (by decide)).t0
        show G E _ X _ _ (setF σ2 64 14 (nI 0)) _ _ _
        refine g_iload_n C dX8_read_106 rfl ?_
        refine g_ifneN C 118 dX8_read_107 (by decide) (by omega) (fun h107 => ?_) (fun h107 => ?_)
        · refine g_ic (n := 0) C dX8_read_118 (by decide) ?_
          refine g_istore_n C dX8_read_119 (by decide) ?_
          refine g_ic (n := 0) C dX8_read_120 (by decide) ?_
          refine g_istore C dX8_read_121 (by decide) ?_
          refine g_loc ([(0, .ref (ev_a E 64)), (3, .int (nI 0)), (4, .int (nI 0))]) (And.intro rfl (And.intro rfl (And.intro rfl trivial))) ?_
          refine g_post (fun r σ3 q => ?_) (l2_X8_read C (V := (pcM s.2.2.1.2 s.2.2.1.1 11 0 0 (fun _ => (0, 0, 0, 0, 0))).2.1) y7 (pcM s.2.2.1.2 s.2.2.1.1 11 0 0 (fun _ => (0, 0, 0, 0, 0))).2.2 0 0 (sTx0 s) (setF σ2 64 14 (nI 0)) (Nat.zero_add _).symm hs2 (by unfold setF; rw [sI_self, up_n (by decide)]; exact y6) (fun x hx => by unfold setF; rw [sI_ne (by decide)]; exact y8 x hx) (Nat.le_refl _))
          obtain ⟨q1, q2, q3⟩ := q
          refine ⟨q1.trans (congrArg (fun v => some (Value.int v)) ?_), ?_, (hF2.mono (fs' := [14, 15, 16, 18]) (l' := [65, 75]) (by simp) (by simp)).tr (q3.mono (by simp) (by simp)) |>.s (by decide)⟩
          · symm; unfold aRead; rw [hpc, if_pos y4]
          · rw [show tRead s = _ from by unfold tRead; rw [hpc, if_pos y4]]; exact q2
        · exact absurd h107 (by decide)
  · refine g_aload_n C dX8_read_77 rfl ?_
    refine gf_X8_isWrong C (by rfl) dX8_read_78 kf_RX8_177 ?_
    rw [y3]
    refine g_ifneB C 99 dX8_read_81 (by decide) (fun h81 => ?_) (fun h81 => ?_)
    · refine g_ic (n := 0) C dX8_read_99 (by decide) ?_
      refine g_istore_n C dX8_read_100 (by decide) ?_
      refine g_aload_n C dX8_read_101 rfl ?_
      refine g_ic (n := 0) C dX8_read_102 (by decide) ?_
      refine gp_X8_length C (by rfl) dX8_read_103 kf_RX8_171 ?_
      have hF2 : Fk [14, 15, 16, 18] [75] σ (setF σ2 64 14 (nI 0)) := ((F0.mono (by simp) (by simp)).tr (z2.mono (by simp) (by simp))).sF (by simp)
      have hs2 : RfIs (setF σ2 64 14 (nI 0)) (sTx0 s) := (hs.go (F0.tr (z2.mono (by simp) (by simp))) (by decide) (by decide)).t0
      show G E _ X _ _ (setF σ2 64 14 (nI 0)) _ _ _
      refine g_iload_n C dX8_read_106 rfl ?_
      refine g_ifneN C 118 dX8_read_107 (by decide) (by omega) (fun h107 => ?_) (fun h107 => ?_)
      · exact absurd rfl h107
      · refine g_bp C (-10) dX8_read_110 (by decide) ?_
        refine g_aload_n C dX8_read_112 rfl ?_
        refine gf_X8_place C (by rfl) dX8_read_113 kf_RX8_174 ?_
        refine g_eq (st' := [.int (nI p), .int (-10)]) (by unfold setF; rw [sI_self, up_n (by decide), y1]) ?_
        refine g_isub C dX8_read_116 ?_
        refine g_iret C dX8_read_117 ?_
        exact ⟨congrArg (fun v => some (Value.int v)) (by unfold aRead; rw [hpc, y4, if_neg (m1_n (by omega))]), by rw [show tRead s = sTx0 s from by unfold tRead; rw [hpc, y4, if_neg (m1_n (by omega))]]; exact hs2, hF2.s (by decide)⟩
    · refine g_aload_n C dX8_read_84 rfl ?_
      refine gf_X8_place C (by rfl) dX8_read_85 kf_RX8_174 ?_
      refine g_aload_n C dX8_read_88 rfl ?_
      refine gf_X8_length C (by rfl) dX8_read_89 kf_RX8_171 ?_
      rw [y1, hTr.1]
      refine g_icneN C 99 dX8_read_92 (by decide) (by omega) (by omega) (fun h92 => ?_) (fun h92 => ?_)
      · refine g_ic (n := 0) C dX8_read_99 (by decide) ?_
        refine g_istore_n C dX8_read_100 (by decide) ?_
        refine g_aload_n C dX8_read_101 rfl ?_
        refine g_ic (n := 0) C dX8_read_102 (by decide) ?_
        refine gp_X8_length C (by rfl) dX8_read_103 kf_RX8_171 ?_
        have hF2 : Fk [14, 15, 16, 18] [75] σ (setF σ2 64 14 (nI 0)) := ((F0.mono (by simp) (by simp)).tr (z2.mono (by simp) (by simp))).sF (by simp)
        have hs2 : RfIs (setF σ2 64 14 (nI 0)) (sTx0 s) := (hs.go (F0.tr (z2.mono (by simp) (by simp))) (by decide) (by decide)).t0
        show G E _ X _ _ (setF σ2 64 14 (nI 0)) _ _ _
        refine g_iload_n C dX8_read_106 rfl ?_
        refine g_ifneN C 118 dX8_read_107 (by decide) (by omega) (fun h107 => ?_) (fun h107 => ?_)
        · exact absurd rfl h107
        · refine g_bp C (-10) dX8_read_110 (by decide) ?_
          refine g_aload_n C dX8_read_112 rfl ?_
          refine gf_X8_place C (by rfl) dX8_read_113 kf_RX8_174 ?_
          refine g_eq (st' := [.int (nI p), .int (-10)]) (by unfold setF; rw [sI_self, up_n (by decide), y1]) ?_
          refine g_isub C dX8_read_116 ?_
          refine g_iret C dX8_read_117 ?_
          exact ⟨congrArg (fun v => some (Value.int v)) (by unfold aRead; rw [hpc, y4, if_neg (m1_n (by omega))]), by rw [show tRead s = sTx0 s from by unfold tRead; rw [hpc, y4, if_neg (m1_n (by omega))]]; exact hs2, hF2.s (by decide)⟩
      · exact absurd h92 (by rcases y5 with q | q; rw [q] at h81; exact absurd h81 (by decide); exact q)

