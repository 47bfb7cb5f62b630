/-! THE LAW, ITS FIRST LOOPS: orbits times keepers (wip/p38/gen/lawA.py) -/
abbrev ML (Q : State → Prop) : Mo := (room_1, 64, 1487, Q)
theorem bI_add {a : Nat} {b : Bool} : nI a + bI b = nI (a + if b = true then 1 else 0) := by
  rw [bI_nI, nI_add]
section LA
variable {E : Ev} {Q : State → Prop} {X : Mx} {s : Ms}

set_option maxHeartbeats 4000000 in
set_option maxRecDepth 100000 in
theorem la_k (C : CZ E (ML Q) X cL_law RL 24) (ho : MsOk s) {p : Nat} (hp : p < s.1.1.1) (kE : ∀ σ : St, SyIs σ s → GZ E (ML Q) X 24 σ 74 [(0, .ref (ev_s E 3)), (1, .ref (ev_a E 0)), (2, .int (nI s.1.1.1)), (3, .int (nI (gL s).length)), (4, .int (nI p)), (5, .int (nI (cntN (fun j => decide (goT s.1.1.2 s.1.1.1 (lg (gL s) j) p = some p)) (gL s).length))), (6, .int (nI 0)), (7, .int (nI (gL s).length))] []) : ∀ (t k : Nat) (σ : St), (gL s).length < k + t → k ≤ (gL s).length → SyIs σ s → GZ E (ML Q) X 24 σ 35 [(0, .ref (ev_s E 3)), (1, .ref (ev_a E 0)), (2, .int (nI s.1.1.1)), (3, .int (nI (gL s).length)), (4, .int (nI p)), (5, .int (nI (cntN (fun j => decide (goT s.1.1.2 s.1.1.1 (lg (gL s) j) p = some p)) k))), (6, .int (nI 0)), (7, .int (nI k))] [] := by
  have h8 : s.1.1.1 ≤ 8 := ho.1.1.1
  have hG := gp_gl ho.1.1
  have h48 : (gL s).length ≤ 48 := hG.1.1
  intro t
  induction t with
  | zero => intro k σ h1 h2; omega
  | succ t ih =>
    intro k σ h1 h2 hs
    refine z_iload C dL_law_35 rfl ?_
    refine z_iload_n C dL_law_37 rfl ?_
    refine z_icgeN C 74 dL_law_38 (by decide) (by omega) (by omega) (fun h38 => ?_) (fun h38 => ?_)
    · obtain rfl : k = (gL s).length := by omega
      exact kE σ hs
    · have hm : lg (gL s) k < 48 := hG.1.2.1 k (by omega)
      refine z_iload C dL_law_41 rfl ?_
      refine z_aload_n C dL_law_43 rfl ?_
      refine z_aload_n C dL_law_44 rfl ?_
      refine z_iload C dL_law_45 rfl ?_
      refine z_sy C (c_X7_group (d := 0) hs) dL_law_47 km_RL_28 kc_yX7_group ki_yX7_group kx_yX7_group rfl (Nat.le_of_ble_eq_true rfl) (Nat.le_of_ble_eq_true rfl) rfl rfl (Nat.le_of_ble_eq_true rfl) (fun σ hs => ?_)
      rw [e_group (by omega) h48]
      refine z_iload C dL_law_50 rfl ?_
      refine z_sy C (c_X7_takes (d := 0) hs) dL_law_52 km_RL_31 kc_yX7_takes ki_yX7_takes kx_yX7_takes rfl (Nat.le_of_ble_eq_true rfl) (Nat.le_of_ble_eq_true rfl) rfl rfl (Nat.le_of_ble_eq_true rfl) (fun σ hs => ?_)
      rw [e_takes hm hp h8]
      refine z_iload C dL_law_55 rfl ?_
      refine z_m2 C dL_law_57 dL_law_60 dL_law_61 dL_law_64 ?_
      have e1 : decide (oI (goT s.1.1.2 s.1.1.1 (lg (gL s) k) p) = nI p) = (fun j => decide (goT s.1.1.2 s.1.1.1 (lg (gL s) j) p = some p)) k := by
        refine decide_eq_decide.mpr (oI_eq (by omega) (fun q hq => ?_))
        have := ((go_iff ho.1.1).mp hq).1
        omega
      rw [e1]
      refine z_iadd C dL_law_65 ?_
      rw [bI_add]
      refine z_istore C dL_law_66 (by decide) ?_
      refine z_iinc1 C dL_law_68 rfl (by decide) ?_
      refine z_goto C 35 dL_law_71 (by decide) ?_
      refine z_loc ([(0, .ref (ev_s E 3)), (1, .ref (ev_a E 0)), (2, .int (nI s.1.1.1)), (3, .int (nI (gL s).length)), (4, .int (nI p)), (5, .int (nI (cntN (fun j => decide (goT s.1.1.2 s.1.1.1 (lg (gL s) j) p = some p)) (k + 1)))), (6, .int (nI 0)), (7, .int (nI (k + 1)))]) ⟨rfl, rfl, rfl, rfl, rfl, rfl, rfl, rfl, trivial⟩ ?_
      exact ih (k + 1) σ (by omega) (by omega) hs
set_option maxHeartbeats 4000000 in
set_option maxRecDepth 100000 in
theorem la_q (C : CZ E (ML Q) X cL_law RL 24) (ho : MsOk s) {p kp : Nat} (hp : p < s.1.1.1) (kE : ∀ σ : St, SyIs σ s → GZ E (ML Q) X 24 σ 116 [(0, .ref (ev_s E 3)), (1, .ref (ev_a E 0)), (2, .int (nI s.1.1.1)), (3, .int (nI (gL s).length)), (4, .int (nI p)), (5, .int (nI kp)), (6, .int (nI (cntN (fun q => decide (oV s.1.1.2 s.1.1.1 (gL s) q = oV s.1.1.2 s.1.1.1 (gL s) p)) s.1.1.1))), (7, .int (nI s.1.1.1))] []) : ∀ (t k : Nat) (σ : St), s.1.1.1 < k + t → k ≤ s.1.1.1 → SyIs σ s → GZ E (ML Q) X 24 σ 77 [(0, .ref (ev_s E 3)), (1, .ref (ev_a E 0)), (2, .int (nI s.1.1.1)), (3, .int (nI (gL s).length)), (4, .int (nI p)), (5, .int (nI kp)), (6, .int (nI (cntN (fun q => decide (oV s.1.1.2 s.1.1.1 (gL s) q = oV s.1.1.2 s.1.1.1 (gL s) p)) k))), (7, .int (nI k))] [] := by
  have h8 : s.1.1.1 ≤ 8 := ho.1.1.1
  have hG := gp_gl ho.1.1
  have h48 : (gL s).length ≤ 48 := hG.1.1
  intro t
  induction t with
  | zero => intro k σ h1 h2; omega
  | succ t ih =>
    intro k σ h1 h2 hs
    refine z_iload C dL_law_77 rfl ?_
    refine z_iload_n C dL_law_79 rfl ?_
    refine z_icgeN C 116 dL_law_80 (by decide) (by omega) (by omega) (fun h80 => ?_) (fun h80 => ?_)
    · obtain rfl : k = s.1.1.1 := by omega
      exact kE σ hs
    · refine z_iload C dL_law_83 rfl ?_
      refine z_aload_n C dL_law_85 rfl ?_
      refine z_iload C dL_law_86 rfl ?_
      refine z_ic (n := 4) C dL_law_88 (by decide) ?_
      refine z_sy C (c_X7_of (d := 0) hs) dL_law_89 km_RL_35 kc_yX7_of ki_yX7_of kx_yX7_of rfl (Nat.le_of_ble_eq_true rfl) (Nat.le_of_ble_eq_true rfl) rfl rfl (Nat.le_of_ble_eq_true rfl) (fun σ hs => ?_)
      rw [e_of4 (by omega) h8]
      refine z_aload_n C dL_law_92 rfl ?_
      refine z_iload C dL_law_93 rfl ?_
      refine z_ic (n := 4) C dL_law_95 (by decide) ?_
      refine z_sy C (c_X7_of (d := 0) hs) dL_law_96 km_RL_35 kc_yX7_of ki_yX7_of kx_yX7_of rfl (Nat.le_of_ble_eq_true rfl) (Nat.le_of_ble_eq_true rfl) rfl rfl (Nat.le_of_ble_eq_true rfl) (fun σ hs => ?_)
      rw [e_of4 hp h8]
      refine z_m2 C dL_law_99 dL_law_102 dL_law_103 dL_law_106 ?_
      refine z_iadd C dL_law_107 ?_
      rw [bI_add]
      refine z_istore C dL_law_108 (by decide) ?_
      refine z_iinc1 C dL_law_110 rfl (by decide) ?_
      refine z_goto C 77 dL_law_113 (by decide) ?_
      refine z_loc ([(0, .ref (ev_s E 3)), (1, .ref (ev_a E 0)), (2, .int (nI s.1.1.1)), (3, .int (nI (gL s).length)), (4, .int (nI p)), (5, .int (nI kp)), (6, .int (nI (cntN (fun q => decide (oV s.1.1.2 s.1.1.1 (gL s) q = oV s.1.1.2 s.1.1.1 (gL s) p)) (k + 1)))), (7, .int (nI (k + 1)))]) ⟨rfl, rfl, rfl, rfl, rfl, rfl, rfl, rfl, trivial⟩ ?_
      exact ih (k + 1) σ (by omega) (by omega) hs
set_option maxHeartbeats 4000000 in
set_option maxRecDepth 100000 in
theorem la_p (C : CZ E (ML Q) X cL_law RL 24) (ho : MsOk s) (kE : ∀ σ : St, SyIs σ s → GZ E (ML Q) X 24 σ 133 [(0, .ref (ev_s E 3)), (1, .ref (ev_a E 0)), (2, .int (nI s.1.1.1)), (3, .int (nI (gL s).length))] []) : ∀ (t p : Nat) (σ : St), s.1.1.1 < p + t → p ≤ s.1.1.1 → SyIs σ s → GZ E (ML Q) X 24 σ 20 [(0, .ref (ev_s E 3)), (1, .ref (ev_a E 0)), (2, .int (nI s.1.1.1)), (3, .int (nI (gL s).length)), (4, .int (nI p))] [] := by
  have h8 : s.1.1.1 ≤ 8 := ho.1.1.1
  have hG := gp_gl ho.1.1
  have h48 : (gL s).length ≤ 48 := hG.1.1
  intro t
  induction t with
  | zero => intro p σ h1 h2; omega
  | succ t ih =>
    intro p σ h1 h2 hs
    refine z_iload C dL_law_20 rfl ?_
    refine z_iload_n C dL_law_22 rfl ?_
    refine z_icgeN C 133 dL_law_23 (by decide) (by omega) (by omega) (fun h23 => ?_) (fun h23 => ?_)
    · obtain rfl : p = s.1.1.1 := by omega
      refine z_loc ([(0, .ref (ev_s E 3)), (1, .ref (ev_a E 0)), (2, .int (nI s.1.1.1)), (3, .int (nI (gL s).length))]) ⟨rfl, rfl, rfl, rfl, trivial⟩ ?_
      exact kE σ hs
    · refine z_ic (n := 0) C dL_law_26 (by decide) ?_
      refine z_istore C dL_law_27 (by decide) ?_
      refine z_ic (n := 0) C dL_law_29 (by decide) ?_
      refine z_istore C dL_law_30 (by decide) ?_
      refine z_ic (n := 0) C dL_law_32 (by decide) ?_
      refine z_istore C dL_law_33 (by decide) ?_
      refine z_loc ([(0, .ref (ev_s E 3)), (1, .ref (ev_a E 0)), (2, .int (nI s.1.1.1)), (3, .int (nI (gL s).length)), (4, .int (nI p)), (5, .int (nI 0)), (6, .int (nI 0)), (7, .int (nI 0))]) ⟨rfl, rfl, rfl, rfl, rfl, rfl, rfl, rfl, trivial⟩ ?_
      exact la_k C ho (show p < s.1.1.1 by omega) (fun σ hs => by
        refine z_ic (n := 0) C dL_law_74 (by decide) ?_
        refine z_istore C dL_law_75 (by decide) ?_
        refine z_loc ([(0, .ref (ev_s E 3)), (1, .ref (ev_a E 0)), (2, .int (nI s.1.1.1)), (3, .int (nI (gL s).length)), (4, .int (nI p)), (5, .int (nI (cntN (fun j => decide (goT s.1.1.2 s.1.1.1 (lg (gL s) j) p = some p)) (gL s).length))), (6, .int (nI 0)), (7, .int (nI 0))]) ⟨rfl, rfl, rfl, rfl, rfl, rfl, rfl, rfl, trivial⟩ ?_
        exact la_q C ho (show p < s.1.1.1 by omega) (fun σ hs => by
          refine z_iload C dL_law_116 rfl ?_
          refine z_iload C dL_law_118 rfl ?_
          first | refine z_imulN C dL_law_120 ?_ | refine z_imul C dL_law_120 ?_
          refine z_iload_n C dL_law_121 rfl ?_
          rw [show cntN (fun j => decide (goT s.1.1.2 s.1.1.1 (lg (gL s) j) p = some p)) (gL s).length * cntN (fun q => decide (oV s.1.1.2 s.1.1.1 (gL s) q = oV s.1.1.2 s.1.1.1 (gL s) p)) s.1.1.1 = (gL s).length from orb_keep ho.1.1 (show p < s.1.1.1 by omega)]
          refine z_iceqN C 127 dL_law_122 (by decide) (by omega) (by omega) (fun _ => ?_) (fun q => absurd rfl q)
          refine z_iinc1 C dL_law_127 rfl (by decide) ?_
          refine z_goto C 20 dL_law_130 (by decide) ?_
          refine z_loc ([(0, .ref (ev_s E 3)), (1, .ref (ev_a E 0)), (2, .int (nI s.1.1.1)), (3, .int (nI (gL s).length)), (4, .int (nI (p + 1)))]) ⟨rfl, rfl, rfl, rfl, rfl, trivial⟩ ?_
          exact ih (p + 1) σ (by omega) (by omega) hs
          ) (s.1.1.1 + 1) 0 σ (by omega) (by omega) hs
        ) ((gL s).length + 1) 0 σ (by omega) (by omega) hs
set_option maxHeartbeats 4000000 in
set_option maxRecDepth 100000 in
theorem la_all (C : CZ E (ML Q) X cL_law RL 24) (ho : MsOk s) (kE : ∀ σ : St, SyIs σ s → GZ E (ML Q) X 24 σ 133 [(0, .ref (ev_s E 3)), (1, .ref (ev_a E 0)), (2, .int (nI s.1.1.1)), (3, .int (nI (gL s).length))] []) (σ : St) (hs : SyIs σ s) : GZ E (ML Q) X 24 σ 4 [(0, .ref (ev_s E 3))] [.ref (ev_a E 0)] := by
  have h8 : s.1.1.1 ≤ 8 := ho.1.1.1
  have hG := gp_gl ho.1.1
  have h48 : (gL s).length ≤ 48 := hG.1.1
  refine z_astore_n C dL_law_4 (by decide) ?_
  refine z_aload_n C dL_law_5 rfl ?_
  refine z_ic (n := 0) C dL_law_6 (by decide) ?_
  refine z_sy C (c_X7_told (d := 0) hs) dL_law_7 km_RL_24 kc_yX7_told ki_yX7_told kx_yX7_told rfl (Nat.le_of_ble_eq_true rfl) (Nat.le_of_ble_eq_true rfl) rfl rfl (Nat.le_of_ble_eq_true rfl) (fun σ hs => ?_)
  rw [e_told0]
  refine z_istore_n C dL_law_10 (by decide) ?_
  refine z_aload_n C dL_law_11 rfl ?_
  refine z_ic (n := 1) C dL_law_12 (by decide) ?_
  refine z_sy C (c_X7_told (d := 0) hs) dL_law_13 km_RL_24 kc_yX7_told ki_yX7_told kx_yX7_told rfl (Nat.le_of_ble_eq_true rfl) (Nat.le_of_ble_eq_true rfl) rfl rfl (Nat.le_of_ble_eq_true rfl) (fun σ hs => ?_)
  rw [e_told1]
  refine z_istore_n C dL_law_16 (by decide) ?_
  refine z_ic (n := 0) C dL_law_17 (by decide) ?_
  refine z_istore C dL_law_18 (by decide) ?_
  refine z_loc ([(0, .ref (ev_s E 3)), (1, .ref (ev_a E 0)), (2, .int (nI s.1.1.1)), (3, .int (nI (gL s).length)), (4, .int (nI 0))]) ⟨rfl, rfl, rfl, rfl, rfl, trivial⟩ ?_
  exact la_p C ho kE (s.1.1.1 + 1) 0 σ (by omega) (by omega) hs
end LA
