/-! THE LAW: the mean of orders; a judged row is the group (wip/p38/gen/lawB.py) -/
section LB
variable {E : Ev} {Q : State → Prop} {X : Mx} {s : Ms}

set_option maxHeartbeats 4000000 in
set_option maxRecDepth 100000 in
theorem lb_m (C : CZ E (ML Q) X cL_law RL 24) (ho : MsOk s) (kE : ∀ σ : St, SyIs σ s → GZ E (ML Q) X 24 σ 181 [(0, .ref (ev_s E 3)), (1, .ref (ev_a E 0)), (2, .int (nI s.1.1.1)), (3, .int (nI (gL s).length)), (4, .long (nI (pfL (otL (gL s) (gL s).length 0 0) (gL s).length (otL (gL s) (gL s).length 0 0) (gL s).length)).toInt64), (6, .long (nI (pfL (otL (gL s) (gL s).length 0 0) (gL s).length (gL s).length (gL s).length)).toInt64), (8, .int (nI (otL (gL s) (gL s).length 0 0))), (9, .int (nI (gL s).length))] []) : ∀ (t k S : Nat) (σ : St), (gL s).length = k + t → otL (gL s) t k S = (otL (gL s) (gL s).length 0 0) → SyIs σ s → GZ E (ML Q) X 24 σ 153 [(0, .ref (ev_s E 3)), (1, .ref (ev_a E 0)), (2, .int (nI s.1.1.1)), (3, .int (nI (gL s).length)), (4, .long (nI (pfL (otL (gL s) (gL s).length 0 0) (gL s).length (otL (gL s) (gL s).length 0 0) (gL s).length)).toInt64), (6, .long (nI (pfL (otL (gL s) (gL s).length 0 0) (gL s).length (gL s).length (gL s).length)).toInt64), (8, .int (nI S)), (9, .int (nI k))] [] := by
  have h8 : s.1.1.1 ≤ 8 := ho.1.1.1
  have hG := gp_gl ho.1.1
  have h48 : (gL s).length ≤ 48 := hG.1.1
  intro t
  induction t with
  | zero =>
    intro k S σ h1 hS hs
    refine z_iload C dL_law_153 rfl ?_
    refine z_iload_n C dL_law_155 rfl ?_
    refine z_icgeN C 181 dL_law_156 (by decide) (by omega) (by omega) (fun h156 => ?_) (fun h156 => ?_)
    · obtain rfl : k = (gL s).length := by omega
      rw [show S = (otL (gL s) (gL s).length 0 0) from hS]
      exact kE σ hs
    · omega
  | succ t ih =>
    intro k S σ h1 hS hs
    refine z_iload C dL_law_153 rfl ?_
    refine z_iload_n C dL_law_155 rfl ?_
    refine z_icgeN C 181 dL_law_156 (by decide) (by omega) (by omega) (fun h156 => ?_) (fun h156 => ?_)
    · omega
    · have hm : lg (gL s) k < 48 := hG.1.2.1 k (by omega)
      refine z_iload C dL_law_159 rfl ?_
      refine z_aload_n C dL_law_161 rfl ?_
      refine z_aload_n C dL_law_162 rfl ?_
      refine z_iload C dL_law_163 rfl ?_
      refine z_sy C (c_X7_group (d := 0) hs) dL_law_165 km_RL_28 kc_yX7_group ki_yX7_group kx_yX7_group rfl (Nat.le_of_ble_eq_true rfl) (Nat.le_of_ble_eq_true rfl) rfl rfl (Nat.le_of_ble_eq_true rfl) (fun σ hs => ?_)
      rw [e_group (by omega) h48]
      refine z_ic (n := 1) C dL_law_168 (by decide) ?_
      refine z_sy C (c_X7_move (d := 0) hs) dL_law_169 km_RL_42 kc_yX7_move ki_yX7_move kx_yX7_move rfl (Nat.le_of_ble_eq_true rfl) (Nat.le_of_ble_eq_true rfl) rfl rfl (Nat.le_of_ble_eq_true rfl) (fun σ hs => ?_)
      rw [e_move1 hm]
      refine z_iaddN C dL_law_172 ?_
      refine z_istore C dL_law_173 (by decide) ?_
      refine z_iinc1 C dL_law_175 rfl (by decide) ?_
      refine z_goto C 153 dL_law_178 (by decide) ?_
      refine z_loc ([(0, .ref (ev_s E 3)), (1, .ref (ev_a E 0)), (2, .int (nI s.1.1.1)), (3, .int (nI (gL s).length)), (4, .long (nI (pfL (otL (gL s) (gL s).length 0 0) (gL s).length (otL (gL s) (gL s).length 0 0) (gL s).length)).toInt64), (6, .long (nI (pfL (otL (gL s) (gL s).length 0 0) (gL s).length (gL s).length (gL s).length)).toInt64), (8, .int (nI (S + ordN (lg (gL s) k)))), (9, .int (nI (k + 1)))]) ⟨rfl, rfl, rfl, rfl, rfl, rfl, rfl, rfl, trivial⟩ ?_
      exact ih (k + 1) _ σ (by omega) hS hs
set_option maxHeartbeats 4000000 in
set_option maxRecDepth 100000 in
theorem lb_mean (C : CZ E (ML Q) X cL_law RL 24) (ho : MsOk s) (kE : ∀ σ : St, SyIs σ s → GZ E (ML Q) X 24 σ 198 [(0, .ref (ev_s E 3)), (1, .ref (ev_a E 0)), (2, .int (nI s.1.1.1)), (3, .int (nI (gL s).length))] []) (σ : St) (hs : SyIs σ s) : GZ E (ML Q) X 24 σ 133 [(0, .ref (ev_s E 3)), (1, .ref (ev_a E 0)), (2, .int (nI s.1.1.1)), (3, .int (nI (gL s).length))] [] := by
  have h8 : s.1.1.1 ≤ 8 := ho.1.1.1
  have hG := gp_gl ho.1.1
  have h48 : (gL s).length ≤ 48 := hG.1.1
  have hO := otL_le (L := gL s) hG.1.2.1 (gL s).length 0 0 (by omega)
  refine z_aload_n C dL_law_133 rfl ?_
  refine z_ic (n := 0) C dL_law_134 (by decide) ?_
  refine z_sy C (c_X7_mean (d := 0) hs) dL_law_135 km_RL_38 kc_yX7_mean ki_yX7_mean kx_yX7_mean rfl (Nat.le_of_ble_eq_true rfl) (Nat.le_of_ble_eq_true rfl) rfl rfl (Nat.le_of_ble_eq_true rfl) (fun σ hs => ?_)
  rw [e_mean0]
  refine z_lstore C dL_law_138 (by decide) ?_
  refine z_aload_n C dL_law_140 rfl ?_
  refine z_ic (n := 1) C dL_law_141 (by decide) ?_
  refine z_sy C (c_X7_mean (d := 0) hs) dL_law_142 km_RL_38 kc_yX7_mean ki_yX7_mean kx_yX7_mean rfl (Nat.le_of_ble_eq_true rfl) (Nat.le_of_ble_eq_true rfl) rfl rfl (Nat.le_of_ble_eq_true rfl) (fun σ hs => ?_)
  rw [e_mean1]
  refine z_lstore C dL_law_145 (by decide) ?_
  refine z_ic (n := 0) C dL_law_147 (by decide) ?_
  refine z_istore C dL_law_148 (by decide) ?_
  refine z_ic (n := 0) C dL_law_150 (by decide) ?_
  refine z_istore C dL_law_151 (by decide) ?_
  refine z_loc ([(0, .ref (ev_s E 3)), (1, .ref (ev_a E 0)), (2, .int (nI s.1.1.1)), (3, .int (nI (gL s).length)), (4, .long (nI (pfL (otL (gL s) (gL s).length 0 0) (gL s).length (otL (gL s) (gL s).length 0 0) (gL s).length)).toInt64), (6, .long (nI (pfL (otL (gL s) (gL s).length 0 0) (gL s).length (gL s).length (gL s).length)).toInt64), (8, .int (nI 0)), (9, .int (nI 0))]) ⟨rfl, rfl, rfl, rfl, rfl, rfl, rfl, rfl, trivial⟩ ?_
  exact lb_m C ho (fun σ hs => by
    refine z_lload C dL_law_181 rfl ?_
    refine z_iload_n C dL_law_183 rfl ?_
    refine z_i2l C _ dL_law_184 rfl ?_
    refine z_lmul C dL_law_185 ?_
    refine z_lload C dL_law_186 rfl ?_
    refine z_iload C dL_law_188 rfl ?_
    refine z_i2l C _ dL_law_190 rfl ?_
    refine z_lmul C dL_law_191 ?_
    rw [show (nI (pfL (otL (gL s) (gL s).length 0 0) (gL s).length (otL (gL s) (gL s).length 0 0) (gL s).length)).toInt64 * (nI (gL s).length).toInt64 = (nI (pfL (otL (gL s) (gL s).length 0 0) (gL s).length (gL s).length (gL s).length)).toInt64 * (nI (otL (gL s) (gL s).length 0 0)).toInt64 from nL_mul (by have := pf_le (a := (otL (gL s) (gL s).length 0 0)) (b := (gL s).length) (w := (otL (gL s) (gL s).length 0 0)) (k := (gL s).length); omega) (by omega) (by have := pf_le (a := (otL (gL s) (gL s).length 0 0)) (b := (gL s).length) (w := (gL s).length) (k := (gL s).length); omega) (by omega) pf_eq]
    refine z_lcmp C dL_law_192 ?_
    rw [lg_same]
    refine z_ifeq C 198 dL_law_193 (by decide) (fun _ => ?_) (fun q => absurd rfl q)
    refine z_loc ([(0, .ref (ev_s E 3)), (1, .ref (ev_a E 0)), (2, .int (nI s.1.1.1)), (3, .int (nI (gL s).length))]) ⟨rfl, rfl, rfl, rfl, trivial⟩ ?_
    exact kE σ hs
    ) (gL s).length 0 0 σ (by omega) rfl hs
set_option maxHeartbeats 4000000 in
set_option maxRecDepth 100000 in
theorem lb_t (C : CZ E (ML Q) X cL_law RL 24) (ho : MsOk s) (kE : ∀ (V : Nat → Int64) (σ : St), (∀ j, j < (gL s).length → V j = (nI (lg (gL s) j)).toInt64) → SyIs σ (sTp s 0 (nI 0, (gL s).length, V)) → GZ E (ML Q) X 24 σ 236 [(0, .ref (ev_s E 3)), (1, .ref (ev_a E 0)), (2, .int (nI s.1.1.1)), (3, .int (nI (gL s).length))] []) : ∀ (t k : Nat) (V : Nat → Int64) (σ : St), (gL s).length < k + t → k ≤ (gL s).length → (∀ j, j < k → V j = (nI (lg (gL s) j)).toInt64) → SyIs σ (sTp s 0 (nI 0, (gL s).length, V)) → GZ E (ML Q) X 24 σ 209 [(0, .ref (ev_s E 3)), (1, .ref (ev_a E 0)), (2, .int (nI s.1.1.1)), (3, .int (nI (gL s).length)), (9, .int (nI k))] [] := by
  have h8 : s.1.1.1 ≤ 8 := ho.1.1.1
  have hG := gp_gl ho.1.1
  have h48 : (gL s).length ≤ 48 := hG.1.1
  intro t
  induction t with
  | zero => intro k V σ h1 h2; omega
  | succ t ih =>
    intro k V σ h1 h2 hV hs
    refine z_iload C dL_law_209 rfl ?_
    refine z_iload_n C dL_law_211 rfl ?_
    refine z_icgeN C 236 dL_law_212 (by decide) (by omega) (by omega) (fun h212 => ?_) (fun h212 => ?_)
    · obtain rfl : k = (gL s).length := by omega
      refine z_loc ([(0, .ref (ev_s E 3)), (1, .ref (ev_a E 0)), (2, .int (nI s.1.1.1)), (3, .int (nI (gL s).length))]) ⟨rfl, rfl, rfl, rfl, trivial⟩ ?_
      exact kE V σ hV hs
    · refine z_aload_n C dL_law_215 rfl ?_
      refine z_ic (n := 0) C dL_law_216 (by decide) ?_
      refine z_iload C dL_law_217 rfl ?_
      refine z_aload_n C dL_law_219 rfl ?_
      refine z_iload C dL_law_220 rfl ?_
      refine z_sy C (c_X7_group (d := 0) hs) dL_law_222 km_RL_28 kc_yX7_group ki_yX7_group kx_yX7_group rfl (Nat.le_of_ble_eq_true rfl) (Nat.le_of_ble_eq_true rfl) rfl rfl (Nat.le_of_ble_eq_true rfl) (fun σ hs => ?_)
      rw [e_group (s := (sTp s 0 (nI 0, (gL s).length, V))) (show k < (gL s).length by omega) h48]
      refine z_i2l C _ dL_law_225 rfl ?_
      refine z_sy C (c_X7_item (d := 0) hs) dL_law_226 km_RL_49 kc_yX7_item ki_yX7_item kx_yX7_item rfl (Nat.le_of_ble_eq_true rfl) (Nat.le_of_ble_eq_true rfl) rfl rfl (Nat.le_of_ble_eq_true rfl) (fun σ hs => ?_)
      rw [e_item (by omega) (by omega)] at hs
      refine z_pop1 C dL_law_229 ?_
      refine z_iinc1 C dL_law_230 rfl (by decide) ?_
      refine z_goto C 209 dL_law_233 (by decide) ?_
      refine z_loc ([(0, .ref (ev_s E 3)), (1, .ref (ev_a E 0)), (2, .int (nI s.1.1.1)), (3, .int (nI (gL s).length)), (9, .int (nI (k + 1)))]) ⟨rfl, rfl, rfl, rfl, rfl, trivial⟩ ?_
      exact ih (k + 1) _ σ (by omega) (by omega) (fun j hj => by
        show (if j = k then asI (nI 0) (nI (lg (gL s) k)).toInt64 else V j) = _
        by_cases e : j = k
        · subst e; rw [if_pos rfl]; exact (as_48 _ (hG.1.2.1 j (by omega))).1
        · rw [if_neg e]; exact hV j (by omega)) hs
set_option maxHeartbeats 4000000 in
set_option maxRecDepth 100000 in
theorem lb_j (C : CZ E (ML Q) X cL_law RL 24) (ho : MsOk s) (ht : s.2.2.2 1 = (-1, 0, fun _ => 0)) {V : Nat → Int64} (hV : ∀ j, j < (gL s).length → V j = (nI (lg (gL s) j)).toInt64) (kE : ∀ (σ : St) (s2 : Ms), s2.1 = s.1 → s2.2.1 = s.2.1 → SyIs σ s2 → GZ E (ML Q) X 24 σ 317 [(0, .ref (ev_s E 3)), (1, .ref (ev_a E 0)), (2, .int (nI s.1.1.1)), (3, .int (nI (gL s).length))] []) (σ : St) (hs : SyIs σ (sTp s 0 (nI 0, (gL s).length, V))) : GZ E (ML Q) X 24 σ 236 [(0, .ref (ev_s E 3)), (1, .ref (ev_a E 0)), (2, .int (nI s.1.1.1)), (3, .int (nI (gL s).length))] [] := by
  have h8 : s.1.1.1 ≤ 8 := ho.1.1.1
  have hG := gp_gl ho.1.1
  have h48 : (gL s).length ≤ 48 := hG.1.1
  have hz0 : 0 < (gL s).length := by
      obtain ⟨j, hj, -⟩ := lg_mem hG.2.2.1
      have hj : j < (gL s).length := hj
      omega
  have hm1 : hpB (gL s).length (-1) = false := by unfold hpB; rw [decide_eq_true (by decide)]; rfl
  have hp1 : (gL s).length ≤ 1 → hpB (gL s).length (nI 1) = false := fun h => by unfold hpB; rw [decide_eq_true (p := nI (gL s).length ≤ nI 1) ((nI_leI (by omega) (by omega)).mpr h)]; exact Bool.and_false _
  have k267 : ∀ σ : St, SyIs σ (sTp s 0 (nI 0, (gL s).length, V)) → GZ E (ML Q) X 24 σ 267 [(0, .ref (ev_s E 3)), (1, .ref (ev_a E 0)), (2, .int (nI s.1.1.1)), (3, .int (nI (gL s).length))] [] := by
    intro σ hs
    refine z_aload_n C dL_law_267 rfl ?_
    refine z_ic (n := 1) C dL_law_268 (by decide) ?_
    refine z_ic (n := 0) C dL_law_269 (by decide) ?_
    refine z_sy C (c_X7_judge (d := 0) hs) dL_law_270 km_RL_53 kc_yX7_judge ki_yX7_judge kx_yX7_judge rfl (Nat.le_of_ble_eq_true rfl) (Nat.le_of_ble_eq_true rfl) rfl rfl (Nat.le_of_ble_eq_true rfl) (fun σ hs => ?_)
    rw [e_judge1 ht, jg_out hz0 (by decide)]
    refine z_bp C (nI 100) dL_law_273 (by decide) ?_
    refine z_icne C 289 dL_law_275 (by decide) (fun h275 => ?_) (fun h275 => ?_)
    · exact absurd rfl h275
    · refine z_aload_n C dL_law_278 rfl ?_
      refine z_ic (n := 0) C dL_law_279 (by decide) ?_
      refine z_icz (v := -1) C dL_law_280 (by decide) ?_
      refine z_sy C (c_X7_judge (d := 0) hs) dL_law_281 km_RL_53 kc_yX7_judge ki_yX7_judge kx_yX7_judge rfl (Nat.le_of_ble_eq_true rfl) (Nat.le_of_ble_eq_true rfl) rfl rfl (Nat.le_of_ble_eq_true rfl) (fun σ hs => ?_)
      rw [e_judge0, jg_out hz0 hm1]
      refine z_bp C (nI 100) dL_law_284 (by decide) ?_
      refine z_iceq C 291 dL_law_286 (by decide) (fun h286 => ?_) (fun h286 => ?_)
      · have hJ : jgL (gL s).length (fun q => if q = (gL s).length - 1 then asI (nI 0) 99 else V q) (gL s) (nI 0) (gL s).length 0 = nI ((gL s).length - 1) := by
          have a := jg_to (n := (gL s).length) (V := fun q => if q = (gL s).length - 1 then asI (nI 0) 99 else V q) (L := gL s) (by omega) ((gL s).length - 1) 0 (by omega) (fun j _ hj => by
            show (if j = (gL s).length - 1 then asI (nI 0) 99 else V j) = _
            rw [if_neg (by omega)]; exact hV j (by omega)) (by
            show ¬ (if 0 + ((gL s).length - 1) = (gL s).length - 1 then asI (nI 0) 99 else V (0 + ((gL s).length - 1))) = _
            rw [if_pos (by omega)]; exact (as_48 _ (hG.1.2.1 _ (show 0 + ((gL s).length - 1) < (gL s).length by omega))).2)
          rw [show (gL s).length - 1 + 1 = (gL s).length by omega, Nat.zero_add] at a
          exact a
        refine z_aload_n C dL_law_291 rfl ?_
        refine z_ic (n := 0) C dL_law_292 (by decide) ?_
        refine z_iload_n C dL_law_293 rfl ?_
        refine z_ic (n := 1) C dL_law_294 (by decide) ?_
        refine z_isubN C dL_law_295 (by omega) ?_
        refine z_ldc2 C (99) dL_law_296 (List.mem_of_getElem? (i := 552) (by decide +kernel)) ?_
        refine z_sy C (c_X7_item (d := 0) hs) dL_law_299 km_RL_49 kc_yX7_item ki_yX7_item kx_yX7_item rfl (Nat.le_of_ble_eq_true rfl) (Nat.le_of_ble_eq_true rfl) rfl rfl (Nat.le_of_ble_eq_true rfl) (fun σ hs => ?_)
        rw [e_item (by omega) (by omega)] at hs
        refine z_pop1 C dL_law_302 ?_
        refine z_aload_n C dL_law_303 rfl ?_
        refine z_ic (n := 0) C dL_law_304 (by decide) ?_
        refine z_ic (n := 0) C dL_law_305 (by decide) ?_
        refine z_sy C (c_X7_judge (d := 0) hs) dL_law_306 km_RL_53 kc_yX7_judge ki_yX7_judge kx_yX7_judge rfl (Nat.le_of_ble_eq_true rfl) (Nat.le_of_ble_eq_true rfl) rfl rfl (Nat.le_of_ble_eq_true rfl) (fun σ hs => ?_)
        rw [e_judge0, hJ]
        refine z_iload_n C dL_law_309 rfl ?_
        refine z_ic (n := 1) C dL_law_310 (by decide) ?_
        refine z_isubN C dL_law_311 (by omega) ?_
        refine z_iceqN C 317 dL_law_312 (by decide) (by omega) (by omega) (fun _ => ?_) (fun q => absurd rfl q)
        exact kE σ (sTp s 0 _) rfl rfl hs
      · exact absurd rfl h286
  by_cases hsz : 1 < (gL s).length
  · have hne : ¬ V 1 = (nI (lg (gL s) 0)).toInt64 := fun q => by
      rw [hV 1 hsz] at q
      have a := hG.2.1 0 1 (by omega) hsz
      have b := in_48 _ (hG.1.2.1 1 hsz) _ (hG.1.2.1 0 (by omega)) q
      omega
    refine z_aload_n C dL_law_236 rfl ?_
    refine z_ic (n := 0) C dL_law_237 (by decide) ?_
    refine z_ic (n := 0) C dL_law_238 (by decide) ?_
    refine z_sy C (c_X7_judge (d := 0) hs) dL_law_239 km_RL_53 kc_yX7_judge ki_yX7_judge kx_yX7_judge rfl (Nat.le_of_ble_eq_true rfl) (Nat.le_of_ble_eq_true rfl) rfl rfl (Nat.le_of_ble_eq_true rfl) (fun σ hs => ?_)
    rw [e_judge0, jg_all (by omega) _ _ (by omega) (fun j _ hj => hV j (by omega))]
    refine z_bp C (-5) dL_law_242 (by decide) ?_
    refine z_icne C 289 dL_law_244 (by decide) (fun h244 => ?_) (fun h244 => ?_)
    · exact absurd rfl h244
    · refine z_aload_n C dL_law_247 rfl ?_
      refine z_ic (n := 0) C dL_law_248 (by decide) ?_
      refine z_ic (n := 1) C dL_law_249 (by decide) ?_
      refine z_sy C (c_X7_judge (d := 0) hs) dL_law_250 km_RL_53 kc_yX7_judge ki_yX7_judge kx_yX7_judge rfl (Nat.le_of_ble_eq_true rfl) (Nat.le_of_ble_eq_true rfl) rfl rfl (Nat.le_of_ble_eq_true rfl) (fun σ hs => ?_)
      rw [e_judge0]
      refine z_iload_n C dL_law_253 rfl ?_
      refine z_ic (n := 1) C dL_law_254 (by decide) ?_
      refine z_icleN C 262 dL_law_255 (by decide) (by omega) (by omega) (fun h255 => ?_) (fun h255 => ?_)
      · omega
      · refine z_ic (n := 0) C dL_law_258 (by decide) ?_
        refine z_goto C 264 dL_law_259 (by decide) ?_
        first
          | (rw [jg_out hz0 (hp1 (by omega))]; refine z_icne C 289 dL_law_264 (by decide) (fun q => absurd rfl q) (fun _ => ?_); exact k267 σ hs)
          | (rw [jg_1 hz0 (by omega) (by omega) hne]; refine z_icne C 289 dL_law_264 (by decide) (fun q => absurd rfl q) (fun _ => ?_); exact k267 σ hs)
  · refine z_aload_n C dL_law_236 rfl ?_
    refine z_ic (n := 0) C dL_law_237 (by decide) ?_
    refine z_ic (n := 0) C dL_law_238 (by decide) ?_
    refine z_sy C (c_X7_judge (d := 0) hs) dL_law_239 km_RL_53 kc_yX7_judge ki_yX7_judge kx_yX7_judge rfl (Nat.le_of_ble_eq_true rfl) (Nat.le_of_ble_eq_true rfl) rfl rfl (Nat.le_of_ble_eq_true rfl) (fun σ hs => ?_)
    rw [e_judge0, jg_all (by omega) _ _ (by omega) (fun j _ hj => hV j (by omega))]
    refine z_bp C (-5) dL_law_242 (by decide) ?_
    refine z_icne C 289 dL_law_244 (by decide) (fun h244 => ?_) (fun h244 => ?_)
    · exact absurd rfl h244
    · refine z_aload_n C dL_law_247 rfl ?_
      refine z_ic (n := 0) C dL_law_248 (by decide) ?_
      refine z_ic (n := 1) C dL_law_249 (by decide) ?_
      refine z_sy C (c_X7_judge (d := 0) hs) dL_law_250 km_RL_53 kc_yX7_judge ki_yX7_judge kx_yX7_judge rfl (Nat.le_of_ble_eq_true rfl) (Nat.le_of_ble_eq_true rfl) rfl rfl (Nat.le_of_ble_eq_true rfl) (fun σ hs => ?_)
      rw [e_judge0]
      refine z_iload_n C dL_law_253 rfl ?_
      refine z_ic (n := 1) C dL_law_254 (by decide) ?_
      refine z_icleN C 262 dL_law_255 (by decide) (by omega) (by omega) (fun h255 => ?_) (fun h255 => ?_)
      · refine z_bp C (nI 100) dL_law_262 (by decide) ?_
        first
          | (rw [jg_out hz0 (hp1 (by omega))]; refine z_icne C 289 dL_law_264 (by decide) (fun q => absurd rfl q) (fun _ => ?_); exact k267 σ hs)
          | (rw [jg_1 hz0 (by omega) (by omega) hne]; refine z_icne C 289 dL_law_264 (by decide) (fun q => absurd rfl q) (fun _ => ?_); exact k267 σ hs)
      · omega
set_option maxHeartbeats 4000000 in
set_option maxRecDepth 100000 in
theorem lb_judge (C : CZ E (ML Q) X cL_law RL 24) (ho : MsOk s) (ht : s.2.2.2 1 = (-1, 0, fun _ => 0)) (kE : ∀ (σ : St) (s2 : Ms), s2.1 = s.1 → s2.2.1 = s.2.1 → SyIs σ s2 → GZ E (ML Q) X 24 σ 317 [(0, .ref (ev_s E 3)), (1, .ref (ev_a E 0)), (2, .int (nI s.1.1.1)), (3, .int (nI (gL s).length))] []) (σ : St) (hs : SyIs σ s) : GZ E (ML Q) X 24 σ 198 [(0, .ref (ev_s E 3)), (1, .ref (ev_a E 0)), (2, .int (nI s.1.1.1)), (3, .int (nI (gL s).length))] [] := by
  have h8 : s.1.1.1 ≤ 8 := ho.1.1.1
  have hG := gp_gl ho.1.1
  have h48 : (gL s).length ≤ 48 := hG.1.1
  refine z_aload_n C dL_law_198 rfl ?_
  refine z_ic (n := 0) C dL_law_199 (by decide) ?_
  refine z_ic (n := 0) C dL_law_200 (by decide) ?_
  refine z_iload_n C dL_law_201 rfl ?_
  refine z_sy C (c_X7_tape (d := 0) hs) dL_law_202 km_RL_45 kc_yX7_tape ki_yX7_tape kx_yX7_tape rfl (Nat.le_of_ble_eq_true rfl) (Nat.le_of_ble_eq_true rfl) rfl rfl (Nat.le_of_ble_eq_true rfl) (fun σ hs => ?_)
  rw [e_tape (by omega)] at hs
  refine z_pop1 C dL_law_205 ?_
  refine z_ic (n := 0) C dL_law_206 (by decide) ?_
  refine z_istore C dL_law_207 (by decide) ?_
  refine z_loc ([(0, .ref (ev_s E 3)), (1, .ref (ev_a E 0)), (2, .int (nI s.1.1.1)), (3, .int (nI (gL s).length)), (9, .int (nI 0))]) ⟨rfl, rfl, rfl, rfl, rfl, trivial⟩ ?_
  exact lb_t C ho (fun V σ hV hs => lb_j C ho ht hV kE σ hs) ((gL s).length + 1) 0 _ σ (by omega) (by omega) (fun j hj => absurd hj (Nat.not_lt_zero j)) hs
end LB
